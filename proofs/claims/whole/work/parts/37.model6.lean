/-! the reference: feed, repeat -/
set_option maxHeartbeats 400000 in
set_option maxRecDepth 20000 in
theorem q_feed {E : EV} (hE : EOK E) {A : AS} {g0 : GH} {a : Int} (ha : okI a) {L : Int64} {n : Int} (hn : okI n) : Ct E (RMP E g0) yX4_feed wsX4_feed rX4_feed [eA E 76, .int (iI a), .long L, .int (iI n)] A (some (.int (iI (feA A a L n).1))) (feA A a L n).2 := by
  refine ct_of [(0, _), (1, _), (2, _), (4, _)] hE (by decide) rfl (Nat.le_of_ble_eq_true rfl) rfl (fun X h hq => ?_)
  refine j_exM (fun mk => ?_)
  refine j_of (fun G hG => RM_len hG) (fun hLM => ?_)
  have hla := hLM.1 (sw a) (sw_lt a)
  have hwa := sw_lt a
  have hfma : 0 ≤ fmo a 8 ∧ fmo a 8 < 8 := by unfold fmo; omega
  have hswa : (fmo a 8).toNat = sw a := rfl
  dsimp only at *
  refine j_iload h 3 dX4_feed_0 rfl ?_
  refine j_iconst h dX4_feed_2 ?_
  refine j_bipush h dX4_feed_3 (by decide) ?_
  refine j_callS h (c_X4_isIn hE hn ⟨by decide, by decide⟩ ⟨by decide, by decide⟩) m_X4_isIn a_l_X4_46 rfl rfl ⟨Nat.le_of_ble_eq_true rfl, Nat.le_of_ble_eq_true rfl⟩ rfl rfl (Nat.le_of_ble_eq_true rfl) dX4_feed_5 ?_
  refine j_if_ne h 14 dX4_feed_8 (by decide) (by first | exact okI_of _ | exact okI_b _ | exact okI_sgz _ _ | assumption | (unfold okI; omega)) (fun c8 => ?_) (fun c8 => ?_)
  · rw [bI_n0, decide_eq_true_eq] at c8
    refine j_aload_n h 0 dX4_feed_14 rfl rfl ?_
    refine j_callVv h (c_X4_begins hE) m_X4_begins a_l_X4_75 rfl rfl ⟨Nat.le_of_ble_eq_true rfl, Nat.le_of_ble_eq_true rfl⟩ (ci := 4) rfl (by omega) (rcM) rfl rfl (Nat.le_of_ble_eq_true rfl) dX4_feed_15 ?_
    refine j_aload_n h 0 dX4_feed_18 rfl rfl ?_
    refine j_iload_n h 1 dX4_feed_19 rfl rfl ?_
    refine j_iconst h dX4_feed_20 ?_
    refine j_aload_n h 0 dX4_feed_21 rfl rfl ?_
    refine j_iload_n h 1 dX4_feed_22 rfl rfl ?_
    refine j_callV h (c_X4_sizeOf hE ha) m_X4_sizeOf a_l_X4_67 rfl rfl ⟨Nat.le_of_ble_eq_true rfl, Nat.le_of_ble_eq_true rfl⟩ (ci := 4) rfl (by omega) (rcM) rfl rfl (Nat.le_of_ble_eq_true rfl) dX4_feed_23 ?_
    refine j_callVv h (c_putsAll hE ha (by first | (simp only [List.length_nil, List.length_append]; omega) | omega)) m_X4_putsPart a_l_X4_78 rfl rfl ⟨Nat.le_of_ble_eq_true rfl, Nat.le_of_ble_eq_true rfl⟩ (ci := 4) rfl (by omega) (rcM) rfl rfl (Nat.le_of_ble_eq_true rfl) dX4_feed_26 ?_
    try rw [List.nil_append]
    refine j_iconst h dX4_feed_29 ?_
    refine j_istore h [(5, _), (0, _), (1, _), (2, _), (4, _)] dX4_feed_30 (by decide) rfl ?_
    refine j_iconst h dX4_feed_32 ?_
    refine j_istore h [(6, _), (5, _), (0, _), (1, _), (2, _), (4, _)] dX4_feed_33 (by decide) rfl ?_
    refine j_sub [0, 1, 2, 3, 4, 5] rfl ?_
    refine lpA3 (fun (z : Int) (B : Bool) (us : List Int32) => (n - z).toNat) (fun (z : Int) (B : Bool) (us : List Int32) => 0 ≤ z → z ≤ n → us.length + (n - z).toNat ≤ 308 → us ++ byS L z (n - z).toNat = (A.1 (sw a)) ++ byS L 0 n.toNat → (B && arS L z (n - z).toNat) = arS L 0 n.toNat → JL E (RM E g0) X 35 [(6, .int (iI z)), (5, .int (iI (bI B))), (0, eA E 76), (1, .int (iI a)), (2, .long L), (4, .int (iI n))] [] (A, us)) (fun z B us ih h0 hzb hcp hv hB => ?_) 0 true (A.1 (sw a)) (Int.le_refl 0) (by omega) (by omega) (by rw [Int.sub_zero]) (by rw [Int.sub_zero, Bool.true_and])
    refine j_iload h 0 dX4_feed_35 rfl ?_
    refine j_iload h 5 dX4_feed_37 rfl ?_
    refine j_icmp_ge h 88 dX4_feed_39 (by decide) (by first | exact okI_of _ | exact okI_b _ | exact okI_sgz _ _ | assumption | (unfold okI; omega)) (by first | exact okI_of _ | exact okI_b _ | exact okI_sgz _ _ | assumption | (unfold okI; omega)) (fun c39 => ?_) (fun c39 => ?_)
    · refine j_iload h 1 dX4_feed_88 rfl ?_
      refine j_if_eq h 101 dX4_feed_90 (by decide) (by first | exact okI_of _ | exact okI_b _ | exact okI_sgz _ _ | assumption | (unfold okI; omega)) (fun c90 => ?_) (fun c90 => ?_)
      · rw [bI_0] at c90
        rw [show (n - z).toNat = 0 by omega, arS, Bool.and_true, c90] at hB
        have e : feA A a L n = (-1000001, A) := by unfold feA; rw [if_neg (fun w => by rw [← hB] at w; simp at w)]
        rw [e] at hq
        have hq := fnM us hq
        refine j_ldc h (-1000001) a_k_X4_74 (by decide) dX4_feed_101 ?_
        exact j_iret h hq rfl dX4_feed_103
      · rw [bI_n0] at c90
        rw [show (n - z).toNat = 0 by omega, arS, Bool.and_true, c90] at hB
        rw [show (n - z).toNat = 0 by omega, byS, List.append_nil] at hv
        refine j_aload_n h 2 dX4_feed_93 rfl rfl ?_
        refine j_iload_n h 3 dX4_feed_94 rfl rfl ?_
        refine j_callV h (c_lays hE ha) m_X4_lays a_l_X4_82 rfl rfl ⟨Nat.le_of_ble_eq_true rfl, Nat.le_of_ble_eq_true rfl⟩ (ci := 4) rfl (by omega) (rcM) rfl rfl (Nat.le_of_ble_eq_true rfl) dX4_feed_95 ?_
        have e : feA A a L n = lyA A a us := by unfold feA lyA layA; rw [if_pos ⟨by omega, by omega, hB.symm⟩, hv, List.length_append, byS_len]
        rw [e] at hq
        have hq := fnM us hq
        refine j_goto h 103 dX4_feed_98 (by decide) ?_
        exact j_iret h hq rfl dX4_feed_103
    · refine j_lload_n h 4 dX4_feed_42 rfl rfl ?_
      refine j_bipush h dX4_feed_43 (by decide) ?_
      refine j_iload h 0 dX4_feed_45 rfl ?_
      refine j_imul h dX4_feed_47 ?_
      refine j_lshr h _ dX4_feed_48 rfl ?_
      refine j_ldc2 h (255) a_k_X4_85 (by decide) dX4_feed_49 ?_
      refine j_land h _ dX4_feed_52 rfl ?_
      refine j_l2i h (by1 L z) dX4_feed_53 (by2 L h0 (by omega)) ?_
      refine j_istore h [(7, _), (6, _), (5, _), (0, _), (1, _), (2, _), (4, _)] dX4_feed_54 (by decide) rfl ?_
      refine j_iload h 2 dX4_feed_56 rfl ?_
      refine j_if_eq h 73 dX4_feed_58 (by decide) (by first | exact okI_of _ | exact okI_b _ | exact okI_sgz _ _ | assumption | (unfold okI; omega)) (fun c58 => ?_) (fun c58 => ?_)
      · rw [bI_0] at c58
        refine j_iconst h dX4_feed_73 ?_
        refine j_istore h [(5, _), (7, _), (6, _), (0, _), (1, _), (2, _), (4, _)] dX4_feed_74 (by decide) rfl ?_
        refine j_aload_n h 3 dX4_feed_76 rfl rfl ?_
        refine j_iload h 1 dX4_feed_77 rfl ?_
        refine j_callVv h (c_X4_puts hE (by omega)) m_X4_puts a_l_X4_62 rfl rfl ⟨Nat.le_of_ble_eq_true rfl, Nat.le_of_ble_eq_true rfl⟩ (ci := 4) rfl (by omega) (rcM) rfl rfl (Nat.le_of_ble_eq_true rfl) dX4_feed_79 ?_
        refine j_iinc h 2 [(6, _), (5, _), (7, _), (0, _), (1, _), (2, _), (4, _)] dX4_feed_82 rfl (by decide) rfl ?_
        refine j_goto h 35 dX4_feed_85 (by decide) ?_
        refine j_sub [0, 1, 3, 4, 5, 6] rfl ?_
        rw [show (n - z).toNat = (n - (z + 1)).toNat + 1 by omega, byS, List.append_cons] at hv
        rw [show (n - z).toNat = (n - (z + 1)).toNat + 1 by omega, arS] at hB
        first | exact ih (z + 1) true _ (by omega) (by omega) (by omega) (by simp only [List.length_append, List.length_cons, List.length_nil]; omega) hv (by rw [c58, c66] at hB; simpa using hB) | exact ih (z + 1) false _ (by omega) (by omega) (by omega) (by simp only [List.length_append, List.length_cons, List.length_nil]; omega) hv (by rw [c58] at hB; simpa using hB) | exact ih (z + 1) false _ (by omega) (by omega) (by omega) (by simp only [List.length_append, List.length_cons, List.length_nil]; omega) hv (by rw [c66] at hB; simpa using hB)
      · rw [bI_n0] at c58
        refine j_iload h 0 dX4_feed_61 rfl ?_
        refine j_callS h (c_isSignM_raw hE _) m_X4_isSign a_l_X4_70 rfl rfl ⟨Nat.le_of_ble_eq_true rfl, Nat.le_of_ble_eq_true rfl⟩ rfl rfl (Nat.le_of_ble_eq_true rfl) dX4_feed_63 ?_
        refine j_if_eq h 73 dX4_feed_66 (by decide) (by first | exact okI_of _ | exact okI_b _ | exact okI_sgz _ _ | assumption | (unfold okI; omega)) (fun c66 => ?_) (fun c66 => ?_)
        · rw [bI_0] at c66
          refine j_iconst h dX4_feed_73 ?_
          refine j_istore h [(5, _), (7, _), (6, _), (0, _), (1, _), (2, _), (4, _)] dX4_feed_74 (by decide) rfl ?_
          refine j_aload_n h 3 dX4_feed_76 rfl rfl ?_
          refine j_iload h 1 dX4_feed_77 rfl ?_
          refine j_callVv h (c_X4_puts hE (by omega)) m_X4_puts a_l_X4_62 rfl rfl ⟨Nat.le_of_ble_eq_true rfl, Nat.le_of_ble_eq_true rfl⟩ (ci := 4) rfl (by omega) (rcM) rfl rfl (Nat.le_of_ble_eq_true rfl) dX4_feed_79 ?_
          refine j_iinc h 2 [(6, _), (5, _), (7, _), (0, _), (1, _), (2, _), (4, _)] dX4_feed_82 rfl (by decide) rfl ?_
          refine j_goto h 35 dX4_feed_85 (by decide) ?_
          refine j_sub [0, 1, 3, 4, 5, 6] rfl ?_
          rw [show (n - z).toNat = (n - (z + 1)).toNat + 1 by omega, byS, List.append_cons] at hv
          rw [show (n - z).toNat = (n - (z + 1)).toNat + 1 by omega, arS] at hB
          first | exact ih (z + 1) true _ (by omega) (by omega) (by omega) (by simp only [List.length_append, List.length_cons, List.length_nil]; omega) hv (by rw [c58, c66] at hB; simpa using hB) | exact ih (z + 1) false _ (by omega) (by omega) (by omega) (by simp only [List.length_append, List.length_cons, List.length_nil]; omega) hv (by rw [c58] at hB; simpa using hB) | exact ih (z + 1) false _ (by omega) (by omega) (by omega) (by simp only [List.length_append, List.length_cons, List.length_nil]; omega) hv (by rw [c66] at hB; simpa using hB)
        · rw [bI_n0] at c66
          refine j_iconst h dX4_feed_69 ?_
          refine j_goto h 74 dX4_feed_70 (by decide) ?_
          refine j_istore h [(5, _), (7, _), (6, _), (0, _), (1, _), (2, _), (4, _)] dX4_feed_74 (by decide) rfl ?_
          refine j_aload_n h 3 dX4_feed_76 rfl rfl ?_
          refine j_iload h 1 dX4_feed_77 rfl ?_
          refine j_callVv h (c_X4_puts hE (by omega)) m_X4_puts a_l_X4_62 rfl rfl ⟨Nat.le_of_ble_eq_true rfl, Nat.le_of_ble_eq_true rfl⟩ (ci := 4) rfl (by omega) (rcM) rfl rfl (Nat.le_of_ble_eq_true rfl) dX4_feed_79 ?_
          refine j_iinc h 2 [(6, _), (5, _), (7, _), (0, _), (1, _), (2, _), (4, _)] dX4_feed_82 rfl (by decide) rfl ?_
          refine j_goto h 35 dX4_feed_85 (by decide) ?_
          refine j_sub [0, 1, 3, 4, 5, 6] rfl ?_
          rw [show (n - z).toNat = (n - (z + 1)).toNat + 1 by omega, byS, List.append_cons] at hv
          rw [show (n - z).toNat = (n - (z + 1)).toNat + 1 by omega, arS] at hB
          first | exact ih (z + 1) true _ (by omega) (by omega) (by omega) (by simp only [List.length_append, List.length_cons, List.length_nil]; omega) hv (by rw [c58, c66] at hB; simpa using hB) | exact ih (z + 1) false _ (by omega) (by omega) (by omega) (by simp only [List.length_append, List.length_cons, List.length_nil]; omega) hv (by rw [c58] at hB; simpa using hB) | exact ih (z + 1) false _ (by omega) (by omega) (by omega) (by simp only [List.length_append, List.length_cons, List.length_nil]; omega) hv (by rw [c66] at hB; simpa using hB)
  · rw [bI_0, decide_eq_false_iff_not] at c8
    refine j_ldc h (-1000001) a_k_X4_74 (by decide) dX4_feed_11 ?_
    have e : feA A a L n = (-1000001, A) := by unfold feA; rw [if_neg (fun w => by omega)]
    rw [e] at hq
    have hq := fnM (mk) hq
    exact j_iret h hq rfl dX4_feed_13
set_option maxHeartbeats 400000 in
set_option maxRecDepth 20000 in
theorem q_repeat {E : EV} (hE : EOK E) {A : AS} {g0 : GH} {a : Int} (ha : okI a) {n : Int} (hn : okI n) {to : Int} (hto : okI to) : Ct E (RMP E g0) yX4_repeat wsX4_repeat rX4_repeat [eA E 76, .int (iI a), .int (iI n), .int (iI to)] A (some (.int (iI (reA A a n to).1))) (reA A a n to).2 := by
  refine ct_of [(0, _), (1, _), (2, _), (3, _)] hE (by decide) rfl (Nat.le_of_ble_eq_true rfl) rfl (fun X h hq => ?_)
  refine j_exM (fun mk => ?_)
  refine j_of (fun G hG => RM_len hG) (fun hLM => ?_)
  have hla := hLM.1 (sw a) (sw_lt a)
  have hwa := sw_lt a
  have hfma : 0 ≤ fmo a 8 ∧ fmo a 8 < 8 := by unfold fmo; omega
  have hswa : (fmo a 8).toNat = sw a := rfl
  dsimp only at *
  have hn2 := hn
  unfold okI at hn2
  refine j_iload_n h 2 dX4_repeat_0 rfl rfl ?_
  refine j_if_ge h 7 dX4_repeat_1 (by decide) (by first | exact okI_of _ | exact okI_b _ | exact okI_sgz _ _ | assumption | (unfold okI; omega)) (fun c1 => ?_) (fun c1 => ?_)
  · refine j_aload_n h 0 dX4_repeat_7 rfl rfl ?_
    refine j_iload_n h 1 dX4_repeat_8 rfl rfl ?_
    refine j_callV h (c_X4_sizeOf hE ha) m_X4_sizeOf a_l_X4_67 rfl rfl ⟨Nat.le_of_ble_eq_true rfl, Nat.le_of_ble_eq_true rfl⟩ (ci := 4) rfl (by omega) (rcM) rfl rfl (Nat.le_of_ble_eq_true rfl) dX4_repeat_9 ?_
    refine j_i2l h (lI (A.1 (sw a)).length) dX4_repeat_12 (iI_i2l (by unfold okI; omega)) ?_
    refine j_iload_n h 2 dX4_repeat_13 rfl rfl ?_
    refine j_i2l h (lI n) dX4_repeat_14 (iI_i2l hn) ?_
    refine j_lmul h dX4_repeat_15 ?_
    refine j_ldc2 h (300) a_k_X4_136 (by decide) dX4_repeat_16 ?_
    refine j_lcmp h (iI (sgz ((A.1 (sw a)).length * n) 300)) dX4_repeat_19 (lg_cmp_lI (by have := mul_b2 (x := ((A.1 (sw a)).length : Int)) (n := n) (by omega) (by omega); unfold okL; omega) ⟨by decide, by decide⟩) ?_
    refine j_if_le h 26 dX4_repeat_20 (by decide) (by first | exact okI_of _ | exact okI_b _ | exact okI_sgz _ _ | assumption | (unfold okI; omega)) (fun c20 => ?_) (fun c20 => ?_)
    · rw [sgz_le] at c20
      refine j_aload_n h 0 dX4_repeat_26 rfl rfl ?_
      refine j_callVv h (c_X4_begins hE) m_X4_begins a_l_X4_75 rfl rfl ⟨Nat.le_of_ble_eq_true rfl, Nat.le_of_ble_eq_true rfl⟩ (ci := 4) rfl (by omega) (rcM) rfl rfl (Nat.le_of_ble_eq_true rfl) dX4_repeat_27 ?_
      refine j_iconst h dX4_repeat_30 ?_
      refine j_istore h [(4, _), (0, _), (1, _), (2, _), (3, _)] dX4_repeat_31 (by decide) rfl ?_
      refine j_sub [0, 1, 2, 3, 4] rfl ?_
      have hrl : (rept (A.1 (sw a)) n.toNat).length ≤ 300 := by rw [rept_len]; have e1 : ((n.toNat * (A.1 (sw a)).length : Nat) : Int) = (A.1 (sw a)).length * n := (by push_cast; rw [Int.mul_comm, show ((n.toNat : Nat) : Int) = n by omega]); omega
      refine lpA2 (fun (z : Int) (us : List Int32) => (n - z).toNat) (fun (z : Int) (us : List Int32) => 0 ≤ z → z ≤ n → us ++ rept (A.1 (sw a)) (n - z).toNat = (rept (A.1 (sw a)) n.toNat) → JL E (RM E g0) X 33 [(4, .int (iI z)), (0, eA E 76), (1, .int (iI a)), (2, .int (iI n)), (3, .int (iI to))] [] (A, us)) (fun z us ih h0 hzb hv => ?_) 0 [] (Int.le_refl 0) (by omega) (by rw [Int.sub_zero]; rfl)
      have hul := congrArg List.length hv
      rw [List.length_append] at hul
      refine j_iload h 0 dX4_repeat_33 rfl ?_
      refine j_iload_n h 3 dX4_repeat_35 rfl rfl ?_
      refine j_icmp_ge h 64 dX4_repeat_36 (by decide) (by first | exact okI_of _ | exact okI_b _ | exact okI_sgz _ _ | assumption | (unfold okI; omega)) (by first | exact okI_of _ | exact okI_b _ | exact okI_sgz _ _ | assumption | (unfold okI; omega)) (fun c36 => ?_) (fun c36 => ?_)
      · have hfin : us = (rept (A.1 (sw a)) n.toNat) := by rw [← hv, show (n - z).toNat = 0 by omega, rept, List.append_nil]
        refine j_aload_n h 1 dX4_repeat_64 rfl rfl ?_
        refine j_iload_n h 4 dX4_repeat_65 rfl rfl ?_
        refine j_callV h (c_lays hE hto) m_X4_lays a_l_X4_82 rfl rfl ⟨Nat.le_of_ble_eq_true rfl, Nat.le_of_ble_eq_true rfl⟩ (ci := 4) rfl (by omega) (rcM) rfl rfl (Nat.le_of_ble_eq_true rfl) dX4_repeat_66 ?_
        have hfe : (if (A.1 (sw a)).length = 0 then [] else (rept (A.1 (sw a)) n.toNat)) = us := by rw [hfin]; split; exact (rept_0 _ (by assumption) _).symm; rfl
        have e : reA A a n to = lyA A to (us) := by unfold reA lyA; rw [if_neg (by omega), if_pos c20, hfe, if_pos (by rw [hfin]; exact hrl)]
        rw [e] at hq
        have hq := fnM (us) hq
        exact j_iret h hq rfl dX4_repeat_69
      · refine j_aload_n h 1 dX4_repeat_39 rfl rfl ?_
        refine j_iload_n h 2 dX4_repeat_40 rfl rfl ?_
        refine j_callV h (c_X4_sizeOf hE ha) m_X4_sizeOf a_l_X4_67 rfl rfl ⟨Nat.le_of_ble_eq_true rfl, Nat.le_of_ble_eq_true rfl⟩ (ci := 4) rfl (by omega) (rcM) rfl rfl (Nat.le_of_ble_eq_true rfl) dX4_repeat_41 ?_
        refine j_if_le h 64 dX4_repeat_44 (by decide) (by first | exact okI_of _ | exact okI_b _ | exact okI_sgz _ _ | assumption | (unfold okI; omega)) (fun c44 => ?_) (fun c44 => ?_)
        · have hfin : us = (rept (A.1 (sw a)) n.toNat) := by rw [← hv, rept_0 _ (by omega), List.append_nil]
          refine j_aload_n h 1 dX4_repeat_64 rfl rfl ?_
          refine j_iload_n h 4 dX4_repeat_65 rfl rfl ?_
          refine j_callV h (c_lays hE hto) m_X4_lays a_l_X4_82 rfl rfl ⟨Nat.le_of_ble_eq_true rfl, Nat.le_of_ble_eq_true rfl⟩ (ci := 4) rfl (by omega) (rcM) rfl rfl (Nat.le_of_ble_eq_true rfl) dX4_repeat_66 ?_
          have hfe : (if (A.1 (sw a)).length = 0 then [] else (rept (A.1 (sw a)) n.toNat)) = us := by rw [hfin]; split; exact (rept_0 _ (by assumption) _).symm; rfl
          have e : reA A a n to = lyA A to (us) := by unfold reA lyA; rw [if_neg (by omega), if_pos c20, hfe, if_pos (by rw [hfin]; exact hrl)]
          rw [e] at hq
          have hq := fnM (us) hq
          exact j_iret h hq rfl dX4_repeat_69
        · refine j_aload_n h 1 dX4_repeat_47 rfl rfl ?_
          refine j_iload_n h 2 dX4_repeat_48 rfl rfl ?_
          refine j_iconst h dX4_repeat_49 ?_
          refine j_aload_n h 1 dX4_repeat_50 rfl rfl ?_
          refine j_iload_n h 2 dX4_repeat_51 rfl rfl ?_
          refine j_callV h (c_X4_sizeOf hE ha) m_X4_sizeOf a_l_X4_67 rfl rfl ⟨Nat.le_of_ble_eq_true rfl, Nat.le_of_ble_eq_true rfl⟩ (ci := 4) rfl (by omega) (rcM) rfl rfl (Nat.le_of_ble_eq_true rfl) dX4_repeat_52 ?_
          refine j_callVv h (c_putsAll hE ha (by omega)) m_X4_putsPart a_l_X4_78 rfl rfl ⟨Nat.le_of_ble_eq_true rfl, Nat.le_of_ble_eq_true rfl⟩ (ci := 4) rfl (by omega) (rcM) rfl rfl (Nat.le_of_ble_eq_true rfl) dX4_repeat_55 ?_
          refine j_iinc h 0 [(4, _), (0, _), (1, _), (2, _), (3, _)] dX4_repeat_58 rfl (by decide) rfl ?_
          refine j_goto h 33 dX4_repeat_61 (by decide) ?_
          exact ih (z + 1) _ (by omega) (by omega) (by omega) (by rw [show (n - z).toNat = (n - (z + 1)).toNat + 1 by omega, rept, ← List.append_assoc] at hv; exact hv)
    · have c20b : ¬ sgz ((A.1 (sw a)).length * n) 300 ≤ 0 := by omega
      rw [sgz_le] at c20b
      refine j_ldc h (-1000004) a_k_X4_66 (by decide) dX4_repeat_23 ?_
      have e : reA A a n to = (-1000004, A) := by unfold reA; rw [if_neg (by omega), if_neg (by omega)]
      rw [e] at hq
      have hq := fnM (mk) hq
      exact j_iret h hq rfl dX4_repeat_25
  · refine j_ldc h (-1000003) a_k_X4_135 (by decide) dX4_repeat_4 ?_
    have e : reA A a n to = (-1000003, A) := by unfold reA; rw [if_pos (by omega)]
    rw [e] at hq
    have hq := fnM (mk) hq
    exact j_iret h hq rfl dX4_repeat_6
