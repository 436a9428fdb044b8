/-! the reference: what only asks, on -/
set_option maxHeartbeats 400000 in
set_option maxRecDepth 20000 in
theorem c_X4_length {E : EV} (hE : EOK E) {A : AS} {mk : List Int32} {g0 : GH} {a : Int} (ha : okI a) : Ct E (RM E g0) yX4_length wsX4_length rX4_length [eA E 76, .int (iI a)] (A, mk) (some (.int (iI (A.1 (sw a)).length))) (A, mk) := by
  refine ct_of [(0, _), (1, _)] hE (by decide) rfl (Nat.le_of_ble_eq_true rfl) rfl (fun X h hq => ?_)
  refine j_of (fun G hG => RM_len hG) (fun hLM => ?_)
  have hla := hLM.1 (sw a) (sw_lt a)
  have hwa := sw_lt a
  have hfma : 0 ≤ fmo a 8 ∧ fmo a 8 < 8 := by unfold fmo; omega
  have hswa : (fmo a 8).toNat = sw a := rfl
  dsimp only at *
  refine j_aload_n h 0 dX4_length_0 rfl rfl ?_
  refine j_iload_n h 1 dX4_length_1 rfl rfl ?_
  refine j_callV h (c_X4_sizeOf hE ha) m_X4_sizeOf a_l_X4_67 rfl rfl ⟨Nat.le_of_ble_eq_true rfl, Nat.le_of_ble_eq_true rfl⟩ (ci := 4) rfl (by omega) (rcM) rfl rfl (Nat.le_of_ble_eq_true rfl) dX4_length_2 ?_
  exact j_iret h hq rfl dX4_length_5
set_option maxHeartbeats 400000 in
set_option maxRecDepth 20000 in
theorem c_X4_isEmpty {E : EV} (hE : EOK E) {A : AS} {mk : List Int32} {g0 : GH} {a : Int} (ha : okI a) : Ct E (RM E g0) yX4_isEmpty wsX4_isEmpty rX4_isEmpty [eA E 76, .int (iI a)] (A, mk) (some (.int (iI (bI (decide ((A.1 (sw a)).length = 0)))))) (A, mk) := by
  refine ct_of [(0, _), (1, _)] hE (by decide) rfl (Nat.le_of_ble_eq_true rfl) rfl (fun X h hq => ?_)
  refine j_of (fun G hG => RM_len hG) (fun hLM => ?_)
  have hla := hLM.1 (sw a) (sw_lt a)
  have hwa := sw_lt a
  have hfma : 0 ≤ fmo a 8 ∧ fmo a 8 < 8 := by unfold fmo; omega
  have hswa : (fmo a 8).toNat = sw a := rfl
  dsimp only at *
  refine j_aload_n h 0 dX4_isEmpty_0 rfl rfl ?_
  refine j_iload_n h 1 dX4_isEmpty_1 rfl rfl ?_
  refine j_callV h (c_X4_sizeOf hE ha) m_X4_sizeOf a_l_X4_67 rfl rfl ⟨Nat.le_of_ble_eq_true rfl, Nat.le_of_ble_eq_true rfl⟩ (ci := 4) rfl (by omega) (rcM) rfl rfl (Nat.le_of_ble_eq_true rfl) dX4_isEmpty_2 ?_
  refine j_if_ne h 12 dX4_isEmpty_5 (by decide) (by first | exact okI_of _ | exact okI_b _ | exact okI_sgz _ _ | assumption | (unfold okI; omega)) (fun c5 => ?_) (fun c5 => ?_)
  · refine j_iconst h dX4_isEmpty_12 ?_
    exact j_zret h hq (by first | exact bt (decide_eq_true (by omega)) | exact bf (decide_eq_false (by omega))) (by first | exact nzb true | exact nzb false | exact nzb _) dX4_isEmpty_13
  · refine j_iconst h dX4_isEmpty_8 ?_
    refine j_goto h 13 dX4_isEmpty_9 (by decide) ?_
    exact j_zret h hq (by first | exact bt (decide_eq_true (by omega)) | exact bf (decide_eq_false (by omega))) (by first | exact nzb true | exact nzb false | exact nzb _) dX4_isEmpty_13
set_option maxHeartbeats 400000 in
set_option maxRecDepth 20000 in
theorem c_X4_findFrom {E : EV} (hE : EOK E) {A : AS} {mk : List Int32} {g0 : GH} {a : Int} (ha : okI a) {b : Int} (hb : okI b) {f : Int} (hf : okI f) : Ct E (RM E g0) yX4_findFrom wsX4_findFrom rX4_findFrom [eA E 76, .int (iI a), .int (iI b), .int (iI f)] (A, mk) (some (.int (iI (plF (A.1 (sw a)) (A.1 (sw b)) f)))) (A, mk) := by
  refine ct_of [(0, _), (1, _), (2, _), (3, _)] hE (by decide) rfl (Nat.le_of_ble_eq_true rfl) rfl (fun X h hq => ?_)
  refine j_of (fun G hG => RM_len hG) (fun hLM => ?_)
  have hla := hLM.1 (sw a) (sw_lt a)
  have hwa := sw_lt a
  have hfma : 0 ≤ fmo a 8 ∧ fmo a 8 < 8 := by unfold fmo; omega
  have hswa : (fmo a 8).toNat = sw a := rfl
  have hlb := hLM.1 (sw b) (sw_lt b)
  have hwb := sw_lt b
  have hfmb : 0 ≤ fmo b 8 ∧ fmo b 8 < 8 := by unfold fmo; omega
  have hswb : (fmo b 8).toNat = sw b := rfl
  dsimp only at *
  have hf2 := hf
  unfold okI at hf2
  have hmx : ∀ a b : Int, (a ≤ mxI a b ∧ b ≤ mxI a b ∧ (mxI a b = a ∨ mxI a b = b)) := fun a b => by unfold mxI; split <;> omega
  have hmn : ∀ a b : Int, (mnI a b ≤ a ∧ mnI a b ≤ b ∧ (mnI a b = a ∨ mnI a b = b)) := fun a b => by unfold mnI; split <;> omega
  have hm := hmn f (A.1 (sw a)).length
  have hm2 := hmx 0 (mnI f (A.1 (sw a)).length)
  refine j_aload_n h 0 dX4_findFrom_0 rfl rfl ?_
  refine j_iload_n h 1 dX4_findFrom_1 rfl rfl ?_
  refine j_callV h (c_X4_sizeOf hE ha) m_X4_sizeOf a_l_X4_67 rfl rfl ⟨Nat.le_of_ble_eq_true rfl, Nat.le_of_ble_eq_true rfl⟩ (ci := 4) rfl (by omega) (rcM) rfl rfl (Nat.le_of_ble_eq_true rfl) dX4_findFrom_2 ?_
  refine j_istore h [(4, _), (0, _), (1, _), (2, _), (3, _)] dX4_findFrom_5 (by decide) rfl ?_
  refine j_iload_n h 4 dX4_findFrom_7 rfl rfl ?_
  refine j_if_ge h 15 dX4_findFrom_8 (by decide) (by first | exact okI_of _ | exact okI_b _ | exact okI_sgz _ _ | assumption | (unfold okI; omega)) (fun c8 => ?_) (fun c8 => ?_)
  · refine j_iload_n h 4 dX4_findFrom_15 rfl rfl ?_
    refine j_iload h 0 dX4_findFrom_16 rfl ?_
    refine j_icmp_le h 26 dX4_findFrom_18 (by decide) (by first | exact okI_of _ | exact okI_b _ | exact okI_sgz _ _ | assumption | (unfold okI; omega)) (by first | exact okI_of _ | exact okI_b _ | exact okI_sgz _ _ | assumption | (unfold okI; omega)) (fun c18 => ?_) (fun c18 => ?_)
    · have es : mxI 0 (mnI f (A.1 (sw a)).length) = f := by omega
      refine j_iload_n h 4 dX4_findFrom_26 rfl rfl ?_
      refine j_istore h [(5, _), (4, _), (0, _), (1, _), (2, _), (3, _)] dX4_findFrom_27 (by decide) rfl ?_
      refine j_iload h 0 dX4_findFrom_29 rfl ?_
      refine j_istore h [(6, _), (5, _), (4, _), (0, _), (1, _), (2, _), (3, _)] dX4_findFrom_31 (by decide) rfl ?_
      refine j_sub [0, 2, 3, 4, 5] rfl ?_
      refine j_lv (lv2 := [(6, .int (iI (mxI 0 (mnI f (A.1 (sw a)).length)))), (4, .int (iI (A.1 (sw a)).length)), (0, eA E 76), (1, .int (iI a)), (2, .int (iI b))]) (by rw [es]; rfl) ?_
      refine lpA1 (fun z : Int => ((A.1 (sw a)).length + 1 - z).toNat) (fun z : Int => 0 ≤ z → z ≤ (A.1 (sw a)).length + 1 → lo (fun k => bz (A.1 (sw a)) (A.1 (sw b)) k) z.toNat ((A.1 (sw a)).length + 1 - z.toNat) = plF (A.1 (sw a)) (A.1 (sw b)) f → JL E (RM E g0) X 33 [(6, .int (iI z)), (4, .int (iI (A.1 (sw a)).length)), (0, eA E 76), (1, .int (iI a)), (2, .int (iI b))] [] (A, mk)) (fun z ih h0 hzb hv => ?_) _ (by omega) (by omega) rfl
      refine j_iload h 0 dX4_findFrom_33 rfl ?_
      refine j_iload h 1 dX4_findFrom_35 rfl ?_
      refine j_icmp_gt h 60 dX4_findFrom_37 (by decide) (by first | exact okI_of _ | exact okI_b _ | exact okI_sgz _ _ | assumption | (unfold okI; omega)) (by first | exact okI_of _ | exact okI_b _ | exact okI_sgz _ _ | assumption | (unfold okI; omega)) (fun c37 => ?_) (fun c37 => ?_)
      · refine j_iconst h dX4_findFrom_60 ?_
        exact j_iret h hq (by rw [← hv, lo_none _ _ (fun k h1 h2 => bz_out (Or.inr (by omega)))]) dX4_findFrom_61
      · refine j_aload_n h 2 dX4_findFrom_40 rfl rfl ?_
        refine j_iload_n h 3 dX4_findFrom_41 rfl rfl ?_
        refine j_iload_n h 4 dX4_findFrom_42 rfl rfl ?_
        refine j_iload h 0 dX4_findFrom_43 rfl ?_
        refine j_callV h (c_X4_stands hE ha hb (by unfold okI; omega)) m_X4_stands a_l_X4_111 rfl rfl ⟨Nat.le_of_ble_eq_true rfl, Nat.le_of_ble_eq_true rfl⟩ (ci := 4) rfl (by omega) (rcM) rfl rfl (Nat.le_of_ble_eq_true rfl) dX4_findFrom_45 ?_
        refine j_if_eq h 54 dX4_findFrom_48 (by decide) (by first | exact okI_of _ | exact okI_b _ | exact okI_sgz _ _ | assumption | (unfold okI; omega)) (fun c48 => ?_) (fun c48 => ?_)
        · rw [bI_0] at c48
          refine j_iinc h 0 [(6, _), (4, _), (0, _), (1, _), (2, _)] dX4_findFrom_54 rfl (by decide) rfl ?_
          refine j_goto h 33 dX4_findFrom_57 (by decide) ?_
          exact ih (z + 1) (by omega) (by omega) (by omega) (by rw [lo_step h0 (by omega), if_neg (by rw [show ((z.toNat : Nat) : Int) = z by omega, c48]; simp)] at hv; exact hv)
        · rw [bI_n0] at c48
          refine j_iload h 0 dX4_findFrom_51 rfl ?_
          exact j_iret h hq (by rw [← hv, lo_step h0 (by omega), if_pos (by rw [show ((z.toNat : Nat) : Int) = z by omega, c48])]) dX4_findFrom_53
    · have es : mxI 0 (mnI f (A.1 (sw a)).length) = (A.1 (sw a)).length := by omega
      refine j_iload h 0 dX4_findFrom_21 rfl ?_
      refine j_goto h 27 dX4_findFrom_23 (by decide) ?_
      refine j_istore h [(5, _), (4, _), (0, _), (1, _), (2, _), (3, _)] dX4_findFrom_27 (by decide) rfl ?_
      refine j_iload h 0 dX4_findFrom_29 rfl ?_
      refine j_istore h [(6, _), (5, _), (4, _), (0, _), (1, _), (2, _), (3, _)] dX4_findFrom_31 (by decide) rfl ?_
      refine j_sub [0, 2, 3, 4, 5] rfl ?_
      refine j_lv (lv2 := [(6, .int (iI (mxI 0 (mnI f (A.1 (sw a)).length)))), (4, .int (iI (A.1 (sw a)).length)), (0, eA E 76), (1, .int (iI a)), (2, .int (iI b))]) (by rw [es]; rfl) ?_
      refine lpA1 (fun z : Int => ((A.1 (sw a)).length + 1 - z).toNat) (fun z : Int => 0 ≤ z → z ≤ (A.1 (sw a)).length + 1 → lo (fun k => bz (A.1 (sw a)) (A.1 (sw b)) k) z.toNat ((A.1 (sw a)).length + 1 - z.toNat) = plF (A.1 (sw a)) (A.1 (sw b)) f → JL E (RM E g0) X 33 [(6, .int (iI z)), (4, .int (iI (A.1 (sw a)).length)), (0, eA E 76), (1, .int (iI a)), (2, .int (iI b))] [] (A, mk)) (fun z ih h0 hzb hv => ?_) _ (by omega) (by omega) rfl
      refine j_iload h 0 dX4_findFrom_33 rfl ?_
      refine j_iload h 1 dX4_findFrom_35 rfl ?_
      refine j_icmp_gt h 60 dX4_findFrom_37 (by decide) (by first | exact okI_of _ | exact okI_b _ | exact okI_sgz _ _ | assumption | (unfold okI; omega)) (by first | exact okI_of _ | exact okI_b _ | exact okI_sgz _ _ | assumption | (unfold okI; omega)) (fun c37 => ?_) (fun c37 => ?_)
      · refine j_iconst h dX4_findFrom_60 ?_
        exact j_iret h hq (by rw [← hv, lo_none _ _ (fun k h1 h2 => bz_out (Or.inr (by omega)))]) dX4_findFrom_61
      · refine j_aload_n h 2 dX4_findFrom_40 rfl rfl ?_
        refine j_iload_n h 3 dX4_findFrom_41 rfl rfl ?_
        refine j_iload_n h 4 dX4_findFrom_42 rfl rfl ?_
        refine j_iload h 0 dX4_findFrom_43 rfl ?_
        refine j_callV h (c_X4_stands hE ha hb (by unfold okI; omega)) m_X4_stands a_l_X4_111 rfl rfl ⟨Nat.le_of_ble_eq_true rfl, Nat.le_of_ble_eq_true rfl⟩ (ci := 4) rfl (by omega) (rcM) rfl rfl (Nat.le_of_ble_eq_true rfl) dX4_findFrom_45 ?_
        refine j_if_eq h 54 dX4_findFrom_48 (by decide) (by first | exact okI_of _ | exact okI_b _ | exact okI_sgz _ _ | assumption | (unfold okI; omega)) (fun c48 => ?_) (fun c48 => ?_)
        · rw [bI_0] at c48
          refine j_iinc h 0 [(6, _), (4, _), (0, _), (1, _), (2, _)] dX4_findFrom_54 rfl (by decide) rfl ?_
          refine j_goto h 33 dX4_findFrom_57 (by decide) ?_
          exact ih (z + 1) (by omega) (by omega) (by omega) (by rw [lo_step h0 (by omega), if_neg (by rw [show ((z.toNat : Nat) : Int) = z by omega, c48]; simp)] at hv; exact hv)
        · rw [bI_n0] at c48
          refine j_iload h 0 dX4_findFrom_51 rfl ?_
          exact j_iret h hq (by rw [← hv, lo_step h0 (by omega), if_pos (by rw [show ((z.toNat : Nat) : Int) = z by omega, c48])]) dX4_findFrom_53
  · have es : mxI 0 (mnI f (A.1 (sw a)).length) = 0 := by omega
    refine j_iconst h dX4_findFrom_11 ?_
    refine j_goto h 27 dX4_findFrom_12 (by decide) ?_
    refine j_istore h [(5, _), (4, _), (0, _), (1, _), (2, _), (3, _)] dX4_findFrom_27 (by decide) rfl ?_
    refine j_iload h 0 dX4_findFrom_29 rfl ?_
    refine j_istore h [(6, _), (5, _), (4, _), (0, _), (1, _), (2, _), (3, _)] dX4_findFrom_31 (by decide) rfl ?_
    refine j_sub [0, 2, 3, 4, 5] rfl ?_
    refine j_lv (lv2 := [(6, .int (iI (mxI 0 (mnI f (A.1 (sw a)).length)))), (4, .int (iI (A.1 (sw a)).length)), (0, eA E 76), (1, .int (iI a)), (2, .int (iI b))]) (by rw [es]; rfl) ?_
    refine lpA1 (fun z : Int => ((A.1 (sw a)).length + 1 - z).toNat) (fun z : Int => 0 ≤ z → z ≤ (A.1 (sw a)).length + 1 → lo (fun k => bz (A.1 (sw a)) (A.1 (sw b)) k) z.toNat ((A.1 (sw a)).length + 1 - z.toNat) = plF (A.1 (sw a)) (A.1 (sw b)) f → JL E (RM E g0) X 33 [(6, .int (iI z)), (4, .int (iI (A.1 (sw a)).length)), (0, eA E 76), (1, .int (iI a)), (2, .int (iI b))] [] (A, mk)) (fun z ih h0 hzb hv => ?_) _ (by omega) (by omega) rfl
    refine j_iload h 0 dX4_findFrom_33 rfl ?_
    refine j_iload h 1 dX4_findFrom_35 rfl ?_
    refine j_icmp_gt h 60 dX4_findFrom_37 (by decide) (by first | exact okI_of _ | exact okI_b _ | exact okI_sgz _ _ | assumption | (unfold okI; omega)) (by first | exact okI_of _ | exact okI_b _ | exact okI_sgz _ _ | assumption | (unfold okI; omega)) (fun c37 => ?_) (fun c37 => ?_)
    · refine j_iconst h dX4_findFrom_60 ?_
      exact j_iret h hq (by rw [← hv, lo_none _ _ (fun k h1 h2 => bz_out (Or.inr (by omega)))]) dX4_findFrom_61
    · refine j_aload_n h 2 dX4_findFrom_40 rfl rfl ?_
      refine j_iload_n h 3 dX4_findFrom_41 rfl rfl ?_
      refine j_iload_n h 4 dX4_findFrom_42 rfl rfl ?_
      refine j_iload h 0 dX4_findFrom_43 rfl ?_
      refine j_callV h (c_X4_stands hE ha hb (by unfold okI; omega)) m_X4_stands a_l_X4_111 rfl rfl ⟨Nat.le_of_ble_eq_true rfl, Nat.le_of_ble_eq_true rfl⟩ (ci := 4) rfl (by omega) (rcM) rfl rfl (Nat.le_of_ble_eq_true rfl) dX4_findFrom_45 ?_
      refine j_if_eq h 54 dX4_findFrom_48 (by decide) (by first | exact okI_of _ | exact okI_b _ | exact okI_sgz _ _ | assumption | (unfold okI; omega)) (fun c48 => ?_) (fun c48 => ?_)
      · rw [bI_0] at c48
        refine j_iinc h 0 [(6, _), (4, _), (0, _), (1, _), (2, _)] dX4_findFrom_54 rfl (by decide) rfl ?_
        refine j_goto h 33 dX4_findFrom_57 (by decide) ?_
        exact ih (z + 1) (by omega) (by omega) (by omega) (by rw [lo_step h0 (by omega), if_neg (by rw [show ((z.toNat : Nat) : Int) = z by omega, c48]; simp)] at hv; exact hv)
      · rw [bI_n0] at c48
        refine j_iload h 0 dX4_findFrom_51 rfl ?_
        exact j_iret h hq (by rw [← hv, lo_step h0 (by omega), if_pos (by rw [show ((z.toNat : Nat) : Int) = z by omega, c48])]) dX4_findFrom_53
set_option maxHeartbeats 400000 in
set_option maxRecDepth 20000 in
theorem c_X4_find {E : EV} (hE : EOK E) {A : AS} {mk : List Int32} {g0 : GH} {a : Int} (ha : okI a) {b : Int} (hb : okI b) : Ct E (RM E g0) yX4_find wsX4_find rX4_find [eA E 76, .int (iI a), .int (iI b)] (A, mk) (some (.int (iI (plF (A.1 (sw a)) (A.1 (sw b)) 0)))) (A, mk) := by
  refine ct_of [(0, _), (1, _), (2, _)] hE (by decide) rfl (Nat.le_of_ble_eq_true rfl) rfl (fun X h hq => ?_)
  refine j_of (fun G hG => RM_len hG) (fun hLM => ?_)
  have hla := hLM.1 (sw a) (sw_lt a)
  have hwa := sw_lt a
  have hfma : 0 ≤ fmo a 8 ∧ fmo a 8 < 8 := by unfold fmo; omega
  have hswa : (fmo a 8).toNat = sw a := rfl
  dsimp only at *
  refine j_aload_n h 0 dX4_find_0 rfl rfl ?_
  refine j_iload_n h 1 dX4_find_1 rfl rfl ?_
  refine j_iload_n h 2 dX4_find_2 rfl rfl ?_
  refine j_iconst h dX4_find_3 ?_
  refine j_callV h (c_X4_findFrom hE ha hb ⟨by decide, by decide⟩) m_X4_findFrom a_l_X4_108 rfl rfl ⟨Nat.le_of_ble_eq_true rfl, Nat.le_of_ble_eq_true rfl⟩ (ci := 4) rfl (by omega) (rcM) rfl rfl (Nat.le_of_ble_eq_true rfl) dX4_find_4 ?_
  exact j_iret h hq rfl dX4_find_7
set_option maxHeartbeats 400000 in
set_option maxRecDepth 20000 in
theorem c_X4_findLastFrom {E : EV} (hE : EOK E) {A : AS} {mk : List Int32} {g0 : GH} {a : Int} (ha : okI a) {b : Int} (hb : okI b) {f : Int} (hf : okI f) : Ct E (RM E g0) yX4_findLastFrom wsX4_findLastFrom rX4_findLastFrom [eA E 76, .int (iI a), .int (iI b), .int (iI f)] (A, mk) (some (.int (iI (plB (A.1 (sw a)) (A.1 (sw b)) f)))) (A, mk) := by
  refine ct_of [(0, _), (1, _), (2, _), (3, _)] hE (by decide) rfl (Nat.le_of_ble_eq_true rfl) rfl (fun X h hq => ?_)
  refine j_of (fun G hG => RM_len hG) (fun hLM => ?_)
  have hla := hLM.1 (sw a) (sw_lt a)
  have hwa := sw_lt a
  have hfma : 0 ≤ fmo a 8 ∧ fmo a 8 < 8 := by unfold fmo; omega
  have hswa : (fmo a 8).toNat = sw a := rfl
  have hlb := hLM.1 (sw b) (sw_lt b)
  have hwb := sw_lt b
  have hfmb : 0 ≤ fmo b 8 ∧ fmo b 8 < 8 := by unfold fmo; omega
  have hswb : (fmo b 8).toNat = sw b := rfl
  dsimp only at *
  have hf2 := hf
  unfold okI at hf2
  have hmx : ∀ a b : Int, (a ≤ mxI a b ∧ b ≤ mxI a b ∧ (mxI a b = a ∨ mxI a b = b)) := fun a b => by unfold mxI; split <;> omega
  have hmn : ∀ a b : Int, (mnI a b ≤ a ∧ mnI a b ≤ b ∧ (mnI a b = a ∨ mnI a b = b)) := fun a b => by unfold mnI; split <;> omega
  have hm := hmn f (A.1 (sw a)).length
  refine j_aload_n h 0 dX4_findLastFrom_0 rfl rfl ?_
  refine j_iload_n h 1 dX4_findLastFrom_1 rfl rfl ?_
  refine j_callV h (c_X4_sizeOf hE ha) m_X4_sizeOf a_l_X4_67 rfl rfl ⟨Nat.le_of_ble_eq_true rfl, Nat.le_of_ble_eq_true rfl⟩ (ci := 4) rfl (by omega) (rcM) rfl rfl (Nat.le_of_ble_eq_true rfl) dX4_findLastFrom_2 ?_
  refine j_istore h [(4, _), (0, _), (1, _), (2, _), (3, _)] dX4_findLastFrom_5 (by decide) rfl ?_
  refine j_iload_n h 4 dX4_findLastFrom_7 rfl rfl ?_
  refine j_iload h 0 dX4_findLastFrom_8 rfl ?_
  refine j_icmp_le h 18 dX4_findLastFrom_10 (by decide) (by first | exact okI_of _ | exact okI_b _ | exact okI_sgz _ _ | assumption | (unfold okI; omega)) (by first | exact okI_of _ | exact okI_b _ | exact okI_sgz _ _ | assumption | (unfold okI; omega)) (fun c10 => ?_) (fun c10 => ?_)
  · have es : mnI f (A.1 (sw a)).length = f := by omega
    refine j_iload_n h 4 dX4_findLastFrom_18 rfl rfl ?_
    refine j_istore h [(5, _), (4, _), (0, _), (1, _), (2, _), (3, _)] dX4_findLastFrom_19 (by decide) rfl ?_
    refine j_sub [0, 2, 3, 4] rfl ?_
    refine j_lv (lv2 := [(5, .int (iI (mnI f (A.1 (sw a)).length))), (0, eA E 76), (1, .int (iI a)), (2, .int (iI b))]) (by rw [es]; rfl) ?_
    refine lpA1 (fun z : Int => (z + 1).toNat) (fun z : Int => z ≤ (A.1 (sw a)).length → -2147483648 ≤ z → hi (fun k => bz (A.1 (sw a)) (A.1 (sw b)) k) (z + 1).toNat = plB (A.1 (sw a)) (A.1 (sw b)) f → JL E (RM E g0) X 21 [(5, .int (iI z)), (0, eA E 76), (1, .int (iI a)), (2, .int (iI b))] [] (A, mk)) (fun z ih h0 hzb hv => ?_) _ (by omega) (by omega) rfl
    refine j_iload h 0 dX4_findLastFrom_21 rfl ?_
    refine j_if_lt h 46 dX4_findLastFrom_23 (by decide) (by first | exact okI_of _ | exact okI_b _ | exact okI_sgz _ _ | assumption | (unfold okI; omega)) (fun c23 => ?_) (fun c23 => ?_)
    · refine j_iconst h dX4_findLastFrom_46 ?_
      exact j_iret h hq (by rw [← hv, hi_end (by omega)]) dX4_findLastFrom_47
    · refine j_aload_n h 1 dX4_findLastFrom_26 rfl rfl ?_
      refine j_iload_n h 2 dX4_findLastFrom_27 rfl rfl ?_
      refine j_iload_n h 3 dX4_findLastFrom_28 rfl rfl ?_
      refine j_iload h 0 dX4_findLastFrom_29 rfl ?_
      refine j_callV h (c_X4_stands hE ha hb (by unfold okI; omega)) m_X4_stands a_l_X4_111 rfl rfl ⟨Nat.le_of_ble_eq_true rfl, Nat.le_of_ble_eq_true rfl⟩ (ci := 4) rfl (by omega) (rcM) rfl rfl (Nat.le_of_ble_eq_true rfl) dX4_findLastFrom_31 ?_
      refine j_if_eq h 40 dX4_findLastFrom_34 (by decide) (by first | exact okI_of _ | exact okI_b _ | exact okI_sgz _ _ | assumption | (unfold okI; omega)) (fun c34 => ?_) (fun c34 => ?_)
      · rw [bI_0] at c34
        refine j_iinc h 0 [(5, _), (0, _), (1, _), (2, _)] dX4_findLastFrom_40 rfl (by decide) rfl ?_
        refine j_goto h 21 dX4_findLastFrom_43 (by decide) ?_
        exact ih (z + -1) (by omega) (by omega) (by omega) (by rw [hi_step (by omega), if_neg (by rw [show ((z.toNat : Nat) : Int) = z by omega, c34]; simp)] at hv; exact hv)
      · rw [bI_n0] at c34
        refine j_iload h 0 dX4_findLastFrom_37 rfl ?_
        exact j_iret h hq (by rw [← hv, hi_step (by omega), if_pos (by rw [show ((z.toNat : Nat) : Int) = z by omega, c34])]) dX4_findLastFrom_39
  · have es : mnI f (A.1 (sw a)).length = (A.1 (sw a)).length := by omega
    refine j_iload h 0 dX4_findLastFrom_13 rfl ?_
    refine j_goto h 19 dX4_findLastFrom_15 (by decide) ?_
    refine j_istore h [(5, _), (4, _), (0, _), (1, _), (2, _), (3, _)] dX4_findLastFrom_19 (by decide) rfl ?_
    refine j_sub [0, 2, 3, 4] rfl ?_
    refine j_lv (lv2 := [(5, .int (iI (mnI f (A.1 (sw a)).length))), (0, eA E 76), (1, .int (iI a)), (2, .int (iI b))]) (by rw [es]; rfl) ?_
    refine lpA1 (fun z : Int => (z + 1).toNat) (fun z : Int => z ≤ (A.1 (sw a)).length → -2147483648 ≤ z → hi (fun k => bz (A.1 (sw a)) (A.1 (sw b)) k) (z + 1).toNat = plB (A.1 (sw a)) (A.1 (sw b)) f → JL E (RM E g0) X 21 [(5, .int (iI z)), (0, eA E 76), (1, .int (iI a)), (2, .int (iI b))] [] (A, mk)) (fun z ih h0 hzb hv => ?_) _ (by omega) (by omega) rfl
    refine j_iload h 0 dX4_findLastFrom_21 rfl ?_
    refine j_if_lt h 46 dX4_findLastFrom_23 (by decide) (by first | exact okI_of _ | exact okI_b _ | exact okI_sgz _ _ | assumption | (unfold okI; omega)) (fun c23 => ?_) (fun c23 => ?_)
    · refine j_iconst h dX4_findLastFrom_46 ?_
      exact j_iret h hq (by rw [← hv, hi_end (by omega)]) dX4_findLastFrom_47
    · refine j_aload_n h 1 dX4_findLastFrom_26 rfl rfl ?_
      refine j_iload_n h 2 dX4_findLastFrom_27 rfl rfl ?_
      refine j_iload_n h 3 dX4_findLastFrom_28 rfl rfl ?_
      refine j_iload h 0 dX4_findLastFrom_29 rfl ?_
      refine j_callV h (c_X4_stands hE ha hb (by unfold okI; omega)) m_X4_stands a_l_X4_111 rfl rfl ⟨Nat.le_of_ble_eq_true rfl, Nat.le_of_ble_eq_true rfl⟩ (ci := 4) rfl (by omega) (rcM) rfl rfl (Nat.le_of_ble_eq_true rfl) dX4_findLastFrom_31 ?_
      refine j_if_eq h 40 dX4_findLastFrom_34 (by decide) (by first | exact okI_of _ | exact okI_b _ | exact okI_sgz _ _ | assumption | (unfold okI; omega)) (fun c34 => ?_) (fun c34 => ?_)
      · rw [bI_0] at c34
        refine j_iinc h 0 [(5, _), (0, _), (1, _), (2, _)] dX4_findLastFrom_40 rfl (by decide) rfl ?_
        refine j_goto h 21 dX4_findLastFrom_43 (by decide) ?_
        exact ih (z + -1) (by omega) (by omega) (by omega) (by rw [hi_step (by omega), if_neg (by rw [show ((z.toNat : Nat) : Int) = z by omega, c34]; simp)] at hv; exact hv)
      · rw [bI_n0] at c34
        refine j_iload h 0 dX4_findLastFrom_37 rfl ?_
        exact j_iret h hq (by rw [← hv, hi_step (by omega), if_pos (by rw [show ((z.toNat : Nat) : Int) = z by omega, c34])]) dX4_findLastFrom_39
set_option maxHeartbeats 400000 in
set_option maxRecDepth 20000 in
theorem c_X4_findLast {E : EV} (hE : EOK E) {A : AS} {mk : List Int32} {g0 : GH} {a : Int} (ha : okI a) {b : Int} (hb : okI b) : Ct E (RM E g0) yX4_findLast wsX4_findLast rX4_findLast [eA E 76, .int (iI a), .int (iI b)] (A, mk) (some (.int (iI (plB (A.1 (sw a)) (A.1 (sw b)) 300)))) (A, mk) := by
  refine ct_of [(0, _), (1, _), (2, _)] hE (by decide) rfl (Nat.le_of_ble_eq_true rfl) rfl (fun X h hq => ?_)
  refine j_of (fun G hG => RM_len hG) (fun hLM => ?_)
  have hla := hLM.1 (sw a) (sw_lt a)
  have hwa := sw_lt a
  have hfma : 0 ≤ fmo a 8 ∧ fmo a 8 < 8 := by unfold fmo; omega
  have hswa : (fmo a 8).toNat = sw a := rfl
  dsimp only at *
  refine j_aload_n h 0 dX4_findLast_0 rfl rfl ?_
  refine j_iload_n h 1 dX4_findLast_1 rfl rfl ?_
  refine j_iload_n h 2 dX4_findLast_2 rfl rfl ?_
  refine j_sipush h dX4_findLast_3 (by decide) ?_
  refine j_callV h (c_X4_findLastFrom hE ha hb ⟨by decide, by decide⟩) m_X4_findLastFrom a_l_X4_114 rfl rfl ⟨Nat.le_of_ble_eq_true rfl, Nat.le_of_ble_eq_true rfl⟩ (ci := 4) rfl (by omega) (rcM) rfl rfl (Nat.le_of_ble_eq_true rfl) dX4_findLast_6 ?_
  exact j_iret h hq rfl dX4_findLast_9
set_option maxHeartbeats 400000 in
set_option maxRecDepth 20000 in
theorem c_X4_contains {E : EV} (hE : EOK E) {A : AS} {mk : List Int32} {g0 : GH} {a : Int} (ha : okI a) {b : Int} (hb : okI b) : Ct E (RM E g0) yX4_contains wsX4_contains rX4_contains [eA E 76, .int (iI a), .int (iI b)] (A, mk) (some (.int (iI (bI (!decide (plF (A.1 (sw a)) (A.1 (sw b)) 0 = -1)))))) (A, mk) := by
  refine ct_of [(0, _), (1, _), (2, _)] hE (by decide) rfl (Nat.le_of_ble_eq_true rfl) rfl (fun X h hq => ?_)
  refine j_of (fun G hG => RM_len hG) (fun hLM => ?_)
  have hla := hLM.1 (sw a) (sw_lt a)
  have hwa := sw_lt a
  have hfma : 0 ≤ fmo a 8 ∧ fmo a 8 < 8 := by unfold fmo; omega
  have hswa : (fmo a 8).toNat = sw a := rfl
  dsimp only at *
  refine j_aload_n h 0 dX4_contains_0 rfl rfl ?_
  refine j_iload_n h 1 dX4_contains_1 rfl rfl ?_
  refine j_iload_n h 2 dX4_contains_2 rfl rfl ?_
  refine j_callV h (c_X4_find hE ha hb) m_X4_find a_l_X4_117 rfl rfl ⟨Nat.le_of_ble_eq_true rfl, Nat.le_of_ble_eq_true rfl⟩ (ci := 4) rfl (by omega) (rcM) rfl rfl (Nat.le_of_ble_eq_true rfl) dX4_contains_3 ?_
  have hpl := plF_range (A.1 (sw a)) (A.1 (sw b)) 0
  refine j_iconst h dX4_contains_6 ?_
  refine j_icmp_eq h 14 dX4_contains_7 (by decide) (by first | exact okI_of _ | exact okI_b _ | exact okI_sgz _ _ | assumption | (unfold okI; omega)) (by first | exact okI_of _ | exact okI_b _ | exact okI_sgz _ _ | assumption | (unfold okI; omega)) (fun c7 => ?_) (fun c7 => ?_)
  · refine j_iconst h dX4_contains_14 ?_
    exact j_zret h hq (by first | exact bt (by rw [decide_eq_false (by omega)]; rfl) | exact bf (by rw [decide_eq_true (by omega)]; rfl)) (by first | exact nzb true | exact nzb false | exact nzb _) dX4_contains_15
  · refine j_iconst h dX4_contains_10 ?_
    refine j_goto h 15 dX4_contains_11 (by decide) ?_
    exact j_zret h hq (by first | exact bt (by rw [decide_eq_false (by omega)]; rfl) | exact bf (by rw [decide_eq_true (by omega)]; rfl)) (by first | exact nzb true | exact nzb false | exact nzb _) dX4_contains_15
set_option maxHeartbeats 400000 in
set_option maxRecDepth 20000 in
theorem c_X4_starts {E : EV} (hE : EOK E) {A : AS} {mk : List Int32} {g0 : GH} {a : Int} (ha : okI a) {b : Int} (hb : okI b) : Ct E (RM E g0) yX4_starts wsX4_starts rX4_starts [eA E 76, .int (iI a), .int (iI b)] (A, mk) (some (.int (iI (bI (bz (A.1 (sw a)) (A.1 (sw b)) 0))))) (A, mk) := by
  refine ct_of [(0, _), (1, _), (2, _)] hE (by decide) rfl (Nat.le_of_ble_eq_true rfl) rfl (fun X h hq => ?_)
  refine j_of (fun G hG => RM_len hG) (fun hLM => ?_)
  have hla := hLM.1 (sw a) (sw_lt a)
  have hwa := sw_lt a
  have hfma : 0 ≤ fmo a 8 ∧ fmo a 8 < 8 := by unfold fmo; omega
  have hswa : (fmo a 8).toNat = sw a := rfl
  dsimp only at *
  refine j_aload_n h 0 dX4_starts_0 rfl rfl ?_
  refine j_iload_n h 1 dX4_starts_1 rfl rfl ?_
  refine j_iload_n h 2 dX4_starts_2 rfl rfl ?_
  refine j_iconst h dX4_starts_3 ?_
  refine j_callV h (c_X4_stands hE ha hb ⟨by decide, by decide⟩) m_X4_stands a_l_X4_111 rfl rfl ⟨Nat.le_of_ble_eq_true rfl, Nat.le_of_ble_eq_true rfl⟩ (ci := 4) rfl (by omega) (rcM) rfl rfl (Nat.le_of_ble_eq_true rfl) dX4_starts_4 ?_
  exact j_zret h hq rfl (by first | exact nzb true | exact nzb false | exact nzb _) dX4_starts_7
set_option maxHeartbeats 400000 in
set_option maxRecDepth 20000 in
theorem c_X4_startsAt {E : EV} (hE : EOK E) {A : AS} {mk : List Int32} {g0 : GH} {a : Int} (ha : okI a) {b : Int} (hb : okI b) {p : Int} (hp : okI p) : Ct E (RM E g0) yX4_startsAt wsX4_startsAt rX4_startsAt [eA E 76, .int (iI a), .int (iI b), .int (iI p)] (A, mk) (some (.int (iI (bI (bz (A.1 (sw a)) (A.1 (sw b)) p))))) (A, mk) := by
  refine ct_of [(0, _), (1, _), (2, _), (3, _)] hE (by decide) rfl (Nat.le_of_ble_eq_true rfl) rfl (fun X h hq => ?_)
  refine j_of (fun G hG => RM_len hG) (fun hLM => ?_)
  have hla := hLM.1 (sw a) (sw_lt a)
  have hwa := sw_lt a
  have hfma : 0 ≤ fmo a 8 ∧ fmo a 8 < 8 := by unfold fmo; omega
  have hswa : (fmo a 8).toNat = sw a := rfl
  dsimp only at *
  refine j_aload_n h 0 dX4_startsAt_0 rfl rfl ?_
  refine j_iload_n h 1 dX4_startsAt_1 rfl rfl ?_
  refine j_iload_n h 2 dX4_startsAt_2 rfl rfl ?_
  refine j_iload_n h 3 dX4_startsAt_3 rfl rfl ?_
  refine j_callV h (c_X4_stands hE ha hb hp) m_X4_stands a_l_X4_111 rfl rfl ⟨Nat.le_of_ble_eq_true rfl, Nat.le_of_ble_eq_true rfl⟩ (ci := 4) rfl (by omega) (rcM) rfl rfl (Nat.le_of_ble_eq_true rfl) dX4_startsAt_4 ?_
  exact j_zret h hq rfl (by first | exact nzb true | exact nzb false | exact nzb _) dX4_startsAt_7
set_option maxHeartbeats 400000 in
set_option maxRecDepth 20000 in
theorem c_X4_ends {E : EV} (hE : EOK E) {A : AS} {mk : List Int32} {g0 : GH} {a : Int} (ha : okI a) {b : Int} (hb : okI b) : Ct E (RM E g0) yX4_ends wsX4_ends rX4_ends [eA E 76, .int (iI a), .int (iI b)] (A, mk) (some (.int (iI (bI (bz (A.1 (sw a)) (A.1 (sw b)) (((A.1 (sw a)).length : Int) - (A.1 (sw b)).length)))))) (A, mk) := by
  refine ct_of [(0, _), (1, _), (2, _)] hE (by decide) rfl (Nat.le_of_ble_eq_true rfl) rfl (fun X h hq => ?_)
  refine j_of (fun G hG => RM_len hG) (fun hLM => ?_)
  have hla := hLM.1 (sw a) (sw_lt a)
  have hwa := sw_lt a
  have hfma : 0 ≤ fmo a 8 ∧ fmo a 8 < 8 := by unfold fmo; omega
  have hswa : (fmo a 8).toNat = sw a := rfl
  have hlb := hLM.1 (sw b) (sw_lt b)
  have hwb := sw_lt b
  have hfmb : 0 ≤ fmo b 8 ∧ fmo b 8 < 8 := by unfold fmo; omega
  have hswb : (fmo b 8).toNat = sw b := rfl
  dsimp only at *
  refine j_aload_n h 0 dX4_ends_0 rfl rfl ?_
  refine j_iload_n h 1 dX4_ends_1 rfl rfl ?_
  refine j_iload_n h 2 dX4_ends_2 rfl rfl ?_
  refine j_aload_n h 0 dX4_ends_3 rfl rfl ?_
  refine j_iload_n h 1 dX4_ends_4 rfl rfl ?_
  refine j_callV h (c_X4_sizeOf hE ha) m_X4_sizeOf a_l_X4_67 rfl rfl ⟨Nat.le_of_ble_eq_true rfl, Nat.le_of_ble_eq_true rfl⟩ (ci := 4) rfl (by omega) (rcM) rfl rfl (Nat.le_of_ble_eq_true rfl) dX4_ends_5 ?_
  refine j_aload_n h 0 dX4_ends_8 rfl rfl ?_
  refine j_iload_n h 2 dX4_ends_9 rfl rfl ?_
  refine j_callV h (c_X4_sizeOf hE hb) m_X4_sizeOf a_l_X4_67 rfl rfl ⟨Nat.le_of_ble_eq_true rfl, Nat.le_of_ble_eq_true rfl⟩ (ci := 4) rfl (by omega) (rcM) rfl rfl (Nat.le_of_ble_eq_true rfl) dX4_ends_10 ?_
  refine j_isub h dX4_ends_13 ?_
  refine j_callV h (c_X4_stands hE ha hb (by unfold okI; omega)) m_X4_stands a_l_X4_111 rfl rfl ⟨Nat.le_of_ble_eq_true rfl, Nat.le_of_ble_eq_true rfl⟩ (ci := 4) rfl (by omega) (rcM) rfl rfl (Nat.le_of_ble_eq_true rfl) dX4_ends_14 ?_
  exact j_zret h hq rfl (by first | exact nzb true | exact nzb false | exact nzb _) dX4_ends_17
set_option maxHeartbeats 400000 in
set_option maxRecDepth 20000 in
theorem c_isRegion_true {E : EV} (hE : EOK E) {A : AS} {mk : List Int32} {g0 : GH} {a : Int} (ha : okI a) {p : Int} (hp : okI p) {b : Int} (hb : okI b) {q : Int} (hq0 : okI q) {n : Int} (hn : okI n) : Ct E (RM E g0) yX4_isRegion wsX4_isRegion rX4_isRegion [eA E 76, .int (iI a), .int (iI p), .int (iI b), .int (iI q), .int (iI n), .int (iI 0)] (A, mk) (some (.int (iI (bI (agr true (A.1 (sw a)) (A.1 (sw b)) p q n))))) (A, mk) := by
  refine ct_of [(0, _), (1, _), (2, _), (3, _), (4, _), (5, _), (6, _)] hE (by decide) rfl (Nat.le_of_ble_eq_true rfl) rfl (fun X h hq => ?_)
  refine j_of (fun G hG => RM_len hG) (fun hLM => ?_)
  have hla := hLM.1 (sw a) (sw_lt a)
  have hwa := sw_lt a
  have hfma : 0 ≤ fmo a 8 ∧ fmo a 8 < 8 := by unfold fmo; omega
  have hswa : (fmo a 8).toNat = sw a := rfl
  have hlb := hLM.1 (sw b) (sw_lt b)
  have hwb := sw_lt b
  have hfmb : 0 ≤ fmo b 8 ∧ fmo b 8 < 8 := by unfold fmo; omega
  have hswb : (fmo b 8).toNat = sw b := rfl
  dsimp only at *
  have hp2 := hp
  have hq2 := hq0
  have hn2 := hn
  unfold okI at hp2 hq2 hn2
  refine j_iload_n h 2 dX4_isRegion_0 rfl rfl ?_
  refine j_if_lt h 42 dX4_isRegion_1 (by decide) (by first | exact okI_of _ | exact okI_b _ | exact okI_sgz _ _ | assumption | (unfold okI; omega)) (fun c1 => ?_) (fun c1 => ?_)
  · refine j_iconst h dX4_isRegion_42 ?_
    exact j_zret h hq (bf (by unfold agr; rw [decide_eq_false (by omega)]; rfl)) (by first | exact nzb true | exact nzb false | exact nzb _) dX4_isRegion_43
  · refine j_iload h 4 dX4_isRegion_4 rfl ?_
    refine j_if_lt h 42 dX4_isRegion_6 (by decide) (by first | exact okI_of _ | exact okI_b _ | exact okI_sgz _ _ | assumption | (unfold okI; omega)) (fun c6 => ?_) (fun c6 => ?_)
    · refine j_iconst h dX4_isRegion_42 ?_
      exact j_zret h hq (bf (by unfold agr; rw [decide_eq_false (by omega)]; rfl)) (by first | exact nzb true | exact nzb false | exact nzb _) dX4_isRegion_43
    · refine j_iload_n h 2 dX4_isRegion_9 rfl rfl ?_
      refine j_i2l h (lI p) dX4_isRegion_10 (iI_i2l hp) ?_
      refine j_iload h 5 dX4_isRegion_11 rfl ?_
      refine j_i2l h (lI n) dX4_isRegion_13 (iI_i2l hn) ?_
      refine j_ladd h dX4_isRegion_14 ?_
      refine j_aload_n h 0 dX4_isRegion_15 rfl rfl ?_
      refine j_iload_n h 1 dX4_isRegion_16 rfl rfl ?_
      refine j_callV h (c_X4_sizeOf hE ha) m_X4_sizeOf a_l_X4_67 rfl rfl ⟨Nat.le_of_ble_eq_true rfl, Nat.le_of_ble_eq_true rfl⟩ (ci := 4) rfl (by omega) (rcM) rfl rfl (Nat.le_of_ble_eq_true rfl) dX4_isRegion_17 ?_
      refine j_i2l h (lI (A.1 (sw a)).length) dX4_isRegion_20 (iI_i2l (by unfold okI; omega)) ?_
      refine j_lcmp h (iI (sgz (p + n) (A.1 (sw a)).length)) dX4_isRegion_21 (lg_cmp_lI (by unfold okL; omega) (by unfold okL; omega)) ?_
      refine j_if_gt h 42 dX4_isRegion_22 (by decide) (by first | exact okI_of _ | exact okI_b _ | exact okI_sgz _ _ | assumption | (unfold okI; omega)) (fun c22 => ?_) (fun c22 => ?_)
      · rw [sgz_gt] at c22
        refine j_iconst h dX4_isRegion_42 ?_
        exact j_zret h hq (bf (by unfold agr; rw [decide_eq_false (by omega)]; rfl)) (by first | exact nzb true | exact nzb false | exact nzb _) dX4_isRegion_43
      · have c22b := c22
        rw [sgz_le] at c22b
        refine j_iload h 4 dX4_isRegion_25 rfl ?_
        refine j_i2l h (lI q) dX4_isRegion_27 (iI_i2l hq0) ?_
        refine j_iload h 5 dX4_isRegion_28 rfl ?_
        refine j_i2l h (lI n) dX4_isRegion_30 (iI_i2l hn) ?_
        refine j_ladd h dX4_isRegion_31 ?_
        refine j_aload_n h 0 dX4_isRegion_32 rfl rfl ?_
        refine j_iload_n h 3 dX4_isRegion_33 rfl rfl ?_
        refine j_callV h (c_X4_sizeOf hE hb) m_X4_sizeOf a_l_X4_67 rfl rfl ⟨Nat.le_of_ble_eq_true rfl, Nat.le_of_ble_eq_true rfl⟩ (ci := 4) rfl (by omega) (rcM) rfl rfl (Nat.le_of_ble_eq_true rfl) dX4_isRegion_34 ?_
        refine j_i2l h (lI (A.1 (sw b)).length) dX4_isRegion_37 (iI_i2l (by unfold okI; omega)) ?_
        refine j_lcmp h (iI (sgz (q + n) (A.1 (sw b)).length)) dX4_isRegion_38 (lg_cmp_lI (by unfold okL; omega) (by unfold okL; omega)) ?_
        refine j_if_le h 44 dX4_isRegion_39 (by decide) (by first | exact okI_of _ | exact okI_b _ | exact okI_sgz _ _ | assumption | (unfold okI; omega)) (fun c39 => ?_) (fun c39 => ?_)
        · rw [sgz_le] at c39
          refine j_iconst h dX4_isRegion_44 ?_
          refine j_istore h [(7, _), (0, _), (1, _), (2, _), (3, _), (4, _), (5, _), (6, _)] dX4_isRegion_45 (by decide) rfl ?_
          refine j_iconst h dX4_isRegion_47 ?_
          refine j_istore h [(8, _), (7, _), (0, _), (1, _), (2, _), (3, _), (4, _), (5, _), (6, _)] dX4_isRegion_48 (by decide) rfl ?_
          refine j_sub [0, 1, 2, 3, 4, 5, 6, 7, 8] rfl ?_
          refine lpA2 (fun (z : Int) (C2 : Bool) => (n - z).toNat) (fun (z : Int) (C2 : Bool) => 0 ≤ z → (z = 0 ∨ z ≤ n) → agr true (A.1 (sw a)) (A.1 (sw b)) p q n = (C2 && eqs true (A.1 (sw a)) (A.1 (sw b)) (p + z).toNat (q + z).toNat (n - z).toNat) → JL E (RM E g0) X 50 [(8, .int (iI z)), (7, .int (iI (bI C2))), (0, eA E 76), (1, .int (iI a)), (2, .int (iI p)), (3, .int (iI b)), (4, .int (iI q)), (5, .int (iI n)), (6, .int (iI 0))] [] (A, mk)) (fun z C2 ih h0 hzb hv => ?_) 0 true (Int.le_refl 0) (Or.inl rfl) (by unfold agr; rw [decide_eq_true (by omega), Bool.true_and]; simp)
          refine j_iload h 0 dX4_isRegion_50 rfl ?_
          refine j_iload h 7 dX4_isRegion_52 rfl ?_
          refine j_icmp_ge h 131 dX4_isRegion_54 (by decide) (by first | exact okI_of _ | exact okI_b _ | exact okI_sgz _ _ | assumption | (unfold okI; omega)) (by first | exact okI_of _ | exact okI_b _ | exact okI_sgz _ _ | assumption | (unfold okI; omega)) (fun c54 => ?_) (fun c54 => ?_)
          · refine j_iload h 1 dX4_isRegion_131 rfl ?_
            have e : agr true (A.1 (sw a)) (A.1 (sw b)) p q n = C2 := by rw [hv]; cases C2 with | false => rfl | true => (rw [show (n - z).toNat = 0 by first | omega | exact absurd c59 (by decide)]; rfl)
            rw [e] at hq
            exact j_zret h hq rfl (nzb _) dX4_isRegion_133
          · refine j_iload h 1 dX4_isRegion_57 rfl ?_
            refine j_if_eq h 131 dX4_isRegion_59 (by decide) (by first | exact okI_of _ | exact okI_b _ | exact okI_sgz _ _ | assumption | (unfold okI; omega)) (fun c59 => ?_) (fun c59 => ?_)
            · rw [bI_0] at c59
              refine j_iload h 1 dX4_isRegion_131 rfl ?_
              have e : agr true (A.1 (sw a)) (A.1 (sw b)) p q n = C2 := by rw [hv]; cases C2 with | false => rfl | true => (rw [show (n - z).toNat = 0 by first | omega | exact absurd c59 (by decide)]; rfl)
              rw [e] at hq
              exact j_zret h hq rfl (nzb _) dX4_isRegion_133
            · rw [bI_n0] at c59
              refine j_aload_n h 2 dX4_isRegion_62 rfl rfl ?_
              refine j_iload_n h 3 dX4_isRegion_63 rfl rfl ?_
              refine j_iload_n h 4 dX4_isRegion_64 rfl rfl ?_
              refine j_iload h 0 dX4_isRegion_65 rfl ?_
              refine j_iadd h dX4_isRegion_67 ?_
              refine j_callV h (c_X4_signAt hE ha (by omega) (by omega)) m_X4_signAt a_l_X4_58 rfl rfl ⟨Nat.le_of_ble_eq_true rfl, Nat.le_of_ble_eq_true rfl⟩ (ci := 4) rfl (by omega) (rcM) rfl rfl (Nat.le_of_ble_eq_true rfl) dX4_isRegion_68 ?_
              refine j_istore h [(9, _), (8, _), (7, _), (0, _), (1, _), (2, _), (3, _), (4, _), (5, _), (6, _)] dX4_isRegion_71 (by decide) rfl ?_
              refine j_aload_n h 3 dX4_isRegion_73 rfl rfl ?_
              refine j_iload_n h 6 dX4_isRegion_74 rfl rfl ?_
              refine j_iload h 7 dX4_isRegion_75 rfl ?_
              refine j_iload h 1 dX4_isRegion_77 rfl ?_
              refine j_iadd h dX4_isRegion_79 ?_
              refine j_callV h (c_X4_signAt hE hb (by omega) (by omega)) m_X4_signAt a_l_X4_58 rfl rfl ⟨Nat.le_of_ble_eq_true rfl, Nat.le_of_ble_eq_true rfl⟩ (ci := 4) rfl (by omega) (rcM) rfl rfl (Nat.le_of_ble_eq_true rfl) dX4_isRegion_80 ?_
              refine j_istore h [(10, _), (9, _), (8, _), (7, _), (0, _), (1, _), (2, _), (3, _), (4, _), (5, _), (6, _)] dX4_isRegion_83 (by decide) rfl ?_
              refine j_iload h 10 dX4_isRegion_85 rfl ?_
              refine j_if_eq h 111 dX4_isRegion_87 (by decide) (by first | exact okI_of _ | exact okI_b _ | exact okI_sgz _ _ | assumption | (unfold okI; omega)) (fun c87 => ?_) (fun c87 => ?_)
              · refine j_iload h 1 dX4_isRegion_111 rfl ?_
                refine j_iload h 0 dX4_isRegion_113 rfl ?_
                refine j_rcmp_ne h 122 dX4_isRegion_115 (by decide) (fun c115 => ?_) (fun c115 => ?_)
                · refine j_iconst h dX4_isRegion_122 ?_
                  refine j_istore h [(7, _), (10, _), (9, _), (8, _), (0, _), (1, _), (2, _), (3, _), (4, _), (5, _), (6, _)] dX4_isRegion_123 (by decide) rfl ?_
                  refine j_iinc h 3 [(8, _), (7, _), (10, _), (9, _), (0, _), (1, _), (2, _), (3, _), (4, _), (5, _), (6, _)] dX4_isRegion_125 rfl (by decide) rfl ?_
                  refine j_goto h 50 dX4_isRegion_128 (by decide) ?_
                  refine j_sub [0, 1, 4, 5, 6, 7, 8, 9, 10] rfl ?_
                  rw [c59, Bool.true_and, show (n - z).toNat = (n - (z + 1)).toNat + 1 by omega, eqs, show (p + z).toNat + 1 = (p + (z + 1)).toNat by omega, show (q + z).toNat + 1 = (q + (z + 1)).toNat by omega] at hv
                  rw [tl_t, tl_t] at hv
                  first | (rw [decide_eq_true c115] at hv; exact ih (z + 1) true (by omega) (by omega) (by omega) hv) | (rw [decide_eq_false c115] at hv; exact ih (z + 1) false (by omega) (by omega) (by omega) hv)
                · refine j_iconst h dX4_isRegion_118 ?_
                  refine j_goto h 123 dX4_isRegion_119 (by decide) ?_
                  refine j_istore h [(7, _), (10, _), (9, _), (8, _), (0, _), (1, _), (2, _), (3, _), (4, _), (5, _), (6, _)] dX4_isRegion_123 (by decide) rfl ?_
                  refine j_iinc h 3 [(8, _), (7, _), (10, _), (9, _), (0, _), (1, _), (2, _), (3, _), (4, _), (5, _), (6, _)] dX4_isRegion_125 rfl (by decide) rfl ?_
                  refine j_goto h 50 dX4_isRegion_128 (by decide) ?_
                  refine j_sub [0, 1, 4, 5, 6, 7, 8, 9, 10] rfl ?_
                  rw [c59, Bool.true_and, show (n - z).toNat = (n - (z + 1)).toNat + 1 by omega, eqs, show (p + z).toNat + 1 = (p + (z + 1)).toNat by omega, show (q + z).toNat + 1 = (q + (z + 1)).toNat by omega] at hv
                  rw [tl_t, tl_t] at hv
                  first | (rw [decide_eq_true c115] at hv; exact ih (z + 1) true (by omega) (by omega) (by omega) hv) | (rw [decide_eq_false c115] at hv; exact ih (z + 1) false (by omega) (by omega) (by omega) hv)
              · exact absurd rfl c87
        · have c39b : ¬ sgz (q + n) (A.1 (sw b)).length ≤ 0 := by omega
          rw [sgz_le] at c39b
          refine j_iconst h dX4_isRegion_42 ?_
          exact j_zret h hq (bf (by unfold agr; rw [decide_eq_false (by omega)]; rfl)) (by first | exact nzb true | exact nzb false | exact nzb _) dX4_isRegion_43
set_option maxHeartbeats 400000 in
set_option maxRecDepth 20000 in
theorem c_isRegion_false {E : EV} (hE : EOK E) {A : AS} {mk : List Int32} {g0 : GH} {a : Int} (ha : okI a) {p : Int} (hp : okI p) {b : Int} (hb : okI b) {q : Int} (hq0 : okI q) {n : Int} (hn : okI n) : Ct E (RM E g0) yX4_isRegion wsX4_isRegion rX4_isRegion [eA E 76, .int (iI a), .int (iI p), .int (iI b), .int (iI q), .int (iI n), .int (iI 1)] (A, mk) (some (.int (iI (bI (agr false (A.1 (sw a)) (A.1 (sw b)) p q n))))) (A, mk) := by
  refine ct_of [(0, _), (1, _), (2, _), (3, _), (4, _), (5, _), (6, _)] hE (by decide) rfl (Nat.le_of_ble_eq_true rfl) rfl (fun X h hq => ?_)
  refine j_of (fun G hG => RM_len hG) (fun hLM => ?_)
  have hla := hLM.1 (sw a) (sw_lt a)
  have hwa := sw_lt a
  have hfma : 0 ≤ fmo a 8 ∧ fmo a 8 < 8 := by unfold fmo; omega
  have hswa : (fmo a 8).toNat = sw a := rfl
  have hlb := hLM.1 (sw b) (sw_lt b)
  have hwb := sw_lt b
  have hfmb : 0 ≤ fmo b 8 ∧ fmo b 8 < 8 := by unfold fmo; omega
  have hswb : (fmo b 8).toNat = sw b := rfl
  dsimp only at *
  have hp2 := hp
  have hq2 := hq0
  have hn2 := hn
  unfold okI at hp2 hq2 hn2
  refine j_iload_n h 2 dX4_isRegion_0 rfl rfl ?_
  refine j_if_lt h 42 dX4_isRegion_1 (by decide) (by first | exact okI_of _ | exact okI_b _ | exact okI_sgz _ _ | assumption | (unfold okI; omega)) (fun c1 => ?_) (fun c1 => ?_)
  · refine j_iconst h dX4_isRegion_42 ?_
    exact j_zret h hq (bf (by unfold agr; rw [decide_eq_false (by omega)]; rfl)) (by first | exact nzb true | exact nzb false | exact nzb _) dX4_isRegion_43
  · refine j_iload h 4 dX4_isRegion_4 rfl ?_
    refine j_if_lt h 42 dX4_isRegion_6 (by decide) (by first | exact okI_of _ | exact okI_b _ | exact okI_sgz _ _ | assumption | (unfold okI; omega)) (fun c6 => ?_) (fun c6 => ?_)
    · refine j_iconst h dX4_isRegion_42 ?_
      exact j_zret h hq (bf (by unfold agr; rw [decide_eq_false (by omega)]; rfl)) (by first | exact nzb true | exact nzb false | exact nzb _) dX4_isRegion_43
    · refine j_iload_n h 2 dX4_isRegion_9 rfl rfl ?_
      refine j_i2l h (lI p) dX4_isRegion_10 (iI_i2l hp) ?_
      refine j_iload h 5 dX4_isRegion_11 rfl ?_
      refine j_i2l h (lI n) dX4_isRegion_13 (iI_i2l hn) ?_
      refine j_ladd h dX4_isRegion_14 ?_
      refine j_aload_n h 0 dX4_isRegion_15 rfl rfl ?_
      refine j_iload_n h 1 dX4_isRegion_16 rfl rfl ?_
      refine j_callV h (c_X4_sizeOf hE ha) m_X4_sizeOf a_l_X4_67 rfl rfl ⟨Nat.le_of_ble_eq_true rfl, Nat.le_of_ble_eq_true rfl⟩ (ci := 4) rfl (by omega) (rcM) rfl rfl (Nat.le_of_ble_eq_true rfl) dX4_isRegion_17 ?_
      refine j_i2l h (lI (A.1 (sw a)).length) dX4_isRegion_20 (iI_i2l (by unfold okI; omega)) ?_
      refine j_lcmp h (iI (sgz (p + n) (A.1 (sw a)).length)) dX4_isRegion_21 (lg_cmp_lI (by unfold okL; omega) (by unfold okL; omega)) ?_
      refine j_if_gt h 42 dX4_isRegion_22 (by decide) (by first | exact okI_of _ | exact okI_b _ | exact okI_sgz _ _ | assumption | (unfold okI; omega)) (fun c22 => ?_) (fun c22 => ?_)
      · rw [sgz_gt] at c22
        refine j_iconst h dX4_isRegion_42 ?_
        exact j_zret h hq (bf (by unfold agr; rw [decide_eq_false (by omega)]; rfl)) (by first | exact nzb true | exact nzb false | exact nzb _) dX4_isRegion_43
      · have c22b := c22
        rw [sgz_le] at c22b
        refine j_iload h 4 dX4_isRegion_25 rfl ?_
        refine j_i2l h (lI q) dX4_isRegion_27 (iI_i2l hq0) ?_
        refine j_iload h 5 dX4_isRegion_28 rfl ?_
        refine j_i2l h (lI n) dX4_isRegion_30 (iI_i2l hn) ?_
        refine j_ladd h dX4_isRegion_31 ?_
        refine j_aload_n h 0 dX4_isRegion_32 rfl rfl ?_
        refine j_iload_n h 3 dX4_isRegion_33 rfl rfl ?_
        refine j_callV h (c_X4_sizeOf hE hb) m_X4_sizeOf a_l_X4_67 rfl rfl ⟨Nat.le_of_ble_eq_true rfl, Nat.le_of_ble_eq_true rfl⟩ (ci := 4) rfl (by omega) (rcM) rfl rfl (Nat.le_of_ble_eq_true rfl) dX4_isRegion_34 ?_
        refine j_i2l h (lI (A.1 (sw b)).length) dX4_isRegion_37 (iI_i2l (by unfold okI; omega)) ?_
        refine j_lcmp h (iI (sgz (q + n) (A.1 (sw b)).length)) dX4_isRegion_38 (lg_cmp_lI (by unfold okL; omega) (by unfold okL; omega)) ?_
        refine j_if_le h 44 dX4_isRegion_39 (by decide) (by first | exact okI_of _ | exact okI_b _ | exact okI_sgz _ _ | assumption | (unfold okI; omega)) (fun c39 => ?_) (fun c39 => ?_)
        · rw [sgz_le] at c39
          refine j_iconst h dX4_isRegion_44 ?_
          refine j_istore h [(7, _), (0, _), (1, _), (2, _), (3, _), (4, _), (5, _), (6, _)] dX4_isRegion_45 (by decide) rfl ?_
          refine j_iconst h dX4_isRegion_47 ?_
          refine j_istore h [(8, _), (7, _), (0, _), (1, _), (2, _), (3, _), (4, _), (5, _), (6, _)] dX4_isRegion_48 (by decide) rfl ?_
          refine j_sub [0, 1, 2, 3, 4, 5, 6, 7, 8] rfl ?_
          refine lpA2 (fun (z : Int) (C2 : Bool) => (n - z).toNat) (fun (z : Int) (C2 : Bool) => 0 ≤ z → (z = 0 ∨ z ≤ n) → agr false (A.1 (sw a)) (A.1 (sw b)) p q n = (C2 && eqs false (A.1 (sw a)) (A.1 (sw b)) (p + z).toNat (q + z).toNat (n - z).toNat) → JL E (RM E g0) X 50 [(8, .int (iI z)), (7, .int (iI (bI C2))), (0, eA E 76), (1, .int (iI a)), (2, .int (iI p)), (3, .int (iI b)), (4, .int (iI q)), (5, .int (iI n)), (6, .int (iI 1))] [] (A, mk)) (fun z C2 ih h0 hzb hv => ?_) 0 true (Int.le_refl 0) (Or.inl rfl) (by unfold agr; rw [decide_eq_true (by omega), Bool.true_and]; simp)
          refine j_iload h 0 dX4_isRegion_50 rfl ?_
          refine j_iload h 7 dX4_isRegion_52 rfl ?_
          refine j_icmp_ge h 131 dX4_isRegion_54 (by decide) (by first | exact okI_of _ | exact okI_b _ | exact okI_sgz _ _ | assumption | (unfold okI; omega)) (by first | exact okI_of _ | exact okI_b _ | exact okI_sgz _ _ | assumption | (unfold okI; omega)) (fun c54 => ?_) (fun c54 => ?_)
          · refine j_iload h 1 dX4_isRegion_131 rfl ?_
            have e : agr false (A.1 (sw a)) (A.1 (sw b)) p q n = C2 := by rw [hv]; cases C2 with | false => rfl | true => (rw [show (n - z).toNat = 0 by first | omega | exact absurd c59 (by decide)]; rfl)
            rw [e] at hq
            exact j_zret h hq rfl (nzb _) dX4_isRegion_133
          · refine j_iload h 1 dX4_isRegion_57 rfl ?_
            refine j_if_eq h 131 dX4_isRegion_59 (by decide) (by first | exact okI_of _ | exact okI_b _ | exact okI_sgz _ _ | assumption | (unfold okI; omega)) (fun c59 => ?_) (fun c59 => ?_)
            · rw [bI_0] at c59
              refine j_iload h 1 dX4_isRegion_131 rfl ?_
              have e : agr false (A.1 (sw a)) (A.1 (sw b)) p q n = C2 := by rw [hv]; cases C2 with | false => rfl | true => (rw [show (n - z).toNat = 0 by first | omega | exact absurd c59 (by decide)]; rfl)
              rw [e] at hq
              exact j_zret h hq rfl (nzb _) dX4_isRegion_133
            · rw [bI_n0] at c59
              refine j_aload_n h 2 dX4_isRegion_62 rfl rfl ?_
              refine j_iload_n h 3 dX4_isRegion_63 rfl rfl ?_
              refine j_iload_n h 4 dX4_isRegion_64 rfl rfl ?_
              refine j_iload h 0 dX4_isRegion_65 rfl ?_
              refine j_iadd h dX4_isRegion_67 ?_
              refine j_callV h (c_X4_signAt hE ha (by omega) (by omega)) m_X4_signAt a_l_X4_58 rfl rfl ⟨Nat.le_of_ble_eq_true rfl, Nat.le_of_ble_eq_true rfl⟩ (ci := 4) rfl (by omega) (rcM) rfl rfl (Nat.le_of_ble_eq_true rfl) dX4_isRegion_68 ?_
              refine j_istore h [(9, _), (8, _), (7, _), (0, _), (1, _), (2, _), (3, _), (4, _), (5, _), (6, _)] dX4_isRegion_71 (by decide) rfl ?_
              refine j_aload_n h 3 dX4_isRegion_73 rfl rfl ?_
              refine j_iload_n h 6 dX4_isRegion_74 rfl rfl ?_
              refine j_iload h 7 dX4_isRegion_75 rfl ?_
              refine j_iload h 1 dX4_isRegion_77 rfl ?_
              refine j_iadd h dX4_isRegion_79 ?_
              refine j_callV h (c_X4_signAt hE hb (by omega) (by omega)) m_X4_signAt a_l_X4_58 rfl rfl ⟨Nat.le_of_ble_eq_true rfl, Nat.le_of_ble_eq_true rfl⟩ (ci := 4) rfl (by omega) (rcM) rfl rfl (Nat.le_of_ble_eq_true rfl) dX4_isRegion_80 ?_
              refine j_istore h [(10, _), (9, _), (8, _), (7, _), (0, _), (1, _), (2, _), (3, _), (4, _), (5, _), (6, _)] dX4_isRegion_83 (by decide) rfl ?_
              refine j_iload h 10 dX4_isRegion_85 rfl ?_
              refine j_if_eq h 111 dX4_isRegion_87 (by decide) (by first | exact okI_of _ | exact okI_b _ | exact okI_sgz _ _ | assumption | (unfold okI; omega)) (fun c87 => ?_) (fun c87 => ?_)
              · exact absurd c87 (by decide)
              · refine j_iload h 1 dX4_isRegion_90 rfl ?_
                refine j_callS h (c_small_raw hE _) m_X4_small a_l_X4_120 rfl rfl ⟨Nat.le_of_ble_eq_true rfl, Nat.le_of_ble_eq_true rfl⟩ rfl rfl (Nat.le_of_ble_eq_true rfl) dX4_isRegion_92 ?_
                refine j_iload h 0 dX4_isRegion_95 rfl ?_
                refine j_callS h (c_small_raw hE _) m_X4_small a_l_X4_120 rfl rfl ⟨Nat.le_of_ble_eq_true rfl, Nat.le_of_ble_eq_true rfl⟩ rfl rfl (Nat.le_of_ble_eq_true rfl) dX4_isRegion_97 ?_
                refine j_rcmp_ne h 107 dX4_isRegion_100 (by decide) (fun c100 => ?_) (fun c100 => ?_)
                · refine j_iconst h dX4_isRegion_107 ?_
                  refine j_goto h 123 dX4_isRegion_108 (by decide) ?_
                  refine j_istore h [(7, _), (10, _), (9, _), (8, _), (0, _), (1, _), (2, _), (3, _), (4, _), (5, _), (6, _)] dX4_isRegion_123 (by decide) rfl ?_
                  refine j_iinc h 3 [(8, _), (7, _), (10, _), (9, _), (0, _), (1, _), (2, _), (3, _), (4, _), (5, _), (6, _)] dX4_isRegion_125 rfl (by decide) rfl ?_
                  refine j_goto h 50 dX4_isRegion_128 (by decide) ?_
                  refine j_sub [0, 1, 4, 5, 6, 7, 8, 9, 10] rfl ?_
                  rw [c59, Bool.true_and, show (n - z).toNat = (n - (z + 1)).toNat + 1 by omega, eqs, show (p + z).toNat + 1 = (p + (z + 1)).toNat by omega, show (q + z).toNat + 1 = (q + (z + 1)).toNat by omega] at hv
                  first | (rw [decide_eq_true c100] at hv; exact ih (z + 1) true (by omega) (by omega) (by omega) hv) | (rw [decide_eq_false c100] at hv; exact ih (z + 1) false (by omega) (by omega) (by omega) hv)
                · refine j_iconst h dX4_isRegion_103 ?_
                  refine j_goto h 123 dX4_isRegion_104 (by decide) ?_
                  refine j_istore h [(7, _), (10, _), (9, _), (8, _), (0, _), (1, _), (2, _), (3, _), (4, _), (5, _), (6, _)] dX4_isRegion_123 (by decide) rfl ?_
                  refine j_iinc h 3 [(8, _), (7, _), (10, _), (9, _), (0, _), (1, _), (2, _), (3, _), (4, _), (5, _), (6, _)] dX4_isRegion_125 rfl (by decide) rfl ?_
                  refine j_goto h 50 dX4_isRegion_128 (by decide) ?_
                  refine j_sub [0, 1, 4, 5, 6, 7, 8, 9, 10] rfl ?_
                  rw [c59, Bool.true_and, show (n - z).toNat = (n - (z + 1)).toNat + 1 by omega, eqs, show (p + z).toNat + 1 = (p + (z + 1)).toNat by omega, show (q + z).toNat + 1 = (q + (z + 1)).toNat by omega] at hv
                  first | (rw [decide_eq_true c100] at hv; exact ih (z + 1) true (by omega) (by omega) (by omega) hv) | (rw [decide_eq_false c100] at hv; exact ih (z + 1) false (by omega) (by omega) (by omega) hv)
        · have c39b : ¬ sgz (q + n) (A.1 (sw b)).length ≤ 0 := by omega
          rw [sgz_le] at c39b
          refine j_iconst h dX4_isRegion_42 ?_
          exact j_zret h hq (bf (by unfold agr; rw [decide_eq_false (by omega)]; rfl)) (by first | exact nzb true | exact nzb false | exact nzb _) dX4_isRegion_43
set_option maxHeartbeats 400000 in
set_option maxRecDepth 20000 in
theorem c_X4_region {E : EV} (hE : EOK E) {A : AS} {mk : List Int32} {g0 : GH} {a : Int} (ha : okI a) {p : Int} (hp : okI p) {b : Int} (hb : okI b) {q : Int} (hq0 : okI q) {n : Int} (hn : okI n) : Ct E (RM E g0) yX4_region wsX4_region rX4_region [eA E 76, .int (iI a), .int (iI p), .int (iI b), .int (iI q), .int (iI n)] (A, mk) (some (.int (iI (bI (agr true (A.1 (sw a)) (A.1 (sw b)) p q n))))) (A, mk) := by
  refine ct_of [(0, _), (1, _), (2, _), (3, _), (4, _), (5, _)] hE (by decide) rfl (Nat.le_of_ble_eq_true rfl) rfl (fun X h hq => ?_)
  refine j_of (fun G hG => RM_len hG) (fun hLM => ?_)
  have hla := hLM.1 (sw a) (sw_lt a)
  have hwa := sw_lt a
  have hfma : 0 ≤ fmo a 8 ∧ fmo a 8 < 8 := by unfold fmo; omega
  have hswa : (fmo a 8).toNat = sw a := rfl
  dsimp only at *
  refine j_aload_n h 0 dX4_region_0 rfl rfl ?_
  refine j_iload_n h 1 dX4_region_1 rfl rfl ?_
  refine j_iload_n h 2 dX4_region_2 rfl rfl ?_
  refine j_iload_n h 3 dX4_region_3 rfl rfl ?_
  refine j_iload h 4 dX4_region_4 rfl ?_
  refine j_iload h 5 dX4_region_6 rfl ?_
  refine j_iconst h dX4_region_8 ?_
  refine j_callV h (c_isRegion_true hE ha hp hb hq0 hn) m_X4_isRegion a_l_X4_123 rfl rfl ⟨Nat.le_of_ble_eq_true rfl, Nat.le_of_ble_eq_true rfl⟩ (ci := 4) rfl (by omega) (rcM) rfl rfl (Nat.le_of_ble_eq_true rfl) dX4_region_9 ?_
  exact j_zret h hq rfl (by first | exact nzb true | exact nzb false | exact nzb _) dX4_region_12
set_option maxHeartbeats 400000 in
set_option maxRecDepth 20000 in
theorem c_X4_regionAlike {E : EV} (hE : EOK E) {A : AS} {mk : List Int32} {g0 : GH} {a : Int} (ha : okI a) {p : Int} (hp : okI p) {b : Int} (hb : okI b) {q : Int} (hq0 : okI q) {n : Int} (hn : okI n) : Ct E (RM E g0) yX4_regionAlike wsX4_regionAlike rX4_regionAlike [eA E 76, .int (iI a), .int (iI p), .int (iI b), .int (iI q), .int (iI n)] (A, mk) (some (.int (iI (bI (agr false (A.1 (sw a)) (A.1 (sw b)) p q n))))) (A, mk) := by
  refine ct_of [(0, _), (1, _), (2, _), (3, _), (4, _), (5, _)] hE (by decide) rfl (Nat.le_of_ble_eq_true rfl) rfl (fun X h hq => ?_)
  refine j_of (fun G hG => RM_len hG) (fun hLM => ?_)
  have hla := hLM.1 (sw a) (sw_lt a)
  have hwa := sw_lt a
  have hfma : 0 ≤ fmo a 8 ∧ fmo a 8 < 8 := by unfold fmo; omega
  have hswa : (fmo a 8).toNat = sw a := rfl
  dsimp only at *
  refine j_aload_n h 0 dX4_regionAlike_0 rfl rfl ?_
  refine j_iload_n h 1 dX4_regionAlike_1 rfl rfl ?_
  refine j_iload_n h 2 dX4_regionAlike_2 rfl rfl ?_
  refine j_iload_n h 3 dX4_regionAlike_3 rfl rfl ?_
  refine j_iload h 4 dX4_regionAlike_4 rfl ?_
  refine j_iload h 5 dX4_regionAlike_6 rfl ?_
  refine j_iconst h dX4_regionAlike_8 ?_
  refine j_callV h (c_isRegion_false hE ha hp hb hq0 hn) m_X4_isRegion a_l_X4_123 rfl rfl ⟨Nat.le_of_ble_eq_true rfl, Nat.le_of_ble_eq_true rfl⟩ (ci := 4) rfl (by omega) (rcM) rfl rfl (Nat.le_of_ble_eq_true rfl) dX4_regionAlike_9 ?_
  exact j_zret h hq rfl (by first | exact nzb true | exact nzb false | exact nzb _) dX4_regionAlike_12
set_option maxHeartbeats 400000 in
set_option maxRecDepth 20000 in
theorem c_X4_same {E : EV} (hE : EOK E) {A : AS} {mk : List Int32} {g0 : GH} {a : Int} (ha : okI a) {b : Int} (hb : okI b) : Ct E (RM E g0) yX4_same wsX4_same rX4_same [eA E 76, .int (iI a), .int (iI b)] (A, mk) (some (.int (iI (bI (who true (A.1 (sw a)) (A.1 (sw b))))))) (A, mk) := by
  refine ct_of [(0, _), (1, _), (2, _)] hE (by decide) rfl (Nat.le_of_ble_eq_true rfl) rfl (fun X h hq => ?_)
  refine j_of (fun G hG => RM_len hG) (fun hLM => ?_)
  have hla := hLM.1 (sw a) (sw_lt a)
  have hwa := sw_lt a
  have hfma : 0 ≤ fmo a 8 ∧ fmo a 8 < 8 := by unfold fmo; omega
  have hswa : (fmo a 8).toNat = sw a := rfl
  have hlb := hLM.1 (sw b) (sw_lt b)
  have hwb := sw_lt b
  have hfmb : 0 ≤ fmo b 8 ∧ fmo b 8 < 8 := by unfold fmo; omega
  have hswb : (fmo b 8).toNat = sw b := rfl
  dsimp only at *
  refine j_aload_n h 0 dX4_same_0 rfl rfl ?_
  refine j_iload_n h 1 dX4_same_1 rfl rfl ?_
  refine j_callV h (c_X4_sizeOf hE ha) m_X4_sizeOf a_l_X4_67 rfl rfl ⟨Nat.le_of_ble_eq_true rfl, Nat.le_of_ble_eq_true rfl⟩ (ci := 4) rfl (by omega) (rcM) rfl rfl (Nat.le_of_ble_eq_true rfl) dX4_same_2 ?_
  refine j_aload_n h 0 dX4_same_5 rfl rfl ?_
  refine j_iload_n h 2 dX4_same_6 rfl rfl ?_
  refine j_callV h (c_X4_sizeOf hE hb) m_X4_sizeOf a_l_X4_67 rfl rfl ⟨Nat.le_of_ble_eq_true rfl, Nat.le_of_ble_eq_true rfl⟩ (ci := 4) rfl (by omega) (rcM) rfl rfl (Nat.le_of_ble_eq_true rfl) dX4_same_7 ?_
  refine j_icmp_ne h 34 dX4_same_10 (by decide) (by first | exact okI_of _ | exact okI_b _ | exact okI_sgz _ _ | assumption | (unfold okI; omega)) (by first | exact okI_of _ | exact okI_b _ | exact okI_sgz _ _ | assumption | (unfold okI; omega)) (fun c10 => ?_) (fun c10 => ?_)
  · refine j_iconst h dX4_same_34 ?_
    exact j_zret h hq (by first | exact bt (by unfold who; rw [decide_eq_true (by omega), c27]; rfl) | exact bf (by unfold who; rw [c27, Bool.and_false]) | exact bf (by unfold who; rw [decide_eq_false (by omega)]; rfl)) (by first | exact nzb true | exact nzb false | exact nzb _) dX4_same_35
  · refine j_aload_n h 0 dX4_same_13 rfl rfl ?_
    refine j_iload_n h 1 dX4_same_14 rfl rfl ?_
    refine j_iconst h dX4_same_15 ?_
    refine j_iload_n h 2 dX4_same_16 rfl rfl ?_
    refine j_iconst h dX4_same_17 ?_
    refine j_aload_n h 0 dX4_same_18 rfl rfl ?_
    refine j_iload_n h 1 dX4_same_19 rfl rfl ?_
    refine j_callV h (c_X4_sizeOf hE ha) m_X4_sizeOf a_l_X4_67 rfl rfl ⟨Nat.le_of_ble_eq_true rfl, Nat.le_of_ble_eq_true rfl⟩ (ci := 4) rfl (by omega) (rcM) rfl rfl (Nat.le_of_ble_eq_true rfl) dX4_same_20 ?_
    refine j_iconst h dX4_same_23 ?_
    refine j_callV h (c_isRegion_true hE ha ⟨by decide, by decide⟩ hb ⟨by decide, by decide⟩ (by unfold okI; omega)) m_X4_isRegion a_l_X4_123 rfl rfl ⟨Nat.le_of_ble_eq_true rfl, Nat.le_of_ble_eq_true rfl⟩ (ci := 4) rfl (by omega) (rcM) rfl rfl (Nat.le_of_ble_eq_true rfl) dX4_same_24 ?_
    refine j_if_eq h 34 dX4_same_27 (by decide) (by first | exact okI_of _ | exact okI_b _ | exact okI_sgz _ _ | assumption | (unfold okI; omega)) (fun c27 => ?_) (fun c27 => ?_)
    · rw [bI_0] at c27
      refine j_iconst h dX4_same_34 ?_
      exact j_zret h hq (by first | exact bt (by unfold who; rw [decide_eq_true (by omega), c27]; rfl) | exact bf (by unfold who; rw [c27, Bool.and_false]) | exact bf (by unfold who; rw [decide_eq_false (by omega)]; rfl)) (by first | exact nzb true | exact nzb false | exact nzb _) dX4_same_35
    · rw [bI_n0] at c27
      refine j_iconst h dX4_same_30 ?_
      refine j_goto h 35 dX4_same_31 (by decide) ?_
      exact j_zret h hq (by first | exact bt (by unfold who; rw [decide_eq_true (by omega), c27]; rfl) | exact bf (by unfold who; rw [c27, Bool.and_false]) | exact bf (by unfold who; rw [decide_eq_false (by omega)]; rfl)) (by first | exact nzb true | exact nzb false | exact nzb _) dX4_same_35
set_option maxHeartbeats 400000 in
set_option maxRecDepth 20000 in
theorem c_X4_alike {E : EV} (hE : EOK E) {A : AS} {mk : List Int32} {g0 : GH} {a : Int} (ha : okI a) {b : Int} (hb : okI b) : Ct E (RM E g0) yX4_alike wsX4_alike rX4_alike [eA E 76, .int (iI a), .int (iI b)] (A, mk) (some (.int (iI (bI (who false (A.1 (sw a)) (A.1 (sw b))))))) (A, mk) := by
  refine ct_of [(0, _), (1, _), (2, _)] hE (by decide) rfl (Nat.le_of_ble_eq_true rfl) rfl (fun X h hq => ?_)
  refine j_of (fun G hG => RM_len hG) (fun hLM => ?_)
  have hla := hLM.1 (sw a) (sw_lt a)
  have hwa := sw_lt a
  have hfma : 0 ≤ fmo a 8 ∧ fmo a 8 < 8 := by unfold fmo; omega
  have hswa : (fmo a 8).toNat = sw a := rfl
  have hlb := hLM.1 (sw b) (sw_lt b)
  have hwb := sw_lt b
  have hfmb : 0 ≤ fmo b 8 ∧ fmo b 8 < 8 := by unfold fmo; omega
  have hswb : (fmo b 8).toNat = sw b := rfl
  dsimp only at *
  refine j_aload_n h 0 dX4_alike_0 rfl rfl ?_
  refine j_iload_n h 1 dX4_alike_1 rfl rfl ?_
  refine j_callV h (c_X4_sizeOf hE ha) m_X4_sizeOf a_l_X4_67 rfl rfl ⟨Nat.le_of_ble_eq_true rfl, Nat.le_of_ble_eq_true rfl⟩ (ci := 4) rfl (by omega) (rcM) rfl rfl (Nat.le_of_ble_eq_true rfl) dX4_alike_2 ?_
  refine j_aload_n h 0 dX4_alike_5 rfl rfl ?_
  refine j_iload_n h 2 dX4_alike_6 rfl rfl ?_
  refine j_callV h (c_X4_sizeOf hE hb) m_X4_sizeOf a_l_X4_67 rfl rfl ⟨Nat.le_of_ble_eq_true rfl, Nat.le_of_ble_eq_true rfl⟩ (ci := 4) rfl (by omega) (rcM) rfl rfl (Nat.le_of_ble_eq_true rfl) dX4_alike_7 ?_
  refine j_icmp_ne h 34 dX4_alike_10 (by decide) (by first | exact okI_of _ | exact okI_b _ | exact okI_sgz _ _ | assumption | (unfold okI; omega)) (by first | exact okI_of _ | exact okI_b _ | exact okI_sgz _ _ | assumption | (unfold okI; omega)) (fun c10 => ?_) (fun c10 => ?_)
  · refine j_iconst h dX4_alike_34 ?_
    exact j_zret h hq (by first | exact bt (by unfold who; rw [decide_eq_true (by omega), c27]; rfl) | exact bf (by unfold who; rw [c27, Bool.and_false]) | exact bf (by unfold who; rw [decide_eq_false (by omega)]; rfl)) (by first | exact nzb true | exact nzb false | exact nzb _) dX4_alike_35
  · refine j_aload_n h 0 dX4_alike_13 rfl rfl ?_
    refine j_iload_n h 1 dX4_alike_14 rfl rfl ?_
    refine j_iconst h dX4_alike_15 ?_
    refine j_iload_n h 2 dX4_alike_16 rfl rfl ?_
    refine j_iconst h dX4_alike_17 ?_
    refine j_aload_n h 0 dX4_alike_18 rfl rfl ?_
    refine j_iload_n h 1 dX4_alike_19 rfl rfl ?_
    refine j_callV h (c_X4_sizeOf hE ha) m_X4_sizeOf a_l_X4_67 rfl rfl ⟨Nat.le_of_ble_eq_true rfl, Nat.le_of_ble_eq_true rfl⟩ (ci := 4) rfl (by omega) (rcM) rfl rfl (Nat.le_of_ble_eq_true rfl) dX4_alike_20 ?_
    refine j_iconst h dX4_alike_23 ?_
    refine j_callV h (c_isRegion_false hE ha ⟨by decide, by decide⟩ hb ⟨by decide, by decide⟩ (by unfold okI; omega)) m_X4_isRegion a_l_X4_123 rfl rfl ⟨Nat.le_of_ble_eq_true rfl, Nat.le_of_ble_eq_true rfl⟩ (ci := 4) rfl (by omega) (rcM) rfl rfl (Nat.le_of_ble_eq_true rfl) dX4_alike_24 ?_
    refine j_if_eq h 34 dX4_alike_27 (by decide) (by first | exact okI_of _ | exact okI_b _ | exact okI_sgz _ _ | assumption | (unfold okI; omega)) (fun c27 => ?_) (fun c27 => ?_)
    · rw [bI_0] at c27
      refine j_iconst h dX4_alike_34 ?_
      exact j_zret h hq (by first | exact bt (by unfold who; rw [decide_eq_true (by omega), c27]; rfl) | exact bf (by unfold who; rw [c27, Bool.and_false]) | exact bf (by unfold who; rw [decide_eq_false (by omega)]; rfl)) (by first | exact nzb true | exact nzb false | exact nzb _) dX4_alike_35
    · rw [bI_n0] at c27
      refine j_iconst h dX4_alike_30 ?_
      refine j_goto h 35 dX4_alike_31 (by decide) ?_
      exact j_zret h hq (by first | exact bt (by unfold who; rw [decide_eq_true (by omega), c27]; rfl) | exact bf (by unfold who; rw [c27, Bool.and_false]) | exact bf (by unfold who; rw [decide_eq_false (by omega)]; rfl)) (by first | exact nzb true | exact nzb false | exact nzb _) dX4_alike_35
set_option maxHeartbeats 400000 in
set_option maxRecDepth 20000 in
theorem c_order_true {E : EV} (hE : EOK E) {A : AS} {mk : List Int32} {g0 : GH} {a : Int} (ha : okI a) {b : Int} (hb : okI b) : Ct E (RM E g0) yX4_order wsX4_order rX4_order [eA E 76, .int (iI a), .int (iI b), .int (iI 0)] (A, mk) (some (.int (orI true (A.1 (sw a)) (A.1 (sw b))))) (A, mk) := by
  refine ct_of [(0, _), (1, _), (2, _), (3, _)] hE (by decide) rfl (Nat.le_of_ble_eq_true rfl) rfl (fun X h hq => ?_)
  refine j_of (fun G hG => RM_len hG) (fun hLM => ?_)
  have hla := hLM.1 (sw a) (sw_lt a)
  have hwa := sw_lt a
  have hfma : 0 ≤ fmo a 8 ∧ fmo a 8 < 8 := by unfold fmo; omega
  have hswa : (fmo a 8).toNat = sw a := rfl
  have hlb := hLM.1 (sw b) (sw_lt b)
  have hwb := sw_lt b
  have hfmb : 0 ≤ fmo b 8 ∧ fmo b 8 < 8 := by unfold fmo; omega
  have hswb : (fmo b 8).toNat = sw b := rfl
  dsimp only at *
  refine j_iconst h dX4_order_0 ?_
  refine j_istore h [(4, _), (0, _), (1, _), (2, _), (3, _)] dX4_order_1 (by decide) rfl ?_
  refine j_sub [0, 1, 2, 3, 4] rfl ?_
  refine lpA1 (fun z : Int => ((A.1 (sw a)).length - z).toNat) (fun z : Int => 0 ≤ z → z ≤ (A.1 (sw a)).length → ord true (A.1 (sw a)) (A.1 (sw b)) z.toNat (min (A.1 (sw a)).length (A.1 (sw b)).length - z.toNat) = orI true (A.1 (sw a)) (A.1 (sw b)) → JL E (RM E g0) X 3 [(4, .int (iI z)), (0, eA E 76), (1, .int (iI a)), (2, .int (iI b)), (3, .int (iI 0))] [] (A, mk)) (fun z ih h0 hzb hv => ?_) 0 (Int.le_refl 0) (by omega) rfl
  refine j_iload h 0 dX4_order_3 rfl ?_
  refine j_aload_n h 1 dX4_order_5 rfl rfl ?_
  refine j_iload_n h 2 dX4_order_6 rfl rfl ?_
  refine j_callV h (c_X4_sizeOf hE ha) m_X4_sizeOf a_l_X4_67 rfl rfl ⟨Nat.le_of_ble_eq_true rfl, Nat.le_of_ble_eq_true rfl⟩ (ci := 4) rfl (by omega) (rcM) rfl rfl (Nat.le_of_ble_eq_true rfl) dX4_order_7 ?_
  refine j_icmp_ge h 94 dX4_order_10 (by decide) (by first | exact okI_of _ | exact okI_b _ | exact okI_sgz _ _ | assumption | (unfold okI; omega)) (by first | exact okI_of _ | exact okI_b _ | exact okI_sgz _ _ | assumption | (unfold okI; omega)) (fun c10 => ?_) (fun c10 => ?_)
  · refine j_aload_n h 1 dX4_order_94 rfl rfl ?_
    refine j_iload_n h 2 dX4_order_95 rfl rfl ?_
    refine j_callV h (c_X4_sizeOf hE ha) m_X4_sizeOf a_l_X4_67 rfl rfl ⟨Nat.le_of_ble_eq_true rfl, Nat.le_of_ble_eq_true rfl⟩ (ci := 4) rfl (by omega) (rcM) rfl rfl (Nat.le_of_ble_eq_true rfl) dX4_order_96 ?_
    refine j_aload_n h 1 dX4_order_99 rfl rfl ?_
    refine j_iload_n h 3 dX4_order_100 rfl rfl ?_
    refine j_callV h (c_X4_sizeOf hE hb) m_X4_sizeOf a_l_X4_67 rfl rfl ⟨Nat.le_of_ble_eq_true rfl, Nat.le_of_ble_eq_true rfl⟩ (ci := 4) rfl (by omega) (rcM) rfl rfl (Nat.le_of_ble_eq_true rfl) dX4_order_101 ?_
    refine j_isub h dX4_order_104 ?_
    exact j_iret h hq (by rw [← hv, ord_end (by omega)]) dX4_order_105
  · refine j_iload h 0 dX4_order_13 rfl ?_
    refine j_aload_n h 1 dX4_order_15 rfl rfl ?_
    refine j_iload_n h 3 dX4_order_16 rfl rfl ?_
    refine j_callV h (c_X4_sizeOf hE hb) m_X4_sizeOf a_l_X4_67 rfl rfl ⟨Nat.le_of_ble_eq_true rfl, Nat.le_of_ble_eq_true rfl⟩ (ci := 4) rfl (by omega) (rcM) rfl rfl (Nat.le_of_ble_eq_true rfl) dX4_order_17 ?_
    refine j_icmp_ge h 94 dX4_order_20 (by decide) (by first | exact okI_of _ | exact okI_b _ | exact okI_sgz _ _ | assumption | (unfold okI; omega)) (by first | exact okI_of _ | exact okI_b _ | exact okI_sgz _ _ | assumption | (unfold okI; omega)) (fun c20 => ?_) (fun c20 => ?_)
    · refine j_aload_n h 1 dX4_order_94 rfl rfl ?_
      refine j_iload_n h 2 dX4_order_95 rfl rfl ?_
      refine j_callV h (c_X4_sizeOf hE ha) m_X4_sizeOf a_l_X4_67 rfl rfl ⟨Nat.le_of_ble_eq_true rfl, Nat.le_of_ble_eq_true rfl⟩ (ci := 4) rfl (by omega) (rcM) rfl rfl (Nat.le_of_ble_eq_true rfl) dX4_order_96 ?_
      refine j_aload_n h 1 dX4_order_99 rfl rfl ?_
      refine j_iload_n h 3 dX4_order_100 rfl rfl ?_
      refine j_callV h (c_X4_sizeOf hE hb) m_X4_sizeOf a_l_X4_67 rfl rfl ⟨Nat.le_of_ble_eq_true rfl, Nat.le_of_ble_eq_true rfl⟩ (ci := 4) rfl (by omega) (rcM) rfl rfl (Nat.le_of_ble_eq_true rfl) dX4_order_101 ?_
      refine j_isub h dX4_order_104 ?_
      exact j_iret h hq (by rw [← hv, ord_end (by omega)]) dX4_order_105
    · refine j_iload_n h 4 dX4_order_23 rfl rfl ?_
      refine j_if_eq h 40 dX4_order_24 (by decide) (by first | exact okI_of _ | exact okI_b _ | exact okI_sgz _ _ | assumption | (unfold okI; omega)) (fun c24 => ?_) (fun c24 => ?_)
      · refine j_aload_n h 1 dX4_order_40 rfl rfl ?_
        refine j_iload_n h 2 dX4_order_41 rfl rfl ?_
        refine j_iload h 0 dX4_order_42 rfl ?_
        refine j_callV h (c_X4_signAt hE ha (by omega) (by omega)) m_X4_signAt a_l_X4_58 rfl rfl ⟨Nat.le_of_ble_eq_true rfl, Nat.le_of_ble_eq_true rfl⟩ (ci := 4) rfl (by omega) (rcM) rfl rfl (Nat.le_of_ble_eq_true rfl) dX4_order_44 ?_
        refine j_top (tl_t _).symm ?_
        refine j_istore h [(5, _), (4, _), (0, _), (1, _), (2, _), (3, _)] dX4_order_47 (by decide) rfl ?_
        refine j_iload_n h 5 dX4_order_49 rfl rfl ?_
        refine j_if_eq h 66 dX4_order_50 (by decide) (by first | exact okI_of _ | exact okI_b _ | exact okI_sgz _ _ | assumption | (unfold okI; omega)) (fun c50 => ?_) (fun c50 => ?_)
        · refine j_aload_n h 2 dX4_order_66 rfl rfl ?_
          refine j_iload_n h 4 dX4_order_67 rfl rfl ?_
          refine j_iload h 1 dX4_order_68 rfl ?_
          refine j_callV h (c_X4_signAt hE hb (by omega) (by omega)) m_X4_signAt a_l_X4_58 rfl rfl ⟨Nat.le_of_ble_eq_true rfl, Nat.le_of_ble_eq_true rfl⟩ (ci := 4) rfl (by omega) (rcM) rfl rfl (Nat.le_of_ble_eq_true rfl) dX4_order_70 ?_
          refine j_top (tl_t _).symm ?_
          refine j_istore h [(6, _), (5, _), (4, _), (0, _), (1, _), (2, _), (3, _)] dX4_order_73 (by decide) rfl ?_
          refine j_iload h 1 dX4_order_75 rfl ?_
          refine j_iload h 0 dX4_order_77 rfl ?_
          refine j_rcmp_eq h 88 dX4_order_79 (by decide) (fun c79 => ?_) (fun c79 => ?_)
          · refine j_iinc h 2 [(4, _), (6, _), (5, _), (0, _), (1, _), (2, _), (3, _)] dX4_order_88 rfl (by decide) rfl ?_
            refine j_goto h 3 dX4_order_91 (by decide) ?_
            refine j_sub [0, 3, 4, 5, 6] rfl ?_
            exact ih (z + 1) (by omega) (by omega) (by omega) (by rw [ord_step h0 (by omega), if_pos c79] at hv; exact hv)
          · refine j_iload h 1 dX4_order_82 rfl ?_
            refine j_iload h 0 dX4_order_84 rfl ?_
            refine j_isub h dX4_order_86 ?_
            exact j_iret h hq (by rw [← hv, ord_step h0 (by omega), if_neg c79]) dX4_order_87
        · exact absurd rfl c50
      · exact absurd rfl c24
set_option maxHeartbeats 400000 in
set_option maxRecDepth 20000 in
theorem c_order_false {E : EV} (hE : EOK E) {A : AS} {mk : List Int32} {g0 : GH} {a : Int} (ha : okI a) {b : Int} (hb : okI b) : Ct E (RM E g0) yX4_order wsX4_order rX4_order [eA E 76, .int (iI a), .int (iI b), .int (iI 1)] (A, mk) (some (.int (orI false (A.1 (sw a)) (A.1 (sw b))))) (A, mk) := by
  refine ct_of [(0, _), (1, _), (2, _), (3, _)] hE (by decide) rfl (Nat.le_of_ble_eq_true rfl) rfl (fun X h hq => ?_)
  refine j_of (fun G hG => RM_len hG) (fun hLM => ?_)
  have hla := hLM.1 (sw a) (sw_lt a)
  have hwa := sw_lt a
  have hfma : 0 ≤ fmo a 8 ∧ fmo a 8 < 8 := by unfold fmo; omega
  have hswa : (fmo a 8).toNat = sw a := rfl
  have hlb := hLM.1 (sw b) (sw_lt b)
  have hwb := sw_lt b
  have hfmb : 0 ≤ fmo b 8 ∧ fmo b 8 < 8 := by unfold fmo; omega
  have hswb : (fmo b 8).toNat = sw b := rfl
  dsimp only at *
  refine j_iconst h dX4_order_0 ?_
  refine j_istore h [(4, _), (0, _), (1, _), (2, _), (3, _)] dX4_order_1 (by decide) rfl ?_
  refine j_sub [0, 1, 2, 3, 4] rfl ?_
  refine lpA1 (fun z : Int => ((A.1 (sw a)).length - z).toNat) (fun z : Int => 0 ≤ z → z ≤ (A.1 (sw a)).length → ord false (A.1 (sw a)) (A.1 (sw b)) z.toNat (min (A.1 (sw a)).length (A.1 (sw b)).length - z.toNat) = orI false (A.1 (sw a)) (A.1 (sw b)) → JL E (RM E g0) X 3 [(4, .int (iI z)), (0, eA E 76), (1, .int (iI a)), (2, .int (iI b)), (3, .int (iI 1))] [] (A, mk)) (fun z ih h0 hzb hv => ?_) 0 (Int.le_refl 0) (by omega) rfl
  refine j_iload h 0 dX4_order_3 rfl ?_
  refine j_aload_n h 1 dX4_order_5 rfl rfl ?_
  refine j_iload_n h 2 dX4_order_6 rfl rfl ?_
  refine j_callV h (c_X4_sizeOf hE ha) m_X4_sizeOf a_l_X4_67 rfl rfl ⟨Nat.le_of_ble_eq_true rfl, Nat.le_of_ble_eq_true rfl⟩ (ci := 4) rfl (by omega) (rcM) rfl rfl (Nat.le_of_ble_eq_true rfl) dX4_order_7 ?_
  refine j_icmp_ge h 94 dX4_order_10 (by decide) (by first | exact okI_of _ | exact okI_b _ | exact okI_sgz _ _ | assumption | (unfold okI; omega)) (by first | exact okI_of _ | exact okI_b _ | exact okI_sgz _ _ | assumption | (unfold okI; omega)) (fun c10 => ?_) (fun c10 => ?_)
  · refine j_aload_n h 1 dX4_order_94 rfl rfl ?_
    refine j_iload_n h 2 dX4_order_95 rfl rfl ?_
    refine j_callV h (c_X4_sizeOf hE ha) m_X4_sizeOf a_l_X4_67 rfl rfl ⟨Nat.le_of_ble_eq_true rfl, Nat.le_of_ble_eq_true rfl⟩ (ci := 4) rfl (by omega) (rcM) rfl rfl (Nat.le_of_ble_eq_true rfl) dX4_order_96 ?_
    refine j_aload_n h 1 dX4_order_99 rfl rfl ?_
    refine j_iload_n h 3 dX4_order_100 rfl rfl ?_
    refine j_callV h (c_X4_sizeOf hE hb) m_X4_sizeOf a_l_X4_67 rfl rfl ⟨Nat.le_of_ble_eq_true rfl, Nat.le_of_ble_eq_true rfl⟩ (ci := 4) rfl (by omega) (rcM) rfl rfl (Nat.le_of_ble_eq_true rfl) dX4_order_101 ?_
    refine j_isub h dX4_order_104 ?_
    exact j_iret h hq (by rw [← hv, ord_end (by omega)]) dX4_order_105
  · refine j_iload h 0 dX4_order_13 rfl ?_
    refine j_aload_n h 1 dX4_order_15 rfl rfl ?_
    refine j_iload_n h 3 dX4_order_16 rfl rfl ?_
    refine j_callV h (c_X4_sizeOf hE hb) m_X4_sizeOf a_l_X4_67 rfl rfl ⟨Nat.le_of_ble_eq_true rfl, Nat.le_of_ble_eq_true rfl⟩ (ci := 4) rfl (by omega) (rcM) rfl rfl (Nat.le_of_ble_eq_true rfl) dX4_order_17 ?_
    refine j_icmp_ge h 94 dX4_order_20 (by decide) (by first | exact okI_of _ | exact okI_b _ | exact okI_sgz _ _ | assumption | (unfold okI; omega)) (by first | exact okI_of _ | exact okI_b _ | exact okI_sgz _ _ | assumption | (unfold okI; omega)) (fun c20 => ?_) (fun c20 => ?_)
    · refine j_aload_n h 1 dX4_order_94 rfl rfl ?_
      refine j_iload_n h 2 dX4_order_95 rfl rfl ?_
      refine j_callV h (c_X4_sizeOf hE ha) m_X4_sizeOf a_l_X4_67 rfl rfl ⟨Nat.le_of_ble_eq_true rfl, Nat.le_of_ble_eq_true rfl⟩ (ci := 4) rfl (by omega) (rcM) rfl rfl (Nat.le_of_ble_eq_true rfl) dX4_order_96 ?_
      refine j_aload_n h 1 dX4_order_99 rfl rfl ?_
      refine j_iload_n h 3 dX4_order_100 rfl rfl ?_
      refine j_callV h (c_X4_sizeOf hE hb) m_X4_sizeOf a_l_X4_67 rfl rfl ⟨Nat.le_of_ble_eq_true rfl, Nat.le_of_ble_eq_true rfl⟩ (ci := 4) rfl (by omega) (rcM) rfl rfl (Nat.le_of_ble_eq_true rfl) dX4_order_101 ?_
      refine j_isub h dX4_order_104 ?_
      exact j_iret h hq (by rw [← hv, ord_end (by omega)]) dX4_order_105
    · refine j_iload_n h 4 dX4_order_23 rfl rfl ?_
      refine j_if_eq h 40 dX4_order_24 (by decide) (by first | exact okI_of _ | exact okI_b _ | exact okI_sgz _ _ | assumption | (unfold okI; omega)) (fun c24 => ?_) (fun c24 => ?_)
      · exact absurd c24 (by decide)
      · refine j_aload_n h 1 dX4_order_27 rfl rfl ?_
        refine j_iload_n h 2 dX4_order_28 rfl rfl ?_
        refine j_iload h 0 dX4_order_29 rfl ?_
        refine j_callV h (c_X4_signAt hE ha (by omega) (by omega)) m_X4_signAt a_l_X4_58 rfl rfl ⟨Nat.le_of_ble_eq_true rfl, Nat.le_of_ble_eq_true rfl⟩ (ci := 4) rfl (by omega) (rcM) rfl rfl (Nat.le_of_ble_eq_true rfl) dX4_order_31 ?_
        refine j_callS h (c_small_raw hE _) m_X4_small a_l_X4_120 rfl rfl ⟨Nat.le_of_ble_eq_true rfl, Nat.le_of_ble_eq_true rfl⟩ rfl rfl (Nat.le_of_ble_eq_true rfl) dX4_order_34 ?_
        refine j_goto h 47 dX4_order_37 (by decide) ?_
        refine j_istore h [(5, _), (4, _), (0, _), (1, _), (2, _), (3, _)] dX4_order_47 (by decide) rfl ?_
        refine j_iload_n h 5 dX4_order_49 rfl rfl ?_
        refine j_if_eq h 66 dX4_order_50 (by decide) (by first | exact okI_of _ | exact okI_b _ | exact okI_sgz _ _ | assumption | (unfold okI; omega)) (fun c50 => ?_) (fun c50 => ?_)
        · exact absurd c50 (by decide)
        · refine j_aload_n h 2 dX4_order_53 rfl rfl ?_
          refine j_iload_n h 4 dX4_order_54 rfl rfl ?_
          refine j_iload h 1 dX4_order_55 rfl ?_
          refine j_callV h (c_X4_signAt hE hb (by omega) (by omega)) m_X4_signAt a_l_X4_58 rfl rfl ⟨Nat.le_of_ble_eq_true rfl, Nat.le_of_ble_eq_true rfl⟩ (ci := 4) rfl (by omega) (rcM) rfl rfl (Nat.le_of_ble_eq_true rfl) dX4_order_57 ?_
          refine j_callS h (c_small_raw hE _) m_X4_small a_l_X4_120 rfl rfl ⟨Nat.le_of_ble_eq_true rfl, Nat.le_of_ble_eq_true rfl⟩ rfl rfl (Nat.le_of_ble_eq_true rfl) dX4_order_60 ?_
          refine j_goto h 73 dX4_order_63 (by decide) ?_
          refine j_istore h [(6, _), (5, _), (4, _), (0, _), (1, _), (2, _), (3, _)] dX4_order_73 (by decide) rfl ?_
          refine j_iload h 1 dX4_order_75 rfl ?_
          refine j_iload h 0 dX4_order_77 rfl ?_
          refine j_rcmp_eq h 88 dX4_order_79 (by decide) (fun c79 => ?_) (fun c79 => ?_)
          · refine j_iinc h 2 [(4, _), (6, _), (5, _), (0, _), (1, _), (2, _), (3, _)] dX4_order_88 rfl (by decide) rfl ?_
            refine j_goto h 3 dX4_order_91 (by decide) ?_
            refine j_sub [0, 3, 4, 5, 6] rfl ?_
            exact ih (z + 1) (by omega) (by omega) (by omega) (by rw [ord_step h0 (by omega), if_pos c79] at hv; exact hv)
          · refine j_iload h 1 dX4_order_82 rfl ?_
            refine j_iload h 0 dX4_order_84 rfl ?_
            refine j_isub h dX4_order_86 ?_
            exact j_iret h hq (by rw [← hv, ord_step h0 (by omega), if_neg c79]) dX4_order_87
set_option maxHeartbeats 400000 in
set_option maxRecDepth 20000 in
theorem c_X4_compare {E : EV} (hE : EOK E) {A : AS} {mk : List Int32} {g0 : GH} {a : Int} (ha : okI a) {b : Int} (hb : okI b) : Ct E (RM E g0) yX4_compare wsX4_compare rX4_compare [eA E 76, .int (iI a), .int (iI b)] (A, mk) (some (.int (orI true (A.1 (sw a)) (A.1 (sw b))))) (A, mk) := by
  refine ct_of [(0, _), (1, _), (2, _)] hE (by decide) rfl (Nat.le_of_ble_eq_true rfl) rfl (fun X h hq => ?_)
  refine j_of (fun G hG => RM_len hG) (fun hLM => ?_)
  have hla := hLM.1 (sw a) (sw_lt a)
  have hwa := sw_lt a
  have hfma : 0 ≤ fmo a 8 ∧ fmo a 8 < 8 := by unfold fmo; omega
  have hswa : (fmo a 8).toNat = sw a := rfl
  dsimp only at *
  refine j_aload_n h 0 dX4_compare_0 rfl rfl ?_
  refine j_iload_n h 1 dX4_compare_1 rfl rfl ?_
  refine j_iload_n h 2 dX4_compare_2 rfl rfl ?_
  refine j_iconst h dX4_compare_3 ?_
  refine j_callV h (c_order_true hE ha hb) m_X4_order a_l_X4_127 rfl rfl ⟨Nat.le_of_ble_eq_true rfl, Nat.le_of_ble_eq_true rfl⟩ (ci := 4) rfl (by omega) (rcM) rfl rfl (Nat.le_of_ble_eq_true rfl) dX4_compare_4 ?_
  exact j_iret h hq rfl dX4_compare_7
set_option maxHeartbeats 400000 in
set_option maxRecDepth 20000 in
theorem c_X4_compareAlike {E : EV} (hE : EOK E) {A : AS} {mk : List Int32} {g0 : GH} {a : Int} (ha : okI a) {b : Int} (hb : okI b) : Ct E (RM E g0) yX4_compareAlike wsX4_compareAlike rX4_compareAlike [eA E 76, .int (iI a), .int (iI b)] (A, mk) (some (.int (iI (cmpI (orI false (A.1 (sw a)) (A.1 (sw b))).toInt 0)))) (A, mk) := by
  refine ct_of [(0, _), (1, _), (2, _)] hE (by decide) rfl (Nat.le_of_ble_eq_true rfl) rfl (fun X h hq => ?_)
  refine j_of (fun G hG => RM_len hG) (fun hLM => ?_)
  have hla := hLM.1 (sw a) (sw_lt a)
  have hwa := sw_lt a
  have hfma : 0 ≤ fmo a 8 ∧ fmo a 8 < 8 := by unfold fmo; omega
  have hswa : (fmo a 8).toNat = sw a := rfl
  dsimp only at *
  refine j_aload_n h 0 dX4_compareAlike_0 rfl rfl ?_
  refine j_iload_n h 1 dX4_compareAlike_1 rfl rfl ?_
  refine j_iload_n h 2 dX4_compareAlike_2 rfl rfl ?_
  refine j_iconst h dX4_compareAlike_3 ?_
  refine j_callV h (c_order_false hE ha hb) m_X4_order a_l_X4_127 rfl rfl ⟨Nat.le_of_ble_eq_true rfl, Nat.le_of_ble_eq_true rfl⟩ (ci := 4) rfl (by omega) (rcM) rfl rfl (Nat.le_of_ble_eq_true rfl) dX4_compareAlike_4 ?_
  refine j_top (iI_of _).symm ?_
  refine j_istore_n h [(3, _), (0, _), (1, _), (2, _)] dX4_compareAlike_7 rfl (by decide) rfl ?_
  refine j_iload_n h 0 dX4_compareAlike_8 rfl rfl ?_
  refine j_if_ge h 16 dX4_compareAlike_9 (by decide) (by first | exact okI_of _ | exact okI_b _ | exact okI_sgz _ _ | assumption | (unfold okI; omega)) (fun c9 => ?_) (fun c9 => ?_)
  · refine j_iload_n h 0 dX4_compareAlike_16 rfl rfl ?_
    refine j_if_le h 24 dX4_compareAlike_17 (by decide) (by first | exact okI_of _ | exact okI_b _ | exact okI_sgz _ _ | assumption | (unfold okI; omega)) (fun c17 => ?_) (fun c17 => ?_)
    · refine j_iconst h dX4_compareAlike_24 ?_
      exact j_iret h hq (congrArg (fun q => some (Value.int (iI q))) (by unfold cmpI; split <;> (try split) <;> omega)) dX4_compareAlike_25
    · refine j_iconst h dX4_compareAlike_20 ?_
      refine j_goto h 25 dX4_compareAlike_21 (by decide) ?_
      exact j_iret h hq (congrArg (fun q => some (Value.int (iI q))) (by unfold cmpI; split <;> (try split) <;> omega)) dX4_compareAlike_25
  · refine j_iconst h dX4_compareAlike_12 ?_
    refine j_goto h 25 dX4_compareAlike_13 (by decide) ?_
    exact j_iret h hq (congrArg (fun q => some (Value.int (iI q))) (by unfold cmpI; split <;> (try split) <;> omega)) dX4_compareAlike_25
set_option maxHeartbeats 400000 in
set_option maxRecDepth 20000 in
theorem c_X4_finds {E : EV} (hE : EOK E) {A : AS} {mk : List Int32} {g0 : GH} {a : Int} (ha : okI a) {b : Int} (hb : okI b) (hb0 : (A.1 (sw b)).length ≠ 0) : Ct E (RM E g0) yX4_finds wsX4_finds rX4_finds [eA E 76, .int (iI a), .int (iI b)] (A, mk) (some (.int (iI (fdc (A.1 (sw a)) (A.1 (sw b)) ((A.1 (sw a)).length + 1) 0 : Nat)))) (A, mk) := by
  refine ct_of [(0, _), (1, _), (2, _)] hE (by decide) rfl (Nat.le_of_ble_eq_true rfl) rfl (fun X h hq => ?_)
  refine j_of (fun G hG => RM_len hG) (fun hLM => ?_)
  have hla := hLM.1 (sw a) (sw_lt a)
  have hwa := sw_lt a
  have hfma : 0 ≤ fmo a 8 ∧ fmo a 8 < 8 := by unfold fmo; omega
  have hswa : (fmo a 8).toNat = sw a := rfl
  have hlb := hLM.1 (sw b) (sw_lt b)
  have hwb := sw_lt b
  have hfmb : 0 ≤ fmo b 8 ∧ fmo b 8 < 8 := by unfold fmo; omega
  have hswb : (fmo b 8).toNat = sw b := rfl
  dsimp only at *
  have hmx : max 1 (A.1 (sw b)).length = (A.1 (sw b)).length := by omega
  refine j_iconst h dX4_finds_0 ?_
  refine j_istore_n h [(3, _), (0, _), (1, _), (2, _)] dX4_finds_1 rfl (by decide) rfl ?_
  refine j_iconst h dX4_finds_2 ?_
  refine j_istore h [(4, _), (3, _), (0, _), (1, _), (2, _)] dX4_finds_3 (by decide) rfl ?_
  refine j_sub [0, 1, 2, 3, 4] rfl ?_
  refine lpA3 (fun (z a : Int) (f : Nat) => f) (fun (z k : Int) (f : Nat) => 0 ≤ z → z ≤ 1300 → 0 ≤ k → k ≤ z → ((A.1 (sw a)).length : Int) - z < f → k + fdc (A.1 (sw a)) (A.1 (sw b)) f z.toNat = fdc (A.1 (sw a)) (A.1 (sw b)) ((A.1 (sw a)).length + 1) 0 → JL E (RM E g0) X 5 [(4, .int (iI z)), (3, .int (iI k)), (0, eA E 76), (1, .int (iI a)), (2, .int (iI b))] [] (A, mk)) (fun z k f ih h0 hzb hk hk2 hf hv => ?_) 0 0 ((A.1 (sw a)).length + 1) (Int.le_refl 0) (by omega) (by omega) (by omega) (by omega) (by simp)
  refine j_iload h 0 dX4_finds_5 rfl ?_
  refine j_aload_n h 2 dX4_finds_7 rfl rfl ?_
  refine j_iload_n h 3 dX4_finds_8 rfl rfl ?_
  refine j_callV h (c_X4_sizeOf hE ha) m_X4_sizeOf a_l_X4_67 rfl rfl ⟨Nat.le_of_ble_eq_true rfl, Nat.le_of_ble_eq_true rfl⟩ (ci := 4) rfl (by omega) (rcM) rfl rfl (Nat.le_of_ble_eq_true rfl) dX4_finds_9 ?_
  refine j_icmp_ge h 60 dX4_finds_12 (by decide) (by first | exact okI_of _ | exact okI_b _ | exact okI_sgz _ _ | assumption | (unfold okI; omega)) (by first | exact okI_of _ | exact okI_b _ | exact okI_sgz _ _ | assumption | (unfold okI; omega)) (fun c12 => ?_) (fun c12 => ?_)
  · refine j_iload_n h 1 dX4_finds_60 rfl rfl ?_
    exact j_iret h hq (by rw [← hv]; cases f with | zero => simp [fdc] | succ f => rw [fdc, if_neg (by omega)]; simp) dX4_finds_61
  · refine j_aload_n h 2 dX4_finds_15 rfl rfl ?_
    refine j_iload_n h 3 dX4_finds_16 rfl rfl ?_
    refine j_iload_n h 4 dX4_finds_17 rfl rfl ?_
    refine j_iload h 0 dX4_finds_18 rfl ?_
    refine j_callV h (c_X4_stands hE ha hb (by unfold okI; omega)) m_X4_stands a_l_X4_111 rfl rfl ⟨Nat.le_of_ble_eq_true rfl, Nat.le_of_ble_eq_true rfl⟩ (ci := 4) rfl (by omega) (rcM) rfl rfl (Nat.le_of_ble_eq_true rfl) dX4_finds_20 ?_
    refine j_istore h [(5, _), (4, _), (3, _), (0, _), (1, _), (2, _)] dX4_finds_23 (by decide) rfl ?_
    refine j_iload_n h 2 dX4_finds_25 rfl rfl ?_
    refine j_iload h 0 dX4_finds_26 rfl ?_
    refine j_if_eq h 35 dX4_finds_28 (by decide) (by first | exact okI_of _ | exact okI_b _ | exact okI_sgz _ _ | assumption | (unfold okI; omega)) (fun c28 => ?_) (fun c28 => ?_)
    · rw [bI_0] at c28
      refine j_iconst h dX4_finds_35 ?_
      refine j_iadd h dX4_finds_36 ?_
      refine j_istore_n h [(3, _), (5, _), (4, _), (0, _), (1, _), (2, _)] dX4_finds_37 rfl (by decide) rfl ?_
      refine j_iload h 2 dX4_finds_38 rfl ?_
      refine j_iload h 1 dX4_finds_40 rfl ?_
      refine j_if_eq h 53 dX4_finds_42 (by decide) (by first | exact okI_of _ | exact okI_b _ | exact okI_sgz _ _ | assumption | (unfold okI; omega)) (fun c42 => ?_) (fun c42 => ?_)
      · rw [bI_0] at c42
        refine j_iconst h dX4_finds_53 ?_
        refine j_iadd h dX4_finds_54 ?_
        refine j_istore h [(4, _), (3, _), (5, _), (0, _), (1, _), (2, _)] dX4_finds_55 (by decide) rfl ?_
        refine j_goto h 5 dX4_finds_57 (by decide) ?_
        refine j_sub [0, 1, 3, 4, 5] rfl ?_
        obtain ⟨f, rfl⟩ : ∃ f2, f = f2 + 1 := ⟨f - 1, by omega⟩
        rw [fdc, if_pos (by omega), show ((z.toNat : Nat) : Int) = z by omega, c28] at hv
        first | exact absurd (c28.symm.trans c42) (by decide) | exact ih (z + 1) (k + 0) f (by omega) (by omega) (by omega) (by omega) (by omega) (by omega) (by rw [show (z + 1).toNat = z.toNat + 1 by omega, Int.add_zero]; simpa using hv) | exact ih (z + (A.1 (sw b)).length) (k + 1) f (by omega) (by omega) (by omega) (by omega) (by omega) (by omega) (by rw [show (z + (A.1 (sw b)).length).toNat = z.toNat + max 1 (A.1 (sw b)).length by omega]; simp only [if_true] at hv; omega)
      · rw [bI_n0] at c42
        refine j_aload_n h 3 dX4_finds_45 rfl rfl ?_
        refine j_iload_n h 5 dX4_finds_46 rfl rfl ?_
        refine j_callV h (c_X4_sizeOf hE hb) m_X4_sizeOf a_l_X4_67 rfl rfl ⟨Nat.le_of_ble_eq_true rfl, Nat.le_of_ble_eq_true rfl⟩ (ci := 4) rfl (by omega) (rcM) rfl rfl (Nat.le_of_ble_eq_true rfl) dX4_finds_47 ?_
        refine j_goto h 54 dX4_finds_50 (by decide) ?_
        refine j_iadd h dX4_finds_54 ?_
        refine j_istore h [(4, _), (3, _), (5, _), (0, _), (1, _), (2, _)] dX4_finds_55 (by decide) rfl ?_
        refine j_goto h 5 dX4_finds_57 (by decide) ?_
        refine j_sub [0, 1, 3, 4, 5] rfl ?_
        obtain ⟨f, rfl⟩ : ∃ f2, f = f2 + 1 := ⟨f - 1, by omega⟩
        rw [fdc, if_pos (by omega), show ((z.toNat : Nat) : Int) = z by omega, c28] at hv
        first | exact absurd (c28.symm.trans c42) (by decide) | exact ih (z + 1) (k + 0) f (by omega) (by omega) (by omega) (by omega) (by omega) (by omega) (by rw [show (z + 1).toNat = z.toNat + 1 by omega, Int.add_zero]; simpa using hv) | exact ih (z + (A.1 (sw b)).length) (k + 1) f (by omega) (by omega) (by omega) (by omega) (by omega) (by omega) (by rw [show (z + (A.1 (sw b)).length).toNat = z.toNat + max 1 (A.1 (sw b)).length by omega]; simp only [if_true] at hv; omega)
    · rw [bI_n0] at c28
      refine j_iconst h dX4_finds_31 ?_
      refine j_goto h 36 dX4_finds_32 (by decide) ?_
      refine j_iadd h dX4_finds_36 ?_
      refine j_istore_n h [(3, _), (5, _), (4, _), (0, _), (1, _), (2, _)] dX4_finds_37 rfl (by decide) rfl ?_
      refine j_iload h 2 dX4_finds_38 rfl ?_
      refine j_iload h 1 dX4_finds_40 rfl ?_
      refine j_if_eq h 53 dX4_finds_42 (by decide) (by first | exact okI_of _ | exact okI_b _ | exact okI_sgz _ _ | assumption | (unfold okI; omega)) (fun c42 => ?_) (fun c42 => ?_)
      · rw [bI_0] at c42
        refine j_iconst h dX4_finds_53 ?_
        refine j_iadd h dX4_finds_54 ?_
        refine j_istore h [(4, _), (3, _), (5, _), (0, _), (1, _), (2, _)] dX4_finds_55 (by decide) rfl ?_
        refine j_goto h 5 dX4_finds_57 (by decide) ?_
        refine j_sub [0, 1, 3, 4, 5] rfl ?_
        obtain ⟨f, rfl⟩ : ∃ f2, f = f2 + 1 := ⟨f - 1, by omega⟩
        rw [fdc, if_pos (by omega), show ((z.toNat : Nat) : Int) = z by omega, c28] at hv
        first | exact absurd (c28.symm.trans c42) (by decide) | exact ih (z + 1) (k + 0) f (by omega) (by omega) (by omega) (by omega) (by omega) (by omega) (by rw [show (z + 1).toNat = z.toNat + 1 by omega, Int.add_zero]; simpa using hv) | exact ih (z + (A.1 (sw b)).length) (k + 1) f (by omega) (by omega) (by omega) (by omega) (by omega) (by omega) (by rw [show (z + (A.1 (sw b)).length).toNat = z.toNat + max 1 (A.1 (sw b)).length by omega]; simp only [if_true] at hv; omega)
      · rw [bI_n0] at c42
        refine j_aload_n h 3 dX4_finds_45 rfl rfl ?_
        refine j_iload_n h 5 dX4_finds_46 rfl rfl ?_
        refine j_callV h (c_X4_sizeOf hE hb) m_X4_sizeOf a_l_X4_67 rfl rfl ⟨Nat.le_of_ble_eq_true rfl, Nat.le_of_ble_eq_true rfl⟩ (ci := 4) rfl (by omega) (rcM) rfl rfl (Nat.le_of_ble_eq_true rfl) dX4_finds_47 ?_
        refine j_goto h 54 dX4_finds_50 (by decide) ?_
        refine j_iadd h dX4_finds_54 ?_
        refine j_istore h [(4, _), (3, _), (5, _), (0, _), (1, _), (2, _)] dX4_finds_55 (by decide) rfl ?_
        refine j_goto h 5 dX4_finds_57 (by decide) ?_
        refine j_sub [0, 1, 3, 4, 5] rfl ?_
        obtain ⟨f, rfl⟩ : ∃ f2, f = f2 + 1 := ⟨f - 1, by omega⟩
        rw [fdc, if_pos (by omega), show ((z.toNat : Nat) : Int) = z by omega, c28] at hv
        first | exact absurd (c28.symm.trans c42) (by decide) | exact ih (z + 1) (k + 0) f (by omega) (by omega) (by omega) (by omega) (by omega) (by omega) (by rw [show (z + 1).toNat = z.toNat + 1 by omega, Int.add_zero]; simpa using hv) | exact ih (z + (A.1 (sw b)).length) (k + 1) f (by omega) (by omega) (by omega) (by omega) (by omega) (by omega) (by rw [show (z + (A.1 (sw b)).length).toNat = z.toNat + max 1 (A.1 (sw b)).length by omega]; simp only [if_true] at hv; omega)
set_option maxHeartbeats 400000 in
set_option maxRecDepth 20000 in
theorem c_X4_count {E : EV} (hE : EOK E) {A : AS} {mk : List Int32} {g0 : GH} {a : Int} (ha : okI a) {b : Int} (hb : okI b) : Ct E (RM E g0) yX4_count wsX4_count rX4_count [eA E 76, .int (iI a), .int (iI b)] (A, mk) (some (.int (iI (cnI (A.1 (sw a)) (A.1 (sw b)))))) (A, mk) := by
  refine ct_of [(0, _), (1, _), (2, _)] hE (by decide) rfl (Nat.le_of_ble_eq_true rfl) rfl (fun X h hq => ?_)
  refine j_of (fun G hG => RM_len hG) (fun hLM => ?_)
  have hla := hLM.1 (sw a) (sw_lt a)
  have hwa := sw_lt a
  have hfma : 0 ≤ fmo a 8 ∧ fmo a 8 < 8 := by unfold fmo; omega
  have hswa : (fmo a 8).toNat = sw a := rfl
  have hlb := hLM.1 (sw b) (sw_lt b)
  have hwb := sw_lt b
  have hfmb : 0 ≤ fmo b 8 ∧ fmo b 8 < 8 := by unfold fmo; omega
  have hswb : (fmo b 8).toNat = sw b := rfl
  dsimp only at *
  refine j_aload_n h 0 dX4_count_0 rfl rfl ?_
  refine j_iload_n h 2 dX4_count_1 rfl rfl ?_
  refine j_callV h (c_X4_sizeOf hE hb) m_X4_sizeOf a_l_X4_67 rfl rfl ⟨Nat.le_of_ble_eq_true rfl, Nat.le_of_ble_eq_true rfl⟩ (ci := 4) rfl (by omega) (rcM) rfl rfl (Nat.le_of_ble_eq_true rfl) dX4_count_2 ?_
  refine j_if_ne h 13 dX4_count_5 (by decide) (by first | exact okI_of _ | exact okI_b _ | exact okI_sgz _ _ | assumption | (unfold okI; omega)) (fun c5 => ?_) (fun c5 => ?_)
  · refine j_aload_n h 0 dX4_count_13 rfl rfl ?_
    refine j_iload_n h 1 dX4_count_14 rfl rfl ?_
    refine j_iload_n h 2 dX4_count_15 rfl rfl ?_
    refine j_callV h (c_X4_finds hE ha hb (by omega)) m_X4_finds a_l_X4_151 rfl rfl ⟨Nat.le_of_ble_eq_true rfl, Nat.le_of_ble_eq_true rfl⟩ (ci := 4) rfl (by omega) (rcM) rfl rfl (Nat.le_of_ble_eq_true rfl) dX4_count_16 ?_
    exact j_iret h hq (by first | exact congrArg (fun q => some (Value.int (iI q))) (if_pos (by omega)) | exact congrArg (fun q => some (Value.int (iI q))) (if_neg (by omega))) dX4_count_19
  · refine j_ldc h (-1000001) a_k_X4_74 (by decide) dX4_count_8 ?_
    refine j_goto h 19 dX4_count_10 (by decide) ?_
    exact j_iret h hq (by first | exact congrArg (fun q => some (Value.int (iI q))) (if_pos (by omega)) | exact congrArg (fun q => some (Value.int (iI q))) (if_neg (by omega))) dX4_count_19
set_option maxHeartbeats 400000 in
set_option maxRecDepth 20000 in
theorem c_X4_head {E : EV} (hE : EOK E) {A : AS} {mk : List Int32} {g0 : GH} {a : Int} (ha : okI a) {b : Int} (hb : okI b) : Ct E (RM E g0) yX4_head wsX4_head rX4_head [eA E 76, .int (iI a), .int (iI b)] (A, mk) (some (.int (iI (sfr (A.1 (sw a)) (A.1 (sw b)) 0 (min (A.1 (sw a)).length (A.1 (sw b)).length) : Nat)))) (A, mk) := by
  refine ct_of [(0, _), (1, _), (2, _)] hE (by decide) rfl (Nat.le_of_ble_eq_true rfl) rfl (fun X h hq => ?_)
  refine j_of (fun G hG => RM_len hG) (fun hLM => ?_)
  have hla := hLM.1 (sw a) (sw_lt a)
  have hwa := sw_lt a
  have hfma : 0 ≤ fmo a 8 ∧ fmo a 8 < 8 := by unfold fmo; omega
  have hswa : (fmo a 8).toNat = sw a := rfl
  have hlb := hLM.1 (sw b) (sw_lt b)
  have hwb := sw_lt b
  have hfmb : 0 ≤ fmo b 8 ∧ fmo b 8 < 8 := by unfold fmo; omega
  have hswb : (fmo b 8).toNat = sw b := rfl
  dsimp only at *
  have hmm : min (A.1 (sw a)).length (A.1 (sw b)).length ≤ (A.1 (sw a)).length ∧ min (A.1 (sw a)).length (A.1 (sw b)).length ≤ (A.1 (sw b)).length ∧ (min (A.1 (sw a)).length (A.1 (sw b)).length = (A.1 (sw a)).length ∨ min (A.1 (sw a)).length (A.1 (sw b)).length = (A.1 (sw b)).length) := by omega
  refine j_iconst h dX4_head_0 ?_
  refine j_istore_n h [(3, _), (0, _), (1, _), (2, _)] dX4_head_1 rfl (by decide) rfl ?_
  refine j_sub [0, 1, 2, 3] rfl ?_
  refine lpA1 (fun z : Int => ((A.1 (sw a)).length - z).toNat) (fun z : Int => 0 ≤ z → z ≤ (min (A.1 (sw a)).length (A.1 (sw b)).length : Nat) → sfr (A.1 (sw a)) (A.1 (sw b)) z.toNat (min (A.1 (sw a)).length (A.1 (sw b)).length - z.toNat) = sfr (A.1 (sw a)) (A.1 (sw b)) 0 (min (A.1 (sw a)).length (A.1 (sw b)).length) → JL E (RM E g0) X 2 [(3, .int (iI z)), (0, eA E 76), (1, .int (iI a)), (2, .int (iI b))] [] (A, mk)) (fun z ih h0 hzb hv => ?_) 0 (Int.le_refl 0) (by omega) rfl
  refine j_iload_n h 0 dX4_head_2 rfl rfl ?_
  refine j_aload_n h 1 dX4_head_3 rfl rfl ?_
  refine j_iload_n h 2 dX4_head_4 rfl rfl ?_
  refine j_callV h (c_X4_sizeOf hE ha) m_X4_sizeOf a_l_X4_67 rfl rfl ⟨Nat.le_of_ble_eq_true rfl, Nat.le_of_ble_eq_true rfl⟩ (ci := 4) rfl (by omega) (rcM) rfl rfl (Nat.le_of_ble_eq_true rfl) dX4_head_5 ?_
  refine j_icmp_ge h 41 dX4_head_8 (by decide) (by first | exact okI_of _ | exact okI_b _ | exact okI_sgz _ _ | assumption | (unfold okI; omega)) (by first | exact okI_of _ | exact okI_b _ | exact okI_sgz _ _ | assumption | (unfold okI; omega)) (fun c8 => ?_) (fun c8 => ?_)
  · refine j_iload_n h 0 dX4_head_41 rfl rfl ?_
    exact j_iret h hq (by rw [← hv]; first | rw [show min (A.1 (sw a)).length (A.1 (sw b)).length - z.toNat = 0 by omega, sfr, show ((z.toNat : Nat) : Int) = z by omega] | rw [show min (A.1 (sw a)).length (A.1 (sw b)).length - z.toNat = min (A.1 (sw a)).length (A.1 (sw b)).length - (z + 1).toNat + 1 by omega, sfr, if_neg c32, show ((z.toNat : Nat) : Int) = z by omega]) dX4_head_42
  · refine j_iload_n h 0 dX4_head_11 rfl rfl ?_
    refine j_aload_n h 1 dX4_head_12 rfl rfl ?_
    refine j_iload_n h 3 dX4_head_13 rfl rfl ?_
    refine j_callV h (c_X4_sizeOf hE hb) m_X4_sizeOf a_l_X4_67 rfl rfl ⟨Nat.le_of_ble_eq_true rfl, Nat.le_of_ble_eq_true rfl⟩ (ci := 4) rfl (by omega) (rcM) rfl rfl (Nat.le_of_ble_eq_true rfl) dX4_head_14 ?_
    refine j_icmp_ge h 41 dX4_head_17 (by decide) (by first | exact okI_of _ | exact okI_b _ | exact okI_sgz _ _ | assumption | (unfold okI; omega)) (by first | exact okI_of _ | exact okI_b _ | exact okI_sgz _ _ | assumption | (unfold okI; omega)) (fun c17 => ?_) (fun c17 => ?_)
    · refine j_iload_n h 0 dX4_head_41 rfl rfl ?_
      exact j_iret h hq (by rw [← hv]; first | rw [show min (A.1 (sw a)).length (A.1 (sw b)).length - z.toNat = 0 by omega, sfr, show ((z.toNat : Nat) : Int) = z by omega] | rw [show min (A.1 (sw a)).length (A.1 (sw b)).length - z.toNat = min (A.1 (sw a)).length (A.1 (sw b)).length - (z + 1).toNat + 1 by omega, sfr, if_neg c32, show ((z.toNat : Nat) : Int) = z by omega]) dX4_head_42
    · refine j_aload_n h 1 dX4_head_20 rfl rfl ?_
      refine j_iload_n h 2 dX4_head_21 rfl rfl ?_
      refine j_iload_n h 0 dX4_head_22 rfl rfl ?_
      refine j_callV h (c_X4_signAt hE ha (by omega) (by omega)) m_X4_signAt a_l_X4_58 rfl rfl ⟨Nat.le_of_ble_eq_true rfl, Nat.le_of_ble_eq_true rfl⟩ (ci := 4) rfl (by omega) (rcM) rfl rfl (Nat.le_of_ble_eq_true rfl) dX4_head_23 ?_
      refine j_aload_n h 1 dX4_head_26 rfl rfl ?_
      refine j_iload_n h 3 dX4_head_27 rfl rfl ?_
      refine j_iload_n h 0 dX4_head_28 rfl rfl ?_
      refine j_callV h (c_X4_signAt hE hb (by omega) (by omega)) m_X4_signAt a_l_X4_58 rfl rfl ⟨Nat.le_of_ble_eq_true rfl, Nat.le_of_ble_eq_true rfl⟩ (ci := 4) rfl (by omega) (rcM) rfl rfl (Nat.le_of_ble_eq_true rfl) dX4_head_29 ?_
      refine j_rcmp_ne h 41 dX4_head_32 (by decide) (fun c32 => ?_) (fun c32 => ?_)
      · refine j_iload_n h 0 dX4_head_41 rfl rfl ?_
        exact j_iret h hq (by rw [← hv]; first | rw [show min (A.1 (sw a)).length (A.1 (sw b)).length - z.toNat = 0 by omega, sfr, show ((z.toNat : Nat) : Int) = z by omega] | rw [show min (A.1 (sw a)).length (A.1 (sw b)).length - z.toNat = min (A.1 (sw a)).length (A.1 (sw b)).length - (z + 1).toNat + 1 by omega, sfr, if_neg c32, show ((z.toNat : Nat) : Int) = z by omega]) dX4_head_42
      · refine j_iinc h 0 [(3, _), (0, _), (1, _), (2, _)] dX4_head_35 rfl (by decide) rfl ?_
        refine j_goto h 2 dX4_head_38 (by decide) ?_
        exact ih (z + 1) (by omega) (by omega) (by omega) (by rw [show min (A.1 (sw a)).length (A.1 (sw b)).length - z.toNat = min (A.1 (sw a)).length (A.1 (sw b)).length - (z + 1).toNat + 1 by omega, sfr, if_pos c32, show z.toNat + 1 = (z + 1).toNat by omega] at hv; exact hv)
set_option maxHeartbeats 400000 in
set_option maxRecDepth 20000 in
theorem c_X4_foot {E : EV} (hE : EOK E) {A : AS} {mk : List Int32} {g0 : GH} {a : Int} (ha : okI a) {b : Int} (hb : okI b) : Ct E (RM E g0) yX4_foot wsX4_foot rX4_foot [eA E 76, .int (iI a), .int (iI b)] (A, mk) (some (.int (iI (srr (A.1 (sw a)) (A.1 (sw b)) 0 (min (A.1 (sw a)).length (A.1 (sw b)).length) : Nat)))) (A, mk) := by
  refine ct_of [(0, _), (1, _), (2, _)] hE (by decide) rfl (Nat.le_of_ble_eq_true rfl) rfl (fun X h hq => ?_)
  refine j_of (fun G hG => RM_len hG) (fun hLM => ?_)
  have hla := hLM.1 (sw a) (sw_lt a)
  have hwa := sw_lt a
  have hfma : 0 ≤ fmo a 8 ∧ fmo a 8 < 8 := by unfold fmo; omega
  have hswa : (fmo a 8).toNat = sw a := rfl
  have hlb := hLM.1 (sw b) (sw_lt b)
  have hwb := sw_lt b
  have hfmb : 0 ≤ fmo b 8 ∧ fmo b 8 < 8 := by unfold fmo; omega
  have hswb : (fmo b 8).toNat = sw b := rfl
  dsimp only at *
  have hmm : min (A.1 (sw a)).length (A.1 (sw b)).length ≤ (A.1 (sw a)).length ∧ min (A.1 (sw a)).length (A.1 (sw b)).length ≤ (A.1 (sw b)).length ∧ (min (A.1 (sw a)).length (A.1 (sw b)).length = (A.1 (sw a)).length ∨ min (A.1 (sw a)).length (A.1 (sw b)).length = (A.1 (sw b)).length) := by omega
  refine j_iconst h dX4_foot_0 ?_
  refine j_istore_n h [(3, _), (0, _), (1, _), (2, _)] dX4_foot_1 rfl (by decide) rfl ?_
  refine j_sub [0, 1, 2, 3] rfl ?_
  refine lpA1 (fun z : Int => ((A.1 (sw a)).length - z).toNat) (fun z : Int => 0 ≤ z → z ≤ (min (A.1 (sw a)).length (A.1 (sw b)).length : Nat) → srr (A.1 (sw a)) (A.1 (sw b)) z.toNat (min (A.1 (sw a)).length (A.1 (sw b)).length - z.toNat) = srr (A.1 (sw a)) (A.1 (sw b)) 0 (min (A.1 (sw a)).length (A.1 (sw b)).length) → JL E (RM E g0) X 2 [(3, .int (iI z)), (0, eA E 76), (1, .int (iI a)), (2, .int (iI b))] [] (A, mk)) (fun z ih h0 hzb hv => ?_) 0 (Int.le_refl 0) (by omega) rfl
  refine j_iload_n h 0 dX4_foot_2 rfl rfl ?_
  refine j_aload_n h 1 dX4_foot_3 rfl rfl ?_
  refine j_iload_n h 2 dX4_foot_4 rfl rfl ?_
  refine j_callV h (c_X4_sizeOf hE ha) m_X4_sizeOf a_l_X4_67 rfl rfl ⟨Nat.le_of_ble_eq_true rfl, Nat.le_of_ble_eq_true rfl⟩ (ci := 4) rfl (by omega) (rcM) rfl rfl (Nat.le_of_ble_eq_true rfl) dX4_foot_5 ?_
  refine j_icmp_ge h 57 dX4_foot_8 (by decide) (by first | exact okI_of _ | exact okI_b _ | exact okI_sgz _ _ | assumption | (unfold okI; omega)) (by first | exact okI_of _ | exact okI_b _ | exact okI_sgz _ _ | assumption | (unfold okI; omega)) (fun c8 => ?_) (fun c8 => ?_)
  · refine j_iload_n h 0 dX4_foot_57 rfl rfl ?_
    exact j_iret h hq (by rw [← hv]; first | rw [show min (A.1 (sw a)).length (A.1 (sw b)).length - z.toNat = 0 by omega, srr, show ((z.toNat : Nat) : Int) = z by omega] | rw [show min (A.1 (sw a)).length (A.1 (sw b)).length - z.toNat = min (A.1 (sw a)).length (A.1 (sw b)).length - (z + 1).toNat + 1 by omega, srr, if_neg (by rw [show (A.1 (sw a)).length - 1 - z.toNat = (((A.1 (sw a)).length : Int) - 1 - z).toNat by omega, show (A.1 (sw b)).length - 1 - z.toNat = (((A.1 (sw b)).length : Int) - 1 - z).toNat by omega]; exact c48), show ((z.toNat : Nat) : Int) = z by omega]) dX4_foot_58
  · refine j_iload_n h 0 dX4_foot_11 rfl rfl ?_
    refine j_aload_n h 1 dX4_foot_12 rfl rfl ?_
    refine j_iload_n h 3 dX4_foot_13 rfl rfl ?_
    refine j_callV h (c_X4_sizeOf hE hb) m_X4_sizeOf a_l_X4_67 rfl rfl ⟨Nat.le_of_ble_eq_true rfl, Nat.le_of_ble_eq_true rfl⟩ (ci := 4) rfl (by omega) (rcM) rfl rfl (Nat.le_of_ble_eq_true rfl) dX4_foot_14 ?_
    refine j_icmp_ge h 57 dX4_foot_17 (by decide) (by first | exact okI_of _ | exact okI_b _ | exact okI_sgz _ _ | assumption | (unfold okI; omega)) (by first | exact okI_of _ | exact okI_b _ | exact okI_sgz _ _ | assumption | (unfold okI; omega)) (fun c17 => ?_) (fun c17 => ?_)
    · refine j_iload_n h 0 dX4_foot_57 rfl rfl ?_
      exact j_iret h hq (by rw [← hv]; first | rw [show min (A.1 (sw a)).length (A.1 (sw b)).length - z.toNat = 0 by omega, srr, show ((z.toNat : Nat) : Int) = z by omega] | rw [show min (A.1 (sw a)).length (A.1 (sw b)).length - z.toNat = min (A.1 (sw a)).length (A.1 (sw b)).length - (z + 1).toNat + 1 by omega, srr, if_neg (by rw [show (A.1 (sw a)).length - 1 - z.toNat = (((A.1 (sw a)).length : Int) - 1 - z).toNat by omega, show (A.1 (sw b)).length - 1 - z.toNat = (((A.1 (sw b)).length : Int) - 1 - z).toNat by omega]; exact c48), show ((z.toNat : Nat) : Int) = z by omega]) dX4_foot_58
    · refine j_aload_n h 1 dX4_foot_20 rfl rfl ?_
      refine j_iload_n h 2 dX4_foot_21 rfl rfl ?_
      refine j_aload_n h 1 dX4_foot_22 rfl rfl ?_
      refine j_iload_n h 2 dX4_foot_23 rfl rfl ?_
      refine j_callV h (c_X4_sizeOf hE ha) m_X4_sizeOf a_l_X4_67 rfl rfl ⟨Nat.le_of_ble_eq_true rfl, Nat.le_of_ble_eq_true rfl⟩ (ci := 4) rfl (by omega) (rcM) rfl rfl (Nat.le_of_ble_eq_true rfl) dX4_foot_24 ?_
      refine j_iconst h dX4_foot_27 ?_
      refine j_isub h dX4_foot_28 ?_
      refine j_iload_n h 0 dX4_foot_29 rfl rfl ?_
      refine j_isub h dX4_foot_30 ?_
      refine j_callV h (c_X4_signAt hE ha (by omega) (by omega)) m_X4_signAt a_l_X4_58 rfl rfl ⟨Nat.le_of_ble_eq_true rfl, Nat.le_of_ble_eq_true rfl⟩ (ci := 4) rfl (by omega) (rcM) rfl rfl (Nat.le_of_ble_eq_true rfl) dX4_foot_31 ?_
      refine j_aload_n h 1 dX4_foot_34 rfl rfl ?_
      refine j_iload_n h 3 dX4_foot_35 rfl rfl ?_
      refine j_aload_n h 1 dX4_foot_36 rfl rfl ?_
      refine j_iload_n h 3 dX4_foot_37 rfl rfl ?_
      refine j_callV h (c_X4_sizeOf hE hb) m_X4_sizeOf a_l_X4_67 rfl rfl ⟨Nat.le_of_ble_eq_true rfl, Nat.le_of_ble_eq_true rfl⟩ (ci := 4) rfl (by omega) (rcM) rfl rfl (Nat.le_of_ble_eq_true rfl) dX4_foot_38 ?_
      refine j_iconst h dX4_foot_41 ?_
      refine j_isub h dX4_foot_42 ?_
      refine j_iload_n h 0 dX4_foot_43 rfl rfl ?_
      refine j_isub h dX4_foot_44 ?_
      refine j_callV h (c_X4_signAt hE hb (by omega) (by omega)) m_X4_signAt a_l_X4_58 rfl rfl ⟨Nat.le_of_ble_eq_true rfl, Nat.le_of_ble_eq_true rfl⟩ (ci := 4) rfl (by omega) (rcM) rfl rfl (Nat.le_of_ble_eq_true rfl) dX4_foot_45 ?_
      refine j_rcmp_ne h 57 dX4_foot_48 (by decide) (fun c48 => ?_) (fun c48 => ?_)
      · refine j_iload_n h 0 dX4_foot_57 rfl rfl ?_
        exact j_iret h hq (by rw [← hv]; first | rw [show min (A.1 (sw a)).length (A.1 (sw b)).length - z.toNat = 0 by omega, srr, show ((z.toNat : Nat) : Int) = z by omega] | rw [show min (A.1 (sw a)).length (A.1 (sw b)).length - z.toNat = min (A.1 (sw a)).length (A.1 (sw b)).length - (z + 1).toNat + 1 by omega, srr, if_neg (by rw [show (A.1 (sw a)).length - 1 - z.toNat = (((A.1 (sw a)).length : Int) - 1 - z).toNat by omega, show (A.1 (sw b)).length - 1 - z.toNat = (((A.1 (sw b)).length : Int) - 1 - z).toNat by omega]; exact c48), show ((z.toNat : Nat) : Int) = z by omega]) dX4_foot_58
      · refine j_iinc h 0 [(3, _), (0, _), (1, _), (2, _)] dX4_foot_51 rfl (by decide) rfl ?_
        refine j_goto h 2 dX4_foot_54 (by decide) ?_
        exact ih (z + 1) (by omega) (by omega) (by omega) (by rw [show min (A.1 (sw a)).length (A.1 (sw b)).length - z.toNat = min (A.1 (sw a)).length (A.1 (sw b)).length - (z + 1).toNat + 1 by omega, srr, if_pos (by rw [show (A.1 (sw a)).length - 1 - z.toNat = (((A.1 (sw a)).length : Int) - 1 - z).toNat by omega, show (A.1 (sw b)).length - 1 - z.toNat = (((A.1 (sw b)).length : Int) - 1 - z).toNat by omega]; exact c48), show z.toNat + 1 = (z + 1).toNat by omega] at hv; exact hv)
set_option maxHeartbeats 400000 in
set_option maxRecDepth 20000 in
theorem c_X4_pieces {E : EV} (hE : EOK E) {A : AS} {mk : List Int32} {g0 : GH}  : Ct E (RM E g0) yX4_pieces wsX4_pieces rX4_pieces [eA E 76] (A, mk) (some (.int (iI A.2.1.2.length))) (A, mk) := by
  refine ct_of [(0, _)] hE (by decide) rfl (Nat.le_of_ble_eq_true rfl) rfl (fun X h hq => ?_)
  refine j_of (fun G hG => RM_len hG) (fun hLM => ?_)
  dsimp only at *
  refine j_aload_n h 0 dX4_pieces_0 rfl rfl ?_
  refine jg_MpieceMany h a_f_X4_138 dX4_pieces_1 ?_
  exact j_iret h hq rfl dX4_pieces_4
