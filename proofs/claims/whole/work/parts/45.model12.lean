/-! the reference: what always holds -/
set_option maxHeartbeats 400000 in
set_option maxRecDepth 20000 in
theorem c_X4_arePiecesSo {E : EV} (hE : EOK E) {A : AS} {mk : List Int32} {g0 : GH} {a : Int} (ha : okI a) : Ct E (RM E g0) yX4_arePiecesSo wsX4_arePiecesSo rX4_arePiecesSo [eA E 76, .int (iI a)] (A, mk) (some (.int (iI (bI true)))) (A, mk) := by
  refine ct_of [(0, _), (1, _)] hE (by decide) rfl (Nat.le_of_ble_eq_true rfl) rfl (fun X h hq => ?_)
  refine j_of (fun G hG => RM_len hG) (fun hLM => ?_)
  have hla := hLM.1 (sw a) (sw_lt a)
  have hwa := sw_lt a
  have hfma : 0 ≤ fmo a 8 ∧ fmo a 8 < 8 := by unfold fmo; omega
  have hswa : (fmo a 8).toNat = sw a := rfl
  dsimp only at *
  refine j_iconst h dX4_arePiecesSo_0 ?_
  refine j_istore_n h [(2, _), (0, _), (1, _)] dX4_arePiecesSo_1 rfl (by decide) rfl ?_
  refine j_iconst h dX4_arePiecesSo_2 ?_
  refine j_istore_n h [(3, _), (2, _), (0, _), (1, _)] dX4_arePiecesSo_3 rfl (by decide) rfl ?_
  refine j_iconst h dX4_arePiecesSo_4 ?_
  refine j_istore h [(4, _), (3, _), (2, _), (0, _), (1, _)] dX4_arePiecesSo_5 (by decide) rfl ?_
  refine j_sub [0, 2, 1, 3, 4] rfl ?_
  refine lpA3 (fun (z c d : Int) => ((A.1 (sw a)).length - z).toNat) (fun (z c d : Int) => 0 ≤ z → z ≤ (A.1 (sw a)).length → 0 ≤ c → 0 ≤ d → c + d = z → JL E (RM E g0) X 7 [(4, .int (iI z)), (2, .int (iI c)), (3, .int (iI d)), (0, eA E 76), (1, .int (iI a))] [] (A, mk)) (fun z c d ih h0 hzb hc hd he => ?_) 0 0 0 (Int.le_refl 0) (by omega) (Int.le_refl 0) (Int.le_refl 0) rfl
  refine j_iload h 0 dX4_arePiecesSo_7 rfl ?_
  refine j_aload_n h 3 dX4_arePiecesSo_9 rfl rfl ?_
  refine j_iload_n h 4 dX4_arePiecesSo_10 rfl rfl ?_
  refine j_callV h (c_X4_sizeOf hE ha) m_X4_sizeOf a_l_X4_67 rfl rfl ⟨Nat.le_of_ble_eq_true rfl, Nat.le_of_ble_eq_true rfl⟩ (ci := 4) rfl (by omega) (rcM) rfl rfl (Nat.le_of_ble_eq_true rfl) dX4_arePiecesSo_11 ?_
  refine j_icmp_ge h 63 dX4_arePiecesSo_14 (by decide) (by first | exact okI_of _ | exact okI_b _ | exact okI_sgz _ _ | assumption | (unfold okI; omega)) (by first | exact okI_of _ | exact okI_b _ | exact okI_sgz _ _ | assumption | (unfold okI; omega)) (fun c14 => ?_) (fun c14 => ?_)
  · refine j_iload_n h 1 dX4_arePiecesSo_63 rfl rfl ?_
    refine j_iload_n h 2 dX4_arePiecesSo_64 rfl rfl ?_
    refine j_iadd h dX4_arePiecesSo_65 ?_
    refine j_aload_n h 3 dX4_arePiecesSo_66 rfl rfl ?_
    refine j_iload_n h 4 dX4_arePiecesSo_67 rfl rfl ?_
    refine j_callV h (c_X4_sizeOf hE ha) m_X4_sizeOf a_l_X4_67 rfl rfl ⟨Nat.le_of_ble_eq_true rfl, Nat.le_of_ble_eq_true rfl⟩ (ci := 4) rfl (by omega) (rcM) rfl rfl (Nat.le_of_ble_eq_true rfl) dX4_arePiecesSo_68 ?_
    refine j_icmp_ne h 78 dX4_arePiecesSo_71 (by decide) (by first | exact okI_of _ | exact okI_b _ | exact okI_sgz _ _ | assumption | (unfold okI; omega)) (by first | exact okI_of _ | exact okI_b _ | exact okI_sgz _ _ | assumption | (unfold okI; omega)) (fun c71 => ?_) (fun c71 => ?_)
    · exact absurd c71 (by omega)
    · refine j_iconst h dX4_arePiecesSo_74 ?_
      refine j_goto h 79 dX4_arePiecesSo_75 (by decide) ?_
      exact j_zret h hq rfl (by first | exact nzb true | exact nzb false | exact nzb _) dX4_arePiecesSo_79
  · refine j_iload_n h 1 dX4_arePiecesSo_17 rfl rfl ?_
    refine j_aload_n h 3 dX4_arePiecesSo_18 rfl rfl ?_
    refine j_iload_n h 4 dX4_arePiecesSo_19 rfl rfl ?_
    refine j_iload h 0 dX4_arePiecesSo_20 rfl ?_
    refine j_callV h (c_X4_signAt hE ha (by omega) (by omega)) m_X4_signAt a_l_X4_58 rfl rfl ⟨Nat.le_of_ble_eq_true rfl, Nat.le_of_ble_eq_true rfl⟩ (ci := 4) rfl (by omega) (rcM) rfl rfl (Nat.le_of_ble_eq_true rfl) dX4_arePiecesSo_22 ?_
    refine j_bipush h dX4_arePiecesSo_25 (by decide) ?_
    refine j_rcmp_ne h 34 dX4_arePiecesSo_27 (by decide) (fun c27 => ?_) (fun c27 => ?_)
    · refine j_iconst h dX4_arePiecesSo_34 ?_
      refine j_iadd h dX4_arePiecesSo_35 ?_
      refine j_istore_n h [(2, _), (4, _), (3, _), (0, _), (1, _)] dX4_arePiecesSo_36 rfl (by decide) rfl ?_
      refine j_iload_n h 2 dX4_arePiecesSo_37 rfl rfl ?_
      refine j_aload_n h 3 dX4_arePiecesSo_38 rfl rfl ?_
      refine j_iload_n h 4 dX4_arePiecesSo_39 rfl rfl ?_
      refine j_iload h 1 dX4_arePiecesSo_40 rfl ?_
      refine j_callV h (c_X4_signAt hE ha (by omega) (by omega)) m_X4_signAt a_l_X4_58 rfl rfl ⟨Nat.le_of_ble_eq_true rfl, Nat.le_of_ble_eq_true rfl⟩ (ci := 4) rfl (by omega) (rcM) rfl rfl (Nat.le_of_ble_eq_true rfl) dX4_arePiecesSo_42 ?_
      refine j_bipush h dX4_arePiecesSo_45 (by decide) ?_
      refine j_rcmp_ne h 54 dX4_arePiecesSo_47 (by decide) (fun c47 => ?_) (fun c47 => ?_)
      · refine j_iconst h dX4_arePiecesSo_54 ?_
        refine j_iadd h dX4_arePiecesSo_55 ?_
        refine j_istore_n h [(3, _), (2, _), (4, _), (0, _), (1, _)] dX4_arePiecesSo_56 rfl (by decide) rfl ?_
        refine j_iinc h 2 [(4, _), (3, _), (2, _), (0, _), (1, _)] dX4_arePiecesSo_57 rfl (by decide) rfl ?_
        refine j_goto h 7 dX4_arePiecesSo_60 (by decide) ?_
        refine j_sub [0, 2, 1, 3, 4] rfl ?_
        first | exact absurd c27 c47 | exact absurd c47 c27 | exact ih (z + 1) (c + 1) (d + 0) (by omega) (by omega) (by omega) (by omega) (by omega) (by omega) | exact ih (z + 1) (c + 0) (d + 1) (by omega) (by omega) (by omega) (by omega) (by omega) (by omega)
      · refine j_iconst h dX4_arePiecesSo_50 ?_
        refine j_goto h 55 dX4_arePiecesSo_51 (by decide) ?_
        refine j_iadd h dX4_arePiecesSo_55 ?_
        refine j_istore_n h [(3, _), (2, _), (4, _), (0, _), (1, _)] dX4_arePiecesSo_56 rfl (by decide) rfl ?_
        refine j_iinc h 2 [(4, _), (3, _), (2, _), (0, _), (1, _)] dX4_arePiecesSo_57 rfl (by decide) rfl ?_
        refine j_goto h 7 dX4_arePiecesSo_60 (by decide) ?_
        refine j_sub [0, 2, 1, 3, 4] rfl ?_
        first | exact absurd c27 c47 | exact absurd c47 c27 | exact ih (z + 1) (c + 1) (d + 0) (by omega) (by omega) (by omega) (by omega) (by omega) (by omega) | exact ih (z + 1) (c + 0) (d + 1) (by omega) (by omega) (by omega) (by omega) (by omega) (by omega)
    · refine j_iconst h dX4_arePiecesSo_30 ?_
      refine j_goto h 35 dX4_arePiecesSo_31 (by decide) ?_
      refine j_iadd h dX4_arePiecesSo_35 ?_
      refine j_istore_n h [(2, _), (4, _), (3, _), (0, _), (1, _)] dX4_arePiecesSo_36 rfl (by decide) rfl ?_
      refine j_iload_n h 2 dX4_arePiecesSo_37 rfl rfl ?_
      refine j_aload_n h 3 dX4_arePiecesSo_38 rfl rfl ?_
      refine j_iload_n h 4 dX4_arePiecesSo_39 rfl rfl ?_
      refine j_iload h 1 dX4_arePiecesSo_40 rfl ?_
      refine j_callV h (c_X4_signAt hE ha (by omega) (by omega)) m_X4_signAt a_l_X4_58 rfl rfl ⟨Nat.le_of_ble_eq_true rfl, Nat.le_of_ble_eq_true rfl⟩ (ci := 4) rfl (by omega) (rcM) rfl rfl (Nat.le_of_ble_eq_true rfl) dX4_arePiecesSo_42 ?_
      refine j_bipush h dX4_arePiecesSo_45 (by decide) ?_
      refine j_rcmp_ne h 54 dX4_arePiecesSo_47 (by decide) (fun c47 => ?_) (fun c47 => ?_)
      · refine j_iconst h dX4_arePiecesSo_54 ?_
        refine j_iadd h dX4_arePiecesSo_55 ?_
        refine j_istore_n h [(3, _), (2, _), (4, _), (0, _), (1, _)] dX4_arePiecesSo_56 rfl (by decide) rfl ?_
        refine j_iinc h 2 [(4, _), (3, _), (2, _), (0, _), (1, _)] dX4_arePiecesSo_57 rfl (by decide) rfl ?_
        refine j_goto h 7 dX4_arePiecesSo_60 (by decide) ?_
        refine j_sub [0, 2, 1, 3, 4] rfl ?_
        first | exact absurd c27 c47 | exact absurd c47 c27 | exact ih (z + 1) (c + 1) (d + 0) (by omega) (by omega) (by omega) (by omega) (by omega) (by omega) | exact ih (z + 1) (c + 0) (d + 1) (by omega) (by omega) (by omega) (by omega) (by omega) (by omega)
      · refine j_iconst h dX4_arePiecesSo_50 ?_
        refine j_goto h 55 dX4_arePiecesSo_51 (by decide) ?_
        refine j_iadd h dX4_arePiecesSo_55 ?_
        refine j_istore_n h [(3, _), (2, _), (4, _), (0, _), (1, _)] dX4_arePiecesSo_56 rfl (by decide) rfl ?_
        refine j_iinc h 2 [(4, _), (3, _), (2, _), (0, _), (1, _)] dX4_arePiecesSo_57 rfl (by decide) rfl ?_
        refine j_goto h 7 dX4_arePiecesSo_60 (by decide) ?_
        refine j_sub [0, 2, 1, 3, 4] rfl ?_
        first | exact absurd c27 c47 | exact absurd c47 c27 | exact ih (z + 1) (c + 1) (d + 0) (by omega) (by omega) (by omega) (by omega) (by omega) (by omega) | exact ih (z + 1) (c + 0) (d + 1) (by omega) (by omega) (by omega) (by omega) (by omega) (by omega)
theorem plF_nx (xs ys : List Int32) (s : Int) (h0 : 0 ≤ s) (h1 : s ≤ xs.length) : -1 ≤ plF xs ys s ∧ (plF xs ys s ≠ -1 → s ≤ plF xs ys s ∧ plF xs ys s + ys.length ≤ xs.length) := by
  have hm : mxI 0 (mnI s xs.length) = s := by unfold mxI mnI; split <;> (try split) <;> omega
  have h := plF_spec xs ys s
  rw [hm] at h
  refine ⟨(plF_range xs ys s).1, fun hn => ?_⟩
  rcases h with ⟨q, _⟩ | ⟨q1, q2, q3, _⟩
  · exact absurd q hn
  · refine ⟨q1, ?_⟩
    by_cases w : (xs.length : Int) < plF xs ys s + ys.length
    · rw [bz_out (Or.inr w)] at q3; cases q3
    · omega
set_option maxHeartbeats 400000 in
set_option maxRecDepth 20000 in
theorem c_X4_areFindsSo {E : EV} (hE : EOK E) {A : AS} {mk : List Int32} {g0 : GH} {a : Int} (ha : okI a) {b : Int} (hb : okI b) : Ct E (RM E g0) yX4_areFindsSo wsX4_areFindsSo rX4_areFindsSo [eA E 76, .int (iI a), .int (iI b)] (A, mk) (some (.int (iI (bI true)))) (A, mk) := by
  refine ct_of [(0, _), (1, _), (2, _)] hE (by decide) rfl (Nat.le_of_ble_eq_true rfl) rfl (fun X h hq => ?_)
  refine j_of (fun G hG => RM_len hG) (fun hLM => ?_)
  have hla := hLM.1 (sw a) (sw_lt a)
  have hwa := sw_lt a
  have hfma : 0 ≤ fmo a 8 ∧ fmo a 8 < 8 := by unfold fmo; omega
  have hswa : (fmo a 8).toNat = sw a := rfl
  have hlb := hLM.1 (sw b) (sw_lt b)
  have hwb := sw_lt b
  have hfmb : 0 ≤ fmo b 8 ∧ fmo b 8 < 8 := by unfold fmo; omega
  have hswb : (fmo b 8).toNat = sw b := rfl
  dsimp only at *
  refine j_iconst h dX4_areFindsSo_0 ?_
  refine j_istore_n h [(3, _), (0, _), (1, _), (2, _)] dX4_areFindsSo_1 rfl (by decide) rfl ?_
  refine j_iconst h dX4_areFindsSo_2 ?_
  refine j_istore h [(4, _), (3, _), (0, _), (1, _), (2, _)] dX4_areFindsSo_3 (by decide) rfl ?_
  refine j_aload_n h 2 dX4_areFindsSo_5 rfl rfl ?_
  refine j_iload_n h 4 dX4_areFindsSo_6 rfl rfl ?_
  refine j_callV h (c_X4_sizeOf hE hb) m_X4_sizeOf a_l_X4_67 rfl rfl ⟨Nat.le_of_ble_eq_true rfl, Nat.le_of_ble_eq_true rfl⟩ (ci := 4) rfl (by omega) (rcM) rfl rfl (Nat.le_of_ble_eq_true rfl) dX4_areFindsSo_7 ?_
  refine j_if_ne h 17 dX4_areFindsSo_10 (by decide) (by first | exact okI_of _ | exact okI_b _ | exact okI_sgz _ _ | assumption | (unfold okI; omega)) (fun c10 => ?_) (fun c10 => ?_)
  · refine j_aload_n h 2 dX4_areFindsSo_17 rfl rfl ?_
    refine j_iload_n h 3 dX4_areFindsSo_18 rfl rfl ?_
    refine j_iload_n h 4 dX4_areFindsSo_19 rfl rfl ?_
    refine j_callV h (c_X4_find hE ha hb) m_X4_find a_l_X4_117 rfl rfl ⟨Nat.le_of_ble_eq_true rfl, Nat.le_of_ble_eq_true rfl⟩ (ci := 4) rfl (by omega) (rcM) rfl rfl (Nat.le_of_ble_eq_true rfl) dX4_areFindsSo_20 ?_
    have hpl := plF_nx (A.1 (sw a)) (A.1 (sw b)) 0 (Int.le_refl 0) (by omega)
    refine j_istore h [(5, _), (4, _), (3, _), (0, _), (1, _), (2, _)] dX4_areFindsSo_23 (by decide) rfl ?_
    refine j_sub [0, 2, 1, 3, 4, 5] rfl ?_
    refine lpA2 (fun (s t : Int) => ((A.1 (sw a)).length - s).toNat) (fun (s t : Int) => 0 ≤ s → s ≤ (A.1 (sw a)).length → -1 ≤ t → t ≤ (A.1 (sw a)).length → (t ≠ -1 → s ≤ t ∧ t + (A.1 (sw b)).length ≤ (A.1 (sw a)).length ∧ 0 < (A.1 (sw b)).length) → JL E (RM E g0) X 25 [(5, .int (iI t)), (3, .int (iI s)), (4, .int (iI s)), (0, eA E 76), (1, .int (iI a)), (2, .int (iI b))] [] (A, mk)) (fun s t ih h0 hsb ht htb hn => ?_) 0 _ (Int.le_refl 0) (by omega) (by first | exact hpl.1 | exact Int.le_refl _) (by first | exact (plF_range (A.1 (sw a)) (A.1 (sw b)) 0).2 | omega) (by first | exact (fun w => ⟨(hpl.2 w).1, (hpl.2 w).2, by omega⟩) | exact (fun w => absurd rfl w))
    refine j_iload h 0 dX4_areFindsSo_25 rfl ?_
    refine j_iconst h dX4_areFindsSo_27 ?_
    refine j_icmp_eq h 68 dX4_areFindsSo_28 (by decide) (by first | exact okI_of _ | exact okI_b _ | exact okI_sgz _ _ | assumption | (unfold okI; omega)) (by first | exact okI_of _ | exact okI_b _ | exact okI_sgz _ _ | assumption | (unfold okI; omega)) (fun c28 => ?_) (fun c28 => ?_)
    · refine j_iload_n h 1 dX4_areFindsSo_68 rfl rfl ?_
      refine j_aload_n h 3 dX4_areFindsSo_69 rfl rfl ?_
      refine j_iload_n h 4 dX4_areFindsSo_70 rfl rfl ?_
      refine j_callV h (c_X4_sizeOf hE ha) m_X4_sizeOf a_l_X4_67 rfl rfl ⟨Nat.le_of_ble_eq_true rfl, Nat.le_of_ble_eq_true rfl⟩ (ci := 4) rfl (by omega) (rcM) rfl rfl (Nat.le_of_ble_eq_true rfl) dX4_areFindsSo_71 ?_
      refine j_iload h 2 dX4_areFindsSo_74 rfl ?_
      refine j_isub h dX4_areFindsSo_76 ?_
      refine j_iadd h dX4_areFindsSo_77 ?_
      refine j_istore_n h [(3, _), (5, _), (4, _), (0, _), (1, _), (2, _)] dX4_areFindsSo_78 rfl (by decide) rfl ?_
      refine j_iload_n h 0 dX4_areFindsSo_79 rfl rfl ?_
      refine j_aload_n h 3 dX4_areFindsSo_80 rfl rfl ?_
      refine j_iload_n h 4 dX4_areFindsSo_81 rfl rfl ?_
      refine j_callV h (c_X4_sizeOf hE ha) m_X4_sizeOf a_l_X4_67 rfl rfl ⟨Nat.le_of_ble_eq_true rfl, Nat.le_of_ble_eq_true rfl⟩ (ci := 4) rfl (by omega) (rcM) rfl rfl (Nat.le_of_ble_eq_true rfl) dX4_areFindsSo_82 ?_
      refine j_icmp_ne h 92 dX4_areFindsSo_85 (by decide) (by first | exact okI_of _ | exact okI_b _ | exact okI_sgz _ _ | assumption | (unfold okI; omega)) (by first | exact okI_of _ | exact okI_b _ | exact okI_sgz _ _ | assumption | (unfold okI; omega)) (fun c85 => ?_) (fun c85 => ?_)
      · exact absurd c85 (by omega)
      · refine j_iconst h dX4_areFindsSo_88 ?_
        refine j_goto h 93 dX4_areFindsSo_89 (by decide) ?_
        exact j_zret h hq rfl (by first | exact nzb true | exact nzb false | exact nzb _) dX4_areFindsSo_93
    · refine j_iload_n h 1 dX4_areFindsSo_31 rfl rfl ?_
      refine j_iload h 0 dX4_areFindsSo_32 rfl ?_
      refine j_iload h 2 dX4_areFindsSo_34 rfl ?_
      refine j_isub h dX4_areFindsSo_36 ?_
      refine j_aload_n h 3 dX4_areFindsSo_37 rfl rfl ?_
      refine j_iload_n h 5 dX4_areFindsSo_38 rfl rfl ?_
      refine j_callV h (c_X4_sizeOf hE hb) m_X4_sizeOf a_l_X4_67 rfl rfl ⟨Nat.le_of_ble_eq_true rfl, Nat.le_of_ble_eq_true rfl⟩ (ci := 4) rfl (by omega) (rcM) rfl rfl (Nat.le_of_ble_eq_true rfl) dX4_areFindsSo_39 ?_
      refine j_iadd h dX4_areFindsSo_42 ?_
      refine j_iadd h dX4_areFindsSo_43 ?_
      refine j_istore_n h [(3, _), (5, _), (4, _), (0, _), (1, _), (2, _)] dX4_areFindsSo_44 rfl (by decide) rfl ?_
      refine j_iload h 1 dX4_areFindsSo_45 rfl ?_
      refine j_aload_n h 3 dX4_areFindsSo_47 rfl rfl ?_
      refine j_iload_n h 5 dX4_areFindsSo_48 rfl rfl ?_
      refine j_callV h (c_X4_sizeOf hE hb) m_X4_sizeOf a_l_X4_67 rfl rfl ⟨Nat.le_of_ble_eq_true rfl, Nat.le_of_ble_eq_true rfl⟩ (ci := 4) rfl (by omega) (rcM) rfl rfl (Nat.le_of_ble_eq_true rfl) dX4_areFindsSo_49 ?_
      refine j_iadd h dX4_areFindsSo_52 ?_
      refine j_istore h [(4, _), (3, _), (5, _), (0, _), (1, _), (2, _)] dX4_areFindsSo_53 (by decide) rfl ?_
      refine j_aload_n h 3 dX4_areFindsSo_55 rfl rfl ?_
      refine j_iload_n h 4 dX4_areFindsSo_56 rfl rfl ?_
      refine j_iload_n h 5 dX4_areFindsSo_57 rfl rfl ?_
      refine j_iload h 0 dX4_areFindsSo_58 rfl ?_
      refine j_callV h (c_X4_findFrom hE ha hb (by unfold okI; omega)) m_X4_findFrom a_l_X4_108 rfl rfl ⟨Nat.le_of_ble_eq_true rfl, Nat.le_of_ble_eq_true rfl⟩ (ci := 4) rfl (by omega) (rcM) rfl rfl (Nat.le_of_ble_eq_true rfl) dX4_areFindsSo_60 ?_
      have hpl := plF_nx (A.1 (sw a)) (A.1 (sw b)) (t + (A.1 (sw b)).length) (by omega) (by omega)
      refine j_istore h [(5, _), (4, _), (3, _), (0, _), (1, _), (2, _)] dX4_areFindsSo_63 (by decide) rfl ?_
      refine j_goto h 25 dX4_areFindsSo_65 (by decide) ?_
      refine j_sub [0, 2, 1, 3, 4, 5] rfl ?_
      refine j_lv (lv2 := [(5, .int (iI (plF (A.1 (sw a)) (A.1 (sw b)) (t + (A.1 (sw b)).length)))), (3, .int (iI (t + (A.1 (sw b)).length))), (4, .int (iI (t + (A.1 (sw b)).length))), (0, eA E 76), (1, .int (iI a)), (2, .int (iI b))]) (by rw [show s + (t - s + (A.1 (sw b)).length) = t + (A.1 (sw b)).length by omega]; rfl) ?_
      exact ih (t + (A.1 (sw b)).length) _ (by omega) (by omega) (by omega) hpl.1 (plF_range (A.1 (sw a)) (A.1 (sw b)) _).2 (fun w => ⟨(hpl.2 w).1, (hpl.2 w).2, by omega⟩)
  · refine j_iconst h dX4_areFindsSo_13 ?_
    refine j_goto h 23 dX4_areFindsSo_14 (by decide) ?_
    refine j_istore h [(5, _), (4, _), (3, _), (0, _), (1, _), (2, _)] dX4_areFindsSo_23 (by decide) rfl ?_
    refine j_sub [0, 2, 1, 3, 4, 5] rfl ?_
    refine lpA2 (fun (s t : Int) => ((A.1 (sw a)).length - s).toNat) (fun (s t : Int) => 0 ≤ s → s ≤ (A.1 (sw a)).length → -1 ≤ t → t ≤ (A.1 (sw a)).length → (t ≠ -1 → s ≤ t ∧ t + (A.1 (sw b)).length ≤ (A.1 (sw a)).length ∧ 0 < (A.1 (sw b)).length) → JL E (RM E g0) X 25 [(5, .int (iI t)), (3, .int (iI s)), (4, .int (iI s)), (0, eA E 76), (1, .int (iI a)), (2, .int (iI b))] [] (A, mk)) (fun s t ih h0 hsb ht htb hn => ?_) 0 _ (Int.le_refl 0) (by omega) (by first | exact hpl.1 | exact Int.le_refl _) (by first | exact (plF_range (A.1 (sw a)) (A.1 (sw b)) 0).2 | omega) (by first | exact (fun w => ⟨(hpl.2 w).1, (hpl.2 w).2, by omega⟩) | exact (fun w => absurd rfl w))
    refine j_iload h 0 dX4_areFindsSo_25 rfl ?_
    refine j_iconst h dX4_areFindsSo_27 ?_
    refine j_icmp_eq h 68 dX4_areFindsSo_28 (by decide) (by first | exact okI_of _ | exact okI_b _ | exact okI_sgz _ _ | assumption | (unfold okI; omega)) (by first | exact okI_of _ | exact okI_b _ | exact okI_sgz _ _ | assumption | (unfold okI; omega)) (fun c28 => ?_) (fun c28 => ?_)
    · refine j_iload_n h 1 dX4_areFindsSo_68 rfl rfl ?_
      refine j_aload_n h 3 dX4_areFindsSo_69 rfl rfl ?_
      refine j_iload_n h 4 dX4_areFindsSo_70 rfl rfl ?_
      refine j_callV h (c_X4_sizeOf hE ha) m_X4_sizeOf a_l_X4_67 rfl rfl ⟨Nat.le_of_ble_eq_true rfl, Nat.le_of_ble_eq_true rfl⟩ (ci := 4) rfl (by omega) (rcM) rfl rfl (Nat.le_of_ble_eq_true rfl) dX4_areFindsSo_71 ?_
      refine j_iload h 2 dX4_areFindsSo_74 rfl ?_
      refine j_isub h dX4_areFindsSo_76 ?_
      refine j_iadd h dX4_areFindsSo_77 ?_
      refine j_istore_n h [(3, _), (5, _), (4, _), (0, _), (1, _), (2, _)] dX4_areFindsSo_78 rfl (by decide) rfl ?_
      refine j_iload_n h 0 dX4_areFindsSo_79 rfl rfl ?_
      refine j_aload_n h 3 dX4_areFindsSo_80 rfl rfl ?_
      refine j_iload_n h 4 dX4_areFindsSo_81 rfl rfl ?_
      refine j_callV h (c_X4_sizeOf hE ha) m_X4_sizeOf a_l_X4_67 rfl rfl ⟨Nat.le_of_ble_eq_true rfl, Nat.le_of_ble_eq_true rfl⟩ (ci := 4) rfl (by omega) (rcM) rfl rfl (Nat.le_of_ble_eq_true rfl) dX4_areFindsSo_82 ?_
      refine j_icmp_ne h 92 dX4_areFindsSo_85 (by decide) (by first | exact okI_of _ | exact okI_b _ | exact okI_sgz _ _ | assumption | (unfold okI; omega)) (by first | exact okI_of _ | exact okI_b _ | exact okI_sgz _ _ | assumption | (unfold okI; omega)) (fun c85 => ?_) (fun c85 => ?_)
      · exact absurd c85 (by omega)
      · refine j_iconst h dX4_areFindsSo_88 ?_
        refine j_goto h 93 dX4_areFindsSo_89 (by decide) ?_
        exact j_zret h hq rfl (by first | exact nzb true | exact nzb false | exact nzb _) dX4_areFindsSo_93
    · refine j_iload_n h 1 dX4_areFindsSo_31 rfl rfl ?_
      refine j_iload h 0 dX4_areFindsSo_32 rfl ?_
      refine j_iload h 2 dX4_areFindsSo_34 rfl ?_
      refine j_isub h dX4_areFindsSo_36 ?_
      refine j_aload_n h 3 dX4_areFindsSo_37 rfl rfl ?_
      refine j_iload_n h 5 dX4_areFindsSo_38 rfl rfl ?_
      refine j_callV h (c_X4_sizeOf hE hb) m_X4_sizeOf a_l_X4_67 rfl rfl ⟨Nat.le_of_ble_eq_true rfl, Nat.le_of_ble_eq_true rfl⟩ (ci := 4) rfl (by omega) (rcM) rfl rfl (Nat.le_of_ble_eq_true rfl) dX4_areFindsSo_39 ?_
      refine j_iadd h dX4_areFindsSo_42 ?_
      refine j_iadd h dX4_areFindsSo_43 ?_
      refine j_istore_n h [(3, _), (5, _), (4, _), (0, _), (1, _), (2, _)] dX4_areFindsSo_44 rfl (by decide) rfl ?_
      refine j_iload h 1 dX4_areFindsSo_45 rfl ?_
      refine j_aload_n h 3 dX4_areFindsSo_47 rfl rfl ?_
      refine j_iload_n h 5 dX4_areFindsSo_48 rfl rfl ?_
      refine j_callV h (c_X4_sizeOf hE hb) m_X4_sizeOf a_l_X4_67 rfl rfl ⟨Nat.le_of_ble_eq_true rfl, Nat.le_of_ble_eq_true rfl⟩ (ci := 4) rfl (by omega) (rcM) rfl rfl (Nat.le_of_ble_eq_true rfl) dX4_areFindsSo_49 ?_
      refine j_iadd h dX4_areFindsSo_52 ?_
      refine j_istore h [(4, _), (3, _), (5, _), (0, _), (1, _), (2, _)] dX4_areFindsSo_53 (by decide) rfl ?_
      refine j_aload_n h 3 dX4_areFindsSo_55 rfl rfl ?_
      refine j_iload_n h 4 dX4_areFindsSo_56 rfl rfl ?_
      refine j_iload_n h 5 dX4_areFindsSo_57 rfl rfl ?_
      refine j_iload h 0 dX4_areFindsSo_58 rfl ?_
      refine j_callV h (c_X4_findFrom hE ha hb (by unfold okI; omega)) m_X4_findFrom a_l_X4_108 rfl rfl ⟨Nat.le_of_ble_eq_true rfl, Nat.le_of_ble_eq_true rfl⟩ (ci := 4) rfl (by omega) (rcM) rfl rfl (Nat.le_of_ble_eq_true rfl) dX4_areFindsSo_60 ?_
      have hpl := plF_nx (A.1 (sw a)) (A.1 (sw b)) (t + (A.1 (sw b)).length) (by omega) (by omega)
      refine j_istore h [(5, _), (4, _), (3, _), (0, _), (1, _), (2, _)] dX4_areFindsSo_63 (by decide) rfl ?_
      refine j_goto h 25 dX4_areFindsSo_65 (by decide) ?_
      refine j_sub [0, 2, 1, 3, 4, 5] rfl ?_
      refine j_lv (lv2 := [(5, .int (iI (plF (A.1 (sw a)) (A.1 (sw b)) (t + (A.1 (sw b)).length)))), (3, .int (iI (t + (A.1 (sw b)).length))), (4, .int (iI (t + (A.1 (sw b)).length))), (0, eA E 76), (1, .int (iI a)), (2, .int (iI b))]) (by rw [show s + (t - s + (A.1 (sw b)).length) = t + (A.1 (sw b)).length by omega]; rfl) ?_
      exact ih (t + (A.1 (sw b)).length) _ (by omega) (by omega) (by omega) hpl.1 (plF_range (A.1 (sw a)) (A.1 (sw b)) _).2 (fun w => ⟨(hpl.2 w).1, (hpl.2 w).2, by omega⟩)
