/-! the reference: order; holds -/
set_option maxHeartbeats 400000 in
set_option maxRecDepth 20000 in
theorem c_X4_isOrderSo {E : EV} (hE : EOK E) {A : AS} {mk : List Int32} {g0 : GH} {a : Int} (ha : okI a) {b : Int} (hb : okI b) : Ct E (RM E g0) yX4_isOrderSo wsX4_isOrderSo rX4_isOrderSo [eA E 76, .int (iI a), .int (iI b)] (A, mk) (some (.int (iI (bI true)))) (A, mk) := by
  refine ct_of [(0, _), (1, _), (2, _)] hE (by decide) rfl (Nat.le_of_ble_eq_true rfl) rfl (fun X h hq => ?_)
  refine j_of (fun G hG => RM_len hG) (fun hLM => ?_)
  have hla := hLM.1 (sw a) (sw_lt a)
  have hwa := sw_lt a
  have hfma : 0 ≤ fmo a 8 ∧ fmo a 8 < 8 := by unfold fmo; omega
  have hswa : (fmo a 8).toNat = sw a := rfl
  have hlb := hLM.1 (sw b) (sw_lt b)
  have hwb := sw_lt b
  have hfmb : 0 ≤ fmo b 8 ∧ fmo b 8 < 8 := by unfold fmo; omega
  have hswb : (fmo b 8).toNat = sw b := rfl
  dsimp only at *
  have hol := sfr_le (A.1 (sw a)) (A.1 (sw b)) (min (A.1 (sw a)).length (A.1 (sw b)).length) 0
  have hn := orI_neg (A.1 (sw b)) (A.1 (sw a))
  have h00 := orI_0 (A.1 (sw a)) (A.1 (sw b)) (by omega) (by omega)
  have hh := orI_hd (A.1 (sw a)) (A.1 (sw b))
  have hdd : hd (A.1 (sw a)) (A.1 (sw b)) = (sfr (A.1 (sw a)) (A.1 (sw b)) 0 (min (A.1 (sw a)).length (A.1 (sw b)).length)) := rfl
  have hmm : (min (A.1 (sw a)).length (A.1 (sw b)).length ≤ (A.1 (sw a)).length ∧ min (A.1 (sw a)).length (A.1 (sw b)).length ≤ (A.1 (sw b)).length) ∧ (min (A.1 (sw a)).length (A.1 (sw b)).length = (A.1 (sw a)).length ∨ min (A.1 (sw a)).length (A.1 (sw b)).length = (A.1 (sw b)).length) := by omega
  refine j_aload_n h 0 dX4_isOrderSo_0 rfl rfl ?_
  refine j_iload_n h 1 dX4_isOrderSo_1 rfl rfl ?_
  refine j_iload_n h 2 dX4_isOrderSo_2 rfl rfl ?_
  refine j_callV h (c_X4_compare hE ha hb) m_X4_compare a_l_X4_154 rfl rfl ⟨Nat.le_of_ble_eq_true rfl, Nat.le_of_ble_eq_true rfl⟩ (ci := 4) rfl (by omega) (rcM) rfl rfl (Nat.le_of_ble_eq_true rfl) dX4_isOrderSo_3 ?_
  refine j_istore_n h [(3, _), (0, _), (1, _), (2, _)] dX4_isOrderSo_6 rfl (by decide) rfl ?_
  refine j_aload_n h 1 dX4_isOrderSo_7 rfl rfl ?_
  refine j_iload_n h 2 dX4_isOrderSo_8 rfl rfl ?_
  refine j_iload_n h 3 dX4_isOrderSo_9 rfl rfl ?_
  refine j_callV h (c_X4_head hE ha hb) m_X4_head a_l_X4_157 rfl rfl ⟨Nat.le_of_ble_eq_true rfl, Nat.le_of_ble_eq_true rfl⟩ (ci := 4) rfl (by omega) (rcM) rfl rfl (Nat.le_of_ble_eq_true rfl) dX4_isOrderSo_10 ?_
  refine j_istore h [(4, _), (3, _), (0, _), (1, _), (2, _)] dX4_isOrderSo_13 (by decide) rfl ?_
  refine j_iload h 0 dX4_isOrderSo_15 rfl ?_
  refine j_aload_n h 2 dX4_isOrderSo_17 rfl rfl ?_
  refine j_iload_n h 3 dX4_isOrderSo_18 rfl rfl ?_
  refine j_callV h (c_X4_sizeOf hE ha) m_X4_sizeOf a_l_X4_67 rfl rfl ⟨Nat.le_of_ble_eq_true rfl, Nat.le_of_ble_eq_true rfl⟩ (ci := 4) rfl (by omega) (rcM) rfl rfl (Nat.le_of_ble_eq_true rfl) dX4_isOrderSo_19 ?_
  refine j_icmp_eq h 35 dX4_isOrderSo_22 (by decide) (by first | exact okI_of _ | exact okI_b _ | exact okI_sgz _ _ | assumption | (unfold okI; omega)) (by first | exact okI_of _ | exact okI_b _ | exact okI_sgz _ _ | assumption | (unfold okI; omega)) (fun c22 => ?_) (fun c22 => ?_)
  · refine j_iconst h dX4_isOrderSo_35 ?_
    refine j_goto h 40 dX4_isOrderSo_36 (by decide) ?_
    refine j_istore h [(5, _), (4, _), (3, _), (0, _), (1, _), (2, _)] dX4_isOrderSo_40 (by decide) rfl ?_
    refine j_iload h 0 dX4_isOrderSo_42 rfl ?_
    refine j_if_eq h 61 dX4_isOrderSo_44 (by decide) (by first | exact okI_of _ | exact okI_b _ | exact okI_sgz _ _ | assumption | (unfold okI; omega)) (fun c44 => ?_) (fun c44 => ?_)
    · have hh2 : orI true (A.1 (sw a)) (A.1 (sw b)) = iI ((gz (A.1 (sw a)) ((sfr (A.1 (sw a)) (A.1 (sw b)) 0 (min (A.1 (sw a)).length (A.1 (sw b)).length)) : Int).toNat).toInt - (gz (A.1 (sw b)) ((sfr (A.1 (sw a)) (A.1 (sw b)) 0 (min (A.1 (sw a)).length (A.1 (sw b)).length)) : Int).toNat).toInt) := by first | exact absurd c44 (by decide) | (rw [Int.toNat_natCast, hh, if_neg (by omega)])
      refine j_aload_n h 3 dX4_isOrderSo_61 rfl rfl ?_
      refine j_iload_n h 4 dX4_isOrderSo_62 rfl rfl ?_
      refine j_iload h 1 dX4_isOrderSo_63 rfl ?_
      refine j_callV h (c_X4_signAt hE ha (p := ((sfr (A.1 (sw a)) (A.1 (sw b)) 0 (min (A.1 (sw a)).length (A.1 (sw b)).length)) : Int)) (by omega) (by omega)) m_X4_signAt a_l_X4_58 rfl rfl ⟨Nat.le_of_ble_eq_true rfl, Nat.le_of_ble_eq_true rfl⟩ (ci := 4) rfl (by omega) (rcM) rfl rfl (Nat.le_of_ble_eq_true rfl) dX4_isOrderSo_65 ?_
      refine j_aload_n h 3 dX4_isOrderSo_68 rfl rfl ?_
      refine j_iload_n h 5 dX4_isOrderSo_69 rfl rfl ?_
      refine j_iload h 1 dX4_isOrderSo_70 rfl ?_
      refine j_callV h (c_X4_signAt hE hb (p := ((sfr (A.1 (sw a)) (A.1 (sw b)) 0 (min (A.1 (sw a)).length (A.1 (sw b)).length)) : Int)) (by omega) (by omega)) m_X4_signAt a_l_X4_58 rfl rfl ⟨Nat.le_of_ble_eq_true rfl, Nat.le_of_ble_eq_true rfl⟩ (ci := 4) rfl (by omega) (rcM) rfl rfl (Nat.le_of_ble_eq_true rfl) dX4_isOrderSo_72 ?_
      refine j_st (st2 := [.int (iI (gz (A.1 (sw b)) ((sfr (A.1 (sw a)) (A.1 (sw b)) 0 (min (A.1 (sw a)).length (A.1 (sw b)).length)) : Int).toNat).toInt), .int (iI (gz (A.1 (sw a)) ((sfr (A.1 (sw a)) (A.1 (sw b)) 0 (min (A.1 (sw a)).length (A.1 (sw b)).length)) : Int).toNat).toInt)]) (by rw [iI_of, iI_of]) ?_
      refine j_isub h dX4_isOrderSo_75 ?_
      refine j_istore h [(6, _), (5, _), (4, _), (3, _), (0, _), (1, _), (2, _)] dX4_isOrderSo_76 (by decide) rfl ?_
      refine j_iload_n h 3 dX4_isOrderSo_78 rfl rfl ?_
      refine j_iload h 0 dX4_isOrderSo_79 rfl ?_
      refine j_rcmp_ne h 117 dX4_isOrderSo_81 (by decide) (fun c81 => ?_) (fun c81 => ?_)
      · exact absurd hh2 c81
      · refine j_aload_n h 4 dX4_isOrderSo_84 rfl rfl ?_
        refine j_iload_n h 6 dX4_isOrderSo_85 rfl rfl ?_
        refine j_iload_n h 5 dX4_isOrderSo_86 rfl rfl ?_
        refine j_callV h (c_X4_compare hE hb ha) m_X4_compare a_l_X4_154 rfl rfl ⟨Nat.le_of_ble_eq_true rfl, Nat.le_of_ble_eq_true rfl⟩ (ci := 4) rfl (by omega) (rcM) rfl rfl (Nat.le_of_ble_eq_true rfl) dX4_isOrderSo_87 ?_
        refine j_iload_n h 3 dX4_isOrderSo_90 rfl rfl ?_
        refine j_top (iI_of _).symm ?_
        refine j_ineg h dX4_isOrderSo_91 ?_
        refine j_rcmp_ne h 117 dX4_isOrderSo_92 (by decide) (fun c92 => ?_) (fun c92 => ?_)
        · exact absurd hn.symm c92
        · refine j_iload_n h 3 dX4_isOrderSo_95 rfl rfl ?_
          refine j_rif_ne h 103 dX4_isOrderSo_96 (by decide) (fun c96 => ?_) (fun c96 => ?_)
          · have hw9 : who true (A.1 (sw a)) (A.1 (sw b)) = false := by cases q : who true (A.1 (sw a)) (A.1 (sw b)) with | false => rfl | true => exact absurd (h00.mpr q) c96
            refine j_iconst h dX4_isOrderSo_103 ?_
            refine j_aload_n h 4 dX4_isOrderSo_104 rfl rfl ?_
            refine j_iload_n h 5 dX4_isOrderSo_105 rfl rfl ?_
            refine j_iload_n h 6 dX4_isOrderSo_106 rfl rfl ?_
            refine j_callV h (c_X4_same hE ha hb) m_X4_same a_l_X4_160 rfl rfl ⟨Nat.le_of_ble_eq_true rfl, Nat.le_of_ble_eq_true rfl⟩ (ci := 4) rfl (by omega) (rcM) rfl rfl (Nat.le_of_ble_eq_true rfl) dX4_isOrderSo_107 ?_
            refine j_icmp_ne h 117 dX4_isOrderSo_110 (by decide) (by first | exact okI_of _ | exact okI_b _ | exact okI_sgz _ _ | assumption | (unfold okI; omega)) (by first | exact okI_of _ | exact okI_b _ | exact okI_sgz _ _ | assumption | (unfold okI; omega)) (fun c110 => ?_) (fun c110 => ?_)
            · (rw [hw9] at c110; exact absurd rfl c110)
            · refine j_iconst h dX4_isOrderSo_113 ?_
              refine j_goto h 118 dX4_isOrderSo_114 (by decide) ?_
              exact j_zret h hq rfl (by first | exact nzb true | exact nzb false | exact nzb _) dX4_isOrderSo_118
          · have hw9 : who true (A.1 (sw a)) (A.1 (sw b)) = true := h00.mp c96
            refine j_iconst h dX4_isOrderSo_99 ?_
            refine j_goto h 104 dX4_isOrderSo_100 (by decide) ?_
            refine j_aload_n h 4 dX4_isOrderSo_104 rfl rfl ?_
            refine j_iload_n h 5 dX4_isOrderSo_105 rfl rfl ?_
            refine j_iload_n h 6 dX4_isOrderSo_106 rfl rfl ?_
            refine j_callV h (c_X4_same hE ha hb) m_X4_same a_l_X4_160 rfl rfl ⟨Nat.le_of_ble_eq_true rfl, Nat.le_of_ble_eq_true rfl⟩ (ci := 4) rfl (by omega) (rcM) rfl rfl (Nat.le_of_ble_eq_true rfl) dX4_isOrderSo_107 ?_
            refine j_icmp_ne h 117 dX4_isOrderSo_110 (by decide) (by first | exact okI_of _ | exact okI_b _ | exact okI_sgz _ _ | assumption | (unfold okI; omega)) (by first | exact okI_of _ | exact okI_b _ | exact okI_sgz _ _ | assumption | (unfold okI; omega)) (fun c110 => ?_) (fun c110 => ?_)
            · (rw [hw9] at c110; exact absurd rfl c110)
            · refine j_iconst h dX4_isOrderSo_113 ?_
              refine j_goto h 118 dX4_isOrderSo_114 (by decide) ?_
              exact j_zret h hq rfl (by first | exact nzb true | exact nzb false | exact nzb _) dX4_isOrderSo_118
    · have hh2 : orI true (A.1 (sw a)) (A.1 (sw b)) = iI (((A.1 (sw a)).length : Int) - (A.1 (sw b)).length) := by first | exact absurd rfl c44 | (rw [hh, if_pos (by omega)])
      refine j_aload_n h 3 dX4_isOrderSo_47 rfl rfl ?_
      refine j_iload_n h 4 dX4_isOrderSo_48 rfl rfl ?_
      refine j_callV h (c_X4_sizeOf hE ha) m_X4_sizeOf a_l_X4_67 rfl rfl ⟨Nat.le_of_ble_eq_true rfl, Nat.le_of_ble_eq_true rfl⟩ (ci := 4) rfl (by omega) (rcM) rfl rfl (Nat.le_of_ble_eq_true rfl) dX4_isOrderSo_49 ?_
      refine j_aload_n h 3 dX4_isOrderSo_52 rfl rfl ?_
      refine j_iload_n h 5 dX4_isOrderSo_53 rfl rfl ?_
      refine j_callV h (c_X4_sizeOf hE hb) m_X4_sizeOf a_l_X4_67 rfl rfl ⟨Nat.le_of_ble_eq_true rfl, Nat.le_of_ble_eq_true rfl⟩ (ci := 4) rfl (by omega) (rcM) rfl rfl (Nat.le_of_ble_eq_true rfl) dX4_isOrderSo_54 ?_
      refine j_isub h dX4_isOrderSo_57 ?_
      refine j_goto h 76 dX4_isOrderSo_58 (by decide) ?_
      refine j_istore h [(6, _), (5, _), (4, _), (3, _), (0, _), (1, _), (2, _)] dX4_isOrderSo_76 (by decide) rfl ?_
      refine j_iload_n h 3 dX4_isOrderSo_78 rfl rfl ?_
      refine j_iload h 0 dX4_isOrderSo_79 rfl ?_
      refine j_rcmp_ne h 117 dX4_isOrderSo_81 (by decide) (fun c81 => ?_) (fun c81 => ?_)
      · exact absurd hh2 c81
      · refine j_aload_n h 4 dX4_isOrderSo_84 rfl rfl ?_
        refine j_iload_n h 6 dX4_isOrderSo_85 rfl rfl ?_
        refine j_iload_n h 5 dX4_isOrderSo_86 rfl rfl ?_
        refine j_callV h (c_X4_compare hE hb ha) m_X4_compare a_l_X4_154 rfl rfl ⟨Nat.le_of_ble_eq_true rfl, Nat.le_of_ble_eq_true rfl⟩ (ci := 4) rfl (by omega) (rcM) rfl rfl (Nat.le_of_ble_eq_true rfl) dX4_isOrderSo_87 ?_
        refine j_iload_n h 3 dX4_isOrderSo_90 rfl rfl ?_
        refine j_top (iI_of _).symm ?_
        refine j_ineg h dX4_isOrderSo_91 ?_
        refine j_rcmp_ne h 117 dX4_isOrderSo_92 (by decide) (fun c92 => ?_) (fun c92 => ?_)
        · exact absurd hn.symm c92
        · refine j_iload_n h 3 dX4_isOrderSo_95 rfl rfl ?_
          refine j_rif_ne h 103 dX4_isOrderSo_96 (by decide) (fun c96 => ?_) (fun c96 => ?_)
          · have hw9 : who true (A.1 (sw a)) (A.1 (sw b)) = false := by cases q : who true (A.1 (sw a)) (A.1 (sw b)) with | false => rfl | true => exact absurd (h00.mpr q) c96
            refine j_iconst h dX4_isOrderSo_103 ?_
            refine j_aload_n h 4 dX4_isOrderSo_104 rfl rfl ?_
            refine j_iload_n h 5 dX4_isOrderSo_105 rfl rfl ?_
            refine j_iload_n h 6 dX4_isOrderSo_106 rfl rfl ?_
            refine j_callV h (c_X4_same hE ha hb) m_X4_same a_l_X4_160 rfl rfl ⟨Nat.le_of_ble_eq_true rfl, Nat.le_of_ble_eq_true rfl⟩ (ci := 4) rfl (by omega) (rcM) rfl rfl (Nat.le_of_ble_eq_true rfl) dX4_isOrderSo_107 ?_
            refine j_icmp_ne h 117 dX4_isOrderSo_110 (by decide) (by first | exact okI_of _ | exact okI_b _ | exact okI_sgz _ _ | assumption | (unfold okI; omega)) (by first | exact okI_of _ | exact okI_b _ | exact okI_sgz _ _ | assumption | (unfold okI; omega)) (fun c110 => ?_) (fun c110 => ?_)
            · (rw [hw9] at c110; exact absurd rfl c110)
            · refine j_iconst h dX4_isOrderSo_113 ?_
              refine j_goto h 118 dX4_isOrderSo_114 (by decide) ?_
              exact j_zret h hq rfl (by first | exact nzb true | exact nzb false | exact nzb _) dX4_isOrderSo_118
          · have hw9 : who true (A.1 (sw a)) (A.1 (sw b)) = true := h00.mp c96
            refine j_iconst h dX4_isOrderSo_99 ?_
            refine j_goto h 104 dX4_isOrderSo_100 (by decide) ?_
            refine j_aload_n h 4 dX4_isOrderSo_104 rfl rfl ?_
            refine j_iload_n h 5 dX4_isOrderSo_105 rfl rfl ?_
            refine j_iload_n h 6 dX4_isOrderSo_106 rfl rfl ?_
            refine j_callV h (c_X4_same hE ha hb) m_X4_same a_l_X4_160 rfl rfl ⟨Nat.le_of_ble_eq_true rfl, Nat.le_of_ble_eq_true rfl⟩ (ci := 4) rfl (by omega) (rcM) rfl rfl (Nat.le_of_ble_eq_true rfl) dX4_isOrderSo_107 ?_
            refine j_icmp_ne h 117 dX4_isOrderSo_110 (by decide) (by first | exact okI_of _ | exact okI_b _ | exact okI_sgz _ _ | assumption | (unfold okI; omega)) (by first | exact okI_of _ | exact okI_b _ | exact okI_sgz _ _ | assumption | (unfold okI; omega)) (fun c110 => ?_) (fun c110 => ?_)
            · (rw [hw9] at c110; exact absurd rfl c110)
            · refine j_iconst h dX4_isOrderSo_113 ?_
              refine j_goto h 118 dX4_isOrderSo_114 (by decide) ?_
              exact j_zret h hq rfl (by first | exact nzb true | exact nzb false | exact nzb _) dX4_isOrderSo_118
  · refine j_iload h 0 dX4_isOrderSo_25 rfl ?_
    refine j_aload_n h 2 dX4_isOrderSo_27 rfl rfl ?_
    refine j_iload_n h 4 dX4_isOrderSo_28 rfl rfl ?_
    refine j_callV h (c_X4_sizeOf hE hb) m_X4_sizeOf a_l_X4_67 rfl rfl ⟨Nat.le_of_ble_eq_true rfl, Nat.le_of_ble_eq_true rfl⟩ (ci := 4) rfl (by omega) (rcM) rfl rfl (Nat.le_of_ble_eq_true rfl) dX4_isOrderSo_29 ?_
    refine j_icmp_ne h 39 dX4_isOrderSo_32 (by decide) (by first | exact okI_of _ | exact okI_b _ | exact okI_sgz _ _ | assumption | (unfold okI; omega)) (by first | exact okI_of _ | exact okI_b _ | exact okI_sgz _ _ | assumption | (unfold okI; omega)) (fun c32 => ?_) (fun c32 => ?_)
    · refine j_iconst h dX4_isOrderSo_39 ?_
      refine j_istore h [(5, _), (4, _), (3, _), (0, _), (1, _), (2, _)] dX4_isOrderSo_40 (by decide) rfl ?_
      refine j_iload h 0 dX4_isOrderSo_42 rfl ?_
      refine j_if_eq h 61 dX4_isOrderSo_44 (by decide) (by first | exact okI_of _ | exact okI_b _ | exact okI_sgz _ _ | assumption | (unfold okI; omega)) (fun c44 => ?_) (fun c44 => ?_)
      · have hh2 : orI true (A.1 (sw a)) (A.1 (sw b)) = iI ((gz (A.1 (sw a)) ((sfr (A.1 (sw a)) (A.1 (sw b)) 0 (min (A.1 (sw a)).length (A.1 (sw b)).length)) : Int).toNat).toInt - (gz (A.1 (sw b)) ((sfr (A.1 (sw a)) (A.1 (sw b)) 0 (min (A.1 (sw a)).length (A.1 (sw b)).length)) : Int).toNat).toInt) := by first | exact absurd c44 (by decide) | (rw [Int.toNat_natCast, hh, if_neg (by omega)])
        refine j_aload_n h 3 dX4_isOrderSo_61 rfl rfl ?_
        refine j_iload_n h 4 dX4_isOrderSo_62 rfl rfl ?_
        refine j_iload h 1 dX4_isOrderSo_63 rfl ?_
        refine j_callV h (c_X4_signAt hE ha (p := ((sfr (A.1 (sw a)) (A.1 (sw b)) 0 (min (A.1 (sw a)).length (A.1 (sw b)).length)) : Int)) (by omega) (by omega)) m_X4_signAt a_l_X4_58 rfl rfl ⟨Nat.le_of_ble_eq_true rfl, Nat.le_of_ble_eq_true rfl⟩ (ci := 4) rfl (by omega) (rcM) rfl rfl (Nat.le_of_ble_eq_true rfl) dX4_isOrderSo_65 ?_
        refine j_aload_n h 3 dX4_isOrderSo_68 rfl rfl ?_
        refine j_iload_n h 5 dX4_isOrderSo_69 rfl rfl ?_
        refine j_iload h 1 dX4_isOrderSo_70 rfl ?_
        refine j_callV h (c_X4_signAt hE hb (p := ((sfr (A.1 (sw a)) (A.1 (sw b)) 0 (min (A.1 (sw a)).length (A.1 (sw b)).length)) : Int)) (by omega) (by omega)) m_X4_signAt a_l_X4_58 rfl rfl ⟨Nat.le_of_ble_eq_true rfl, Nat.le_of_ble_eq_true rfl⟩ (ci := 4) rfl (by omega) (rcM) rfl rfl (Nat.le_of_ble_eq_true rfl) dX4_isOrderSo_72 ?_
        refine j_st (st2 := [.int (iI (gz (A.1 (sw b)) ((sfr (A.1 (sw a)) (A.1 (sw b)) 0 (min (A.1 (sw a)).length (A.1 (sw b)).length)) : Int).toNat).toInt), .int (iI (gz (A.1 (sw a)) ((sfr (A.1 (sw a)) (A.1 (sw b)) 0 (min (A.1 (sw a)).length (A.1 (sw b)).length)) : Int).toNat).toInt)]) (by rw [iI_of, iI_of]) ?_
        refine j_isub h dX4_isOrderSo_75 ?_
        refine j_istore h [(6, _), (5, _), (4, _), (3, _), (0, _), (1, _), (2, _)] dX4_isOrderSo_76 (by decide) rfl ?_
        refine j_iload_n h 3 dX4_isOrderSo_78 rfl rfl ?_
        refine j_iload h 0 dX4_isOrderSo_79 rfl ?_
        refine j_rcmp_ne h 117 dX4_isOrderSo_81 (by decide) (fun c81 => ?_) (fun c81 => ?_)
        · exact absurd hh2 c81
        · refine j_aload_n h 4 dX4_isOrderSo_84 rfl rfl ?_
          refine j_iload_n h 6 dX4_isOrderSo_85 rfl rfl ?_
          refine j_iload_n h 5 dX4_isOrderSo_86 rfl rfl ?_
          refine j_callV h (c_X4_compare hE hb ha) m_X4_compare a_l_X4_154 rfl rfl ⟨Nat.le_of_ble_eq_true rfl, Nat.le_of_ble_eq_true rfl⟩ (ci := 4) rfl (by omega) (rcM) rfl rfl (Nat.le_of_ble_eq_true rfl) dX4_isOrderSo_87 ?_
          refine j_iload_n h 3 dX4_isOrderSo_90 rfl rfl ?_
          refine j_top (iI_of _).symm ?_
          refine j_ineg h dX4_isOrderSo_91 ?_
          refine j_rcmp_ne h 117 dX4_isOrderSo_92 (by decide) (fun c92 => ?_) (fun c92 => ?_)
          · exact absurd hn.symm c92
          · refine j_iload_n h 3 dX4_isOrderSo_95 rfl rfl ?_
            refine j_rif_ne h 103 dX4_isOrderSo_96 (by decide) (fun c96 => ?_) (fun c96 => ?_)
            · have hw9 : who true (A.1 (sw a)) (A.1 (sw b)) = false := by cases q : who true (A.1 (sw a)) (A.1 (sw b)) with | false => rfl | true => exact absurd (h00.mpr q) c96
              refine j_iconst h dX4_isOrderSo_103 ?_
              refine j_aload_n h 4 dX4_isOrderSo_104 rfl rfl ?_
              refine j_iload_n h 5 dX4_isOrderSo_105 rfl rfl ?_
              refine j_iload_n h 6 dX4_isOrderSo_106 rfl rfl ?_
              refine j_callV h (c_X4_same hE ha hb) m_X4_same a_l_X4_160 rfl rfl ⟨Nat.le_of_ble_eq_true rfl, Nat.le_of_ble_eq_true rfl⟩ (ci := 4) rfl (by omega) (rcM) rfl rfl (Nat.le_of_ble_eq_true rfl) dX4_isOrderSo_107 ?_
              refine j_icmp_ne h 117 dX4_isOrderSo_110 (by decide) (by first | exact okI_of _ | exact okI_b _ | exact okI_sgz _ _ | assumption | (unfold okI; omega)) (by first | exact okI_of _ | exact okI_b _ | exact okI_sgz _ _ | assumption | (unfold okI; omega)) (fun c110 => ?_) (fun c110 => ?_)
              · (rw [hw9] at c110; exact absurd rfl c110)
              · refine j_iconst h dX4_isOrderSo_113 ?_
                refine j_goto h 118 dX4_isOrderSo_114 (by decide) ?_
                exact j_zret h hq rfl (by first | exact nzb true | exact nzb false | exact nzb _) dX4_isOrderSo_118
            · have hw9 : who true (A.1 (sw a)) (A.1 (sw b)) = true := h00.mp c96
              refine j_iconst h dX4_isOrderSo_99 ?_
              refine j_goto h 104 dX4_isOrderSo_100 (by decide) ?_
              refine j_aload_n h 4 dX4_isOrderSo_104 rfl rfl ?_
              refine j_iload_n h 5 dX4_isOrderSo_105 rfl rfl ?_
              refine j_iload_n h 6 dX4_isOrderSo_106 rfl rfl ?_
              refine j_callV h (c_X4_same hE ha hb) m_X4_same a_l_X4_160 rfl rfl ⟨Nat.le_of_ble_eq_true rfl, Nat.le_of_ble_eq_true rfl⟩ (ci := 4) rfl (by omega) (rcM) rfl rfl (Nat.le_of_ble_eq_true rfl) dX4_isOrderSo_107 ?_
              refine j_icmp_ne h 117 dX4_isOrderSo_110 (by decide) (by first | exact okI_of _ | exact okI_b _ | exact okI_sgz _ _ | assumption | (unfold okI; omega)) (by first | exact okI_of _ | exact okI_b _ | exact okI_sgz _ _ | assumption | (unfold okI; omega)) (fun c110 => ?_) (fun c110 => ?_)
              · (rw [hw9] at c110; exact absurd rfl c110)
              · refine j_iconst h dX4_isOrderSo_113 ?_
                refine j_goto h 118 dX4_isOrderSo_114 (by decide) ?_
                exact j_zret h hq rfl (by first | exact nzb true | exact nzb false | exact nzb _) dX4_isOrderSo_118
      · have hh2 : orI true (A.1 (sw a)) (A.1 (sw b)) = iI (((A.1 (sw a)).length : Int) - (A.1 (sw b)).length) := by first | exact absurd rfl c44 | (rw [hh, if_pos (by omega)])
        refine j_aload_n h 3 dX4_isOrderSo_47 rfl rfl ?_
        refine j_iload_n h 4 dX4_isOrderSo_48 rfl rfl ?_
        refine j_callV h (c_X4_sizeOf hE ha) m_X4_sizeOf a_l_X4_67 rfl rfl ⟨Nat.le_of_ble_eq_true rfl, Nat.le_of_ble_eq_true rfl⟩ (ci := 4) rfl (by omega) (rcM) rfl rfl (Nat.le_of_ble_eq_true rfl) dX4_isOrderSo_49 ?_
        refine j_aload_n h 3 dX4_isOrderSo_52 rfl rfl ?_
        refine j_iload_n h 5 dX4_isOrderSo_53 rfl rfl ?_
        refine j_callV h (c_X4_sizeOf hE hb) m_X4_sizeOf a_l_X4_67 rfl rfl ⟨Nat.le_of_ble_eq_true rfl, Nat.le_of_ble_eq_true rfl⟩ (ci := 4) rfl (by omega) (rcM) rfl rfl (Nat.le_of_ble_eq_true rfl) dX4_isOrderSo_54 ?_
        refine j_isub h dX4_isOrderSo_57 ?_
        refine j_goto h 76 dX4_isOrderSo_58 (by decide) ?_
        refine j_istore h [(6, _), (5, _), (4, _), (3, _), (0, _), (1, _), (2, _)] dX4_isOrderSo_76 (by decide) rfl ?_
        refine j_iload_n h 3 dX4_isOrderSo_78 rfl rfl ?_
        refine j_iload h 0 dX4_isOrderSo_79 rfl ?_
        refine j_rcmp_ne h 117 dX4_isOrderSo_81 (by decide) (fun c81 => ?_) (fun c81 => ?_)
        · exact absurd hh2 c81
        · refine j_aload_n h 4 dX4_isOrderSo_84 rfl rfl ?_
          refine j_iload_n h 6 dX4_isOrderSo_85 rfl rfl ?_
          refine j_iload_n h 5 dX4_isOrderSo_86 rfl rfl ?_
          refine j_callV h (c_X4_compare hE hb ha) m_X4_compare a_l_X4_154 rfl rfl ⟨Nat.le_of_ble_eq_true rfl, Nat.le_of_ble_eq_true rfl⟩ (ci := 4) rfl (by omega) (rcM) rfl rfl (Nat.le_of_ble_eq_true rfl) dX4_isOrderSo_87 ?_
          refine j_iload_n h 3 dX4_isOrderSo_90 rfl rfl ?_
          refine j_top (iI_of _).symm ?_
          refine j_ineg h dX4_isOrderSo_91 ?_
          refine j_rcmp_ne h 117 dX4_isOrderSo_92 (by decide) (fun c92 => ?_) (fun c92 => ?_)
          · exact absurd hn.symm c92
          · refine j_iload_n h 3 dX4_isOrderSo_95 rfl rfl ?_
            refine j_rif_ne h 103 dX4_isOrderSo_96 (by decide) (fun c96 => ?_) (fun c96 => ?_)
            · have hw9 : who true (A.1 (sw a)) (A.1 (sw b)) = false := by cases q : who true (A.1 (sw a)) (A.1 (sw b)) with | false => rfl | true => exact absurd (h00.mpr q) c96
              refine j_iconst h dX4_isOrderSo_103 ?_
              refine j_aload_n h 4 dX4_isOrderSo_104 rfl rfl ?_
              refine j_iload_n h 5 dX4_isOrderSo_105 rfl rfl ?_
              refine j_iload_n h 6 dX4_isOrderSo_106 rfl rfl ?_
              refine j_callV h (c_X4_same hE ha hb) m_X4_same a_l_X4_160 rfl rfl ⟨Nat.le_of_ble_eq_true rfl, Nat.le_of_ble_eq_true rfl⟩ (ci := 4) rfl (by omega) (rcM) rfl rfl (Nat.le_of_ble_eq_true rfl) dX4_isOrderSo_107 ?_
              refine j_icmp_ne h 117 dX4_isOrderSo_110 (by decide) (by first | exact okI_of _ | exact okI_b _ | exact okI_sgz _ _ | assumption | (unfold okI; omega)) (by first | exact okI_of _ | exact okI_b _ | exact okI_sgz _ _ | assumption | (unfold okI; omega)) (fun c110 => ?_) (fun c110 => ?_)
              · (rw [hw9] at c110; exact absurd rfl c110)
              · refine j_iconst h dX4_isOrderSo_113 ?_
                refine j_goto h 118 dX4_isOrderSo_114 (by decide) ?_
                exact j_zret h hq rfl (by first | exact nzb true | exact nzb false | exact nzb _) dX4_isOrderSo_118
            · have hw9 : who true (A.1 (sw a)) (A.1 (sw b)) = true := h00.mp c96
              refine j_iconst h dX4_isOrderSo_99 ?_
              refine j_goto h 104 dX4_isOrderSo_100 (by decide) ?_
              refine j_aload_n h 4 dX4_isOrderSo_104 rfl rfl ?_
              refine j_iload_n h 5 dX4_isOrderSo_105 rfl rfl ?_
              refine j_iload_n h 6 dX4_isOrderSo_106 rfl rfl ?_
              refine j_callV h (c_X4_same hE ha hb) m_X4_same a_l_X4_160 rfl rfl ⟨Nat.le_of_ble_eq_true rfl, Nat.le_of_ble_eq_true rfl⟩ (ci := 4) rfl (by omega) (rcM) rfl rfl (Nat.le_of_ble_eq_true rfl) dX4_isOrderSo_107 ?_
              refine j_icmp_ne h 117 dX4_isOrderSo_110 (by decide) (by first | exact okI_of _ | exact okI_b _ | exact okI_sgz _ _ | assumption | (unfold okI; omega)) (by first | exact okI_of _ | exact okI_b _ | exact okI_sgz _ _ | assumption | (unfold okI; omega)) (fun c110 => ?_) (fun c110 => ?_)
              · (rw [hw9] at c110; exact absurd rfl c110)
              · refine j_iconst h dX4_isOrderSo_113 ?_
                refine j_goto h 118 dX4_isOrderSo_114 (by decide) ?_
                exact j_zret h hq rfl (by first | exact nzb true | exact nzb false | exact nzb _) dX4_isOrderSo_118
    · refine j_iconst h dX4_isOrderSo_35 ?_
      refine j_goto h 40 dX4_isOrderSo_36 (by decide) ?_
      refine j_istore h [(5, _), (4, _), (3, _), (0, _), (1, _), (2, _)] dX4_isOrderSo_40 (by decide) rfl ?_
      refine j_iload h 0 dX4_isOrderSo_42 rfl ?_
      refine j_if_eq h 61 dX4_isOrderSo_44 (by decide) (by first | exact okI_of _ | exact okI_b _ | exact okI_sgz _ _ | assumption | (unfold okI; omega)) (fun c44 => ?_) (fun c44 => ?_)
      · have hh2 : orI true (A.1 (sw a)) (A.1 (sw b)) = iI ((gz (A.1 (sw a)) ((sfr (A.1 (sw a)) (A.1 (sw b)) 0 (min (A.1 (sw a)).length (A.1 (sw b)).length)) : Int).toNat).toInt - (gz (A.1 (sw b)) ((sfr (A.1 (sw a)) (A.1 (sw b)) 0 (min (A.1 (sw a)).length (A.1 (sw b)).length)) : Int).toNat).toInt) := by first | exact absurd c44 (by decide) | (rw [Int.toNat_natCast, hh, if_neg (by omega)])
        refine j_aload_n h 3 dX4_isOrderSo_61 rfl rfl ?_
        refine j_iload_n h 4 dX4_isOrderSo_62 rfl rfl ?_
        refine j_iload h 1 dX4_isOrderSo_63 rfl ?_
        refine j_callV h (c_X4_signAt hE ha (p := ((sfr (A.1 (sw a)) (A.1 (sw b)) 0 (min (A.1 (sw a)).length (A.1 (sw b)).length)) : Int)) (by omega) (by omega)) m_X4_signAt a_l_X4_58 rfl rfl ⟨Nat.le_of_ble_eq_true rfl, Nat.le_of_ble_eq_true rfl⟩ (ci := 4) rfl (by omega) (rcM) rfl rfl (Nat.le_of_ble_eq_true rfl) dX4_isOrderSo_65 ?_
        refine j_aload_n h 3 dX4_isOrderSo_68 rfl rfl ?_
        refine j_iload_n h 5 dX4_isOrderSo_69 rfl rfl ?_
        refine j_iload h 1 dX4_isOrderSo_70 rfl ?_
        refine j_callV h (c_X4_signAt hE hb (p := ((sfr (A.1 (sw a)) (A.1 (sw b)) 0 (min (A.1 (sw a)).length (A.1 (sw b)).length)) : Int)) (by omega) (by omega)) m_X4_signAt a_l_X4_58 rfl rfl ⟨Nat.le_of_ble_eq_true rfl, Nat.le_of_ble_eq_true rfl⟩ (ci := 4) rfl (by omega) (rcM) rfl rfl (Nat.le_of_ble_eq_true rfl) dX4_isOrderSo_72 ?_
        refine j_st (st2 := [.int (iI (gz (A.1 (sw b)) ((sfr (A.1 (sw a)) (A.1 (sw b)) 0 (min (A.1 (sw a)).length (A.1 (sw b)).length)) : Int).toNat).toInt), .int (iI (gz (A.1 (sw a)) ((sfr (A.1 (sw a)) (A.1 (sw b)) 0 (min (A.1 (sw a)).length (A.1 (sw b)).length)) : Int).toNat).toInt)]) (by rw [iI_of, iI_of]) ?_
        refine j_isub h dX4_isOrderSo_75 ?_
        refine j_istore h [(6, _), (5, _), (4, _), (3, _), (0, _), (1, _), (2, _)] dX4_isOrderSo_76 (by decide) rfl ?_
        refine j_iload_n h 3 dX4_isOrderSo_78 rfl rfl ?_
        refine j_iload h 0 dX4_isOrderSo_79 rfl ?_
        refine j_rcmp_ne h 117 dX4_isOrderSo_81 (by decide) (fun c81 => ?_) (fun c81 => ?_)
        · exact absurd hh2 c81
        · refine j_aload_n h 4 dX4_isOrderSo_84 rfl rfl ?_
          refine j_iload_n h 6 dX4_isOrderSo_85 rfl rfl ?_
          refine j_iload_n h 5 dX4_isOrderSo_86 rfl rfl ?_
          refine j_callV h (c_X4_compare hE hb ha) m_X4_compare a_l_X4_154 rfl rfl ⟨Nat.le_of_ble_eq_true rfl, Nat.le_of_ble_eq_true rfl⟩ (ci := 4) rfl (by omega) (rcM) rfl rfl (Nat.le_of_ble_eq_true rfl) dX4_isOrderSo_87 ?_
          refine j_iload_n h 3 dX4_isOrderSo_90 rfl rfl ?_
          refine j_top (iI_of _).symm ?_
          refine j_ineg h dX4_isOrderSo_91 ?_
          refine j_rcmp_ne h 117 dX4_isOrderSo_92 (by decide) (fun c92 => ?_) (fun c92 => ?_)
          · exact absurd hn.symm c92
          · refine j_iload_n h 3 dX4_isOrderSo_95 rfl rfl ?_
            refine j_rif_ne h 103 dX4_isOrderSo_96 (by decide) (fun c96 => ?_) (fun c96 => ?_)
            · have hw9 : who true (A.1 (sw a)) (A.1 (sw b)) = false := by cases q : who true (A.1 (sw a)) (A.1 (sw b)) with | false => rfl | true => exact absurd (h00.mpr q) c96
              refine j_iconst h dX4_isOrderSo_103 ?_
              refine j_aload_n h 4 dX4_isOrderSo_104 rfl rfl ?_
              refine j_iload_n h 5 dX4_isOrderSo_105 rfl rfl ?_
              refine j_iload_n h 6 dX4_isOrderSo_106 rfl rfl ?_
              refine j_callV h (c_X4_same hE ha hb) m_X4_same a_l_X4_160 rfl rfl ⟨Nat.le_of_ble_eq_true rfl, Nat.le_of_ble_eq_true rfl⟩ (ci := 4) rfl (by omega) (rcM) rfl rfl (Nat.le_of_ble_eq_true rfl) dX4_isOrderSo_107 ?_
              refine j_icmp_ne h 117 dX4_isOrderSo_110 (by decide) (by first | exact okI_of _ | exact okI_b _ | exact okI_sgz _ _ | assumption | (unfold okI; omega)) (by first | exact okI_of _ | exact okI_b _ | exact okI_sgz _ _ | assumption | (unfold okI; omega)) (fun c110 => ?_) (fun c110 => ?_)
              · (rw [hw9] at c110; exact absurd rfl c110)
              · refine j_iconst h dX4_isOrderSo_113 ?_
                refine j_goto h 118 dX4_isOrderSo_114 (by decide) ?_
                exact j_zret h hq rfl (by first | exact nzb true | exact nzb false | exact nzb _) dX4_isOrderSo_118
            · have hw9 : who true (A.1 (sw a)) (A.1 (sw b)) = true := h00.mp c96
              refine j_iconst h dX4_isOrderSo_99 ?_
              refine j_goto h 104 dX4_isOrderSo_100 (by decide) ?_
              refine j_aload_n h 4 dX4_isOrderSo_104 rfl rfl ?_
              refine j_iload_n h 5 dX4_isOrderSo_105 rfl rfl ?_
              refine j_iload_n h 6 dX4_isOrderSo_106 rfl rfl ?_
              refine j_callV h (c_X4_same hE ha hb) m_X4_same a_l_X4_160 rfl rfl ⟨Nat.le_of_ble_eq_true rfl, Nat.le_of_ble_eq_true rfl⟩ (ci := 4) rfl (by omega) (rcM) rfl rfl (Nat.le_of_ble_eq_true rfl) dX4_isOrderSo_107 ?_
              refine j_icmp_ne h 117 dX4_isOrderSo_110 (by decide) (by first | exact okI_of _ | exact okI_b _ | exact okI_sgz _ _ | assumption | (unfold okI; omega)) (by first | exact okI_of _ | exact okI_b _ | exact okI_sgz _ _ | assumption | (unfold okI; omega)) (fun c110 => ?_) (fun c110 => ?_)
              · (rw [hw9] at c110; exact absurd rfl c110)
              · refine j_iconst h dX4_isOrderSo_113 ?_
                refine j_goto h 118 dX4_isOrderSo_114 (by decide) ?_
                exact j_zret h hq rfl (by first | exact nzb true | exact nzb false | exact nzb _) dX4_isOrderSo_118
      · have hh2 : orI true (A.1 (sw a)) (A.1 (sw b)) = iI (((A.1 (sw a)).length : Int) - (A.1 (sw b)).length) := by first | exact absurd rfl c44 | (rw [hh, if_pos (by omega)])
        refine j_aload_n h 3 dX4_isOrderSo_47 rfl rfl ?_
        refine j_iload_n h 4 dX4_isOrderSo_48 rfl rfl ?_
        refine j_callV h (c_X4_sizeOf hE ha) m_X4_sizeOf a_l_X4_67 rfl rfl ⟨Nat.le_of_ble_eq_true rfl, Nat.le_of_ble_eq_true rfl⟩ (ci := 4) rfl (by omega) (rcM) rfl rfl (Nat.le_of_ble_eq_true rfl) dX4_isOrderSo_49 ?_
        refine j_aload_n h 3 dX4_isOrderSo_52 rfl rfl ?_
        refine j_iload_n h 5 dX4_isOrderSo_53 rfl rfl ?_
        refine j_callV h (c_X4_sizeOf hE hb) m_X4_sizeOf a_l_X4_67 rfl rfl ⟨Nat.le_of_ble_eq_true rfl, Nat.le_of_ble_eq_true rfl⟩ (ci := 4) rfl (by omega) (rcM) rfl rfl (Nat.le_of_ble_eq_true rfl) dX4_isOrderSo_54 ?_
        refine j_isub h dX4_isOrderSo_57 ?_
        refine j_goto h 76 dX4_isOrderSo_58 (by decide) ?_
        refine j_istore h [(6, _), (5, _), (4, _), (3, _), (0, _), (1, _), (2, _)] dX4_isOrderSo_76 (by decide) rfl ?_
        refine j_iload_n h 3 dX4_isOrderSo_78 rfl rfl ?_
        refine j_iload h 0 dX4_isOrderSo_79 rfl ?_
        refine j_rcmp_ne h 117 dX4_isOrderSo_81 (by decide) (fun c81 => ?_) (fun c81 => ?_)
        · exact absurd hh2 c81
        · refine j_aload_n h 4 dX4_isOrderSo_84 rfl rfl ?_
          refine j_iload_n h 6 dX4_isOrderSo_85 rfl rfl ?_
          refine j_iload_n h 5 dX4_isOrderSo_86 rfl rfl ?_
          refine j_callV h (c_X4_compare hE hb ha) m_X4_compare a_l_X4_154 rfl rfl ⟨Nat.le_of_ble_eq_true rfl, Nat.le_of_ble_eq_true rfl⟩ (ci := 4) rfl (by omega) (rcM) rfl rfl (Nat.le_of_ble_eq_true rfl) dX4_isOrderSo_87 ?_
          refine j_iload_n h 3 dX4_isOrderSo_90 rfl rfl ?_
          refine j_top (iI_of _).symm ?_
          refine j_ineg h dX4_isOrderSo_91 ?_
          refine j_rcmp_ne h 117 dX4_isOrderSo_92 (by decide) (fun c92 => ?_) (fun c92 => ?_)
          · exact absurd hn.symm c92
          · refine j_iload_n h 3 dX4_isOrderSo_95 rfl rfl ?_
            refine j_rif_ne h 103 dX4_isOrderSo_96 (by decide) (fun c96 => ?_) (fun c96 => ?_)
            · have hw9 : who true (A.1 (sw a)) (A.1 (sw b)) = false := by cases q : who true (A.1 (sw a)) (A.1 (sw b)) with | false => rfl | true => exact absurd (h00.mpr q) c96
              refine j_iconst h dX4_isOrderSo_103 ?_
              refine j_aload_n h 4 dX4_isOrderSo_104 rfl rfl ?_
              refine j_iload_n h 5 dX4_isOrderSo_105 rfl rfl ?_
              refine j_iload_n h 6 dX4_isOrderSo_106 rfl rfl ?_
              refine j_callV h (c_X4_same hE ha hb) m_X4_same a_l_X4_160 rfl rfl ⟨Nat.le_of_ble_eq_true rfl, Nat.le_of_ble_eq_true rfl⟩ (ci := 4) rfl (by omega) (rcM) rfl rfl (Nat.le_of_ble_eq_true rfl) dX4_isOrderSo_107 ?_
              refine j_icmp_ne h 117 dX4_isOrderSo_110 (by decide) (by first | exact okI_of _ | exact okI_b _ | exact okI_sgz _ _ | assumption | (unfold okI; omega)) (by first | exact okI_of _ | exact okI_b _ | exact okI_sgz _ _ | assumption | (unfold okI; omega)) (fun c110 => ?_) (fun c110 => ?_)
              · (rw [hw9] at c110; exact absurd rfl c110)
              · refine j_iconst h dX4_isOrderSo_113 ?_
                refine j_goto h 118 dX4_isOrderSo_114 (by decide) ?_
                exact j_zret h hq rfl (by first | exact nzb true | exact nzb false | exact nzb _) dX4_isOrderSo_118
            · have hw9 : who true (A.1 (sw a)) (A.1 (sw b)) = true := h00.mp c96
              refine j_iconst h dX4_isOrderSo_99 ?_
              refine j_goto h 104 dX4_isOrderSo_100 (by decide) ?_
              refine j_aload_n h 4 dX4_isOrderSo_104 rfl rfl ?_
              refine j_iload_n h 5 dX4_isOrderSo_105 rfl rfl ?_
              refine j_iload_n h 6 dX4_isOrderSo_106 rfl rfl ?_
              refine j_callV h (c_X4_same hE ha hb) m_X4_same a_l_X4_160 rfl rfl ⟨Nat.le_of_ble_eq_true rfl, Nat.le_of_ble_eq_true rfl⟩ (ci := 4) rfl (by omega) (rcM) rfl rfl (Nat.le_of_ble_eq_true rfl) dX4_isOrderSo_107 ?_
              refine j_icmp_ne h 117 dX4_isOrderSo_110 (by decide) (by first | exact okI_of _ | exact okI_b _ | exact okI_sgz _ _ | assumption | (unfold okI; omega)) (by first | exact okI_of _ | exact okI_b _ | exact okI_sgz _ _ | assumption | (unfold okI; omega)) (fun c110 => ?_) (fun c110 => ?_)
              · (rw [hw9] at c110; exact absurd rfl c110)
              · refine j_iconst h dX4_isOrderSo_113 ?_
                refine j_goto h 118 dX4_isOrderSo_114 (by decide) ?_
                exact j_zret h hq rfl (by first | exact nzb true | exact nzb false | exact nzb _) dX4_isOrderSo_118
set_option maxHeartbeats 400000 in
set_option maxRecDepth 20000 in
theorem c_X4_holds {E : EV} (hE : EOK E) {A : AS} {mk : List Int32} {g0 : GH} {a : Int} (ha : okI a) {b : Int} (hb : okI b) {f : Int} (hf : okI f) : Ct E (RM E g0) yX4_holds wsX4_holds rX4_holds [eA E 76, .int (iI a), .int (iI b), .int (iI f)] (A, mk) (some (.int (iI (bI true)))) (A, mk) := by
  refine ct_of [(0, _), (1, _), (2, _), (3, _)] hE (by decide) rfl (Nat.le_of_ble_eq_true rfl) rfl (fun X h hq => ?_)
  refine j_of (fun G hG => RM_len hG) (fun hLM => ?_)
  dsimp only at *
  refine j_aload_n h 0 dX4_holds_0 rfl rfl ?_
  refine j_iload_n h 1 dX4_holds_1 rfl rfl ?_
  refine j_iload_n h 2 dX4_holds_2 rfl rfl ?_
  refine j_iload_n h 3 dX4_holds_3 rfl rfl ?_
  refine j_callV h (c_X4_arePlacesSo hE ha hb hf) m_X4_arePlacesSo a_l_X4_164 rfl rfl ⟨Nat.le_of_ble_eq_true rfl, Nat.le_of_ble_eq_true rfl⟩ (ci := 4) rfl (by omega) (rcM) rfl rfl (Nat.le_of_ble_eq_true rfl) dX4_holds_4 ?_
  refine j_if_eq h 40 dX4_holds_7 (by decide) (by first | exact okI_of _ | exact okI_b _ | exact okI_sgz _ _ | assumption | (unfold okI; omega)) (fun c7 => ?_) (fun c7 => ?_)
  · exact absurd c7 (by decide)
  · refine j_aload_n h 0 dX4_holds_10 rfl rfl ?_
    refine j_iload_n h 1 dX4_holds_11 rfl rfl ?_
    refine j_iload_n h 2 dX4_holds_12 rfl rfl ?_
    refine j_callV h (c_X4_isOrderSo hE ha hb) m_X4_isOrderSo a_l_X4_167 rfl rfl ⟨Nat.le_of_ble_eq_true rfl, Nat.le_of_ble_eq_true rfl⟩ (ci := 4) rfl (by omega) (rcM) rfl rfl (Nat.le_of_ble_eq_true rfl) dX4_holds_13 ?_
    refine j_if_eq h 40 dX4_holds_16 (by decide) (by first | exact okI_of _ | exact okI_b _ | exact okI_sgz _ _ | assumption | (unfold okI; omega)) (fun c16 => ?_) (fun c16 => ?_)
    · exact absurd c16 (by decide)
    · refine j_aload_n h 0 dX4_holds_19 rfl rfl ?_
      refine j_iload_n h 1 dX4_holds_20 rfl rfl ?_
      refine j_iload_n h 2 dX4_holds_21 rfl rfl ?_
      refine j_callV h (c_X4_areFindsSo hE ha hb) m_X4_areFindsSo a_l_X4_170 rfl rfl ⟨Nat.le_of_ble_eq_true rfl, Nat.le_of_ble_eq_true rfl⟩ (ci := 4) rfl (by omega) (rcM) rfl rfl (Nat.le_of_ble_eq_true rfl) dX4_holds_22 ?_
      refine j_if_eq h 40 dX4_holds_25 (by decide) (by first | exact okI_of _ | exact okI_b _ | exact okI_sgz _ _ | assumption | (unfold okI; omega)) (fun c25 => ?_) (fun c25 => ?_)
      · exact absurd c25 (by decide)
      · refine j_aload_n h 0 dX4_holds_28 rfl rfl ?_
        refine j_iload_n h 1 dX4_holds_29 rfl rfl ?_
        refine j_callV h (c_X4_arePiecesSo hE ha) m_X4_arePiecesSo a_l_X4_173 rfl rfl ⟨Nat.le_of_ble_eq_true rfl, Nat.le_of_ble_eq_true rfl⟩ (ci := 4) rfl (by omega) (rcM) rfl rfl (Nat.le_of_ble_eq_true rfl) dX4_holds_30 ?_
        refine j_if_eq h 40 dX4_holds_33 (by decide) (by first | exact okI_of _ | exact okI_b _ | exact okI_sgz _ _ | assumption | (unfold okI; omega)) (fun c33 => ?_) (fun c33 => ?_)
        · exact absurd c33 (by decide)
        · refine j_iconst h dX4_holds_36 ?_
          refine j_goto h 41 dX4_holds_37 (by decide) ?_
          exact j_zret h hq rfl (by first | exact nzb true | exact nzb false | exact nzb _) dX4_holds_41
