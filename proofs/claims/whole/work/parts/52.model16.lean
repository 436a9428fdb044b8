/-! the reference: digits -/
set_option maxHeartbeats 400000 in
set_option maxRecDepth 20000 in
theorem q_big {E : EV} (hE : EOK E) {A : AS} {g0 : GH} {L : Int64} {to : Int} (hto : okI to) : Ct E (RMP E g0) yX4_big wsX4_big rX4_big [eA E 76, .long L, .int (iI to)] A (some (.int (iI (layA A to (bgL L)).1))) (layA A to (bgL L)).2 := by
  refine ct_of [(0, _), (1, _), (3, _)] hE (by decide) rfl (Nat.le_of_ble_eq_true rfl) rfl (fun X h hq => ?_)
  refine j_exM (fun mk => ?_)
  refine j_of (fun G hG => RM_len hG) (fun hLM => ?_)
  have hlto := hLM.1 (sw to) (sw_lt to)
  have hwto := sw_lt to
  have hfmto : 0 ≤ fmo to 8 ∧ fmo to 8 < 8 := by unfold fmo; omega
  have hswto : (fmo to 8).toNat = sw to := rfl
  dsimp only at *
  refine j_iconst h dX4_big_0 ?_
  refine j_istore h [(4, _), (0, _), (1, _), (3, _)] dX4_big_1 (by decide) rfl ?_
  refine j_lload_n h 2 dX4_big_3 rfl rfl ?_
  refine j_ldc2 h (10) a_k_X4_96 (by decide) dX4_big_4 ?_
  refine j_ldiv h (L / lI 10) dX4_big_7 (by decide) rfl ?_
  refine j_lstore h [(5, _), (4, _), (0, _), (1, _), (3, _)] dX4_big_8 (by decide) rfl ?_
  refine j_sub [1, 0, 2, 3, 4] rfl ?_
  refine lpA2 (fun (z : Int) (r : Int64) => (20 - z).toNat) (fun (z : Int) (r : Int64) => 1 ≤ z → z ≤ 19 → r = d10 L z.toNat → (∀ k, 1 ≤ k → k < z.toNat → ¬ d10 L k = 0) → JL E (RM E g0) X 10 [(4, .int (iI z)), (5, .long r), (0, eA E 76), (1, .long L), (3, .int (iI to))] [] (A, mk)) (fun z r ih h1 hzb hr hnz => ?_) 1 (L / lI 10) (Int.le_refl 1) (by omega) rfl (fun k k1 k2 => absurd k2 (by rw [show ((1 : Int)).toNat = 1 from rfl]; omega))
  refine j_lload h 1 dX4_big_10 rfl ?_
  refine j_lconst h 0 dX4_big_12 (by decide) ?_
  refine j_lcmp h _ dX4_big_13 rfl ?_
  refine j_rif_eq h 31 dX4_big_14 (by decide) (fun c14 => ?_) (fun c14 => ?_)
  · rw [lg_cmp_0] at c14
    have hz0 : d10 L z.toNat = 0 := by rw [← hr]; exact c14
    refine j_aload_n h 2 dX4_big_31 rfl rfl ?_
    refine j_callVv h (c_X4_begins hE) m_X4_begins a_l_X4_75 rfl rfl ⟨Nat.le_of_ble_eq_true rfl, Nat.le_of_ble_eq_true rfl⟩ (ci := 4) rfl (by omega) (rcM) rfl rfl (Nat.le_of_ble_eq_true rfl) dX4_big_32 ?_
    refine j_lload_n h 3 dX4_big_35 rfl rfl ?_
    refine j_lconst h 0 dX4_big_36 (by decide) ?_
    refine j_lcmp h (iI (sgz L.toInt 0)) dX4_big_37 (lg_cmp_raw0 L) ?_
    refine j_if_ge h 47 dX4_big_38 (by decide) (by first | exact okI_of _ | exact okI_b _ | exact okI_sgz _ _ | assumption | (unfold okI; omega)) (fun c38 => ?_) (fun c38 => ?_)
    · rw [sgz_ge] at c38
      obtain ⟨sg, hsg, hsl⟩ : ∃ sg : List Int32, sg = (if L < 0 then [iI 45] else []) ∧ sg.length ≤ 1 := ⟨[], by rw [if_neg (by rw [ltz]; omega)], Nat.zero_le _⟩
      refine j_S (S2 := (A, sg)) (by rw [hsg, if_neg (by rw [ltz]; omega)]) ?_
      refine j_iload h 0 dX4_big_47 rfl ?_
      refine j_iconst h dX4_big_49 ?_
      refine j_isub h dX4_big_50 ?_
      refine j_istore h [(5, _), (4, _), (0, _), (1, _), (3, _)] dX4_big_51 (by decide) rfl ?_
      refine j_sub [0, 2, 3, 4] rfl ?_
      refine lpA2 (fun (y : Int) (us : List Int32) => (y + 1).toNat) (fun (y : Int) (us : List Int32) => -1 ≤ y → y < z → us.length + (y + 1).toNat ≤ 20 → us ++ dgH L (y + 1).toNat = sg ++ dgH L z.toNat → JL E (RM E g0) X 53 [(5, .int (iI y)), (0, eA E 76), (1, .long L), (3, .int (iI to))] [] (A, us)) (fun y us ih2 h2 hyb hcp hv => ?_) (z - 1) sg (by omega) (by omega) (by omega) (by rw [show (z - 1 + 1).toNat = z.toNat by omega])
      have hul := congrArg List.length hv
      rw [List.length_append, List.length_append, dgH_len, dgH_len] at hul
      refine j_iload h 0 dX4_big_53 rfl ?_
      refine j_if_lt h 120 dX4_big_55 (by decide) (by first | exact okI_of _ | exact okI_b _ | exact okI_sgz _ _ | assumption | (unfold okI; omega)) (fun c55 => ?_) (fun c55 => ?_)
      · have hbg := bgL_H L z.toNat (by omega) (by omega) hnz hz0
        rw [← hsg, ← hv, show (y + 1).toNat = 0 by omega, dgH, List.append_nil] at hbg
        refine j_aload_n h 1 dX4_big_120 rfl rfl ?_
        refine j_iload_n h 3 dX4_big_121 rfl rfl ?_
        refine j_callV h (c_lays hE hto) m_X4_lays a_l_X4_82 rfl rfl ⟨Nat.le_of_ble_eq_true rfl, Nat.le_of_ble_eq_true rfl⟩ (ci := 4) rfl (by omega) (rcM) rfl rfl (Nat.le_of_ble_eq_true rfl) dX4_big_122 ?_
        have e : layA A to (bgL L) = lyA A to (us) := by have := dgH_len L z.toNat; unfold lyA; rw [hbg, if_pos (by omega)]
        rw [e] at hq
        have hq := fnM (us) hq
        exact j_iret h hq rfl dX4_big_125
      · refine j_lload_n h 2 dX4_big_58 rfl rfl ?_
        refine j_lstore h [(6, _), (5, _), (0, _), (1, _), (3, _)] dX4_big_59 (by decide) rfl ?_
        refine j_iconst h dX4_big_61 ?_
        refine j_istore h [(8, _), (6, _), (5, _), (0, _), (1, _), (3, _)] dX4_big_62 (by decide) rfl ?_
        refine j_sub [0, 1, 2, 3, 5, 4] rfl ?_
        refine lpA2 (fun (w : Int) (r2 : Int64) => (y - w).toNat) (fun (w : Int) (r2 : Int64) => 0 ≤ w → w ≤ y → r2 = d10 L w.toNat → JL E (RM E g0) X 64 [(8, .int (iI w)), (6, .long r2), (5, .int (iI y)), (0, eA E 76), (3, .int (iI to)), (1, .long L)] [] (A, us)) (fun w r2 ih3 hw0 hwb hr2 => ?_) 0 L (Int.le_refl 0) (by omega) rfl
        refine j_iload h 0 dX4_big_64 rfl ?_
        refine j_iload h 2 dX4_big_66 rfl ?_
        refine j_icmp_ge h 85 dX4_big_68 (by decide) (by first | exact okI_of _ | exact okI_b _ | exact okI_sgz _ _ | assumption | (unfold okI; omega)) (by first | exact okI_of _ | exact okI_b _ | exact okI_sgz _ _ | assumption | (unfold okI; omega)) (fun c68 => ?_) (fun c68 => ?_)
        · obtain ⟨t, ht1, ht2, ht3⟩ := rem10 r2
          have hdg := dig_t ht1 ht2 ht3
          have hr3 : r2 = d10 L y.toNat := by rw [hr2, show w = y by omega]
          rw [hr3] at hdg
          refine j_lload h 1 dX4_big_85 rfl ?_
          refine j_ldc2 h (10) a_k_X4_96 (by decide) dX4_big_87 ?_
          refine j_lrem h (lI t) dX4_big_90 (by decide) ht3 ?_
          refine j_l2i h (iI t) dX4_big_91 Int64.toInt32_ofInt ?_
          refine j_istore h [(8, _), (6, _), (5, _), (0, _), (3, _), (1, _)] dX4_big_92 (by decide) rfl ?_
          refine j_aload_n h 3 dX4_big_94 rfl rfl ?_
          refine j_bipush h dX4_big_95 (by decide) ?_
          refine j_iload h 0 dX4_big_97 rfl ?_
          refine j_if_ge h 108 dX4_big_99 (by decide) (by first | exact okI_of _ | exact okI_b _ | exact okI_sgz _ _ | assumption | (unfold okI; omega)) (fun c99 => ?_) (fun c99 => ?_)
          · rw [if_neg (by omega)] at hdg
            refine j_iload h 0 dX4_big_108 rfl ?_
            refine j_iadd h dX4_big_110 ?_
            refine j_callVv h (c_X4_puts hE (by omega)) m_X4_puts a_l_X4_62 rfl rfl ⟨Nat.le_of_ble_eq_true rfl, Nat.le_of_ble_eq_true rfl⟩ (ci := 4) rfl (by omega) (rcM) rfl rfl (Nat.le_of_ble_eq_true rfl) dX4_big_111 ?_
            rw [← hdg]
            refine j_iinc h 2 [(5, _), (8, _), (6, _), (0, _), (3, _), (1, _)] dX4_big_114 rfl (by decide) rfl ?_
            refine j_goto h 53 dX4_big_117 (by decide) ?_
            refine j_sub [0, 3, 5, 4] rfl ?_
            rw [show (y + 1).toNat = (y + -1 + 1).toNat + 1 by omega, dgH, List.append_cons, show (y + -1 + 1).toNat = y.toNat by omega] at hv
            exact ih2 (y + -1) _ (by omega) (by omega) (by omega) (by simp only [List.length_append, List.length_cons, List.length_nil]; omega) (by rw [show (y + -1 + 1).toNat = y.toNat by omega]; exact hv)
          · rw [if_pos c99] at hdg
            refine j_iload h 0 dX4_big_102 rfl ?_
            refine j_ineg h dX4_big_104 ?_
            refine j_goto h 110 dX4_big_105 (by decide) ?_
            refine j_iadd h dX4_big_110 ?_
            refine j_callVv h (c_X4_puts hE (by omega)) m_X4_puts a_l_X4_62 rfl rfl ⟨Nat.le_of_ble_eq_true rfl, Nat.le_of_ble_eq_true rfl⟩ (ci := 4) rfl (by omega) (rcM) rfl rfl (Nat.le_of_ble_eq_true rfl) dX4_big_111 ?_
            rw [← hdg]
            refine j_iinc h 2 [(5, _), (8, _), (6, _), (0, _), (3, _), (1, _)] dX4_big_114 rfl (by decide) rfl ?_
            refine j_goto h 53 dX4_big_117 (by decide) ?_
            refine j_sub [0, 3, 5, 4] rfl ?_
            rw [show (y + 1).toNat = (y + -1 + 1).toNat + 1 by omega, dgH, List.append_cons, show (y + -1 + 1).toNat = y.toNat by omega] at hv
            exact ih2 (y + -1) _ (by omega) (by omega) (by omega) (by simp only [List.length_append, List.length_cons, List.length_nil]; omega) (by rw [show (y + -1 + 1).toNat = y.toNat by omega]; exact hv)
        · refine j_lload h 1 dX4_big_71 rfl ?_
          refine j_ldc2 h (10) a_k_X4_96 (by decide) dX4_big_73 ?_
          refine j_ldiv h (r2 / lI 10) dX4_big_76 (by decide) rfl ?_
          refine j_lstore h [(6, _), (8, _), (5, _), (0, _), (3, _), (1, _)] dX4_big_77 (by decide) rfl ?_
          refine j_iinc h 1 [(8, _), (6, _), (5, _), (0, _), (3, _), (1, _)] dX4_big_79 rfl (by decide) rfl ?_
          refine j_goto h 64 dX4_big_82 (by decide) ?_
          exact ih3 (w + 1) (r2 / lI 10) (by omega) (by omega) (by omega) (by rw [hr2, show (w + 1).toNat = w.toNat + 1 by omega]; rfl)
    · have c38b : ¬ 0 ≤ sgz L.toInt 0 := by omega
      rw [sgz_ge] at c38b
      refine j_aload_n h 2 dX4_big_41 rfl rfl ?_
      refine j_bipush h dX4_big_42 (by decide) ?_
      refine j_callVv h (c_X4_puts hE (by simp)) m_X4_puts a_l_X4_62 rfl rfl ⟨Nat.le_of_ble_eq_true rfl, Nat.le_of_ble_eq_true rfl⟩ (ci := 4) rfl (by omega) (rcM) rfl rfl (Nat.le_of_ble_eq_true rfl) dX4_big_44 ?_
      obtain ⟨sg, hsg, hsl⟩ : ∃ sg : List Int32, sg = (if L < 0 then [iI 45] else []) ∧ sg.length ≤ 1 := ⟨[iI 45], by rw [if_pos (by rw [ltz]; omega)], Nat.le_refl _⟩
      refine j_S (S2 := (A, sg)) (by rw [hsg, if_pos (by rw [ltz]; omega)]; rfl) ?_
      refine j_iload h 0 dX4_big_47 rfl ?_
      refine j_iconst h dX4_big_49 ?_
      refine j_isub h dX4_big_50 ?_
      refine j_istore h [(5, _), (4, _), (0, _), (1, _), (3, _)] dX4_big_51 (by decide) rfl ?_
      refine j_sub [0, 2, 3, 4] rfl ?_
      refine lpA2 (fun (y : Int) (us : List Int32) => (y + 1).toNat) (fun (y : Int) (us : List Int32) => -1 ≤ y → y < z → us.length + (y + 1).toNat ≤ 20 → us ++ dgH L (y + 1).toNat = sg ++ dgH L z.toNat → JL E (RM E g0) X 53 [(5, .int (iI y)), (0, eA E 76), (1, .long L), (3, .int (iI to))] [] (A, us)) (fun y us ih2 h2 hyb hcp hv => ?_) (z - 1) sg (by omega) (by omega) (by omega) (by rw [show (z - 1 + 1).toNat = z.toNat by omega])
      have hul := congrArg List.length hv
      rw [List.length_append, List.length_append, dgH_len, dgH_len] at hul
      refine j_iload h 0 dX4_big_53 rfl ?_
      refine j_if_lt h 120 dX4_big_55 (by decide) (by first | exact okI_of _ | exact okI_b _ | exact okI_sgz _ _ | assumption | (unfold okI; omega)) (fun c55 => ?_) (fun c55 => ?_)
      · have hbg := bgL_H L z.toNat (by omega) (by omega) hnz hz0
        rw [← hsg, ← hv, show (y + 1).toNat = 0 by omega, dgH, List.append_nil] at hbg
        refine j_aload_n h 1 dX4_big_120 rfl rfl ?_
        refine j_iload_n h 3 dX4_big_121 rfl rfl ?_
        refine j_callV h (c_lays hE hto) m_X4_lays a_l_X4_82 rfl rfl ⟨Nat.le_of_ble_eq_true rfl, Nat.le_of_ble_eq_true rfl⟩ (ci := 4) rfl (by omega) (rcM) rfl rfl (Nat.le_of_ble_eq_true rfl) dX4_big_122 ?_
        have e : layA A to (bgL L) = lyA A to (us) := by have := dgH_len L z.toNat; unfold lyA; rw [hbg, if_pos (by omega)]
        rw [e] at hq
        have hq := fnM (us) hq
        exact j_iret h hq rfl dX4_big_125
      · refine j_lload_n h 2 dX4_big_58 rfl rfl ?_
        refine j_lstore h [(6, _), (5, _), (0, _), (1, _), (3, _)] dX4_big_59 (by decide) rfl ?_
        refine j_iconst h dX4_big_61 ?_
        refine j_istore h [(8, _), (6, _), (5, _), (0, _), (1, _), (3, _)] dX4_big_62 (by decide) rfl ?_
        refine j_sub [0, 1, 2, 3, 5, 4] rfl ?_
        refine lpA2 (fun (w : Int) (r2 : Int64) => (y - w).toNat) (fun (w : Int) (r2 : Int64) => 0 ≤ w → w ≤ y → r2 = d10 L w.toNat → JL E (RM E g0) X 64 [(8, .int (iI w)), (6, .long r2), (5, .int (iI y)), (0, eA E 76), (3, .int (iI to)), (1, .long L)] [] (A, us)) (fun w r2 ih3 hw0 hwb hr2 => ?_) 0 L (Int.le_refl 0) (by omega) rfl
        refine j_iload h 0 dX4_big_64 rfl ?_
        refine j_iload h 2 dX4_big_66 rfl ?_
        refine j_icmp_ge h 85 dX4_big_68 (by decide) (by first | exact okI_of _ | exact okI_b _ | exact okI_sgz _ _ | assumption | (unfold okI; omega)) (by first | exact okI_of _ | exact okI_b _ | exact okI_sgz _ _ | assumption | (unfold okI; omega)) (fun c68 => ?_) (fun c68 => ?_)
        · obtain ⟨t, ht1, ht2, ht3⟩ := rem10 r2
          have hdg := dig_t ht1 ht2 ht3
          have hr3 : r2 = d10 L y.toNat := by rw [hr2, show w = y by omega]
          rw [hr3] at hdg
          refine j_lload h 1 dX4_big_85 rfl ?_
          refine j_ldc2 h (10) a_k_X4_96 (by decide) dX4_big_87 ?_
          refine j_lrem h (lI t) dX4_big_90 (by decide) ht3 ?_
          refine j_l2i h (iI t) dX4_big_91 Int64.toInt32_ofInt ?_
          refine j_istore h [(8, _), (6, _), (5, _), (0, _), (3, _), (1, _)] dX4_big_92 (by decide) rfl ?_
          refine j_aload_n h 3 dX4_big_94 rfl rfl ?_
          refine j_bipush h dX4_big_95 (by decide) ?_
          refine j_iload h 0 dX4_big_97 rfl ?_
          refine j_if_ge h 108 dX4_big_99 (by decide) (by first | exact okI_of _ | exact okI_b _ | exact okI_sgz _ _ | assumption | (unfold okI; omega)) (fun c99 => ?_) (fun c99 => ?_)
          · rw [if_neg (by omega)] at hdg
            refine j_iload h 0 dX4_big_108 rfl ?_
            refine j_iadd h dX4_big_110 ?_
            refine j_callVv h (c_X4_puts hE (by omega)) m_X4_puts a_l_X4_62 rfl rfl ⟨Nat.le_of_ble_eq_true rfl, Nat.le_of_ble_eq_true rfl⟩ (ci := 4) rfl (by omega) (rcM) rfl rfl (Nat.le_of_ble_eq_true rfl) dX4_big_111 ?_
            rw [← hdg]
            refine j_iinc h 2 [(5, _), (8, _), (6, _), (0, _), (3, _), (1, _)] dX4_big_114 rfl (by decide) rfl ?_
            refine j_goto h 53 dX4_big_117 (by decide) ?_
            refine j_sub [0, 3, 5, 4] rfl ?_
            rw [show (y + 1).toNat = (y + -1 + 1).toNat + 1 by omega, dgH, List.append_cons, show (y + -1 + 1).toNat = y.toNat by omega] at hv
            exact ih2 (y + -1) _ (by omega) (by omega) (by omega) (by simp only [List.length_append, List.length_cons, List.length_nil]; omega) (by rw [show (y + -1 + 1).toNat = y.toNat by omega]; exact hv)
          · rw [if_pos c99] at hdg
            refine j_iload h 0 dX4_big_102 rfl ?_
            refine j_ineg h dX4_big_104 ?_
            refine j_goto h 110 dX4_big_105 (by decide) ?_
            refine j_iadd h dX4_big_110 ?_
            refine j_callVv h (c_X4_puts hE (by omega)) m_X4_puts a_l_X4_62 rfl rfl ⟨Nat.le_of_ble_eq_true rfl, Nat.le_of_ble_eq_true rfl⟩ (ci := 4) rfl (by omega) (rcM) rfl rfl (Nat.le_of_ble_eq_true rfl) dX4_big_111 ?_
            rw [← hdg]
            refine j_iinc h 2 [(5, _), (8, _), (6, _), (0, _), (3, _), (1, _)] dX4_big_114 rfl (by decide) rfl ?_
            refine j_goto h 53 dX4_big_117 (by decide) ?_
            refine j_sub [0, 3, 5, 4] rfl ?_
            rw [show (y + 1).toNat = (y + -1 + 1).toNat + 1 by omega, dgH, List.append_cons, show (y + -1 + 1).toNat = y.toNat by omega] at hv
            exact ih2 (y + -1) _ (by omega) (by omega) (by omega) (by simp only [List.length_append, List.length_cons, List.length_nil]; omega) (by rw [show (y + -1 + 1).toNat = y.toNat by omega]; exact hv)
        · refine j_lload h 1 dX4_big_71 rfl ?_
          refine j_ldc2 h (10) a_k_X4_96 (by decide) dX4_big_73 ?_
          refine j_ldiv h (r2 / lI 10) dX4_big_76 (by decide) rfl ?_
          refine j_lstore h [(6, _), (8, _), (5, _), (0, _), (3, _), (1, _)] dX4_big_77 (by decide) rfl ?_
          refine j_iinc h 1 [(8, _), (6, _), (5, _), (0, _), (3, _), (1, _)] dX4_big_79 rfl (by decide) rfl ?_
          refine j_goto h 64 dX4_big_82 (by decide) ?_
          exact ih3 (w + 1) (r2 / lI 10) (by omega) (by omega) (by omega) (by rw [hr2, show (w + 1).toNat = w.toNat + 1 by omega]; rfl)
  · rw [lg_cmp_0] at c14
    have hz9 : ¬ z = 19 := fun w => c14 (by rw [hr, w]; exact d10_19 L)
    refine j_iinc h 0 [(4, _), (5, _), (0, _), (1, _), (3, _)] dX4_big_17 rfl (by decide) rfl ?_
    refine j_lload h 1 dX4_big_20 rfl ?_
    refine j_ldc2 h (10) a_k_X4_96 (by decide) dX4_big_22 ?_
    refine j_ldiv h (r / lI 10) dX4_big_25 (by decide) rfl ?_
    refine j_lstore h [(5, _), (4, _), (0, _), (1, _), (3, _)] dX4_big_26 (by decide) rfl ?_
    refine j_goto h 10 dX4_big_28 (by decide) ?_
    refine j_sub [1, 0, 2, 3, 4] rfl ?_
    exact ih (z + 1) (r / lI 10) (by omega) (by omega) (by omega) (by rw [hr, show (z + 1).toNat = z.toNat + 1 by omega]; rfl) (fun k k1 k2 => by by_cases e : k = z.toNat; rw [e, ← hr]; exact c14; exact hnz k k1 (by omega))
set_option maxHeartbeats 400000 in
set_option maxRecDepth 20000 in
theorem q_number {E : EV} (hE : EOK E) {A : AS} {g0 : GH} {v : Int} (hv : okI v) {to : Int} (hto : okI to) : Ct E (RMP E g0) yX4_number wsX4_number rX4_number [eA E 76, .int (iI v), .int (iI to)] A (some (.int (iI (layA A to (bgL (lI v))).1))) (layA A to (bgL (lI v))).2 := by
  refine ct_of [(0, _), (1, _), (2, _)] hE (by decide) rfl (Nat.le_of_ble_eq_true rfl) rfl (fun X h hq => ?_)
  refine j_aload_n h 0 dX4_number_0 rfl rfl ?_
  refine j_iload_n h 1 dX4_number_1 rfl rfl ?_
  refine j_i2l h (lI v) dX4_number_2 (iI_i2l hv) ?_
  refine j_iload_n h 2 dX4_number_3 rfl rfl ?_
  refine j_callV h (q_big hE hto) m_X4_big a_l_X4_92 rfl rfl ⟨Nat.le_of_ble_eq_true rfl, Nat.le_of_ble_eq_true rfl⟩ (ci := 4) rfl (by omega) (rcMP) rfl rfl (Nat.le_of_ble_eq_true rfl) dX4_number_4 ?_
  exact j_iret h hq rfl dX4_number_7
