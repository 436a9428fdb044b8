/-! TextShelves: shelves, by the abstract state -/
set_option maxHeartbeats 400000 in
set_option maxRecDepth 20000 in
theorem c_X3_lay {E : EV} (hE : EOK E) {S : SC} {g0 : GH} {to : Int} (hto : okI to) {ms : List Int32} (hm : S.1 24 = ms) (hl : ms.length ≤ 300) : Ct E (RC E g0) yX3_lay wsX3_lay rX3_lay [eA E 74, .int (iI to)] S (some (.int (iI ms.length))) (setT S (sh S to) ms) := by
  refine ct_of [(0, _), (1, _)] hE (by decide) rfl (Nat.le_of_ble_eq_true rfl) rfl (fun X h hq => ?_)
  refine j_of (fun G hG => RC_okS hG) (fun hS0 => ?_)
  have hs := sh_lt hS0 to
  have hc := cap_lo (t := sh S to) (by omega)
  refine j_aload_n h 0 dX3_lay_0 rfl rfl ?_
  refine jg_Snow h a_f_X3_10 dX3_lay_1 ?_
  refine j_iload_n h 1 dX3_lay_4 rfl rfl ?_
  refine j_callV h (c_X0_text hE hto) m_X0_text a_l_X3_39 rfl rfl ⟨Nat.le_of_ble_eq_true rfl, Nat.le_of_ble_eq_true rfl⟩ (ci := 0) rfl (by omega) (rcI (i := 0) (by omega)) rfl rfl (Nat.le_of_ble_eq_true rfl) dX3_lay_5 ?_
  refine j_astore_n h [(2, _), (0, _), (1, _)] dX3_lay_8 rfl (by decide) rfl ?_
  refine j_aload_n h 0 dX3_lay_9 rfl rfl ?_
  refine j_aload_n h 1 dX3_lay_10 rfl rfl ?_
  refine jg_Smade h a_f_X3_25 dX3_lay_11 ?_
  refine j_callVv h (c_X2_become hE (by omega) (u := 24) (by omega) hm (by omega) (by omega)) m_X2_become a_l_X3_67 rfl rfl ⟨Nat.le_of_ble_eq_true rfl, Nat.le_of_ble_eq_true rfl⟩ (ci := 2) rfl (by omega) (rcT (by omega)) rfl rfl (Nat.le_of_ble_eq_true rfl) dX3_lay_14 ?_
  refine j_aload_n h 0 dX3_lay_17 rfl rfl ?_
  refine j_callV h (c_X2_size hE (by omega) (setT_1s _ _ _)) m_X2_size a_l_X3_43 rfl rfl ⟨Nat.le_of_ble_eq_true rfl, Nat.le_of_ble_eq_true rfl⟩ (ci := 2) rfl (by omega) (rcT (by omega)) rfl rfl (Nat.le_of_ble_eq_true rfl) dX3_lay_18 ?_
  exact j_iret h hq rfl dX3_lay_21
theorem fn_lay {E : EV} {g0 : GH} {X : TX} {v : Option Value} {A : AS} {S : SC} {to : Int} {ms : List Int32} (h : Fn E (RP E g0) X v (layA A to ms).2) (hA : AbS S A) : Fn E (RC E g0) X v (setT (setT S 24 ms) (sh S to) ms) := fnA h (ab_X (ab_T hA (Or.inl rfl)) to ms)
set_option maxHeartbeats 400000 in
set_option maxRecDepth 20000 in
theorem p_wipe {E : EV} (hE : EOK E) {A : AS} {g0 : GH} {a : Int} (ha : okI a) : Ct E (RP E g0) yX3_wipe wsX3_wipe rX3_wipe [eA E 74, .int (iI a)] A (some (.int (iI (((((A.1 (sw a))).length : Int), aX A (sw a) [])).1))) (((((A.1 (sw a))).length : Int), aX A (sw a) [])).2 := by
  refine ct_of [(0, _), (1, _)] hE (by decide) rfl (Nat.le_of_ble_eq_true rfl) rfl (fun X h hq => ?_)
  refine j_ex (fun S hAb => ?_)
  refine j_of (fun G hG => RC_okS hG) (fun hS0 => ?_)
  refine j_of (fun G hG => RC_lens hG) (fun hLL => ?_)
  have hcap24 : cap 24 = 600 := rfl
  have hcap25 : cap 25 = 600 := rfl
  have hsa := sh_lt hS0 a
  have hxa := ab_x hAb a
  have hla := hLL (sh S a) (by omega)
  rw [hxa, cap_lo (by omega)] at hla
  have hca := cap_lo (t := sh S a) (by omega)
  refine j_aload_n h 0 dX3_wipe_0 rfl rfl ?_
  refine jg_Snow h a_f_X3_10 dX3_wipe_1 ?_
  refine j_iload_n h 1 dX3_wipe_4 rfl rfl ?_
  refine j_callV h (c_X0_text hE ha) m_X0_text a_l_X3_39 rfl rfl ⟨Nat.le_of_ble_eq_true rfl, Nat.le_of_ble_eq_true rfl⟩ (ci := 0) rfl (by omega) (rcI (i := 0) (by omega)) rfl rfl (Nat.le_of_ble_eq_true rfl) dX3_wipe_5 ?_
  refine j_astore_n h [(2, _), (0, _), (1, _)] dX3_wipe_8 rfl (by decide) rfl ?_
  refine j_aload_n h 0 dX3_wipe_9 rfl rfl ?_
  refine j_callV h (c_X2_size hE (by omega) hxa) m_X2_size a_l_X3_43 rfl rfl ⟨Nat.le_of_ble_eq_true rfl, Nat.le_of_ble_eq_true rfl⟩ (ci := 2) rfl (by omega) (rcT (by omega)) rfl rfl (Nat.le_of_ble_eq_true rfl) dX3_wipe_10 ?_
  refine j_istore_n h [(3, _), (2, _), (0, _), (1, _)] dX3_wipe_13 rfl (by decide) rfl ?_
  refine j_aload_n h 1 dX3_wipe_14 rfl rfl ?_
  refine j_callVv h (c_X2_clear hE (by omega)) m_X2_clear a_l_X3_47 rfl rfl ⟨Nat.le_of_ble_eq_true rfl, Nat.le_of_ble_eq_true rfl⟩ (ci := 2) rfl (by omega) (rcT (by omega)) rfl rfl (Nat.le_of_ble_eq_true rfl) dX3_wipe_15 ?_
  refine j_iload_n h 0 dX3_wipe_18 rfl rfl ?_
  have hq := fnA hq (ab_X hAb a [])
  exact j_iret h hq rfl dX3_wipe_19
set_option maxHeartbeats 400000 in
set_option maxRecDepth 20000 in
theorem p_type {E : EV} (hE : EOK E) {A : AS} {g0 : GH} {a : Int} (ha : okI a) {x : Int} (hx : okI x) : Ct E (RP E g0) yX3_type wsX3_type rX3_type [eA E 74, .int (iI a), .int (iI x)] A (some (.int (iI (tyA A a x).1))) (tyA A a x).2 := by
  refine ct_of [(0, _), (1, _), (2, _)] hE (by decide) rfl (Nat.le_of_ble_eq_true rfl) rfl (fun X h hq => ?_)
  refine j_ex (fun S hAb => ?_)
  refine j_of (fun G hG => RC_okS hG) (fun hS0 => ?_)
  refine j_of (fun G hG => RC_lens hG) (fun hLL => ?_)
  have hcap24 : cap 24 = 600 := rfl
  have hcap25 : cap 25 = 600 := rfl
  have hsa := sh_lt hS0 a
  have hxa := ab_x hAb a
  have hla := hLL (sh S a) (by omega)
  rw [hxa, cap_lo (by omega)] at hla
  have hca := cap_lo (t := sh S a) (by omega)
  refine j_aload_n h 0 dX3_type_0 rfl rfl ?_
  refine jg_Snow h a_f_X3_10 dX3_type_1 ?_
  refine j_iload_n h 1 dX3_type_4 rfl rfl ?_
  refine j_callV h (c_X0_text hE ha) m_X0_text a_l_X3_39 rfl rfl ⟨Nat.le_of_ble_eq_true rfl, Nat.le_of_ble_eq_true rfl⟩ (ci := 0) rfl (by omega) (rcI (i := 0) (by omega)) rfl rfl (Nat.le_of_ble_eq_true rfl) dX3_type_5 ?_
  refine j_astore_n h [(3, _), (0, _), (1, _), (2, _)] dX3_type_8 rfl (by decide) rfl ?_
  refine j_iload_n h 3 dX3_type_9 rfl rfl ?_
  refine j_callS h (c_X3_isSign hE hx) m_X3_isSign a_l_X3_50 rfl rfl ⟨Nat.le_of_ble_eq_true rfl, Nat.le_of_ble_eq_true rfl⟩ rfl rfl (Nat.le_of_ble_eq_true rfl) dX3_type_10 ?_
  refine j_if_ne h 19 dX3_type_13 (by decide) (by first | exact okI_of _ | exact okI_b _ | exact okI_sgz _ _ | assumption | (unfold okI; omega)) (fun c13 => ?_) (fun c13 => ?_)
  · rw [bI_n0] at c13
    refine j_aload_n h 0 dX3_type_19 rfl rfl ?_
    refine j_callV h (c_X2_size hE (by omega) hxa) m_X2_size a_l_X3_43 rfl rfl ⟨Nat.le_of_ble_eq_true rfl, Nat.le_of_ble_eq_true rfl⟩ (ci := 2) rfl (by omega) (rcT (by omega)) rfl rfl (Nat.le_of_ble_eq_true rfl) dX3_type_20 ?_
    refine j_sipush h dX3_type_23 (by decide) ?_
    refine j_icmp_lt h 32 dX3_type_26 (by decide) (by first | exact okI_of _ | exact okI_b _ | exact okI_sgz _ _ | assumption | (unfold okI; omega)) (by first | exact okI_of _ | exact okI_b _ | exact okI_sgz _ _ | assumption | (unfold okI; omega)) (fun c26 => ?_) (fun c26 => ?_)
    · refine j_aload_n h 0 dX3_type_32 rfl rfl ?_
      refine j_iload_n h 3 dX3_type_33 rfl rfl ?_
      refine j_callVv h (c_X2_add hE (by omega) hxa (by omega)) m_X2_add a_l_X3_56 rfl rfl ⟨Nat.le_of_ble_eq_true rfl, Nat.le_of_ble_eq_true rfl⟩ (ci := 2) rfl (by omega) (rcT (by omega)) rfl rfl (Nat.le_of_ble_eq_true rfl) dX3_type_34 ?_
      refine j_aload_n h 0 dX3_type_37 rfl rfl ?_
      refine j_callV h (c_X2_size hE (by omega) (setT_1s _ _ _)) m_X2_size a_l_X3_43 rfl rfl ⟨Nat.le_of_ble_eq_true rfl, Nat.le_of_ble_eq_true rfl⟩ (ci := 2) rfl (by omega) (rcT (by omega)) rfl rfl (Nat.le_of_ble_eq_true rfl) dX3_type_38 ?_
      have e : tyA A a x = ((((A.1 (sw a)).length + 1 : Nat) : Int), aX A (sw a) ((A.1 (sw a)) ++ [iI x])) := by unfold tyA; rw [if_pos c13, if_pos (by omega)]
      rw [e] at hq
      have hq := fnA hq (ab_X hAb a _)
      exact j_iret h hq (by rw [List.length_append]; rfl) dX3_type_41
    · refine j_ldc h (-1000004) a_k_X3_55 (by decide) dX3_type_29 ?_
      have e : tyA A a x = (-1000004, A) := by unfold tyA; rw [if_pos c13, if_neg (by omega)]
      rw [e] at hq
      have hq := fnA hq (hAb)
      exact j_iret h hq rfl dX3_type_31
  · rw [bI_0] at c13
    refine j_ldc h (-1000001) a_k_X3_54 (by decide) dX3_type_16 ?_
    have e : tyA A a x = (-1000001, A) := by unfold tyA; rw [if_neg (by rw [c13]; simp)]
    rw [e] at hq
    have hq := fnA hq (hAb)
    exact j_iret h hq rfl dX3_type_18
set_option maxHeartbeats 400000 in
set_option maxRecDepth 20000 in
theorem p_feed {E : EV} (hE : EOK E) {A : AS} {g0 : GH} {a : Int} (ha : okI a) {L : Int64} {n : Int} (hn : okI n) : Ct E (RP E g0) yX3_feed wsX3_feed rX3_feed [eA E 74, .int (iI a), .long L, .int (iI n)] A (some (.int (iI (feA A a L n).1))) (feA A a L n).2 := by
  refine ct_of [(0, _), (1, _), (2, _), (4, _)] hE (by decide) rfl (Nat.le_of_ble_eq_true rfl) rfl (fun X h hq => ?_)
  refine j_ex (fun S hAb => ?_)
  refine j_of (fun G hG => RC_okS hG) (fun hS0 => ?_)
  refine j_of (fun G hG => RC_lens hG) (fun hLL => ?_)
  have hcap24 : cap 24 = 600 := rfl
  have hcap25 : cap 25 = 600 := rfl
  have hsa := sh_lt hS0 a
  have hxa := ab_x hAb a
  have hla := hLL (sh S a) (by omega)
  rw [hxa, cap_lo (by omega)] at hla
  have hca := cap_lo (t := sh S a) (by omega)
  refine j_aload_n h 0 dX3_feed_0 rfl rfl ?_
  refine jg_Snow h a_f_X3_10 dX3_feed_1 ?_
  refine j_iload_n h 1 dX3_feed_4 rfl rfl ?_
  refine j_callV h (c_X0_text hE ha) m_X0_text a_l_X3_39 rfl rfl ⟨Nat.le_of_ble_eq_true rfl, Nat.le_of_ble_eq_true rfl⟩ (ci := 0) rfl (by omega) (rcI (i := 0) (by omega)) rfl rfl (Nat.le_of_ble_eq_true rfl) dX3_feed_5 ?_
  refine j_astore h [(5, _), (0, _), (1, _), (2, _), (4, _)] dX3_feed_8 (by decide) rfl ?_
  refine j_iload h 4 dX3_feed_10 rfl ?_
  refine j_iconst h dX3_feed_12 ?_
  refine j_icmp_lt h 32 dX3_feed_13 (by decide) (by first | exact okI_of _ | exact okI_b _ | exact okI_sgz _ _ | assumption | (unfold okI; omega)) (by first | exact okI_of _ | exact okI_b _ | exact okI_sgz _ _ | assumption | (unfold okI; omega)) (fun c13 => ?_) (fun c13 => ?_)
  · refine j_ldc h (-1000001) a_k_X3_54 (by decide) dX3_feed_32 ?_
    have e : feA A a L n = (-1000001, A) := by unfold feA; first | rw [if_neg (fun w => by omega)] | rw [if_neg (fun w => by rw [c29] at w; simp at w)]
    rw [e] at hq
    have hq := fnA hq hAb
    exact j_iret h hq rfl dX3_feed_34
  · refine j_iload h 4 dX3_feed_16 rfl ?_
    refine j_bipush h dX3_feed_18 (by decide) ?_
    refine j_icmp_gt h 32 dX3_feed_20 (by decide) (by first | exact okI_of _ | exact okI_b _ | exact okI_sgz _ _ | assumption | (unfold okI; omega)) (by first | exact okI_of _ | exact okI_b _ | exact okI_sgz _ _ | assumption | (unfold okI; omega)) (fun c20 => ?_) (fun c20 => ?_)
    · refine j_ldc h (-1000001) a_k_X3_54 (by decide) dX3_feed_32 ?_
      have e : feA A a L n = (-1000001, A) := by unfold feA; first | rw [if_neg (fun w => by omega)] | rw [if_neg (fun w => by rw [c29] at w; simp at w)]
      rw [e] at hq
      have hq := fnA hq hAb
      exact j_iret h hq rfl dX3_feed_34
    · refine j_lload_n h 3 dX3_feed_23 rfl rfl ?_
      refine j_iload h 4 dX3_feed_24 rfl ?_
      refine j_callS h (c_X3_areSigns hE (by omega) (by omega)) m_X3_areSigns a_l_X3_59 rfl rfl ⟨Nat.le_of_ble_eq_true rfl, Nat.le_of_ble_eq_true rfl⟩ rfl rfl (Nat.le_of_ble_eq_true rfl) dX3_feed_26 ?_
      refine j_if_ne h 35 dX3_feed_29 (by decide) (by first | exact okI_of _ | exact okI_b _ | exact okI_sgz _ _ | assumption | (unfold okI; omega)) (fun c29 => ?_) (fun c29 => ?_)
      · rw [bI_n0] at c29
        refine j_aload h 0 dX3_feed_35 rfl ?_
        refine j_callV h (c_X2_size hE (by omega) hxa) m_X2_size a_l_X3_43 rfl rfl ⟨Nat.le_of_ble_eq_true rfl, Nat.le_of_ble_eq_true rfl⟩ (ci := 2) rfl (by omega) (rcT (by omega)) rfl rfl (Nat.le_of_ble_eq_true rfl) dX3_feed_37 ?_
        refine j_iload h 4 dX3_feed_40 rfl ?_
        refine j_iadd h dX3_feed_42 ?_
        refine j_sipush h dX3_feed_43 (by decide) ?_
        refine j_icmp_le h 52 dX3_feed_46 (by decide) (by first | exact okI_of _ | exact okI_b _ | exact okI_sgz _ _ | assumption | (unfold okI; omega)) (by first | exact okI_of _ | exact okI_b _ | exact okI_sgz _ _ | assumption | (unfold okI; omega)) (fun c46 => ?_) (fun c46 => ?_)
        · refine j_iconst h dX3_feed_52 ?_
          refine j_istore h [(6, _), (5, _), (0, _), (1, _), (2, _), (4, _)] dX3_feed_53 (by decide) rfl ?_
          refine j_sub [0, 1, 4, 5] rfl ?_
          refine j_S (S2 := setT S (sh S a) (A.1 (sw a))) (by rw [← hxa, setT_id]) ?_
          refine lpA2 (fun (z : Int) (us : List Int32) => (n - z).toNat) (fun (z : Int) (us : List Int32) => 0 ≤ z → z ≤ n → us.length + (n - z).toNat ≤ 300 → us ++ byS L z (n - z).toNat = (A.1 (sw a)) ++ byS L 0 n.toNat → JL E (RC E g0) X 55 [(6, .int (iI z)), (5, eA E (sh S a)), (2, .long L), (4, .int (iI n))] [] (setT S (sh S a) us)) (fun z us ih h0 hb hcp hv => ?_) 0 (A.1 (sw a)) (Int.le_refl 0) (by omega) (by omega) (by rw [Int.sub_zero])
          refine j_iload h 0 dX3_feed_55 rfl ?_
          refine j_iload h 3 dX3_feed_57 rfl ?_
          refine j_icmp_ge h 79 dX3_feed_59 (by decide) (by first | exact okI_of _ | exact okI_b _ | exact okI_sgz _ _ | assumption | (unfold okI; omega)) (by first | exact okI_of _ | exact okI_b _ | exact okI_sgz _ _ | assumption | (unfold okI; omega)) (fun c59 => ?_) (fun c59 => ?_)
          · refine j_aload h 1 dX3_feed_79 rfl ?_
            refine j_callV h (c_X2_size hE (by omega) (setT_1s _ _ _)) m_X2_size a_l_X3_43 rfl rfl ⟨Nat.le_of_ble_eq_true rfl, Nat.le_of_ble_eq_true rfl⟩ (ci := 2) rfl (by omega) (rcT (by omega)) rfl rfl (Nat.le_of_ble_eq_true rfl) dX3_feed_81 ?_
            rw [show (n - z).toNat = 0 by omega, byS, List.append_nil] at hv
            have e : feA A a L n = ((((A.1 (sw a)).length + n.toNat : Nat) : Int), aX A (sw a) ((A.1 (sw a)) ++ byS L 0 n.toNat)) := by unfold feA; rw [if_pos ⟨by omega, by omega, c29⟩, if_pos (by omega)]
            rw [e, ← hv] at hq
            have hq := fnA hq (ab_X hAb a us)
            exact j_iret h hq (by rw [hv, List.length_append, byS_len]) dX3_feed_84
          · refine j_aload h 1 dX3_feed_62 rfl ?_
            refine j_lload_n h 2 dX3_feed_64 rfl rfl ?_
            refine j_iload h 0 dX3_feed_65 rfl ?_
            refine j_callS h (c_X3_byteOf hE) m_X3_byteOf a_l_X3_63 rfl rfl ⟨Nat.le_of_ble_eq_true rfl, Nat.le_of_ble_eq_true rfl⟩ rfl rfl (Nat.le_of_ble_eq_true rfl) dX3_feed_67 ?_
            refine j_callVv h (c_X2_add hE (by omega) (xs := us) (setT_1s _ _ _) (by omega)) m_X2_add a_l_X3_56 rfl rfl ⟨Nat.le_of_ble_eq_true rfl, Nat.le_of_ble_eq_true rfl⟩ (ci := 2) rfl (by omega) (rcT (by omega)) rfl rfl (Nat.le_of_ble_eq_true rfl) dX3_feed_70 ?_
            refine j_iinc h 0 [(6, _), (5, _), (2, _), (4, _)] dX3_feed_73 rfl (by decide) rfl ?_
            refine j_goto h 55 dX3_feed_76 (by decide) ?_
            rw [show (n - z).toNat = (n - (z + 1)).toNat + 1 by omega, byS, List.append_cons] at hv
            refine j_S (S2 := setT S (sh S a) (us ++ [by1 L z])) (by rw [setT_T]) ?_
            exact ih (z + 1) _ (by omega) (by omega) (by omega) (by simp only [List.length_append, List.length_cons, List.length_nil]; omega) hv
        · refine j_ldc h (-1000004) a_k_X3_55 (by decide) dX3_feed_49 ?_
          have e : feA A a L n = (-1000004, A) := by unfold feA; rw [if_pos ⟨by omega, by omega, c29⟩, if_neg (by omega)]
          rw [e] at hq
          have hq := fnA hq (hAb)
          exact j_iret h hq rfl dX3_feed_51
      · rw [bI_0] at c29
        refine j_ldc h (-1000001) a_k_X3_54 (by decide) dX3_feed_32 ?_
        have e : feA A a L n = (-1000001, A) := by unfold feA; first | rw [if_neg (fun w => by omega)] | rw [if_neg (fun w => by rw [c29] at w; simp at w)]
        rw [e] at hq
        have hq := fnA hq hAb
        exact j_iret h hq rfl dX3_feed_34
set_option maxHeartbeats 400000 in
set_option maxRecDepth 20000 in
theorem p_copy {E : EV} (hE : EOK E) {A : AS} {g0 : GH} {a : Int} (ha : okI a) {to : Int} (hto : okI to) : Ct E (RP E g0) yX3_copy wsX3_copy rX3_copy [eA E 74, .int (iI a), .int (iI to)] A (some (.int (iI (layA A to (A.1 (sw a))).1))) (layA A to (A.1 (sw a))).2 := by
  refine ct_of [(0, _), (1, _), (2, _)] hE (by decide) rfl (Nat.le_of_ble_eq_true rfl) rfl (fun X h hq => ?_)
  refine j_ex (fun S hAb => ?_)
  refine j_of (fun G hG => RC_okS hG) (fun hS0 => ?_)
  refine j_of (fun G hG => RC_lens hG) (fun hLL => ?_)
  have hcap24 : cap 24 = 600 := rfl
  have hcap25 : cap 25 = 600 := rfl
  have hsa := sh_lt hS0 a
  have hxa := ab_x hAb a
  have hla := hLL (sh S a) (by omega)
  rw [hxa, cap_lo (by omega)] at hla
  have hca := cap_lo (t := sh S a) (by omega)
  have hsto := sh_lt hS0 to
  have hxto := ab_x hAb to
  have hlto := hLL (sh S to) (by omega)
  rw [hxto, cap_lo (by omega)] at hlto
  have hcto := cap_lo (t := sh S to) (by omega)
  refine j_aload_n h 0 dX3_copy_0 rfl rfl ?_
  refine jg_Smade h a_f_X3_25 dX3_copy_1 ?_
  refine j_aload_n h 0 dX3_copy_4 rfl rfl ?_
  refine jg_Snow h a_f_X3_10 dX3_copy_5 ?_
  refine j_iload_n h 1 dX3_copy_8 rfl rfl ?_
  refine j_callV h (c_X0_text hE ha) m_X0_text a_l_X3_39 rfl rfl ⟨Nat.le_of_ble_eq_true rfl, Nat.le_of_ble_eq_true rfl⟩ (ci := 0) rfl (by omega) (rcI (i := 0) (by omega)) rfl rfl (Nat.le_of_ble_eq_true rfl) dX3_copy_9 ?_
  refine j_callVv h (c_X2_become hE (t := 24) (by omega) (by omega) hxa (by omega) (by omega)) m_X2_become a_l_X3_67 rfl rfl ⟨Nat.le_of_ble_eq_true rfl, Nat.le_of_ble_eq_true rfl⟩ (ci := 2) rfl (by omega) (rcT (by omega)) rfl rfl (Nat.le_of_ble_eq_true rfl) dX3_copy_12 ?_
  refine j_aload_n h 0 dX3_copy_15 rfl rfl ?_
  refine j_iload_n h 2 dX3_copy_16 rfl rfl ?_
  refine j_callV h (c_X3_lay hE hto (ms := (A.1 (sw a))) (setT_1s _ _ _) (by omega)) m_X3_lay a_l_X3_71 rfl rfl ⟨Nat.le_of_ble_eq_true rfl, Nat.le_of_ble_eq_true rfl⟩ (ci := 3) rfl (by omega) (rcS) rfl rfl (Nat.le_of_ble_eq_true rfl) dX3_copy_17 ?_
  have hq := fn_lay hq hAb
  exact j_iret h hq rfl dX3_copy_20
set_option maxHeartbeats 400000 in
set_option maxRecDepth 20000 in
theorem p_swap {E : EV} (hE : EOK E) {A : AS} {g0 : GH} {a : Int} (ha : okI a) {b : Int} (hb : okI b) : Ct E (RP E g0) yX3_swap wsX3_swap rX3_swap [eA E 74, .int (iI a), .int (iI b)] A (some (.int (iI ((((va_up (va_up A.1 (sw a) (A.1 (sw b))) (sw b) (A.1 (sw a)) (sw a)).length : Int), ((va_up (va_up A.1 (sw a) (A.1 (sw b))) (sw b) (A.1 (sw a)), A.2) : AS))).1))) ((((va_up (va_up A.1 (sw a) (A.1 (sw b))) (sw b) (A.1 (sw a)) (sw a)).length : Int), ((va_up (va_up A.1 (sw a) (A.1 (sw b))) (sw b) (A.1 (sw a)), A.2) : AS))).2 := by
  refine ct_of [(0, _), (1, _), (2, _)] hE (by decide) rfl (Nat.le_of_ble_eq_true rfl) rfl (fun X h hq => ?_)
  refine j_ex (fun S hAb => ?_)
  refine j_of (fun G hG => RC_okS hG) (fun hS0 => ?_)
  refine j_of (fun G hG => RC_lens hG) (fun hLL => ?_)
  have hcap24 : cap 24 = 600 := rfl
  have hcap25 : cap 25 = 600 := rfl
  have hsa := sh_lt hS0 a
  have hxa := ab_x hAb a
  have hla := hLL (sh S a) (by omega)
  rw [hxa, cap_lo (by omega)] at hla
  have hca := cap_lo (t := sh S a) (by omega)
  have hsb := sh_lt hS0 b
  have hxb := ab_x hAb b
  have hlb := hLL (sh S b) (by omega)
  rw [hxb, cap_lo (by omega)] at hlb
  have hcb := cap_lo (t := sh S b) (by omega)
  refine j_aload_n h 0 dX3_swap_0 rfl rfl ?_
  refine jg_Snow h a_f_X3_10 dX3_swap_1 ?_
  refine j_iload_n h 1 dX3_swap_4 rfl rfl ?_
  refine j_iload_n h 2 dX3_swap_5 rfl rfl ?_
  refine j_callVv h (c_X0_exchange hE ha hb) m_X0_exchange a_l_X3_75 rfl rfl ⟨Nat.le_of_ble_eq_true rfl, Nat.le_of_ble_eq_true rfl⟩ (ci := 0) rfl (by omega) (rcI (i := 0) (by omega)) rfl rfl (Nat.le_of_ble_eq_true rfl) dX3_swap_6 ?_
  have hab2 := ab_ex hAb a b
  have hs2 := sh_lt hab2.1 a
  have hx2 := ab_x hab2 a
  refine j_aload_n h 0 dX3_swap_9 rfl rfl ?_
  refine jg_Snow h a_f_X3_10 dX3_swap_10 ?_
  refine j_iload_n h 1 dX3_swap_13 rfl rfl ?_
  refine j_callV h (c_X0_text hE ha) m_X0_text a_l_X3_39 rfl rfl ⟨Nat.le_of_ble_eq_true rfl, Nat.le_of_ble_eq_true rfl⟩ (ci := 0) rfl (by omega) (rcI (i := 0) (by omega)) rfl rfl (Nat.le_of_ble_eq_true rfl) dX3_swap_14 ?_
  refine j_callV h (c_X2_size hE (by omega) hx2) m_X2_size a_l_X3_43 rfl rfl ⟨Nat.le_of_ble_eq_true rfl, Nat.le_of_ble_eq_true rfl⟩ (ci := 2) rfl (by omega) (rcT (by omega)) rfl rfl (Nat.le_of_ble_eq_true rfl) dX3_swap_17 ?_
  have hq := fnA hq hab2
  exact j_iret h hq rfl dX3_swap_20
set_option maxHeartbeats 400000 in
set_option maxRecDepth 20000 in
theorem p_concat {E : EV} (hE : EOK E) {A : AS} {g0 : GH} {a : Int} (ha : okI a) {b : Int} (hb : okI b) {to : Int} (hto : okI to) : Ct E (RP E g0) yX3_concat wsX3_concat rX3_concat [eA E 74, .int (iI a), .int (iI b), .int (iI to)] A (some (.int (iI (coA A a b to).1))) (coA A a b to).2 := by
  refine ct_of [(0, _), (1, _), (2, _), (3, _)] hE (by decide) rfl (Nat.le_of_ble_eq_true rfl) rfl (fun X h hq => ?_)
  refine j_ex (fun S hAb => ?_)
  refine j_of (fun G hG => RC_okS hG) (fun hS0 => ?_)
  refine j_of (fun G hG => RC_lens hG) (fun hLL => ?_)
  have hcap24 : cap 24 = 600 := rfl
  have hcap25 : cap 25 = 600 := rfl
  have hsa := sh_lt hS0 a
  have hxa := ab_x hAb a
  have hla := hLL (sh S a) (by omega)
  rw [hxa, cap_lo (by omega)] at hla
  have hca := cap_lo (t := sh S a) (by omega)
  have hsb := sh_lt hS0 b
  have hxb := ab_x hAb b
  have hlb := hLL (sh S b) (by omega)
  rw [hxb, cap_lo (by omega)] at hlb
  have hcb := cap_lo (t := sh S b) (by omega)
  have hsto := sh_lt hS0 to
  have hxto := ab_x hAb to
  have hlto := hLL (sh S to) (by omega)
  rw [hxto, cap_lo (by omega)] at hlto
  have hcto := cap_lo (t := sh S to) (by omega)
  refine j_aload_n h 0 dX3_concat_0 rfl rfl ?_
  refine jg_Snow h a_f_X3_10 dX3_concat_1 ?_
  refine j_iload_n h 1 dX3_concat_4 rfl rfl ?_
  refine j_callV h (c_X0_text hE ha) m_X0_text a_l_X3_39 rfl rfl ⟨Nat.le_of_ble_eq_true rfl, Nat.le_of_ble_eq_true rfl⟩ (ci := 0) rfl (by omega) (rcI (i := 0) (by omega)) rfl rfl (Nat.le_of_ble_eq_true rfl) dX3_concat_5 ?_
  refine j_astore h [(4, _), (0, _), (1, _), (2, _), (3, _)] dX3_concat_8 (by decide) rfl ?_
  refine j_aload_n h 1 dX3_concat_10 rfl rfl ?_
  refine jg_Snow h a_f_X3_10 dX3_concat_11 ?_
  refine j_iload_n h 3 dX3_concat_14 rfl rfl ?_
  refine j_callV h (c_X0_text hE hb) m_X0_text a_l_X3_39 rfl rfl ⟨Nat.le_of_ble_eq_true rfl, Nat.le_of_ble_eq_true rfl⟩ (ci := 0) rfl (by omega) (rcI (i := 0) (by omega)) rfl rfl (Nat.le_of_ble_eq_true rfl) dX3_concat_15 ?_
  refine j_astore h [(5, _), (4, _), (0, _), (1, _), (2, _), (3, _)] dX3_concat_18 (by decide) rfl ?_
  refine j_aload h 1 dX3_concat_20 rfl ?_
  refine j_callV h (c_X2_size hE (by omega) hxa) m_X2_size a_l_X3_43 rfl rfl ⟨Nat.le_of_ble_eq_true rfl, Nat.le_of_ble_eq_true rfl⟩ (ci := 2) rfl (by omega) (rcT (by omega)) rfl rfl (Nat.le_of_ble_eq_true rfl) dX3_concat_22 ?_
  refine j_aload h 0 dX3_concat_25 rfl ?_
  refine j_callV h (c_X2_size hE (by omega) hxb) m_X2_size a_l_X3_43 rfl rfl ⟨Nat.le_of_ble_eq_true rfl, Nat.le_of_ble_eq_true rfl⟩ (ci := 2) rfl (by omega) (rcT (by omega)) rfl rfl (Nat.le_of_ble_eq_true rfl) dX3_concat_27 ?_
  refine j_iadd h dX3_concat_30 ?_
  refine j_sipush h dX3_concat_31 (by decide) ?_
  refine j_icmp_le h 40 dX3_concat_34 (by decide) (by first | exact okI_of _ | exact okI_b _ | exact okI_sgz _ _ | assumption | (unfold okI; omega)) (by first | exact okI_of _ | exact okI_b _ | exact okI_sgz _ _ | assumption | (unfold okI; omega)) (fun c34 => ?_) (fun c34 => ?_)
  · refine j_aload_n h 2 dX3_concat_40 rfl rfl ?_
    refine jg_Smade h a_f_X3_25 dX3_concat_41 ?_
    refine j_aload h 1 dX3_concat_44 rfl ?_
    refine j_callVv h (c_X2_become hE (t := 24) (by omega) (by omega) hxa (by omega) (by omega)) m_X2_become a_l_X3_67 rfl rfl ⟨Nat.le_of_ble_eq_true rfl, Nat.le_of_ble_eq_true rfl⟩ (ci := 2) rfl (by omega) (rcT (by omega)) rfl rfl (Nat.le_of_ble_eq_true rfl) dX3_concat_46 ?_
    refine j_aload_n h 2 dX3_concat_49 rfl rfl ?_
    refine jg_Smade h a_f_X3_25 dX3_concat_50 ?_
    refine j_aload h 0 dX3_concat_53 rfl ?_
    refine j_callVv h (c_X2_addText hE (t := 24) (by omega) (xs := (A.1 (sw a))) (setT_1s _ _ _) (u := sh S b) (by omega) (ys := (A.1 (sw b))) (by rw [setT_1n _ _ (by omega)]; exact hxb) (by omega) (by omega)) m_X2_addText a_l_X3_79 rfl rfl ⟨Nat.le_of_ble_eq_true rfl, Nat.le_of_ble_eq_true rfl⟩ (ci := 2) rfl (by omega) (rcT (by omega)) rfl rfl (Nat.le_of_ble_eq_true rfl) dX3_concat_55 ?_
    rw [setT_T]
    have hll : ((A.1 (sw a)) ++ (A.1 (sw b))).length = (A.1 (sw a)).length + (A.1 (sw b)).length := List.length_append
    refine j_aload_n h 2 dX3_concat_58 rfl rfl ?_
    refine j_iload_n h 5 dX3_concat_59 rfl rfl ?_
    refine j_callV h (c_X3_lay hE hto (ms := ((A.1 (sw a)) ++ (A.1 (sw b)))) (setT_1s _ _ _) (by omega)) m_X3_lay a_l_X3_71 rfl rfl ⟨Nat.le_of_ble_eq_true rfl, Nat.le_of_ble_eq_true rfl⟩ (ci := 3) rfl (by omega) (rcS) rfl rfl (Nat.le_of_ble_eq_true rfl) dX3_concat_60 ?_
    have e : coA A a b to = layA A to ((A.1 (sw a)) ++ (A.1 (sw b))) := by unfold coA; rw [if_pos (by omega)]
    rw [e] at hq
    have hq := fn_lay hq hAb
    exact j_iret h hq rfl dX3_concat_63
  · refine j_ldc h (-1000004) a_k_X3_55 (by decide) dX3_concat_37 ?_
    have e : coA A a b to = (-1000004, A) := by unfold coA; rw [if_neg (by omega)]
    rw [e] at hq
    have hq := fnA hq (hAb)
    exact j_iret h hq rfl dX3_concat_39
def suS (S : SC) (xs : List Int32) (f u to : Int) : Int × SC := if 0 ≤ f ∧ u ≤ xs.length ∧ f ≤ u then (((sl xs f.toNat (u - f).toNat).length : Int), setT (setT S 24 (sl xs f.toNat (u - f).toNat)) (sh S to) (sl xs f.toNat (u - f).toNat)) else (-1000002, S)
theorem ab_suS {S : SC} {A : AS} (h : AbS S A) (a f u to : Int) : AbS (suS S (A.1 (sw a)) f u to).2 (suA A a f u to).2 ∧ (suS S (A.1 (sw a)) f u to).1 = (suA A a f u to).1 := by
  unfold suS suA layA
  split
  · exact ⟨ab_X (ab_T h (Or.inl rfl)) to _, rfl⟩
  · exact ⟨h, rfl⟩
set_option maxHeartbeats 400000 in
set_option maxRecDepth 20000 in
theorem c_X3_substring {E : EV} (hE : EOK E) {S : SC} {g0 : GH} {a : Int} (ha : okI a) {xs : List Int32} (hxs : S.1 (sh S a) = xs) {f : Int} (hf : okI f) {u : Int} (hu : okI u) {to : Int} (hto : okI to) : Ct E (RC E g0) yX3_substring wsX3_substring rX3_substring [eA E 74, .int (iI a), .int (iI f), .int (iI u), .int (iI to)] S (some (.int (iI (suS S xs f u to).1))) (suS S xs f u to).2 := by
  refine ct_of [(0, _), (1, _), (2, _), (3, _), (4, _)] hE (by decide) rfl (Nat.le_of_ble_eq_true rfl) rfl (fun X h hq => ?_)
  refine j_of (fun G hG => RC_okS hG) (fun hS0 => ?_)
  refine j_of (fun G hG => RC_lens hG) (fun hLL => ?_)
  have hsa := sh_lt hS0 a
  have hlxs := hLL (sh S a) (by omega)
  rw [hxs, cap_lo (by omega)] at hlxs
  have hcap24 : cap 24 = 600 := rfl
  refine j_aload_n h 0 dX3_substring_0 rfl rfl ?_
  refine jg_Snow h a_f_X3_10 dX3_substring_1 ?_
  refine j_iload_n h 1 dX3_substring_4 rfl rfl ?_
  refine j_callV h (c_X0_text hE ha) m_X0_text a_l_X3_39 rfl rfl ⟨Nat.le_of_ble_eq_true rfl, Nat.le_of_ble_eq_true rfl⟩ (ci := 0) rfl (by omega) (rcI (i := 0) (by omega)) rfl rfl (Nat.le_of_ble_eq_true rfl) dX3_substring_5 ?_
  refine j_astore h [(5, _), (0, _), (1, _), (2, _), (3, _), (4, _)] dX3_substring_8 (by decide) rfl ?_
  refine j_iload_n h 3 dX3_substring_10 rfl rfl ?_
  refine j_if_lt h 28 dX3_substring_11 (by decide) (by first | exact okI_of _ | exact okI_b _ | exact okI_sgz _ _ | assumption | (unfold okI; omega)) (fun c11 => ?_) (fun c11 => ?_)
  · refine j_ldc h (-1000002) a_k_X3_82 (by decide) dX3_substring_28 ?_
    have e : suS S xs f u to = (-1000002, S) := by unfold suS; rw [if_neg (by omega)]
    rw [e] at hq
    exact j_iret h hq rfl dX3_substring_30
  · refine j_iload_n h 4 dX3_substring_14 rfl rfl ?_
    refine j_aload h 0 dX3_substring_15 rfl ?_
    refine j_callV h (c_X2_size hE (by omega) hxs) m_X2_size a_l_X3_43 rfl rfl ⟨Nat.le_of_ble_eq_true rfl, Nat.le_of_ble_eq_true rfl⟩ (ci := 2) rfl (by omega) (rcT (by omega)) rfl rfl (Nat.le_of_ble_eq_true rfl) dX3_substring_17 ?_
    refine j_icmp_gt h 28 dX3_substring_20 (by decide) (by first | exact okI_of _ | exact okI_b _ | exact okI_sgz _ _ | assumption | (unfold okI; omega)) (by first | exact okI_of _ | exact okI_b _ | exact okI_sgz _ _ | assumption | (unfold okI; omega)) (fun c20 => ?_) (fun c20 => ?_)
    · refine j_ldc h (-1000002) a_k_X3_82 (by decide) dX3_substring_28 ?_
      have e : suS S xs f u to = (-1000002, S) := by unfold suS; rw [if_neg (by omega)]
      rw [e] at hq
      exact j_iret h hq rfl dX3_substring_30
    · refine j_iload_n h 3 dX3_substring_23 rfl rfl ?_
      refine j_iload_n h 4 dX3_substring_24 rfl rfl ?_
      refine j_icmp_le h 31 dX3_substring_25 (by decide) (by first | exact okI_of _ | exact okI_b _ | exact okI_sgz _ _ | assumption | (unfold okI; omega)) (by first | exact okI_of _ | exact okI_b _ | exact okI_sgz _ _ | assumption | (unfold okI; omega)) (fun c25 => ?_) (fun c25 => ?_)
      · refine j_aload_n h 1 dX3_substring_31 rfl rfl ?_
        refine jg_Smade h a_f_X3_25 dX3_substring_32 ?_
        refine j_callVv h (c_X2_clear hE (t := 24) (by omega)) m_X2_clear a_l_X3_47 rfl rfl ⟨Nat.le_of_ble_eq_true rfl, Nat.le_of_ble_eq_true rfl⟩ (ci := 2) rfl (by omega) (rcT (by omega)) rfl rfl (Nat.le_of_ble_eq_true rfl) dX3_substring_35 ?_
        refine j_aload_n h 1 dX3_substring_38 rfl rfl ?_
        refine jg_Smade h a_f_X3_25 dX3_substring_39 ?_
        refine j_aload h 0 dX3_substring_42 rfl ?_
        refine j_iload_n h 3 dX3_substring_44 rfl rfl ?_
        refine j_iload_n h 4 dX3_substring_45 rfl rfl ?_
        refine j_callVv h (c_X2_addSpan hE (t := 24) (by omega) (xs := []) (setT_1s _ _ _) (u := sh S a) (by omega) (ys := xs) (by rw [setT_1n _ _ (by omega)]; exact hxs) (by omega) (by omega) (by omega) (by omega) (by rw [List.length_nil]; omega)) m_X2_addSpan a_l_X3_83 rfl rfl ⟨Nat.le_of_ble_eq_true rfl, Nat.le_of_ble_eq_true rfl⟩ (ci := 2) rfl (by omega) (rcT (by omega)) rfl rfl (Nat.le_of_ble_eq_true rfl) dX3_substring_46 ?_
        rw [setT_T, List.nil_append]
        have hll := sl_len xs (u - f).toNat f.toNat
        refine j_aload_n h 1 dX3_substring_49 rfl rfl ?_
        refine j_iload h 5 dX3_substring_50 rfl ?_
        refine j_callV h (c_X3_lay hE hto (ms := (sl xs f.toNat (u - f).toNat)) (setT_1s _ _ _) (by omega)) m_X3_lay a_l_X3_71 rfl rfl ⟨Nat.le_of_ble_eq_true rfl, Nat.le_of_ble_eq_true rfl⟩ (ci := 3) rfl (by omega) (rcS) rfl rfl (Nat.le_of_ble_eq_true rfl) dX3_substring_52 ?_
        have e : suS S xs f u to = (((sl xs f.toNat (u - f).toNat).length : Int), setT (setT S 24 (sl xs f.toNat (u - f).toNat)) (sh S to) (sl xs f.toNat (u - f).toNat)) := by unfold suS; rw [if_pos (by omega)]
        rw [e] at hq
        exact j_iret h hq rfl dX3_substring_55
      · refine j_ldc h (-1000002) a_k_X3_82 (by decide) dX3_substring_28 ?_
        have e : suS S xs f u to = (-1000002, S) := by unfold suS; rw [if_neg (by omega)]
        rw [e] at hq
        exact j_iret h hq rfl dX3_substring_30
set_option maxHeartbeats 400000 in
set_option maxRecDepth 20000 in
theorem c_X3_tail {E : EV} (hE : EOK E) {S : SC} {g0 : GH} {a : Int} (ha : okI a) {xs : List Int32} (hxs : S.1 (sh S a) = xs) {f : Int} (hf : okI f) {to : Int} (hto : okI to) : Ct E (RC E g0) yX3_tail wsX3_tail rX3_tail [eA E 74, .int (iI a), .int (iI f), .int (iI to)] S (some (.int (iI (suS S xs f xs.length to).1))) (suS S xs f xs.length to).2 := by
  refine ct_of [(0, _), (1, _), (2, _), (3, _)] hE (by decide) rfl (Nat.le_of_ble_eq_true rfl) rfl (fun X h hq => ?_)
  refine j_of (fun G hG => RC_okS hG) (fun hS0 => ?_)
  refine j_of (fun G hG => RC_lens hG) (fun hLL => ?_)
  have hsa := sh_lt hS0 a
  have hlxs := hLL (sh S a) (by omega)
  rw [hxs, cap_lo (by omega)] at hlxs
  refine j_aload_n h 0 dX3_tail_0 rfl rfl ?_
  refine j_iload_n h 1 dX3_tail_1 rfl rfl ?_
  refine j_iload_n h 2 dX3_tail_2 rfl rfl ?_
  refine j_aload_n h 0 dX3_tail_3 rfl rfl ?_
  refine jg_Snow h a_f_X3_10 dX3_tail_4 ?_
  refine j_iload_n h 1 dX3_tail_7 rfl rfl ?_
  refine j_callV h (c_X0_text hE ha) m_X0_text a_l_X3_39 rfl rfl ⟨Nat.le_of_ble_eq_true rfl, Nat.le_of_ble_eq_true rfl⟩ (ci := 0) rfl (by omega) (rcI (i := 0) (by omega)) rfl rfl (Nat.le_of_ble_eq_true rfl) dX3_tail_8 ?_
  refine j_callV h (c_X2_size hE (by omega) hxs) m_X2_size a_l_X3_43 rfl rfl ⟨Nat.le_of_ble_eq_true rfl, Nat.le_of_ble_eq_true rfl⟩ (ci := 2) rfl (by omega) (rcT (by omega)) rfl rfl (Nat.le_of_ble_eq_true rfl) dX3_tail_11 ?_
  refine j_iload_n h 3 dX3_tail_14 rfl rfl ?_
  refine j_callV h (c_X3_substring hE ha hxs hf (by unfold okI; omega) hto) m_X3_substring a_l_X3_87 rfl rfl ⟨Nat.le_of_ble_eq_true rfl, Nat.le_of_ble_eq_true rfl⟩ (ci := 3) rfl (by omega) (rcS) rfl rfl (Nat.le_of_ble_eq_true rfl) dX3_tail_15 ?_
  exact j_iret h hq rfl dX3_tail_18
theorem lg_cmp_raw0 (L : Int64) : lg_cmp L (lI 0) = iI (sgz L.toInt 0) := by
  have := lg_cmp_lI (okL_of L) (show okL 0 from ⟨by decide, by decide⟩)
  rwa [lI_of] at this
theorem sgz_ge {a b : Int} : 0 ≤ sgz a b ↔ b ≤ a := by unfold sgz; split <;> (try split) <;> omega
theorem ltz (L : Int64) : L < 0 ↔ L.toInt < 0 := by
  rw [Int64.lt_iff_toInt_lt]; rfl
set_option maxHeartbeats 400000 in
set_option maxRecDepth 20000 in
theorem c_X3_big {E : EV} (hE : EOK E) {S : SC} {g0 : GH} {L : Int64} {to : Int} (hto : okI to) : Ct E (RC E g0) yX3_big wsX3_big rX3_big [eA E 74, .long L, .int (iI to)] S (some (.int (iI (bgL L).length))) (setT (setT (setT S 25 (dgT L)) 24 (bgL L)) (sh S to) (bgL L)) := by
  refine ct_of [(0, _), (1, _), (3, _)] hE (by decide) rfl (Nat.le_of_ble_eq_true rfl) rfl (fun X h hq => ?_)
  have hcap24 : cap 24 = 600 := rfl
  have hcap25 : cap 25 = 600 := rfl
  have hdl := dgs_len 19 L
  refine j_aload_n h 0 dX3_big_0 rfl rfl ?_
  refine jg_Stwice h a_f_X3_29 dX3_big_1 ?_
  refine j_callVv h (c_X2_clear hE (t := 25) (by omega)) m_X2_clear a_l_X3_47 rfl rfl ⟨Nat.le_of_ble_eq_true rfl, Nat.le_of_ble_eq_true rfl⟩ (ci := 2) rfl (by omega) (rcT (by omega)) rfl rfl (Nat.le_of_ble_eq_true rfl) dX3_big_4 ?_
  refine j_aload_n h 0 dX3_big_7 rfl rfl ?_
  refine jg_Stwice h a_f_X3_29 dX3_big_8 ?_
  refine j_lload_n h 1 dX3_big_11 rfl rfl ?_
  refine j_callVv h (c_X2_addDigitsFromLowest hE (t := 25) (by omega) (xs := []) (setT_1s _ _ _) (by rw [List.length_nil]; omega)) m_X2_addDigitsFromLowest a_l_X3_94 rfl rfl ⟨Nat.le_of_ble_eq_true rfl, Nat.le_of_ble_eq_true rfl⟩ (ci := 2) rfl (by omega) (rcT (by omega)) rfl rfl (Nat.le_of_ble_eq_true rfl) dX3_big_12 ?_
  rw [setT_T, List.nil_append]
  refine j_lload_n h 1 dX3_big_15 rfl rfl ?_
  refine j_lconst h 0 dX3_big_16 (by decide) ?_
  refine j_lcmp h (iI (sgz L.toInt 0)) dX3_big_17 (lg_cmp_raw0 L) ?_
  refine j_if_ge h 30 dX3_big_18 (by decide) (by first | exact okI_of _ | exact okI_b _ | exact okI_sgz _ _ | assumption | (unfold okI; omega)) (fun c18 => ?_) (fun c18 => ?_)
  · rw [sgz_ge] at c18
    have hdt : dgT L = dgs 19 L := by unfold dgT; rw [if_neg (by rw [ltz]; omega), List.append_nil]
    rw [← hdt]
    refine j_aload_n h 0 dX3_big_30 rfl rfl ?_
    refine jg_Smade h a_f_X3_25 dX3_big_31 ?_
    refine j_callVv h (c_X2_clear hE (t := 24) (by omega)) m_X2_clear a_l_X3_47 rfl rfl ⟨Nat.le_of_ble_eq_true rfl, Nat.le_of_ble_eq_true rfl⟩ (ci := 2) rfl (by omega) (rcT (by omega)) rfl rfl (Nat.le_of_ble_eq_true rfl) dX3_big_34 ?_
    have hdl2 : (dgT L).length ≤ 20 := by rw [hdt]; first | (simp only [List.length_append, List.length_cons, List.length_nil]; omega) | omega
    refine j_aload_n h 0 dX3_big_37 rfl rfl ?_
    refine jg_Smade h a_f_X3_25 dX3_big_38 ?_
    refine j_aload_n h 0 dX3_big_41 rfl rfl ?_
    refine jg_Stwice h a_f_X3_29 dX3_big_42 ?_
    refine j_callVv h (c_X2_addTurned hE (t := 24) (by omega) (xs := []) (setT_1s _ _ _) (u := 25) (by omega) (ys := dgT L) (by rw [setT_1n _ _ (by omega)]; exact setT_1s _ _ _) (by omega) (by rw [List.length_nil]; omega)) m_X2_addTurned a_l_X3_98 rfl rfl ⟨Nat.le_of_ble_eq_true rfl, Nat.le_of_ble_eq_true rfl⟩ (ci := 2) rfl (by omega) (rcT (by omega)) rfl rfl (Nat.le_of_ble_eq_true rfl) dX3_big_45 ?_
    rw [setT_T, List.nil_append]
    have hbl : (rv (dgT L) (dgT L).length).length = (dgT L).length := rv_len _ _
    refine j_aload_n h 0 dX3_big_48 rfl rfl ?_
    refine j_iload_n h 2 dX3_big_49 rfl rfl ?_
    refine j_callV h (c_X3_lay hE hto (ms := (rv (dgT L) (dgT L).length)) (setT_1s _ _ _) (by omega)) m_X3_lay a_l_X3_71 rfl rfl ⟨Nat.le_of_ble_eq_true rfl, Nat.le_of_ble_eq_true rfl⟩ (ci := 3) rfl (by omega) (rcS) rfl rfl (Nat.le_of_ble_eq_true rfl) dX3_big_50 ?_
    exact j_iret h hq rfl dX3_big_53
  · have c18b : ¬ 0 ≤ sgz L.toInt 0 := by omega
    rw [sgz_ge] at c18b
    have hdt : dgT L = dgs 19 L ++ [iI 45] := by unfold dgT; rw [if_pos (by rw [ltz]; omega)]
    refine j_aload_n h 0 dX3_big_21 rfl rfl ?_
    refine jg_Stwice h a_f_X3_29 dX3_big_22 ?_
    refine j_bipush h dX3_big_25 (by decide) ?_
    refine j_callVv h (c_X2_add hE (t := 25) (by omega) (setT_1s _ _ _) (by omega)) m_X2_add a_l_X3_56 rfl rfl ⟨Nat.le_of_ble_eq_true rfl, Nat.le_of_ble_eq_true rfl⟩ (ci := 2) rfl (by omega) (rcT (by omega)) rfl rfl (Nat.le_of_ble_eq_true rfl) dX3_big_27 ?_
    rw [setT_T, ← hdt]
    refine j_aload_n h 0 dX3_big_30 rfl rfl ?_
    refine jg_Smade h a_f_X3_25 dX3_big_31 ?_
    refine j_callVv h (c_X2_clear hE (t := 24) (by omega)) m_X2_clear a_l_X3_47 rfl rfl ⟨Nat.le_of_ble_eq_true rfl, Nat.le_of_ble_eq_true rfl⟩ (ci := 2) rfl (by omega) (rcT (by omega)) rfl rfl (Nat.le_of_ble_eq_true rfl) dX3_big_34 ?_
    have hdl2 : (dgT L).length ≤ 20 := by rw [hdt]; first | (simp only [List.length_append, List.length_cons, List.length_nil]; omega) | omega
    refine j_aload_n h 0 dX3_big_37 rfl rfl ?_
    refine jg_Smade h a_f_X3_25 dX3_big_38 ?_
    refine j_aload_n h 0 dX3_big_41 rfl rfl ?_
    refine jg_Stwice h a_f_X3_29 dX3_big_42 ?_
    refine j_callVv h (c_X2_addTurned hE (t := 24) (by omega) (xs := []) (setT_1s _ _ _) (u := 25) (by omega) (ys := dgT L) (by rw [setT_1n _ _ (by omega)]; exact setT_1s _ _ _) (by omega) (by rw [List.length_nil]; omega)) m_X2_addTurned a_l_X3_98 rfl rfl ⟨Nat.le_of_ble_eq_true rfl, Nat.le_of_ble_eq_true rfl⟩ (ci := 2) rfl (by omega) (rcT (by omega)) rfl rfl (Nat.le_of_ble_eq_true rfl) dX3_big_45 ?_
    rw [setT_T, List.nil_append]
    have hbl : (rv (dgT L) (dgT L).length).length = (dgT L).length := rv_len _ _
    refine j_aload_n h 0 dX3_big_48 rfl rfl ?_
    refine j_iload_n h 2 dX3_big_49 rfl rfl ?_
    refine j_callV h (c_X3_lay hE hto (ms := (rv (dgT L) (dgT L).length)) (setT_1s _ _ _) (by omega)) m_X3_lay a_l_X3_71 rfl rfl ⟨Nat.le_of_ble_eq_true rfl, Nat.le_of_ble_eq_true rfl⟩ (ci := 3) rfl (by omega) (rcS) rfl rfl (Nat.le_of_ble_eq_true rfl) dX3_big_50 ?_
    exact j_iret h hq rfl dX3_big_53
set_option maxHeartbeats 400000 in
set_option maxRecDepth 20000 in
theorem c_X3_number {E : EV} (hE : EOK E) {S : SC} {g0 : GH} {v : Int} (hv : okI v) {to : Int} (hto : okI to) : Ct E (RC E g0) yX3_number wsX3_number rX3_number [eA E 74, .int (iI v), .int (iI to)] S (some (.int (iI (bgL (lI v)).length))) (setT (setT (setT S 25 (dgT (lI v))) 24 (bgL (lI v))) (sh S to) (bgL (lI v))) := by
  refine ct_of [(0, _), (1, _), (2, _)] hE (by decide) rfl (Nat.le_of_ble_eq_true rfl) rfl (fun X h hq => ?_)
  refine j_aload_n h 0 dX3_number_0 rfl rfl ?_
  refine j_iload_n h 1 dX3_number_1 rfl rfl ?_
  refine j_i2l h (lI v) dX3_number_2 (iI_i2l hv) ?_
  refine j_iload_n h 2 dX3_number_3 rfl rfl ?_
  refine j_callV h (c_X3_big hE hto) m_X3_big a_l_X3_91 rfl rfl ⟨Nat.le_of_ble_eq_true rfl, Nat.le_of_ble_eq_true rfl⟩ (ci := 3) rfl (by omega) (rcS) rfl rfl (Nat.le_of_ble_eq_true rfl) dX3_number_4 ?_
  exact j_iret h hq rfl dX3_number_7
