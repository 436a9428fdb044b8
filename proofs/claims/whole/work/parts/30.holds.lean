/-! TextShelves.holds -/
set_option maxHeartbeats 400000 in
set_option maxRecDepth 20000 in
theorem c_X3_firstPlaceHolds {E : EV} (hE : EOK E) {S : SC} {g0 : GH} {a : Int} (ha : okI a) {xs : List Int32} (hxs : S.1 (sh S a) = xs) {b : Int} (hb : okI b) {ys : List Int32} (hys : S.1 (sh S b) = ys) {f : Int} (hf : okI f) : Ct E (RC E g0) yX3_firstPlaceHolds wsX3_firstPlaceHolds rX3_firstPlaceHolds [eA E 74, .int (iI a), .int (iI b), .int (iI f)] S (some (.int (iI (bI true)))) S := by
  refine ct_of [(0, _), (1, _), (2, _), (3, _)] hE (by decide) rfl (Nat.le_of_ble_eq_true rfl) rfl (fun X h hq => ?_)
  refine j_of (fun G hG => RC_okS hG) (fun hS0 => ?_)
  refine j_of (fun G hG => RC_lens hG) (fun hLL => ?_)
  have hsa := sh_lt hS0 a
  have hlxs := hLL (sh S a) (by omega)
  rw [hxs, cap_lo (by omega)] at hlxs
  have hsb := sh_lt hS0 b
  have hlys := hLL (sh S b) (by omega)
  rw [hys, cap_lo (by omega)] at hlys
  have hf2 := hf
  unfold okI at hf2
  have hmx : ∀ a b : Int, (a ≤ mxI a b ∧ b ≤ mxI a b ∧ (mxI a b = a ∨ mxI a b = b)) := fun a b => by unfold mxI; split <;> omega
  have hmn : ∀ a b : Int, (mnI a b ≤ a ∧ mnI a b ≤ b ∧ (mnI a b = a ∨ mnI a b = b)) := fun a b => by unfold mnI; split <;> omega
  have hm := hmn f xs.length
  have hm2 := hmx 0 (mnI f xs.length)
  have hsp := plF_spec xs ys f
  have hpr := plF_range xs ys f
  refine j_iconst h dX3_firstPlaceHolds_0 ?_
  refine j_iload_n h 3 dX3_firstPlaceHolds_1 rfl rfl ?_
  refine j_aload_n h 0 dX3_firstPlaceHolds_2 rfl rfl ?_
  refine j_iload_n h 1 dX3_firstPlaceHolds_3 rfl rfl ?_
  refine j_callV h (c_X3_length hE ha hxs) m_X3_length a_l_X3_146 rfl rfl ⟨Nat.le_of_ble_eq_true rfl, Nat.le_of_ble_eq_true rfl⟩ (ci := 3) rfl (by omega) (rcS) rfl rfl (Nat.le_of_ble_eq_true rfl) dX3_firstPlaceHolds_4 ?_
  refine j_min h (by first | exact okI_of _ | exact okI_b _ | exact okI_sgz _ _ | assumption | (unfold okI; omega)) (by first | exact okI_of _ | exact okI_b _ | exact okI_sgz _ _ | assumption | (unfold okI; omega)) a_l_X3_257 ⟨Nat.le_of_ble_eq_true rfl, Nat.le_of_ble_eq_true rfl⟩ (Nat.le_of_ble_eq_true rfl) dX3_firstPlaceHolds_7 ?_
  refine j_max h (by first | exact okI_of _ | exact okI_b _ | exact okI_sgz _ _ | assumption | (unfold okI; omega)) (by first | exact okI_of _ | exact okI_b _ | exact okI_sgz _ _ | assumption | (unfold okI; omega)) a_l_X3_260 ⟨Nat.le_of_ble_eq_true rfl, Nat.le_of_ble_eq_true rfl⟩ (Nat.le_of_ble_eq_true rfl) dX3_firstPlaceHolds_10 ?_
  refine j_istore h [(4, _), (0, _), (1, _), (2, _), (3, _)] dX3_firstPlaceHolds_13 (by decide) rfl ?_
  refine j_aload_n h 1 dX3_firstPlaceHolds_15 rfl rfl ?_
  refine j_iload_n h 2 dX3_firstPlaceHolds_16 rfl rfl ?_
  refine j_iload_n h 3 dX3_firstPlaceHolds_17 rfl rfl ?_
  refine j_iload_n h 4 dX3_firstPlaceHolds_18 rfl rfl ?_
  refine j_callV h (c_X3_findFrom hE ha hxs hb hys hf) m_X3_findFrom a_l_X3_122 rfl rfl ⟨Nat.le_of_ble_eq_true rfl, Nat.le_of_ble_eq_true rfl⟩ (ci := 3) rfl (by omega) (rcS) rfl rfl (Nat.le_of_ble_eq_true rfl) dX3_firstPlaceHolds_19 ?_
  refine j_istore h [(5, _), (4, _), (0, _), (1, _), (2, _), (3, _)] dX3_firstPlaceHolds_22 (by decide) rfl ?_
  refine j_iload h 0 dX3_firstPlaceHolds_24 rfl ?_
  refine j_iconst h dX3_firstPlaceHolds_26 ?_
  refine j_icmp_ne h 40 dX3_firstPlaceHolds_27 (by decide) (by first | exact okI_of _ | exact okI_b _ | exact okI_sgz _ _ | assumption | (unfold okI; omega)) (by first | exact okI_of _ | exact okI_b _ | exact okI_sgz _ _ | assumption | (unfold okI; omega)) (fun c27 => ?_) (fun c27 => ?_)
  · obtain ⟨D, hD⟩ : ∃ D : Int, D = plF xs ys f := ⟨_, rfl⟩
    refine j_iload h 0 dX3_firstPlaceHolds_40 rfl ?_
    refine j_istore h [(6, _), (5, _), (4, _), (0, _), (1, _), (2, _), (3, _)] dX3_firstPlaceHolds_42 (by decide) rfl ?_
    refine j_iload h 2 dX3_firstPlaceHolds_44 rfl ?_
    refine j_istore h [(7, _), (6, _), (5, _), (4, _), (0, _), (1, _), (2, _), (3, _)] dX3_firstPlaceHolds_46 (by decide) rfl ?_
    refine j_sub [0, 1, 3, 2, 4, 5, 6] rfl ?_
    refine j_lv (lv2 := [(7, .int (iI (mxI 0 (mnI f xs.length)))), (6, .int (iI D)), (4, .int (iI (mxI 0 (mnI f xs.length)))), (5, .int (iI (plF xs ys f))), (0, eA E 74), (1, .int (iI a)), (2, .int (iI b))]) (by rw [hD]; rfl) ?_
    refine lpA1 (fun z : Int => (D - z).toNat) (fun z : Int => mxI 0 (mnI f xs.length) ≤ z → z ≤ 700 → JL E (RC E g0) X 48 [(7, .int (iI z)), (6, .int (iI D)), (4, .int (iI (mxI 0 (mnI f xs.length)))), (5, .int (iI (plF xs ys f))), (0, eA E 74), (1, .int (iI a)), (2, .int (iI b))] [] S) (fun z ih hz0 hzb => ?_) _ (Int.le_refl _) (by omega)
    refine j_iload h 0 dX3_firstPlaceHolds_48 rfl ?_
    refine j_iload h 1 dX3_firstPlaceHolds_50 rfl ?_
    refine j_icmp_ge h 74 dX3_firstPlaceHolds_52 (by decide) (by first | exact okI_of _ | exact okI_b _ | exact okI_sgz _ _ | assumption | (unfold okI; omega)) (by first | exact okI_of _ | exact okI_b _ | exact okI_sgz _ _ | assumption | (unfold okI; omega)) (fun c52 => ?_) (fun c52 => ?_)
    · refine j_iload h 3 dX3_firstPlaceHolds_74 rfl ?_
      refine j_iconst h dX3_firstPlaceHolds_76 ?_
      refine j_icmp_eq h 98 dX3_firstPlaceHolds_77 (by decide) (by first | exact okI_of _ | exact okI_b _ | exact okI_sgz _ _ | assumption | (unfold okI; omega)) (by first | exact okI_of _ | exact okI_b _ | exact okI_sgz _ _ | assumption | (unfold okI; omega)) (fun c77 => ?_) (fun c77 => ?_)
      · refine j_iconst h dX3_firstPlaceHolds_98 ?_
        refine j_goto h 103 dX3_firstPlaceHolds_99 (by decide) ?_
        exact j_zret h hq (by rfl) (by first | exact nzb true | exact nzb false | exact nzb _) dX3_firstPlaceHolds_103
      · refine j_iload h 3 dX3_firstPlaceHolds_80 rfl ?_
        refine j_iload h 2 dX3_firstPlaceHolds_82 rfl ?_
        refine j_icmp_lt h 102 dX3_firstPlaceHolds_84 (by decide) (by first | exact okI_of _ | exact okI_b _ | exact okI_sgz _ _ | assumption | (unfold okI; omega)) (by first | exact okI_of _ | exact okI_b _ | exact okI_sgz _ _ | assumption | (unfold okI; omega)) (fun c84 => ?_) (fun c84 => ?_)
        · exact absurd c84 (by rcases hsp with ⟨q1, q2⟩ | ⟨q1, q2, q3, q4⟩ <;> omega)
        · refine j_aload_n h 4 dX3_firstPlaceHolds_87 rfl rfl ?_
          refine j_iload_n h 5 dX3_firstPlaceHolds_88 rfl rfl ?_
          refine j_iload_n h 6 dX3_firstPlaceHolds_89 rfl rfl ?_
          refine j_iload h 3 dX3_firstPlaceHolds_90 rfl ?_
          refine j_callV h (c_X3_startsAt hE ha hxs hb hys (by unfold okI; omega)) m_X3_startsAt a_l_X3_138 rfl rfl ⟨Nat.le_of_ble_eq_true rfl, Nat.le_of_ble_eq_true rfl⟩ (ci := 3) rfl (by omega) (rcS) rfl rfl (Nat.le_of_ble_eq_true rfl) dX3_firstPlaceHolds_92 ?_
          refine j_if_eq h 102 dX3_firstPlaceHolds_95 (by decide) (by first | exact okI_of _ | exact okI_b _ | exact okI_sgz _ _ | assumption | (unfold okI; omega)) (fun c95 => ?_) (fun c95 => ?_)
          · (rw [bI_0] at c95; rcases hsp with ⟨q1, q2⟩ | ⟨q1, q2, q3, q4⟩; exact absurd q1 c77; rw [q3] at c95; cases c95)
          · refine j_iconst h dX3_firstPlaceHolds_98 ?_
            refine j_goto h 103 dX3_firstPlaceHolds_99 (by decide) ?_
            exact j_zret h hq (by rfl) (by first | exact nzb true | exact nzb false | exact nzb _) dX3_firstPlaceHolds_103
    · refine j_aload_n h 4 dX3_firstPlaceHolds_55 rfl rfl ?_
      refine j_iload_n h 5 dX3_firstPlaceHolds_56 rfl rfl ?_
      refine j_iload_n h 6 dX3_firstPlaceHolds_57 rfl rfl ?_
      refine j_iload h 0 dX3_firstPlaceHolds_58 rfl ?_
      refine j_callV h (c_X3_startsAt hE ha hxs hb hys (by unfold okI; omega)) m_X3_startsAt a_l_X3_138 rfl rfl ⟨Nat.le_of_ble_eq_true rfl, Nat.le_of_ble_eq_true rfl⟩ (ci := 3) rfl (by omega) (rcS) rfl rfl (Nat.le_of_ble_eq_true rfl) dX3_firstPlaceHolds_60 ?_
      refine j_if_eq h 68 dX3_firstPlaceHolds_63 (by decide) (by first | exact okI_of _ | exact okI_b _ | exact okI_sgz _ _ | assumption | (unfold okI; omega)) (fun c63 => ?_) (fun c63 => ?_)
      · rw [bI_0] at c63
        refine j_iinc h 0 [(7, _), (6, _), (4, _), (5, _), (0, _), (1, _), (2, _)] dX3_firstPlaceHolds_68 rfl (by decide) rfl ?_
        refine j_goto h 48 dX3_firstPlaceHolds_71 (by decide) ?_
        exact ih (z + 1) (by omega) (by omega) (by omega)
      · (rw [bI_n0] at c63; rcases hsp with ⟨q1, q2⟩ | ⟨q1, q2, q3, q4⟩ <;> first | (exfalso; have := q4 z (by omega) (by omega); rw [c63] at this; cases this) | (exfalso; have := q2 z (by omega) (by omega); rw [c63] at this; cases this))
  · obtain ⟨D, hD⟩ : ∃ D : Int, D = (xs.length : Int) + 1 := ⟨_, rfl⟩
    refine j_aload_n h 2 dX3_firstPlaceHolds_30 rfl rfl ?_
    refine j_iload_n h 3 dX3_firstPlaceHolds_31 rfl rfl ?_
    refine j_callV h (c_X3_length hE ha hxs) m_X3_length a_l_X3_146 rfl rfl ⟨Nat.le_of_ble_eq_true rfl, Nat.le_of_ble_eq_true rfl⟩ (ci := 3) rfl (by omega) (rcS) rfl rfl (Nat.le_of_ble_eq_true rfl) dX3_firstPlaceHolds_32 ?_
    refine j_iconst h dX3_firstPlaceHolds_35 ?_
    refine j_iadd h dX3_firstPlaceHolds_36 ?_
    refine j_goto h 42 dX3_firstPlaceHolds_37 (by decide) ?_
    refine j_istore h [(6, _), (5, _), (4, _), (0, _), (1, _), (2, _), (3, _)] dX3_firstPlaceHolds_42 (by decide) rfl ?_
    refine j_iload h 2 dX3_firstPlaceHolds_44 rfl ?_
    refine j_istore h [(7, _), (6, _), (5, _), (4, _), (0, _), (1, _), (2, _), (3, _)] dX3_firstPlaceHolds_46 (by decide) rfl ?_
    refine j_sub [0, 1, 3, 2, 4, 5, 6] rfl ?_
    refine j_lv (lv2 := [(7, .int (iI (mxI 0 (mnI f xs.length)))), (6, .int (iI D)), (4, .int (iI (mxI 0 (mnI f xs.length)))), (5, .int (iI (plF xs ys f))), (0, eA E 74), (1, .int (iI a)), (2, .int (iI b))]) (by rw [hD]; rfl) ?_
    refine lpA1 (fun z : Int => (D - z).toNat) (fun z : Int => mxI 0 (mnI f xs.length) ≤ z → z ≤ 700 → JL E (RC E g0) X 48 [(7, .int (iI z)), (6, .int (iI D)), (4, .int (iI (mxI 0 (mnI f xs.length)))), (5, .int (iI (plF xs ys f))), (0, eA E 74), (1, .int (iI a)), (2, .int (iI b))] [] S) (fun z ih hz0 hzb => ?_) _ (Int.le_refl _) (by omega)
    refine j_iload h 0 dX3_firstPlaceHolds_48 rfl ?_
    refine j_iload h 1 dX3_firstPlaceHolds_50 rfl ?_
    refine j_icmp_ge h 74 dX3_firstPlaceHolds_52 (by decide) (by first | exact okI_of _ | exact okI_b _ | exact okI_sgz _ _ | assumption | (unfold okI; omega)) (by first | exact okI_of _ | exact okI_b _ | exact okI_sgz _ _ | assumption | (unfold okI; omega)) (fun c52 => ?_) (fun c52 => ?_)
    · refine j_iload h 3 dX3_firstPlaceHolds_74 rfl ?_
      refine j_iconst h dX3_firstPlaceHolds_76 ?_
      refine j_icmp_eq h 98 dX3_firstPlaceHolds_77 (by decide) (by first | exact okI_of _ | exact okI_b _ | exact okI_sgz _ _ | assumption | (unfold okI; omega)) (by first | exact okI_of _ | exact okI_b _ | exact okI_sgz _ _ | assumption | (unfold okI; omega)) (fun c77 => ?_) (fun c77 => ?_)
      · refine j_iconst h dX3_firstPlaceHolds_98 ?_
        refine j_goto h 103 dX3_firstPlaceHolds_99 (by decide) ?_
        exact j_zret h hq (by rfl) (by first | exact nzb true | exact nzb false | exact nzb _) dX3_firstPlaceHolds_103
      · refine j_iload h 3 dX3_firstPlaceHolds_80 rfl ?_
        refine j_iload h 2 dX3_firstPlaceHolds_82 rfl ?_
        refine j_icmp_lt h 102 dX3_firstPlaceHolds_84 (by decide) (by first | exact okI_of _ | exact okI_b _ | exact okI_sgz _ _ | assumption | (unfold okI; omega)) (by first | exact okI_of _ | exact okI_b _ | exact okI_sgz _ _ | assumption | (unfold okI; omega)) (fun c84 => ?_) (fun c84 => ?_)
        · exact absurd c84 (by rcases hsp with ⟨q1, q2⟩ | ⟨q1, q2, q3, q4⟩ <;> omega)
        · refine j_aload_n h 4 dX3_firstPlaceHolds_87 rfl rfl ?_
          refine j_iload_n h 5 dX3_firstPlaceHolds_88 rfl rfl ?_
          refine j_iload_n h 6 dX3_firstPlaceHolds_89 rfl rfl ?_
          refine j_iload h 3 dX3_firstPlaceHolds_90 rfl ?_
          refine j_callV h (c_X3_startsAt hE ha hxs hb hys (by unfold okI; omega)) m_X3_startsAt a_l_X3_138 rfl rfl ⟨Nat.le_of_ble_eq_true rfl, Nat.le_of_ble_eq_true rfl⟩ (ci := 3) rfl (by omega) (rcS) rfl rfl (Nat.le_of_ble_eq_true rfl) dX3_firstPlaceHolds_92 ?_
          refine j_if_eq h 102 dX3_firstPlaceHolds_95 (by decide) (by first | exact okI_of _ | exact okI_b _ | exact okI_sgz _ _ | assumption | (unfold okI; omega)) (fun c95 => ?_) (fun c95 => ?_)
          · (rw [bI_0] at c95; rcases hsp with ⟨q1, q2⟩ | ⟨q1, q2, q3, q4⟩; exact absurd q1 c77; rw [q3] at c95; cases c95)
          · refine j_iconst h dX3_firstPlaceHolds_98 ?_
            refine j_goto h 103 dX3_firstPlaceHolds_99 (by decide) ?_
            exact j_zret h hq (by rfl) (by first | exact nzb true | exact nzb false | exact nzb _) dX3_firstPlaceHolds_103
    · refine j_aload_n h 4 dX3_firstPlaceHolds_55 rfl rfl ?_
      refine j_iload_n h 5 dX3_firstPlaceHolds_56 rfl rfl ?_
      refine j_iload_n h 6 dX3_firstPlaceHolds_57 rfl rfl ?_
      refine j_iload h 0 dX3_firstPlaceHolds_58 rfl ?_
      refine j_callV h (c_X3_startsAt hE ha hxs hb hys (by unfold okI; omega)) m_X3_startsAt a_l_X3_138 rfl rfl ⟨Nat.le_of_ble_eq_true rfl, Nat.le_of_ble_eq_true rfl⟩ (ci := 3) rfl (by omega) (rcS) rfl rfl (Nat.le_of_ble_eq_true rfl) dX3_firstPlaceHolds_60 ?_
      refine j_if_eq h 68 dX3_firstPlaceHolds_63 (by decide) (by first | exact okI_of _ | exact okI_b _ | exact okI_sgz _ _ | assumption | (unfold okI; omega)) (fun c63 => ?_) (fun c63 => ?_)
      · rw [bI_0] at c63
        refine j_iinc h 0 [(7, _), (6, _), (4, _), (5, _), (0, _), (1, _), (2, _)] dX3_firstPlaceHolds_68 rfl (by decide) rfl ?_
        refine j_goto h 48 dX3_firstPlaceHolds_71 (by decide) ?_
        exact ih (z + 1) (by omega) (by omega) (by omega)
      · (rw [bI_n0] at c63; rcases hsp with ⟨q1, q2⟩ | ⟨q1, q2, q3, q4⟩ <;> first | (exfalso; have := q4 z (by omega) (by omega); rw [c63] at this; cases this) | (exfalso; have := q2 z (by omega) (by omega); rw [c63] at this; cases this))
set_option maxHeartbeats 400000 in
set_option maxRecDepth 20000 in
theorem c_X3_lastPlaceHolds {E : EV} (hE : EOK E) {S : SC} {g0 : GH} {a : Int} (ha : okI a) {xs : List Int32} (hxs : S.1 (sh S a) = xs) {b : Int} (hb : okI b) {ys : List Int32} (hys : S.1 (sh S b) = ys) {f : Int} (hf : okI f) : Ct E (RC E g0) yX3_lastPlaceHolds wsX3_lastPlaceHolds rX3_lastPlaceHolds [eA E 74, .int (iI a), .int (iI b), .int (iI f)] S (some (.int (iI (bI true)))) S := by
  refine ct_of [(0, _), (1, _), (2, _), (3, _)] hE (by decide) rfl (Nat.le_of_ble_eq_true rfl) rfl (fun X h hq => ?_)
  refine j_of (fun G hG => RC_okS hG) (fun hS0 => ?_)
  refine j_of (fun G hG => RC_lens hG) (fun hLL => ?_)
  have hsa := sh_lt hS0 a
  have hlxs := hLL (sh S a) (by omega)
  rw [hxs, cap_lo (by omega)] at hlxs
  have hsb := sh_lt hS0 b
  have hlys := hLL (sh S b) (by omega)
  rw [hys, cap_lo (by omega)] at hlys
  have hf2 := hf
  unfold okI at hf2
  have hmx : ∀ a b : Int, (a ≤ mxI a b ∧ b ≤ mxI a b ∧ (mxI a b = a ∨ mxI a b = b)) := fun a b => by unfold mxI; split <;> omega
  have hmn : ∀ a b : Int, (mnI a b ≤ a ∧ mnI a b ≤ b ∧ (mnI a b = a ∨ mnI a b = b)) := fun a b => by unfold mnI; split <;> omega
  have hm := hmn f xs.length
  have hsp := plB_spec xs ys f
  have hpr := plB_range xs ys f
  refine j_iload_n h 3 dX3_lastPlaceHolds_0 rfl rfl ?_
  refine j_aload_n h 0 dX3_lastPlaceHolds_1 rfl rfl ?_
  refine j_iload_n h 1 dX3_lastPlaceHolds_2 rfl rfl ?_
  refine j_callV h (c_X3_length hE ha hxs) m_X3_length a_l_X3_146 rfl rfl ⟨Nat.le_of_ble_eq_true rfl, Nat.le_of_ble_eq_true rfl⟩ (ci := 3) rfl (by omega) (rcS) rfl rfl (Nat.le_of_ble_eq_true rfl) dX3_lastPlaceHolds_3 ?_
  refine j_min h (by first | exact okI_of _ | exact okI_b _ | exact okI_sgz _ _ | assumption | (unfold okI; omega)) (by first | exact okI_of _ | exact okI_b _ | exact okI_sgz _ _ | assumption | (unfold okI; omega)) a_l_X3_257 ⟨Nat.le_of_ble_eq_true rfl, Nat.le_of_ble_eq_true rfl⟩ (Nat.le_of_ble_eq_true rfl) dX3_lastPlaceHolds_6 ?_
  refine j_istore h [(4, _), (0, _), (1, _), (2, _), (3, _)] dX3_lastPlaceHolds_9 (by decide) rfl ?_
  refine j_aload_n h 1 dX3_lastPlaceHolds_11 rfl rfl ?_
  refine j_iload_n h 2 dX3_lastPlaceHolds_12 rfl rfl ?_
  refine j_iload_n h 3 dX3_lastPlaceHolds_13 rfl rfl ?_
  refine j_iload_n h 4 dX3_lastPlaceHolds_14 rfl rfl ?_
  refine j_callV h (c_X3_findLastFrom hE ha hxs hb hys hf) m_X3_findLastFrom a_l_X3_129 rfl rfl ⟨Nat.le_of_ble_eq_true rfl, Nat.le_of_ble_eq_true rfl⟩ (ci := 3) rfl (by omega) (rcS) rfl rfl (Nat.le_of_ble_eq_true rfl) dX3_lastPlaceHolds_15 ?_
  refine j_istore h [(5, _), (4, _), (0, _), (1, _), (2, _), (3, _)] dX3_lastPlaceHolds_18 (by decide) rfl ?_
  refine j_iload h 1 dX3_lastPlaceHolds_20 rfl ?_
  refine j_istore h [(6, _), (5, _), (4, _), (0, _), (1, _), (2, _), (3, _)] dX3_lastPlaceHolds_22 (by decide) rfl ?_
  refine j_sub [0, 2, 1, 3, 4, 5] rfl ?_
  refine lpA1 (fun z : Int => (z + 1).toNat) (fun z : Int => z ≤ mnI f xs.length → -2147483648 ≤ z → JL E (RC E g0) X 24 [(6, .int (iI z)), (4, .int (iI (mnI f xs.length))), (5, .int (iI (plB xs ys f))), (0, eA E 74), (1, .int (iI a)), (2, .int (iI b))] [] S) (fun z ih hz0 hzb => ?_) _ (Int.le_refl _) (by omega)
  refine j_iload h 0 dX3_lastPlaceHolds_24 rfl ?_
  refine j_if_lt h 55 dX3_lastPlaceHolds_26 (by decide) (by first | exact okI_of _ | exact okI_b _ | exact okI_sgz _ _ | assumption | (unfold okI; omega)) (fun c26 => ?_) (fun c26 => ?_)
  · refine j_iload h 2 dX3_lastPlaceHolds_55 rfl ?_
    refine j_iconst h dX3_lastPlaceHolds_57 ?_
    refine j_icmp_eq h 79 dX3_lastPlaceHolds_58 (by decide) (by first | exact okI_of _ | exact okI_b _ | exact okI_sgz _ _ | assumption | (unfold okI; omega)) (by first | exact okI_of _ | exact okI_b _ | exact okI_sgz _ _ | assumption | (unfold okI; omega)) (fun c58 => ?_) (fun c58 => ?_)
    · refine j_iconst h dX3_lastPlaceHolds_79 ?_
      refine j_goto h 84 dX3_lastPlaceHolds_80 (by decide) ?_
      exact j_zret h hq (by rfl) (by first | exact nzb true | exact nzb false | exact nzb _) dX3_lastPlaceHolds_84
    · refine j_iload h 2 dX3_lastPlaceHolds_61 rfl ?_
      refine j_iload h 1 dX3_lastPlaceHolds_63 rfl ?_
      refine j_icmp_gt h 83 dX3_lastPlaceHolds_65 (by decide) (by first | exact okI_of _ | exact okI_b _ | exact okI_sgz _ _ | assumption | (unfold okI; omega)) (by first | exact okI_of _ | exact okI_b _ | exact okI_sgz _ _ | assumption | (unfold okI; omega)) (fun c65 => ?_) (fun c65 => ?_)
      · exact absurd c65 (by rcases hsp with ⟨q1, q2⟩ | ⟨q1, q2, q3, q4⟩ <;> omega)
      · refine j_aload_n h 3 dX3_lastPlaceHolds_68 rfl rfl ?_
        refine j_iload_n h 4 dX3_lastPlaceHolds_69 rfl rfl ?_
        refine j_iload_n h 5 dX3_lastPlaceHolds_70 rfl rfl ?_
        refine j_iload h 2 dX3_lastPlaceHolds_71 rfl ?_
        refine j_callV h (c_X3_startsAt hE ha hxs hb hys (by unfold okI; omega)) m_X3_startsAt a_l_X3_138 rfl rfl ⟨Nat.le_of_ble_eq_true rfl, Nat.le_of_ble_eq_true rfl⟩ (ci := 3) rfl (by omega) (rcS) rfl rfl (Nat.le_of_ble_eq_true rfl) dX3_lastPlaceHolds_73 ?_
        refine j_if_eq h 83 dX3_lastPlaceHolds_76 (by decide) (by first | exact okI_of _ | exact okI_b _ | exact okI_sgz _ _ | assumption | (unfold okI; omega)) (fun c76 => ?_) (fun c76 => ?_)
        · (rw [bI_0] at c76; rcases hsp with ⟨q1, q2⟩ | ⟨q1, q2, q3, q4⟩; exact absurd q1 c58; rw [q3] at c76; cases c76)
        · refine j_iconst h dX3_lastPlaceHolds_79 ?_
          refine j_goto h 84 dX3_lastPlaceHolds_80 (by decide) ?_
          exact j_zret h hq (by rfl) (by first | exact nzb true | exact nzb false | exact nzb _) dX3_lastPlaceHolds_84
  · refine j_iload h 0 dX3_lastPlaceHolds_29 rfl ?_
    refine j_iload h 2 dX3_lastPlaceHolds_31 rfl ?_
    refine j_icmp_le h 55 dX3_lastPlaceHolds_33 (by decide) (by first | exact okI_of _ | exact okI_b _ | exact okI_sgz _ _ | assumption | (unfold okI; omega)) (by first | exact okI_of _ | exact okI_b _ | exact okI_sgz _ _ | assumption | (unfold okI; omega)) (fun c33 => ?_) (fun c33 => ?_)
    · refine j_iload h 2 dX3_lastPlaceHolds_55 rfl ?_
      refine j_iconst h dX3_lastPlaceHolds_57 ?_
      refine j_icmp_eq h 79 dX3_lastPlaceHolds_58 (by decide) (by first | exact okI_of _ | exact okI_b _ | exact okI_sgz _ _ | assumption | (unfold okI; omega)) (by first | exact okI_of _ | exact okI_b _ | exact okI_sgz _ _ | assumption | (unfold okI; omega)) (fun c58 => ?_) (fun c58 => ?_)
      · refine j_iconst h dX3_lastPlaceHolds_79 ?_
        refine j_goto h 84 dX3_lastPlaceHolds_80 (by decide) ?_
        exact j_zret h hq (by rfl) (by first | exact nzb true | exact nzb false | exact nzb _) dX3_lastPlaceHolds_84
      · refine j_iload h 2 dX3_lastPlaceHolds_61 rfl ?_
        refine j_iload h 1 dX3_lastPlaceHolds_63 rfl ?_
        refine j_icmp_gt h 83 dX3_lastPlaceHolds_65 (by decide) (by first | exact okI_of _ | exact okI_b _ | exact okI_sgz _ _ | assumption | (unfold okI; omega)) (by first | exact okI_of _ | exact okI_b _ | exact okI_sgz _ _ | assumption | (unfold okI; omega)) (fun c65 => ?_) (fun c65 => ?_)
        · exact absurd c65 (by rcases hsp with ⟨q1, q2⟩ | ⟨q1, q2, q3, q4⟩ <;> omega)
        · refine j_aload_n h 3 dX3_lastPlaceHolds_68 rfl rfl ?_
          refine j_iload_n h 4 dX3_lastPlaceHolds_69 rfl rfl ?_
          refine j_iload_n h 5 dX3_lastPlaceHolds_70 rfl rfl ?_
          refine j_iload h 2 dX3_lastPlaceHolds_71 rfl ?_
          refine j_callV h (c_X3_startsAt hE ha hxs hb hys (by unfold okI; omega)) m_X3_startsAt a_l_X3_138 rfl rfl ⟨Nat.le_of_ble_eq_true rfl, Nat.le_of_ble_eq_true rfl⟩ (ci := 3) rfl (by omega) (rcS) rfl rfl (Nat.le_of_ble_eq_true rfl) dX3_lastPlaceHolds_73 ?_
          refine j_if_eq h 83 dX3_lastPlaceHolds_76 (by decide) (by first | exact okI_of _ | exact okI_b _ | exact okI_sgz _ _ | assumption | (unfold okI; omega)) (fun c76 => ?_) (fun c76 => ?_)
          · (rw [bI_0] at c76; rcases hsp with ⟨q1, q2⟩ | ⟨q1, q2, q3, q4⟩; exact absurd q1 c58; rw [q3] at c76; cases c76)
          · refine j_iconst h dX3_lastPlaceHolds_79 ?_
            refine j_goto h 84 dX3_lastPlaceHolds_80 (by decide) ?_
            exact j_zret h hq (by rfl) (by first | exact nzb true | exact nzb false | exact nzb _) dX3_lastPlaceHolds_84
    · refine j_aload_n h 3 dX3_lastPlaceHolds_36 rfl rfl ?_
      refine j_iload_n h 4 dX3_lastPlaceHolds_37 rfl rfl ?_
      refine j_iload_n h 5 dX3_lastPlaceHolds_38 rfl rfl ?_
      refine j_iload h 0 dX3_lastPlaceHolds_39 rfl ?_
      refine j_callV h (c_X3_startsAt hE ha hxs hb hys (by unfold okI; omega)) m_X3_startsAt a_l_X3_138 rfl rfl ⟨Nat.le_of_ble_eq_true rfl, Nat.le_of_ble_eq_true rfl⟩ (ci := 3) rfl (by omega) (rcS) rfl rfl (Nat.le_of_ble_eq_true rfl) dX3_lastPlaceHolds_41 ?_
      refine j_if_eq h 49 dX3_lastPlaceHolds_44 (by decide) (by first | exact okI_of _ | exact okI_b _ | exact okI_sgz _ _ | assumption | (unfold okI; omega)) (fun c44 => ?_) (fun c44 => ?_)
      · rw [bI_0] at c44
        refine j_iinc h 0 [(6, _), (4, _), (5, _), (0, _), (1, _), (2, _)] dX3_lastPlaceHolds_49 rfl (by decide) rfl ?_
        refine j_goto h 24 dX3_lastPlaceHolds_52 (by decide) ?_
        exact ih (z + -1) (by omega) (by omega) (by omega)
      · (rw [bI_n0] at c44; rcases hsp with ⟨q1, q2⟩ | ⟨q1, q2, q3, q4⟩ <;> first | (exfalso; have := q4 z (by omega) (by omega); rw [c44] at this; cases this) | (exfalso; have := q2 z (by omega) (by omega); rw [c44] at this; cases this))
set_option maxHeartbeats 400000 in
set_option maxRecDepth 20000 in
theorem c_X3_orderHolds {E : EV} (hE : EOK E) {S : SC} {g0 : GH} {a : Int} (ha : okI a) {xs : List Int32} (hxs : S.1 (sh S a) = xs) {b : Int} (hb : okI b) {ys : List Int32} (hys : S.1 (sh S b) = ys) : Ct E (RC E g0) yX3_orderHolds wsX3_orderHolds rX3_orderHolds [eA E 74, .int (iI a), .int (iI b)] S (some (.int (iI (bI true)))) S := by
  refine ct_of [(0, _), (1, _), (2, _)] hE (by decide) rfl (Nat.le_of_ble_eq_true rfl) rfl (fun X h hq => ?_)
  refine j_of (fun G hG => RC_okS hG) (fun hS0 => ?_)
  refine j_of (fun G hG => RC_lens hG) (fun hLL => ?_)
  have hsa := sh_lt hS0 a
  have hlxs := hLL (sh S a) (by omega)
  rw [hxs, cap_lo (by omega)] at hlxs
  have hsb := sh_lt hS0 b
  have hlys := hLL (sh S b) (by omega)
  rw [hys, cap_lo (by omega)] at hlys
  have hol := sfr_le xs ys (min xs.length ys.length) 0
  have hn := orI_neg xs ys
  have h00 := orI_0 xs ys (by omega) (by omega)
  have hh := orI_hd xs ys
  refine j_aload_n h 0 dX3_orderHolds_0 rfl rfl ?_
  refine j_iload_n h 1 dX3_orderHolds_1 rfl rfl ?_
  refine j_iload_n h 2 dX3_orderHolds_2 rfl rfl ?_
  refine j_callV h (c_X3_compare hE ha hxs hb hys) m_X3_compare a_l_X3_263 rfl rfl ⟨Nat.le_of_ble_eq_true rfl, Nat.le_of_ble_eq_true rfl⟩ (ci := 3) rfl (by omega) (rcS) rfl rfl (Nat.le_of_ble_eq_true rfl) dX3_orderHolds_3 ?_
  refine j_istore_n h [(3, _), (0, _), (1, _), (2, _)] dX3_orderHolds_6 rfl (by decide) rfl ?_
  refine j_iload_n h 0 dX3_orderHolds_7 rfl rfl ?_
  refine j_aload_n h 1 dX3_orderHolds_8 rfl rfl ?_
  refine j_iload_n h 3 dX3_orderHolds_9 rfl rfl ?_
  refine j_iload_n h 2 dX3_orderHolds_10 rfl rfl ?_
  refine j_callV h (c_X3_compare hE hb hys ha hxs) m_X3_compare a_l_X3_263 rfl rfl ⟨Nat.le_of_ble_eq_true rfl, Nat.le_of_ble_eq_true rfl⟩ (ci := 3) rfl (by omega) (rcS) rfl rfl (Nat.le_of_ble_eq_true rfl) dX3_orderHolds_11 ?_
  refine j_top (iI_of _).symm ?_
  refine j_ineg h dX3_orderHolds_14 ?_
  rw [hn]
  refine j_rcmp_ne h 36 dX3_orderHolds_15 (by decide) (fun c15 => ?_) (fun c15 => ?_)
  · exact absurd rfl c15
  · refine j_iload_n h 0 dX3_orderHolds_18 rfl rfl ?_
    refine j_rif_ne h 26 dX3_orderHolds_19 (by decide) (fun c19 => ?_) (fun c19 => ?_)
    · have hw9 : who true xs ys = false := by cases q : who true xs ys with | false => rfl | true => exact absurd (h00.mpr q) c19
      refine j_iconst h dX3_orderHolds_26 ?_
      refine j_aload_n h 1 dX3_orderHolds_27 rfl rfl ?_
      refine j_iload_n h 2 dX3_orderHolds_28 rfl rfl ?_
      refine j_iload_n h 3 dX3_orderHolds_29 rfl rfl ?_
      refine j_callV h (c_X3_same hE ha hxs hb hys) m_X3_same a_l_X3_264 rfl rfl ⟨Nat.le_of_ble_eq_true rfl, Nat.le_of_ble_eq_true rfl⟩ (ci := 3) rfl (by omega) (rcS) rfl rfl (Nat.le_of_ble_eq_true rfl) dX3_orderHolds_30 ?_
      refine j_icmp_eq h 38 dX3_orderHolds_33 (by decide) ⟨by decide, by decide⟩ (okI_b _) (fun c33 => ?_) (fun c33 => ?_)
      · refine j_aload_n h 1 dX3_orderHolds_38 rfl rfl ?_
        refine j_iload_n h 2 dX3_orderHolds_39 rfl rfl ?_
        refine j_iload_n h 3 dX3_orderHolds_40 rfl rfl ?_
        refine j_callV h (c_X3_head hE ha hxs hb hys) m_X3_head a_l_X3_267 rfl rfl ⟨Nat.le_of_ble_eq_true rfl, Nat.le_of_ble_eq_true rfl⟩ (ci := 3) rfl (by omega) (rcS) rfl rfl (Nat.le_of_ble_eq_true rfl) dX3_orderHolds_41 ?_
        refine j_istore h [(4, _), (3, _), (0, _), (1, _), (2, _)] dX3_orderHolds_44 (by decide) rfl ?_
        refine j_iload h 0 dX3_orderHolds_46 rfl ?_
        refine j_aload_n h 2 dX3_orderHolds_48 rfl rfl ?_
        refine j_iload_n h 3 dX3_orderHolds_49 rfl rfl ?_
        refine j_callV h (c_X3_length hE ha hxs) m_X3_length a_l_X3_146 rfl rfl ⟨Nat.le_of_ble_eq_true rfl, Nat.le_of_ble_eq_true rfl⟩ (ci := 3) rfl (by omega) (rcS) rfl rfl (Nat.le_of_ble_eq_true rfl) dX3_orderHolds_50 ?_
        refine j_icmp_ge h 91 dX3_orderHolds_53 (by decide) (by first | exact okI_of _ | exact okI_b _ | exact okI_sgz _ _ | assumption | (unfold okI; omega)) (by first | exact okI_of _ | exact okI_b _ | exact okI_sgz _ _ | assumption | (unfold okI; omega)) (fun c53 => ?_) (fun c53 => ?_)
        · refine j_iload_n h 1 dX3_orderHolds_91 rfl rfl ?_
          refine j_aload_n h 2 dX3_orderHolds_92 rfl rfl ?_
          refine j_iload_n h 3 dX3_orderHolds_93 rfl rfl ?_
          refine j_callV h (c_X3_length hE ha hxs) m_X3_length a_l_X3_146 rfl rfl ⟨Nat.le_of_ble_eq_true rfl, Nat.le_of_ble_eq_true rfl⟩ (ci := 3) rfl (by omega) (rcS) rfl rfl (Nat.le_of_ble_eq_true rfl) dX3_orderHolds_94 ?_
          refine j_aload_n h 2 dX3_orderHolds_97 rfl rfl ?_
          refine j_iload_n h 4 dX3_orderHolds_98 rfl rfl ?_
          refine j_callV h (c_X3_length hE hb hys) m_X3_length a_l_X3_146 rfl rfl ⟨Nat.le_of_ble_eq_true rfl, Nat.le_of_ble_eq_true rfl⟩ (ci := 3) rfl (by omega) (rcS) rfl rfl (Nat.le_of_ble_eq_true rfl) dX3_orderHolds_99 ?_
          refine j_isub h dX3_orderHolds_102 ?_
          refine j_rcmp_ne h 110 dX3_orderHolds_103 (by decide) (fun c103 => ?_) (fun c103 => ?_)
          · (rw [hh, if_pos (by show hd xs ys = _; have : hd xs ys = sfr xs ys 0 (min xs.length ys.length) := rfl; omega)] at c103; exact absurd rfl c103)
          · refine j_iconst h dX3_orderHolds_106 ?_
            refine j_goto h 111 dX3_orderHolds_107 (by decide) ?_
            exact j_zret h hq (by rfl) (by first | exact nzb true | exact nzb false | exact nzb _) dX3_orderHolds_111
        · refine j_iload h 0 dX3_orderHolds_56 rfl ?_
          refine j_aload_n h 2 dX3_orderHolds_58 rfl rfl ?_
          refine j_iload_n h 4 dX3_orderHolds_59 rfl rfl ?_
          refine j_callV h (c_X3_length hE hb hys) m_X3_length a_l_X3_146 rfl rfl ⟨Nat.le_of_ble_eq_true rfl, Nat.le_of_ble_eq_true rfl⟩ (ci := 3) rfl (by omega) (rcS) rfl rfl (Nat.le_of_ble_eq_true rfl) dX3_orderHolds_60 ?_
          refine j_icmp_ge h 91 dX3_orderHolds_63 (by decide) (by first | exact okI_of _ | exact okI_b _ | exact okI_sgz _ _ | assumption | (unfold okI; omega)) (by first | exact okI_of _ | exact okI_b _ | exact okI_sgz _ _ | assumption | (unfold okI; omega)) (fun c63 => ?_) (fun c63 => ?_)
          · refine j_iload_n h 1 dX3_orderHolds_91 rfl rfl ?_
            refine j_aload_n h 2 dX3_orderHolds_92 rfl rfl ?_
            refine j_iload_n h 3 dX3_orderHolds_93 rfl rfl ?_
            refine j_callV h (c_X3_length hE ha hxs) m_X3_length a_l_X3_146 rfl rfl ⟨Nat.le_of_ble_eq_true rfl, Nat.le_of_ble_eq_true rfl⟩ (ci := 3) rfl (by omega) (rcS) rfl rfl (Nat.le_of_ble_eq_true rfl) dX3_orderHolds_94 ?_
            refine j_aload_n h 2 dX3_orderHolds_97 rfl rfl ?_
            refine j_iload_n h 4 dX3_orderHolds_98 rfl rfl ?_
            refine j_callV h (c_X3_length hE hb hys) m_X3_length a_l_X3_146 rfl rfl ⟨Nat.le_of_ble_eq_true rfl, Nat.le_of_ble_eq_true rfl⟩ (ci := 3) rfl (by omega) (rcS) rfl rfl (Nat.le_of_ble_eq_true rfl) dX3_orderHolds_99 ?_
            refine j_isub h dX3_orderHolds_102 ?_
            refine j_rcmp_ne h 110 dX3_orderHolds_103 (by decide) (fun c103 => ?_) (fun c103 => ?_)
            · (rw [hh, if_pos (by show hd xs ys = _; have : hd xs ys = sfr xs ys 0 (min xs.length ys.length) := rfl; omega)] at c103; exact absurd rfl c103)
            · refine j_iconst h dX3_orderHolds_106 ?_
              refine j_goto h 111 dX3_orderHolds_107 (by decide) ?_
              exact j_zret h hq (by rfl) (by first | exact nzb true | exact nzb false | exact nzb _) dX3_orderHolds_111
          · refine j_iload_n h 1 dX3_orderHolds_66 rfl rfl ?_
            refine j_aload_n h 2 dX3_orderHolds_67 rfl rfl ?_
            refine j_iload_n h 3 dX3_orderHolds_68 rfl rfl ?_
            refine j_iload h 0 dX3_orderHolds_69 rfl ?_
            refine j_callV h (c_X3_charAt hE ha hxs (by unfold okI; omega)) m_X3_charAt a_l_X3_270 rfl rfl ⟨Nat.le_of_ble_eq_true rfl, Nat.le_of_ble_eq_true rfl⟩ (ci := 3) rfl (by omega) (rcS) rfl rfl (Nat.le_of_ble_eq_true rfl) dX3_orderHolds_71 ?_
            refine j_aload_n h 2 dX3_orderHolds_74 rfl rfl ?_
            refine j_iload_n h 4 dX3_orderHolds_75 rfl rfl ?_
            refine j_iload h 0 dX3_orderHolds_76 rfl ?_
            refine j_callV h (c_X3_charAt hE hb hys (by unfold okI; omega)) m_X3_charAt a_l_X3_270 rfl rfl ⟨Nat.le_of_ble_eq_true rfl, Nat.le_of_ble_eq_true rfl⟩ (ci := 3) rfl (by omega) (rcS) rfl rfl (Nat.le_of_ble_eq_true rfl) dX3_orderHolds_78 ?_
            refine j_st (st2 := [.int (iI (chA ys (sfr xs ys 0 (min xs.length ys.length) : Nat)).toInt), .int (iI (chA xs (sfr xs ys 0 (min xs.length ys.length) : Nat)).toInt), .int (orI true xs ys)]) (by rw [iI_of, iI_of]) ?_
            refine j_isub h dX3_orderHolds_81 ?_
            refine j_rcmp_ne h 89 dX3_orderHolds_82 (by decide) (fun c82 => ?_) (fun c82 => ?_)
            · (rw [hh, if_neg (by show ¬ hd xs ys = _; have : hd xs ys = sfr xs ys 0 (min xs.length ys.length) := rfl; omega)] at c82; unfold chA at c82; rw [if_pos (by omega), if_pos (by omega), Int.toNat_natCast] at c82; exact absurd rfl c82)
            · refine j_iconst h dX3_orderHolds_85 ?_
              refine j_goto h 90 dX3_orderHolds_86 (by decide) ?_
              exact j_zret h hq (by rfl) (by first | exact nzb true | exact nzb false | exact nzb _) dX3_orderHolds_90
      · (rw [hw9] at c33; exact absurd rfl c33)
    · have hw9 : who true xs ys = true := h00.mp c19
      refine j_iconst h dX3_orderHolds_22 ?_
      refine j_goto h 27 dX3_orderHolds_23 (by decide) ?_
      refine j_aload_n h 1 dX3_orderHolds_27 rfl rfl ?_
      refine j_iload_n h 2 dX3_orderHolds_28 rfl rfl ?_
      refine j_iload_n h 3 dX3_orderHolds_29 rfl rfl ?_
      refine j_callV h (c_X3_same hE ha hxs hb hys) m_X3_same a_l_X3_264 rfl rfl ⟨Nat.le_of_ble_eq_true rfl, Nat.le_of_ble_eq_true rfl⟩ (ci := 3) rfl (by omega) (rcS) rfl rfl (Nat.le_of_ble_eq_true rfl) dX3_orderHolds_30 ?_
      refine j_icmp_eq h 38 dX3_orderHolds_33 (by decide) ⟨by decide, by decide⟩ (okI_b _) (fun c33 => ?_) (fun c33 => ?_)
      · refine j_aload_n h 1 dX3_orderHolds_38 rfl rfl ?_
        refine j_iload_n h 2 dX3_orderHolds_39 rfl rfl ?_
        refine j_iload_n h 3 dX3_orderHolds_40 rfl rfl ?_
        refine j_callV h (c_X3_head hE ha hxs hb hys) m_X3_head a_l_X3_267 rfl rfl ⟨Nat.le_of_ble_eq_true rfl, Nat.le_of_ble_eq_true rfl⟩ (ci := 3) rfl (by omega) (rcS) rfl rfl (Nat.le_of_ble_eq_true rfl) dX3_orderHolds_41 ?_
        refine j_istore h [(4, _), (3, _), (0, _), (1, _), (2, _)] dX3_orderHolds_44 (by decide) rfl ?_
        refine j_iload h 0 dX3_orderHolds_46 rfl ?_
        refine j_aload_n h 2 dX3_orderHolds_48 rfl rfl ?_
        refine j_iload_n h 3 dX3_orderHolds_49 rfl rfl ?_
        refine j_callV h (c_X3_length hE ha hxs) m_X3_length a_l_X3_146 rfl rfl ⟨Nat.le_of_ble_eq_true rfl, Nat.le_of_ble_eq_true rfl⟩ (ci := 3) rfl (by omega) (rcS) rfl rfl (Nat.le_of_ble_eq_true rfl) dX3_orderHolds_50 ?_
        refine j_icmp_ge h 91 dX3_orderHolds_53 (by decide) (by first | exact okI_of _ | exact okI_b _ | exact okI_sgz _ _ | assumption | (unfold okI; omega)) (by first | exact okI_of _ | exact okI_b _ | exact okI_sgz _ _ | assumption | (unfold okI; omega)) (fun c53 => ?_) (fun c53 => ?_)
        · refine j_iload_n h 1 dX3_orderHolds_91 rfl rfl ?_
          refine j_aload_n h 2 dX3_orderHolds_92 rfl rfl ?_
          refine j_iload_n h 3 dX3_orderHolds_93 rfl rfl ?_
          refine j_callV h (c_X3_length hE ha hxs) m_X3_length a_l_X3_146 rfl rfl ⟨Nat.le_of_ble_eq_true rfl, Nat.le_of_ble_eq_true rfl⟩ (ci := 3) rfl (by omega) (rcS) rfl rfl (Nat.le_of_ble_eq_true rfl) dX3_orderHolds_94 ?_
          refine j_aload_n h 2 dX3_orderHolds_97 rfl rfl ?_
          refine j_iload_n h 4 dX3_orderHolds_98 rfl rfl ?_
          refine j_callV h (c_X3_length hE hb hys) m_X3_length a_l_X3_146 rfl rfl ⟨Nat.le_of_ble_eq_true rfl, Nat.le_of_ble_eq_true rfl⟩ (ci := 3) rfl (by omega) (rcS) rfl rfl (Nat.le_of_ble_eq_true rfl) dX3_orderHolds_99 ?_
          refine j_isub h dX3_orderHolds_102 ?_
          refine j_rcmp_ne h 110 dX3_orderHolds_103 (by decide) (fun c103 => ?_) (fun c103 => ?_)
          · (rw [hh, if_pos (by show hd xs ys = _; have : hd xs ys = sfr xs ys 0 (min xs.length ys.length) := rfl; omega)] at c103; exact absurd rfl c103)
          · refine j_iconst h dX3_orderHolds_106 ?_
            refine j_goto h 111 dX3_orderHolds_107 (by decide) ?_
            exact j_zret h hq (by rfl) (by first | exact nzb true | exact nzb false | exact nzb _) dX3_orderHolds_111
        · refine j_iload h 0 dX3_orderHolds_56 rfl ?_
          refine j_aload_n h 2 dX3_orderHolds_58 rfl rfl ?_
          refine j_iload_n h 4 dX3_orderHolds_59 rfl rfl ?_
          refine j_callV h (c_X3_length hE hb hys) m_X3_length a_l_X3_146 rfl rfl ⟨Nat.le_of_ble_eq_true rfl, Nat.le_of_ble_eq_true rfl⟩ (ci := 3) rfl (by omega) (rcS) rfl rfl (Nat.le_of_ble_eq_true rfl) dX3_orderHolds_60 ?_
          refine j_icmp_ge h 91 dX3_orderHolds_63 (by decide) (by first | exact okI_of _ | exact okI_b _ | exact okI_sgz _ _ | assumption | (unfold okI; omega)) (by first | exact okI_of _ | exact okI_b _ | exact okI_sgz _ _ | assumption | (unfold okI; omega)) (fun c63 => ?_) (fun c63 => ?_)
          · refine j_iload_n h 1 dX3_orderHolds_91 rfl rfl ?_
            refine j_aload_n h 2 dX3_orderHolds_92 rfl rfl ?_
            refine j_iload_n h 3 dX3_orderHolds_93 rfl rfl ?_
            refine j_callV h (c_X3_length hE ha hxs) m_X3_length a_l_X3_146 rfl rfl ⟨Nat.le_of_ble_eq_true rfl, Nat.le_of_ble_eq_true rfl⟩ (ci := 3) rfl (by omega) (rcS) rfl rfl (Nat.le_of_ble_eq_true rfl) dX3_orderHolds_94 ?_
            refine j_aload_n h 2 dX3_orderHolds_97 rfl rfl ?_
            refine j_iload_n h 4 dX3_orderHolds_98 rfl rfl ?_
            refine j_callV h (c_X3_length hE hb hys) m_X3_length a_l_X3_146 rfl rfl ⟨Nat.le_of_ble_eq_true rfl, Nat.le_of_ble_eq_true rfl⟩ (ci := 3) rfl (by omega) (rcS) rfl rfl (Nat.le_of_ble_eq_true rfl) dX3_orderHolds_99 ?_
            refine j_isub h dX3_orderHolds_102 ?_
            refine j_rcmp_ne h 110 dX3_orderHolds_103 (by decide) (fun c103 => ?_) (fun c103 => ?_)
            · (rw [hh, if_pos (by show hd xs ys = _; have : hd xs ys = sfr xs ys 0 (min xs.length ys.length) := rfl; omega)] at c103; exact absurd rfl c103)
            · refine j_iconst h dX3_orderHolds_106 ?_
              refine j_goto h 111 dX3_orderHolds_107 (by decide) ?_
              exact j_zret h hq (by rfl) (by first | exact nzb true | exact nzb false | exact nzb _) dX3_orderHolds_111
          · refine j_iload_n h 1 dX3_orderHolds_66 rfl rfl ?_
            refine j_aload_n h 2 dX3_orderHolds_67 rfl rfl ?_
            refine j_iload_n h 3 dX3_orderHolds_68 rfl rfl ?_
            refine j_iload h 0 dX3_orderHolds_69 rfl ?_
            refine j_callV h (c_X3_charAt hE ha hxs (by unfold okI; omega)) m_X3_charAt a_l_X3_270 rfl rfl ⟨Nat.le_of_ble_eq_true rfl, Nat.le_of_ble_eq_true rfl⟩ (ci := 3) rfl (by omega) (rcS) rfl rfl (Nat.le_of_ble_eq_true rfl) dX3_orderHolds_71 ?_
            refine j_aload_n h 2 dX3_orderHolds_74 rfl rfl ?_
            refine j_iload_n h 4 dX3_orderHolds_75 rfl rfl ?_
            refine j_iload h 0 dX3_orderHolds_76 rfl ?_
            refine j_callV h (c_X3_charAt hE hb hys (by unfold okI; omega)) m_X3_charAt a_l_X3_270 rfl rfl ⟨Nat.le_of_ble_eq_true rfl, Nat.le_of_ble_eq_true rfl⟩ (ci := 3) rfl (by omega) (rcS) rfl rfl (Nat.le_of_ble_eq_true rfl) dX3_orderHolds_78 ?_
            refine j_st (st2 := [.int (iI (chA ys (sfr xs ys 0 (min xs.length ys.length) : Nat)).toInt), .int (iI (chA xs (sfr xs ys 0 (min xs.length ys.length) : Nat)).toInt), .int (orI true xs ys)]) (by rw [iI_of, iI_of]) ?_
            refine j_isub h dX3_orderHolds_81 ?_
            refine j_rcmp_ne h 89 dX3_orderHolds_82 (by decide) (fun c82 => ?_) (fun c82 => ?_)
            · (rw [hh, if_neg (by show ¬ hd xs ys = _; have : hd xs ys = sfr xs ys 0 (min xs.length ys.length) := rfl; omega)] at c82; unfold chA at c82; rw [if_pos (by omega), if_pos (by omega), Int.toNat_natCast] at c82; exact absurd rfl c82)
            · refine j_iconst h dX3_orderHolds_85 ?_
              refine j_goto h 90 dX3_orderHolds_86 (by decide) ?_
              exact j_zret h hq (by rfl) (by first | exact nzb true | exact nzb false | exact nzb _) dX3_orderHolds_90
      · (rw [hw9] at c33; exact absurd rfl c33)
def repS (S : SC) (xs ys : List Int32) : SC := if ys.length = 0 then S else setT (setT (setT S 24 xs) 25 (ys ++ ys)) 24 (rplT xs ys (ys ++ ys))
def parS (S : SC) (xs : List Int32) : SC := setT (setE (setT S (26 + 3) (prtA xs (iI 44) (-1))) 3 (prtP xs (iI 44) (-1))) 24 xs
theorem ab_rep {S : SC} {A : AS} (h : AbS S A) (xs ys : List Int32) : AbS (repS S xs ys) A := by
  unfold repS
  split
  · exact h
  · exact ab_T (ab_T (ab_T h (Or.inl rfl)) (Or.inr (Or.inl rfl))) (Or.inl rfl)
theorem ab_par {S : SC} {A : AS} (h : AbS S A) (xs : List Int32) : AbS (parS S xs) A := ab_T (ab_E3 (ab_T h (Or.inr (Or.inr rfl)))) (Or.inl rfl)
set_option maxHeartbeats 400000 in
set_option maxRecDepth 20000 in
theorem c_X3_replacingHolds {E : EV} (hE : EOK E) {S : SC} {g0 : GH} {u : Nat} (hu : u < 8) {xs : List Int32} (hx : S.1 u = xs) {v : Nat} (hv0 : v < 8) {ys : List Int32} (hy : S.1 v = ys) : Ct E (RC E g0) yX3_replacingHolds wsX3_replacingHolds rX3_replacingHolds [eA E 74, eA E u, eA E v] S (some (.int (iI (bI true)))) (repS S xs ys) := by
  refine ct_of [(0, _), (1, _), (2, _)] hE (by decide) rfl (Nat.le_of_ble_eq_true rfl) rfl (fun X h hq => ?_)
  refine j_of (fun G hG => RC_lens hG) (fun hLL => ?_)
  have hlx := hLL u (by omega)
  rw [hx, cap_lo (by omega)] at hlx
  have hly := hLL v (by omega)
  rw [hy, cap_lo (by omega)] at hly
  have hcap24 : cap 24 = 600 := rfl
  have hcap25 : cap 25 = 600 := rfl
  refine j_aload_n h 2 dX3_replacingHolds_0 rfl rfl ?_
  refine j_callV h (c_X2_size hE (by omega) hy) m_X2_size a_l_X3_43 rfl rfl ⟨Nat.le_of_ble_eq_true rfl, Nat.le_of_ble_eq_true rfl⟩ (ci := 2) rfl (by omega) (rcT (by omega)) rfl rfl (Nat.le_of_ble_eq_true rfl) dX3_replacingHolds_1 ?_
  refine j_if_ne h 9 dX3_replacingHolds_4 (by decide) (by first | exact okI_of _ | exact okI_b _ | exact okI_sgz _ _ | assumption | (unfold okI; omega)) (fun c4 => ?_) (fun c4 => ?_)
  · have hne0 : ys.length ≠ 0 := by omega
    have hself := rplT_self xs ys hne0
    have hfm := fdc_mul xs ys hne0 (xs.length + 1) 0 (Nat.zero_le _) (by omega)
    have hrl := rplT_len xs ys (ys ++ ys) hne0
    rw [show (((ys ++ ys).length : Nat) : Int) - (ys.length : Int) = ys.length by rw [List.length_append]; omega, ← Int.natCast_mul] at hrl
    have hll : (ys ++ ys).length = ys.length + ys.length := List.length_append
    unfold rplT at hself hrl
    refine j_aload_n h 0 dX3_replacingHolds_9 rfl rfl ?_
    refine jg_Smade h a_f_X3_25 dX3_replacingHolds_10 ?_
    refine j_callVv h (c_X2_clear hE (t := 24) (by omega)) m_X2_clear a_l_X3_47 rfl rfl ⟨Nat.le_of_ble_eq_true rfl, Nat.le_of_ble_eq_true rfl⟩ (ci := 2) rfl (by omega) (rcT (by omega)) rfl rfl (Nat.le_of_ble_eq_true rfl) dX3_replacingHolds_13 ?_
    refine j_aload_n h 0 dX3_replacingHolds_16 rfl rfl ?_
    refine jg_Smade h a_f_X3_25 dX3_replacingHolds_17 ?_
    refine j_aload_n h 1 dX3_replacingHolds_20 rfl rfl ?_
    refine j_aload_n h 2 dX3_replacingHolds_21 rfl rfl ?_
    refine j_aload_n h 2 dX3_replacingHolds_22 rfl rfl ?_
    refine j_callVv h (c_X2_addReplaced hE (t := 24) (by omega) (ws := []) (setT_1s _ _ _) (u := u) (by omega) (xs := xs) (by rw [setT_1n _ _ (by omega)]; exact hx) (v := v) (by omega) (ys := ys) (by rw [setT_1n _ _ (by omega)]; exact hy) (w := v) (by omega) (zs := ys) (by rw [setT_1n _ _ (by omega)]; exact hy) (by omega) (by omega) (by omega) (by rw [hself, List.length_nil]; omega)) m_X2_addReplaced a_l_X3_173 rfl rfl ⟨Nat.le_of_ble_eq_true rfl, Nat.le_of_ble_eq_true rfl⟩ (ci := 2) rfl (by omega) (rcT (by omega)) rfl rfl (Nat.le_of_ble_eq_true rfl) dX3_replacingHolds_23 ?_
    rw [setT_T, List.nil_append, hself]
    refine j_aload_n h 0 dX3_replacingHolds_26 rfl rfl ?_
    refine jg_Smade h a_f_X3_25 dX3_replacingHolds_27 ?_
    refine j_aload_n h 1 dX3_replacingHolds_30 rfl rfl ?_
    refine j_iconst h dX3_replacingHolds_31 ?_
    refine j_callV h (c_X2_agreesWholly hE (t := 24) (by omega) (setT_1s _ _ _) (u := u) (by omega) (ys := xs) (by rw [setT_1n _ _ (by omega)]; exact hx) true) m_X2_agreesWholly a_l_X3_153 rfl rfl ⟨Nat.le_of_ble_eq_true rfl, Nat.le_of_ble_eq_true rfl⟩ (ci := 2) rfl (by omega) (rcT (by omega)) rfl rfl (Nat.le_of_ble_eq_true rfl) dX3_replacingHolds_32 ?_
    refine j_if_ne h 40 dX3_replacingHolds_35 (by decide) (by first | exact okI_of _ | exact okI_b _ | exact okI_sgz _ _ | assumption | (unfold okI; omega)) (fun c35 => ?_) (fun c35 => ?_)
    · refine j_aload_n h 0 dX3_replacingHolds_40 rfl rfl ?_
      refine jg_Stwice h a_f_X3_29 dX3_replacingHolds_41 ?_
      refine j_aload_n h 2 dX3_replacingHolds_44 rfl rfl ?_
      refine j_callVv h (c_X2_become hE (t := 25) (by omega) (u := v) (by omega) (ys := ys) (by rw [setT_1n _ _ (by omega)]; exact hy) (by omega) (by omega)) m_X2_become a_l_X3_67 rfl rfl ⟨Nat.le_of_ble_eq_true rfl, Nat.le_of_ble_eq_true rfl⟩ (ci := 2) rfl (by omega) (rcT (by omega)) rfl rfl (Nat.le_of_ble_eq_true rfl) dX3_replacingHolds_45 ?_
      refine j_aload_n h 0 dX3_replacingHolds_48 rfl rfl ?_
      refine jg_Stwice h a_f_X3_29 dX3_replacingHolds_49 ?_
      refine j_aload_n h 2 dX3_replacingHolds_52 rfl rfl ?_
      refine j_callVv h (c_X2_addText hE (t := 25) (by omega) (xs := ys) (setT_1s _ _ _) (u := v) (by omega) (ys := ys) (by rw [setT_1n _ _ (by omega), setT_1n _ _ (by omega)]; exact hy) (by omega) (by omega)) m_X2_addText a_l_X3_79 rfl rfl ⟨Nat.le_of_ble_eq_true rfl, Nat.le_of_ble_eq_true rfl⟩ (ci := 2) rfl (by omega) (rcT (by omega)) rfl rfl (Nat.le_of_ble_eq_true rfl) dX3_replacingHolds_53 ?_
      rw [setT_T]
      refine j_aload_n h 0 dX3_replacingHolds_56 rfl rfl ?_
      refine jg_Smade h a_f_X3_25 dX3_replacingHolds_57 ?_
      refine j_callVv h (c_X2_clear hE (t := 24) (by omega)) m_X2_clear a_l_X3_47 rfl rfl ⟨Nat.le_of_ble_eq_true rfl, Nat.le_of_ble_eq_true rfl⟩ (ci := 2) rfl (by omega) (rcT (by omega)) rfl rfl (Nat.le_of_ble_eq_true rfl) dX3_replacingHolds_60 ?_
      refine j_aload_n h 0 dX3_replacingHolds_63 rfl rfl ?_
      refine jg_Smade h a_f_X3_25 dX3_replacingHolds_64 ?_
      refine j_aload_n h 1 dX3_replacingHolds_67 rfl rfl ?_
      refine j_aload_n h 2 dX3_replacingHolds_68 rfl rfl ?_
      refine j_aload_n h 0 dX3_replacingHolds_69 rfl rfl ?_
      refine jg_Stwice h a_f_X3_29 dX3_replacingHolds_70 ?_
      refine j_callVv h (c_X2_addReplaced hE (t := 24) (by omega) (ws := []) (setT_1s _ _ _) (u := u) (by omega) (xs := xs) (by rw [setT_1n _ _ (by omega), setT_1n _ _ (by omega), setT_1n _ _ (by omega)]; exact hx) (v := v) (by omega) (ys := ys) (by rw [setT_1n _ _ (by omega), setT_1n _ _ (by omega), setT_1n _ _ (by omega)]; exact hy) (w := 25) (by omega) (zs := ys ++ ys) (by rw [setT_1n _ _ (by omega)]; exact setT_1s _ _ _) (by omega) (by omega) (by omega) (by rw [List.length_nil]; omega)) m_X2_addReplaced a_l_X3_173 rfl rfl ⟨Nat.le_of_ble_eq_true rfl, Nat.le_of_ble_eq_true rfl⟩ (ci := 2) rfl (by omega) (rcT (by omega)) rfl rfl (Nat.le_of_ble_eq_true rfl) dX3_replacingHolds_73 ?_
      rw [setT_T, List.nil_append]
      have fin : repS S xs ys = setT (setT (setT S 24 xs) 25 (ys ++ ys)) 24 (rpl xs ys (ys ++ ys) (xs.length + 1) 0) := if_neg hne0
      rw [← fin]
      have e24 : (repS S xs ys).1 24 = rpl xs ys (ys ++ ys) (xs.length + 1) 0 := by rw [fin]; exact setT_1s _ _ _
      have eu : (repS S xs ys).1 u = xs := by rw [fin, setT_1n _ _ (by omega), setT_1n _ _ (by omega), setT_1n _ _ (by omega)]; exact hx
      have ev : (repS S xs ys).1 v = ys := by rw [fin, setT_1n _ _ (by omega), setT_1n _ _ (by omega), setT_1n _ _ (by omega)]; exact hy
      refine j_aload_n h 0 dX3_replacingHolds_76 rfl rfl ?_
      refine jg_Smade h a_f_X3_25 dX3_replacingHolds_77 ?_
      refine j_callV h (c_X2_size hE (t := 24) (by omega) e24) m_X2_size a_l_X3_43 rfl rfl ⟨Nat.le_of_ble_eq_true rfl, Nat.le_of_ble_eq_true rfl⟩ (ci := 2) rfl (by omega) (rcT (by omega)) rfl rfl (Nat.le_of_ble_eq_true rfl) dX3_replacingHolds_80 ?_
      refine j_aload_n h 1 dX3_replacingHolds_83 rfl rfl ?_
      refine j_callV h (c_X2_size hE (by omega) eu) m_X2_size a_l_X3_43 rfl rfl ⟨Nat.le_of_ble_eq_true rfl, Nat.le_of_ble_eq_true rfl⟩ (ci := 2) rfl (by omega) (rcT (by omega)) rfl rfl (Nat.le_of_ble_eq_true rfl) dX3_replacingHolds_84 ?_
      refine j_aload_n h 1 dX3_replacingHolds_87 rfl rfl ?_
      refine j_aload_n h 2 dX3_replacingHolds_88 rfl rfl ?_
      refine j_callV h (c_X2_finds hE (by omega) eu (by omega) ev) m_X2_finds a_l_X3_169 rfl rfl ⟨Nat.le_of_ble_eq_true rfl, Nat.le_of_ble_eq_true rfl⟩ (ci := 2) rfl (by omega) (rcT (by omega)) rfl rfl (Nat.le_of_ble_eq_true rfl) dX3_replacingHolds_89 ?_
      refine j_aload_n h 2 dX3_replacingHolds_92 rfl rfl ?_
      refine j_callV h (c_X2_size hE (by omega) ev) m_X2_size a_l_X3_43 rfl rfl ⟨Nat.le_of_ble_eq_true rfl, Nat.le_of_ble_eq_true rfl⟩ (ci := 2) rfl (by omega) (rcT (by omega)) rfl rfl (Nat.le_of_ble_eq_true rfl) dX3_replacingHolds_93 ?_
      refine j_imul h dX3_replacingHolds_96 ?_
      refine j_iadd h dX3_replacingHolds_97 ?_
      rw [← Int.natCast_mul]
      refine j_icmp_ne h 105 dX3_replacingHolds_98 (by decide) (by first | exact okI_of _ | exact okI_b _ | exact okI_sgz _ _ | assumption | (unfold okI; omega)) (by first | exact okI_of _ | exact okI_b _ | exact okI_sgz _ _ | assumption | (unfold okI; omega)) (fun c98 => ?_) (fun c98 => ?_)
      · exact absurd c98 (by omega)
      · refine j_iconst h dX3_replacingHolds_101 ?_
        refine j_goto h 106 dX3_replacingHolds_102 (by decide) ?_
        exact j_zret h hq (by rfl) (by first | exact nzb true | exact nzb false | exact nzb _) dX3_replacingHolds_106
    · (rw [bI_0] at c35; rw [(who_iff xs xs).mpr rfl] at c35; cases c35)
  · refine j_iconst h dX3_replacingHolds_7 ?_
    have fin : repS S xs ys = S := if_pos (by omega)
    rw [fin] at hq
    exact j_zret h hq (by rfl) (by first | exact nzb true | exact nzb false | exact nzb _) dX3_replacingHolds_8
set_option maxHeartbeats 400000 in
set_option maxRecDepth 20000 in
theorem c_X3_partingHolds {E : EV} (hE : EOK E) {S : SC} {g0 : GH} {u : Nat} (hu : u < 8) {xs : List Int32} (hx : S.1 u = xs) : Ct E (RC E g0) yX3_partingHolds wsX3_partingHolds rX3_partingHolds [eA E 74, eA E u] S (some (.int (iI (bI true)))) (parS S xs) := by
  refine ct_of [(0, _), (1, _)] hE (by decide) rfl (Nat.le_of_ble_eq_true rfl) rfl (fun X h hq => ?_)
  refine j_of (fun G hG => RC_lens hG) (fun hLL => ?_)
  have hlx := hLL u (by omega)
  rw [hx, cap_lo (by omega)] at hlx
  have hcap24 : cap 24 = 600 := rfl
  have hjp := join_part xs (iI 44)
  have hpo := prtP_ok xs (iI 44) (-1)
  refine j_aload_n h 0 dX3_partingHolds_0 rfl rfl ?_
  refine jg_Strial h a_f_X3_35 dX3_partingHolds_1 ?_
  refine j_aload_n h 1 dX3_partingHolds_4 rfl rfl ?_
  refine j_bipush h dX3_partingHolds_5 (by decide) ?_
  refine j_iconst h dX3_partingHolds_7 ?_
  refine j_callVv h (c_X1_partAnew hE (p := 3) (by omega) (u := u) (by omega) hx (by omega) (by omega) ⟨by decide, by decide⟩) m_X1_partAnew a_l_X3_194 rfl rfl ⟨Nat.le_of_ble_eq_true rfl, Nat.le_of_ble_eq_true rfl⟩ (ci := 1) rfl (by omega) (rcP (p := 3) (by omega)) rfl rfl (Nat.le_of_ble_eq_true rfl) dX3_partingHolds_8 ?_
  refine j_aload_n h 0 dX3_partingHolds_11 rfl rfl ?_
  refine jg_Smade h a_f_X3_25 dX3_partingHolds_12 ?_
  refine j_callVv h (c_X2_clear hE (t := 24) (by omega)) m_X2_clear a_l_X3_47 rfl rfl ⟨Nat.le_of_ble_eq_true rfl, Nat.le_of_ble_eq_true rfl⟩ (ci := 2) rfl (by omega) (rcT (by omega)) rfl rfl (Nat.le_of_ble_eq_true rfl) dX3_partingHolds_15 ?_
  refine j_aload_n h 0 dX3_partingHolds_18 rfl rfl ?_
  refine jg_Strial h a_f_X3_35 dX3_partingHolds_19 ?_
  refine j_aload_n h 0 dX3_partingHolds_22 rfl rfl ?_
  refine jg_Smade h a_f_X3_25 dX3_partingHolds_23 ?_
  refine j_bipush h dX3_partingHolds_26 (by decide) ?_
  refine j_callVv h (c_X1_addJoinedTo hE (p := 3) (by omega) (S := setT (setE (setT S (26 + 3) (prtA xs (iI 44) (-1))) 3 (prtP xs (iI 44) (-1))) 24 []) (es := prtP xs (iI 44) (-1)) (by rw [setT_2]; exact setE_2s _ _ _) (as := prtA xs (iI 44) (-1)) (by rw [setT_1n _ _ (by omega), setE_1]; exact setT_1s _ _ _) (t := 24) (by omega) (xs := []) (setT_1s _ _ _) (by omega) (x := iI 44) hpo.1 (by rw [hjp, List.length_nil]; omega)) m_X1_addJoinedTo a_l_X3_205 rfl rfl ⟨Nat.le_of_ble_eq_true rfl, Nat.le_of_ble_eq_true rfl⟩ (ci := 1) rfl (by omega) (rcP (p := 3) (by omega)) rfl rfl (Nat.le_of_ble_eq_true rfl) dX3_partingHolds_28 ?_
  rw [setT_T, List.nil_append, hjp]
  refine j_aload_n h 0 dX3_partingHolds_31 rfl rfl ?_
  refine jg_Smade h a_f_X3_25 dX3_partingHolds_32 ?_
  refine j_aload_n h 1 dX3_partingHolds_35 rfl rfl ?_
  refine j_iconst h dX3_partingHolds_36 ?_
  refine j_callV h (c_X2_agreesWholly hE (t := 24) (by omega) (setT_1s _ _ _) (u := u) (by omega) (ys := xs) (by rw [setT_1n _ _ (by omega), setE_1, setT_1n _ _ (by omega)]; exact hx) true) m_X2_agreesWholly a_l_X3_153 rfl rfl ⟨Nat.le_of_ble_eq_true rfl, Nat.le_of_ble_eq_true rfl⟩ (ci := 2) rfl (by omega) (rcT (by omega)) rfl rfl (Nat.le_of_ble_eq_true rfl) dX3_partingHolds_37 ?_
  rw [(who_iff xs xs).mpr rfl]
  exact j_zret h hq (by rfl) (by first | exact nzb true | exact nzb false | exact nzb _) dX3_partingHolds_40
set_option maxHeartbeats 400000 in
set_option maxRecDepth 20000 in
theorem p_holds {E : EV} (hE : EOK E) {A : AS} {g0 : GH} {a : Int} (ha : okI a) {b : Int} (hb : okI b) {f : Int} (hf : okI f) : Ct E (RP E g0) yX3_holds wsX3_holds rX3_holds [eA E 74, .int (iI a), .int (iI b), .int (iI f)] A (some (.int (iI (bI true)))) A := by
  refine ct_of [(0, _), (1, _), (2, _), (3, _)] hE (by decide) rfl (Nat.le_of_ble_eq_true rfl) rfl (fun X h hq => ?_)
  refine j_ex (fun S hAb => ?_)
  refine j_of (fun G hG => RC_okS hG) (fun hS0 => ?_)
  refine j_of (fun G hG => RC_lens hG) (fun hLL => ?_)
  have hcap24 : cap 24 = 600 := rfl
  have hcap25 : cap 25 = 600 := rfl
  have hsa := sh_lt hS0 a
  have hxa := ab_x hAb a
  have hla := hLL (sh S a) (by omega)
  rw [hxa, cap_lo (by omega)] at hla
  have hca := cap_lo (t := sh S a) (by omega)
  have hsb := sh_lt hS0 b
  have hxb := ab_x hAb b
  have hlb := hLL (sh S b) (by omega)
  rw [hxb, cap_lo (by omega)] at hlb
  have hcb := cap_lo (t := sh S b) (by omega)
  refine j_aload_n h 0 dX3_holds_0 rfl rfl ?_
  refine j_iload_n h 1 dX3_holds_1 rfl rfl ?_
  refine j_iload_n h 2 dX3_holds_2 rfl rfl ?_
  refine j_iload_n h 3 dX3_holds_3 rfl rfl ?_
  refine j_callV h (c_X3_firstPlaceHolds hE ha hxa hb hxb hf) m_X3_firstPlaceHolds a_l_X3_214 rfl rfl ⟨Nat.le_of_ble_eq_true rfl, Nat.le_of_ble_eq_true rfl⟩ (ci := 3) rfl (by omega) (rcS) rfl rfl (Nat.le_of_ble_eq_true rfl) dX3_holds_4 ?_
  refine j_if_eq h 86 dX3_holds_7 (by decide) (by first | exact okI_of _ | exact okI_b _ | exact okI_sgz _ _ | assumption | (unfold okI; omega)) (fun c7 => ?_) (fun c7 => ?_)
  · exact absurd c7 (by decide)
  · refine j_aload_n h 0 dX3_holds_10 rfl rfl ?_
    refine j_iload_n h 1 dX3_holds_11 rfl rfl ?_
    refine j_iload_n h 2 dX3_holds_12 rfl rfl ?_
    refine j_iload_n h 3 dX3_holds_13 rfl rfl ?_
    refine j_callV h (c_X3_lastPlaceHolds hE ha hxa hb hxb hf) m_X3_lastPlaceHolds a_l_X3_217 rfl rfl ⟨Nat.le_of_ble_eq_true rfl, Nat.le_of_ble_eq_true rfl⟩ (ci := 3) rfl (by omega) (rcS) rfl rfl (Nat.le_of_ble_eq_true rfl) dX3_holds_14 ?_
    refine j_if_eq h 86 dX3_holds_17 (by decide) (by first | exact okI_of _ | exact okI_b _ | exact okI_sgz _ _ | assumption | (unfold okI; omega)) (fun c17 => ?_) (fun c17 => ?_)
    · exact absurd c17 (by decide)
    · refine j_aload_n h 0 dX3_holds_20 rfl rfl ?_
      refine j_iload_n h 1 dX3_holds_21 rfl rfl ?_
      refine j_iload_n h 2 dX3_holds_22 rfl rfl ?_
      refine j_callV h (c_X3_orderHolds hE ha hxa hb hxb) m_X3_orderHolds a_l_X3_220 rfl rfl ⟨Nat.le_of_ble_eq_true rfl, Nat.le_of_ble_eq_true rfl⟩ (ci := 3) rfl (by omega) (rcS) rfl rfl (Nat.le_of_ble_eq_true rfl) dX3_holds_23 ?_
      refine j_if_eq h 86 dX3_holds_26 (by decide) (by first | exact okI_of _ | exact okI_b _ | exact okI_sgz _ _ | assumption | (unfold okI; omega)) (fun c26 => ?_) (fun c26 => ?_)
      · exact absurd c26 (by decide)
      · refine j_aload_n h 0 dX3_holds_29 rfl rfl ?_
        refine j_aload_n h 0 dX3_holds_30 rfl rfl ?_
        refine jg_Snow h a_f_X3_10 dX3_holds_31 ?_
        refine j_iload_n h 1 dX3_holds_34 rfl rfl ?_
        refine j_callV h (c_X0_text hE ha) m_X0_text a_l_X3_39 rfl rfl ⟨Nat.le_of_ble_eq_true rfl, Nat.le_of_ble_eq_true rfl⟩ (ci := 0) rfl (by omega) (rcI (i := 0) (by omega)) rfl rfl (Nat.le_of_ble_eq_true rfl) dX3_holds_35 ?_
        refine j_aload_n h 0 dX3_holds_38 rfl rfl ?_
        refine jg_Snow h a_f_X3_10 dX3_holds_39 ?_
        refine j_iload_n h 2 dX3_holds_42 rfl rfl ?_
        refine j_callV h (c_X0_text hE hb) m_X0_text a_l_X3_39 rfl rfl ⟨Nat.le_of_ble_eq_true rfl, Nat.le_of_ble_eq_true rfl⟩ (ci := 0) rfl (by omega) (rcI (i := 0) (by omega)) rfl rfl (Nat.le_of_ble_eq_true rfl) dX3_holds_43 ?_
        refine j_callV h (c_X3_replacingHolds hE (u := sh S a) (by omega) hxa (v := sh S b) (by omega) hxb) m_X3_replacingHolds a_l_X3_224 rfl rfl ⟨Nat.le_of_ble_eq_true rfl, Nat.le_of_ble_eq_true rfl⟩ (ci := 3) rfl (by omega) (rcS) rfl rfl (Nat.le_of_ble_eq_true rfl) dX3_holds_46 ?_
        have hAb1 := ab_rep hAb (A.1 (sw a)) (A.1 (sw b))
        generalize hS1 : repS S (A.1 (sw a)) (A.1 (sw b)) = S1 at hAb1 ⊢
        have hs1 := sh_lt hAb1.1 a
        have hx1 := ab_x hAb1 a
        refine j_if_eq h 86 dX3_holds_49 (by decide) (by first | exact okI_of _ | exact okI_b _ | exact okI_sgz _ _ | assumption | (unfold okI; omega)) (fun c49 => ?_) (fun c49 => ?_)
        · exact absurd c49 (by decide)
        · refine j_aload_n h 0 dX3_holds_52 rfl rfl ?_
          refine j_aload_n h 0 dX3_holds_53 rfl rfl ?_
          refine jg_Snow h a_f_X3_10 dX3_holds_54 ?_
          refine j_iload_n h 1 dX3_holds_57 rfl rfl ?_
          refine j_callV h (c_X0_text hE ha) m_X0_text a_l_X3_39 rfl rfl ⟨Nat.le_of_ble_eq_true rfl, Nat.le_of_ble_eq_true rfl⟩ (ci := 0) rfl (by omega) (rcI (i := 0) (by omega)) rfl rfl (Nat.le_of_ble_eq_true rfl) dX3_holds_58 ?_
          refine j_callV h (c_X3_partingHolds hE (S := S1) (u := sh S1 a) (by omega) hx1) m_X3_partingHolds a_l_X3_228 rfl rfl ⟨Nat.le_of_ble_eq_true rfl, Nat.le_of_ble_eq_true rfl⟩ (ci := 3) rfl (by omega) (rcS) rfl rfl (Nat.le_of_ble_eq_true rfl) dX3_holds_61 ?_
          have hAb2 := ab_par hAb1 (A.1 (sw a))
          generalize hS2 : parS S1 (A.1 (sw a)) = S2 at hAb2 ⊢
          have hs2 := sh_lt hAb2.1 b
          have hx2 := ab_x hAb2 b
          refine j_if_eq h 86 dX3_holds_64 (by decide) (by first | exact okI_of _ | exact okI_b _ | exact okI_sgz _ _ | assumption | (unfold okI; omega)) (fun c64 => ?_) (fun c64 => ?_)
          · exact absurd c64 (by decide)
          · refine j_aload_n h 0 dX3_holds_67 rfl rfl ?_
            refine j_aload_n h 0 dX3_holds_68 rfl rfl ?_
            refine jg_Snow h a_f_X3_10 dX3_holds_69 ?_
            refine j_iload_n h 2 dX3_holds_72 rfl rfl ?_
            refine j_callV h (c_X0_text hE hb) m_X0_text a_l_X3_39 rfl rfl ⟨Nat.le_of_ble_eq_true rfl, Nat.le_of_ble_eq_true rfl⟩ (ci := 0) rfl (by omega) (rcI (i := 0) (by omega)) rfl rfl (Nat.le_of_ble_eq_true rfl) dX3_holds_73 ?_
            refine j_callV h (c_X3_partingHolds hE (S := S2) (u := sh S2 b) (by omega) hx2) m_X3_partingHolds a_l_X3_228 rfl rfl ⟨Nat.le_of_ble_eq_true rfl, Nat.le_of_ble_eq_true rfl⟩ (ci := 3) rfl (by omega) (rcS) rfl rfl (Nat.le_of_ble_eq_true rfl) dX3_holds_76 ?_
            have hAb3 := ab_par hAb2 (A.1 (sw b))
            refine j_if_eq h 86 dX3_holds_79 (by decide) (by first | exact okI_of _ | exact okI_b _ | exact okI_sgz _ _ | assumption | (unfold okI; omega)) (fun c79 => ?_) (fun c79 => ?_)
            · exact absurd c79 (by decide)
            · refine j_iconst h dX3_holds_82 ?_
              refine j_goto h 87 dX3_holds_83 (by decide) ?_
              have hq := fnA hq hAb3
              exact j_zret h hq (by rfl) (by first | exact nzb true | exact nzb false | exact nzb _) dX3_holds_87
