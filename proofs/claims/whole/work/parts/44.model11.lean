/-! the reference parts a text -/
set_option maxHeartbeats 400000 in
set_option maxRecDepth 20000 in
theorem q_part {E : EV} (hE : EOK E) {A : AS} {g0 : GH} {a : Int} (ha : okI a) {x : Int} (hx0 : okI x) {L : Int} (hL : okI L) : Ct E (RMP E g0) yX4_part wsX4_part rX4_part [eA E 76, .int (iI a), .int (iI x), .int (iI L)] A (some (.int (iI (paA A a x L).1))) (paA A a x L).2 := by
  refine ct_of [(0, _), (1, _), (2, _), (3, _)] hE (by decide) rfl (Nat.le_of_ble_eq_true rfl) rfl (fun X h hq => ?_)
  refine j_exM (fun mk => ?_)
  refine j_of (fun G hG => RM_len hG) (fun hLM => ?_)
  refine j_xM (fun F hF => ?_)
  have hL0 : LN 0 = 2400 := rfl
  have hL1 : LN 1 = 8 := rfl
  have hL2 : LN 2 = 300 := rfl
  have hL3 : LN 3 = 301 := rfl
  have hL4 : LN 4 = 301 := rfl
  have hL5 : LN 5 = 4800 := rfl
  have hL6 : LN 6 = 16 := rfl
  have hL7 : LN 7 = 2 := rfl
  have hL8 : LN 8 = 600 := rfl
  have hL9 : LN 9 = 602 := rfl
  have hL10 : LN 10 = 602 := rfl
  have hL11 : LN 11 = 300 := rfl
  have hx : xR (F 0) (F 1) 0 0 A.1 := hF.1
  have hla : (A.1 (sw a)).length ≤ 300 := hLM.1 (sw a) (sw_lt a)
  have hL2 := hL
  unfold okI at hL2
  have hok : okA A := hF.2.2.2.2
  refine j_iload_n h 2 dX4_part_0 rfl rfl ?_
  refine j_callS h (c_X4_isSign hE hx0) m_X4_isSign a_l_X4_70 rfl rfl ⟨Nat.le_of_ble_eq_true rfl, Nat.le_of_ble_eq_true rfl⟩ rfl rfl (Nat.le_of_ble_eq_true rfl) dX4_part_1 ?_
  refine j_if_eq h 14 dX4_part_4 (by decide) (by first | exact okI_of _ | exact okI_b _ | exact okI_sgz _ _ | assumption | (unfold okI; omega)) (fun c4 => ?_) (fun c4 => ?_)
  · rw [bI_0] at c4
    refine j_ldc h (-1000001) a_k_X4_74 (by decide) dX4_part_14 ?_
    have e : paA A a x L = (-1000001, A) := by unfold paA; exact if_neg (fun w => by simp_all)
    rw [e] at hq
    have hq := fnX (A, mk) rfl rfl hF (fnM mk hq)
    exact j_iret h hq rfl dX4_part_16
  · rw [bI_n0] at c4
    refine j_iload_n h 2 dX4_part_7 rfl rfl ?_
    refine j_callS h (c_X4_isSpecial hE hx0) m_X4_isSpecial a_l_X4_141 rfl rfl ⟨Nat.le_of_ble_eq_true rfl, Nat.le_of_ble_eq_true rfl⟩ rfl rfl (Nat.le_of_ble_eq_true rfl) dX4_part_8 ?_
    refine j_if_eq h 17 dX4_part_11 (by decide) (by first | exact okI_of _ | exact okI_b _ | exact okI_sgz _ _ | assumption | (unfold okI; omega)) (fun c11 => ?_) (fun c11 => ?_)
    · rw [bI_0] at c11
      refine j_aload_n h 0 dX4_part_17 rfl rfl ?_
      refine j_iconst h dX4_part_18 ?_
      refine jy_put_pieceMany h a_f_X4_138 dX4_part_19 ?_
      refine j_iconst h dX4_part_22 ?_
      refine j_istore h [(4, _), (0, _), (1, _), (2, _), (3, _)] dX4_part_23 (by decide) rfl ?_
      refine j_iconst h dX4_part_25 ?_
      refine j_istore h [(5, _), (4, _), (0, _), (1, _), (2, _), (3, _)] dX4_part_26 (by decide) rfl ?_
      refine j_sub [0, 1, 2, 3, 4, 5] rfl ?_
      refine lpA4 (fun (z r : Int) (q : AP) (F1 : Nat → Nat → Int32) => ((A.1 (sw a)).length - z).toNat) (fun (z r : Int) (q : AP) (F1 : Nat → Nat → Int32) => 0 ≤ z → z ≤ (A.1 (sw a)).length → 0 ≤ r → r ≤ z → (∀ k, k ≠ 2 → k ≠ 3 → k ≠ 4 → F1 k = F k) → (∀ j, j < z.toNat → F1 2 j = gz (A.1 (sw a)) j) → q.2.length ≤ z.toNat → PI (A.1 (sw a)) (F1 3) (F1 4) q z.toNat r.toNat → prt (A.1 (sw a)) (iI x) L z.toNat q (((A.1 (sw a)).length : Int) - z).toNat = (prt (A.1 (sw a)) (iI x) L 0 ([], []) (A.1 (sw a)).length) → JL E (RX E g0) X 28 [(5, .int (iI z)), (4, .int (iI r)), (0, eA E 76), (1, .int (iI a)), (2, .int (iI x)), (3, .int (iI L))] [] (F1, iI q.2.length, iI mk.length)) (fun z r q F1 ih h0 hzb hr0 hrz hF1 hF2x hql hPI hv => ?_) 0 0 ([], []) F (Int.le_refl 0) (by omega) (Int.le_refl 0) (Int.le_refl 0) (fun _ _ _ _ => rfl) (fun j hj => absurd hj (Nat.not_lt_zero _)) (Nat.le_refl _) (PI_0 _ _ _) (by rw [Int.sub_zero, Int.toNat_natCast]; rfl)
      have hx1 : xR (F1 0) (F1 1) 0 0 A.1 := by rw [hF1 0 (by omega) (by omega) (by omega), hF1 1 (by omega) (by omega) (by omega)]; exact hx
      refine j_iload h 0 dX4_part_28 rfl ?_
      refine j_aload_n h 2 dX4_part_30 rfl rfl ?_
      refine j_iload_n h 3 dX4_part_31 rfl rfl ?_
      refine j_callV h (x_sizeOf hE hx1 ha) m_X4_sizeOf a_l_X4_67 rfl rfl ⟨Nat.le_of_ble_eq_true rfl, Nat.le_of_ble_eq_true rfl⟩ (ci := 4) rfl (by omega) (rcX) rfl rfl (Nat.le_of_ble_eq_true rfl) dX4_part_32 ?_
      refine j_icmp_ge h 97 dX4_part_35 (by decide) (by first | exact okI_of _ | exact okI_b _ | exact okI_sgz _ _ | assumption | (unfold okI; omega)) (by first | exact okI_of _ | exact okI_b _ | exact okI_sgz _ _ | assumption | (unfold okI; omega)) (fun c35 => ?_) (fun c35 => ?_)
      · have hzl : z = (A.1 (sw a)).length := by omega
        subst hzl
        have hq0 : q = (prt (A.1 (sw a)) (iI x) L 0 ([], []) (A.1 (sw a)).length) := by rw [← hv, Int.sub_self]; rfl
        refine j_aload_n h 2 dX4_part_97 rfl rfl ?_
        refine j_iload h 1 dX4_part_98 rfl ?_
        refine j_aload_n h 2 dX4_part_100 rfl rfl ?_
        refine j_iload_n h 3 dX4_part_101 rfl rfl ?_
        refine j_callV h (x_sizeOf hE hx1 ha) m_X4_sizeOf a_l_X4_67 rfl rfl ⟨Nat.le_of_ble_eq_true rfl, Nat.le_of_ble_eq_true rfl⟩ (ci := 4) rfl (by omega) (rcX) rfl rfl (Nat.le_of_ble_eq_true rfl) dX4_part_102 ?_
        refine j_callVv h (c_X4_addPiece hE (pm := q.2.length) (by omega)) m_X4_addPiece a_l_X4_144 rfl rfl ⟨Nat.le_of_ble_eq_true rfl, Nat.le_of_ble_eq_true rfl⟩ (ci := 4) rfl (by omega) (rcX) rfl rfl (Nat.le_of_ble_eq_true rfl) dX4_part_105 ?_
        have hend := PI_end hPI
        rw [show ((r.toNat : Nat) : Int) = r by omega, show ((((A.1 (sw a)).length : Int).toNat - r.toNat : Nat) : Int) = (A.1 (sw a)).length - r by omega, Int.toNat_natCast] at hend
        have hel : ((q.2 ++ [q.1.length]).length : Int) = (q.2.length : Int) + 1 := by simp
        obtain ⟨F2, hF2⟩ : ∃ F2, F2 = (va_up (va_up F1 3 (upd (F1 3) (q.2.length : Int).toNat (iI r))) 4 (upd ((va_up F1 3 (upd (F1 3) (q.2.length : Int).toNat (iI r))) 4) (q.2.length : Int).toNat (iI ((A.1 (sw a)).length - r)))) := ⟨_, rfl⟩
        have hP3 : PI (A.1 (sw a)) (F2 3) (F2 4) (q.1, (q.2 ++ [q.1.length])) (A.1 (sw a)).length (A.1 (sw a)).length := by rw [hF2]; exact hend
        have h22 : ∀ j, j < (A.1 (sw a)).length → F2 2 j = gz (A.1 (sw a)) j := fun j hj => by rw [hF2]; exact hF2x j (by omega)
        have hFB : ∀ k, k ≠ 2 → k ≠ 3 → k ≠ 4 → F2 k = F k := fun k k2 k3 k4 => by rw [hF2, va_up_ne _ _ k4, va_up_ne _ _ k3]; exact hF1 k k2 k3 k4
        refine j_S (S2 := (F2, iI ((q.2 ++ [q.1.length]).length : Nat), iI mk.length)) (by rw [hF2, hel]) ?_
        refine j_aload_n h 2 dX4_part_108 rfl rfl ?_
        refine jy_MpieceMany h a_f_X4_138 dX4_part_109 ?_
        refine j_iconst h dX4_part_112 ?_
        refine j_icmp_le h 120 dX4_part_113 (by decide) (by first | exact okI_of _ | exact okI_b _ | exact okI_sgz _ _ | assumption | (unfold okI; omega)) (by first | exact okI_of _ | exact okI_b _ | exact okI_sgz _ _ | assumption | (unfold okI; omega)) (fun c113 => ?_) (fun c113 => ?_)
        · obtain ⟨B, hB, hB2⟩ : ∃ B : Bool, iI (bI B) = iI 0 ∧ (B = true ↔ 1 < (q.2 ++ [q.1.length]).length) := ⟨false, rfl, ⟨fun w => Bool.noConfusion w, fun w => absurd w (by omega)⟩⟩
          refine j_iconst h dX4_part_120 ?_
          refine j_istore h [(5, _), (4, _), (0, _), (1, _), (2, _), (3, _)] dX4_part_121 (by decide) rfl ?_
          refine j_sub [0, 2, 5] rfl ?_
          refine j_lv (lv2 := [(5, .int (iI (bI B))), (0, eA E 76), (3, .int (iI L))]) (by rw [hB]; rfl) ?_
          have hokQ1 : q.1.length ≤ 300 := by have := (prtP_ok (A.1 (sw a)) (iI x) L).2.2; unfold prtA at this; rw [← hq0] at this; omega
          refine lpA1 (fun m : Nat => m) (fun m : Nat => m ≤ (q.2 ++ [q.1.length]).length → (L = 0 ∧ B = true → loe (q.2 ++ [q.1.length]) m = loe (q.2 ++ [q.1.length]) (q.2 ++ [q.1.length]).length) → (m = (q.2 ++ [q.1.length]).length ∨ (L = 0 ∧ B = true)) → JL E (RX E g0) X 123 [(5, .int (iI (bI B))), (0, eA E 76), (3, .int (iI L))] [] (F2, iI m, iI mk.length)) (fun m ih2 hm h1 h2 => ?_) (q.2 ++ [q.1.length]).length (Nat.le_refl _) (fun _ => rfl) (Or.inl rfl)
          refine j_iload_n h 2 dX4_part_123 rfl rfl ?_
          refine j_if_ne h 166 dX4_part_124 (by decide) (by first | exact okI_of _ | exact okI_b _ | exact okI_sgz _ _ | assumption | (unfold okI; omega)) (fun c124 => ?_) (fun c124 => ?_)
          · have hfin : prtE (q.2 ++ [q.1.length]) L = (q.2 ++ [q.1.length]).take m := by unfold prtE; rw [if_neg (fun w => c124 w.1), show m = (q.2 ++ [q.1.length]).length by omega, List.take_length]
            refine j_aload_n h 1 dX4_part_166 rfl rfl ?_
            refine jy_MpieceMany h a_f_X4_138 dX4_part_167 ?_
            have hqQ : prtQ (A.1 (sw a)) x L = (q.1, (q.2 ++ [q.1.length]).take (m)) := by unfold prtQ prtA prtP; rw [← hq0]; exact congrArg (Prod.mk q.1) hfin
            have hml : ((q.2 ++ [q.1.length]).take (m)).length = m := by rw [List.length_take]; omega
            have hokQ := okP_prtQ (A.1 (sw a)) x L (by omega)
            rw [hqQ] at hokQ
            have e : paA A a x L = (((m : Nat) : Int), aP A (q.1, (q.2 ++ [q.1.length]).take (m))) := by unfold paA; rw [if_pos ⟨c4, c11⟩, hqQ]; exact congrArg (fun k : Nat => ((k : Int), aP A (q.1, (q.2 ++ [q.1.length]).take (m)))) hml
            rw [e] at hq
            have hMR : MR F2 (aP A (q.1, (q.2 ++ [q.1.length]).take (m)), mk) := ⟨by rw [hFB 0 (by omega) (by omega) (by omega), hFB 1 (by omega) (by omega) (by omega)]; exact hF.1, PI_take hla hP3 hm h22, fun i hi => by rw [hFB 5 (by omega) (by omega) (by omega), hFB 6 (by omega) (by omega) (by omega), hFB 7 (by omega) (by omega) (by omega), hFB 8 (by omega) (by omega) (by omega), hFB 9 (by omega) (by omega) (by omega), hFB 10 (by omega) (by omega) (by omega)]; exact hF.2.2.1 i hi, by rw [hFB 11 (by omega) (by omega) (by omega)]; exact hF.2.2.2.1, hokQ, hok.2⟩
            have hq := fnX (aP A (q.1, (q.2 ++ [q.1.length]).take (m)), mk) (congrArg (fun k : Nat => iI (k : Int)) hml.symm) rfl hMR (fnM mk hq)
            exact j_iret h hq rfl dX4_part_170
          · refine j_iload h 0 dX4_part_127 rfl ?_
            refine j_if_eq h 166 dX4_part_129 (by decide) (by first | exact okI_of _ | exact okI_b _ | exact okI_sgz _ _ | assumption | (unfold okI; omega)) (fun c129 => ?_) (fun c129 => ?_)
            · rw [bI_0] at c129
              have hfin : prtE (q.2 ++ [q.1.length]) L = (q.2 ++ [q.1.length]).take m := by unfold prtE; rw [if_neg (fun w => by have := hB2.mpr w.2; rw [c129] at this; cases this), show m = (q.2 ++ [q.1.length]).length from h2.elim id (fun w => by have := w.2; rw [c129] at this; cases this), List.take_length]
              refine j_aload_n h 1 dX4_part_166 rfl rfl ?_
              refine jy_MpieceMany h a_f_X4_138 dX4_part_167 ?_
              have hqQ : prtQ (A.1 (sw a)) x L = (q.1, (q.2 ++ [q.1.length]).take (m)) := by unfold prtQ prtA prtP; rw [← hq0]; exact congrArg (Prod.mk q.1) hfin
              have hml : ((q.2 ++ [q.1.length]).take (m)).length = m := by rw [List.length_take]; omega
              have hokQ := okP_prtQ (A.1 (sw a)) x L (by omega)
              rw [hqQ] at hokQ
              have e : paA A a x L = (((m : Nat) : Int), aP A (q.1, (q.2 ++ [q.1.length]).take (m))) := by unfold paA; rw [if_pos ⟨c4, c11⟩, hqQ]; exact congrArg (fun k : Nat => ((k : Int), aP A (q.1, (q.2 ++ [q.1.length]).take (m)))) hml
              rw [e] at hq
              have hMR : MR F2 (aP A (q.1, (q.2 ++ [q.1.length]).take (m)), mk) := ⟨by rw [hFB 0 (by omega) (by omega) (by omega), hFB 1 (by omega) (by omega) (by omega)]; exact hF.1, PI_take hla hP3 hm h22, fun i hi => by rw [hFB 5 (by omega) (by omega) (by omega), hFB 6 (by omega) (by omega) (by omega), hFB 7 (by omega) (by omega) (by omega), hFB 8 (by omega) (by omega) (by omega), hFB 9 (by omega) (by omega) (by omega), hFB 10 (by omega) (by omega) (by omega)]; exact hF.2.2.1 i hi, by rw [hFB 11 (by omega) (by omega) (by omega)]; exact hF.2.2.2.1, hokQ, hok.2⟩
              have hq := fnX (aP A (q.1, (q.2 ++ [q.1.length]).take (m)), mk) (congrArg (fun k : Nat => iI (k : Int)) hml.symm) rfl hMR (fnM mk hq)
              exact j_iret h hq rfl dX4_part_170
            · rw [bI_n0] at c129
              refine j_aload_n h 1 dX4_part_132 rfl rfl ?_
              refine jy_MpieceMany h a_f_X4_138 dX4_part_133 ?_
              refine j_if_le h 166 dX4_part_136 (by decide) (by first | exact okI_of _ | exact okI_b _ | exact okI_sgz _ _ | assumption | (unfold okI; omega)) (fun c136 => ?_) (fun c136 => ?_)
              · have hfin : prtE (q.2 ++ [q.1.length]) L = (q.2 ++ [q.1.length]).take m := by unfold prtE; rw [if_pos ⟨c124, hB2.mp c129⟩, ← h1 ⟨c124, c129⟩, show m = 0 by omega]; rfl
                refine j_aload_n h 1 dX4_part_166 rfl rfl ?_
                refine jy_MpieceMany h a_f_X4_138 dX4_part_167 ?_
                have hqQ : prtQ (A.1 (sw a)) x L = (q.1, (q.2 ++ [q.1.length]).take (m)) := by unfold prtQ prtA prtP; rw [← hq0]; exact congrArg (Prod.mk q.1) hfin
                have hml : ((q.2 ++ [q.1.length]).take (m)).length = m := by rw [List.length_take]; omega
                have hokQ := okP_prtQ (A.1 (sw a)) x L (by omega)
                rw [hqQ] at hokQ
                have e : paA A a x L = (((m : Nat) : Int), aP A (q.1, (q.2 ++ [q.1.length]).take (m))) := by unfold paA; rw [if_pos ⟨c4, c11⟩, hqQ]; exact congrArg (fun k : Nat => ((k : Int), aP A (q.1, (q.2 ++ [q.1.length]).take (m)))) hml
                rw [e] at hq
                have hMR : MR F2 (aP A (q.1, (q.2 ++ [q.1.length]).take (m)), mk) := ⟨by rw [hFB 0 (by omega) (by omega) (by omega), hFB 1 (by omega) (by omega) (by omega)]; exact hF.1, PI_take hla hP3 hm h22, fun i hi => by rw [hFB 5 (by omega) (by omega) (by omega), hFB 6 (by omega) (by omega) (by omega), hFB 7 (by omega) (by omega) (by omega), hFB 8 (by omega) (by omega) (by omega), hFB 9 (by omega) (by omega) (by omega), hFB 10 (by omega) (by omega) (by omega)]; exact hF.2.2.1 i hi, by rw [hFB 11 (by omega) (by omega) (by omega)]; exact hF.2.2.2.1, hokQ, hok.2⟩
                have hq := fnX (aP A (q.1, (q.2 ++ [q.1.length]).take (m)), mk) (congrArg (fun k : Nat => iI (k : Int)) hml.symm) rfl hMR (fnM mk hq)
                exact j_iret h hq rfl dX4_part_170
              · obtain ⟨m, rfl⟩ : ∃ m2, m = m2 + 1 := ⟨m - 1, by omega⟩
                obtain ⟨r4, _, hs4, _, _⟩ := hP3.2.2.2.2 m (by show m < (q.2 ++ [q.1.length]).length; omega)
                have hs5 : F2 4 m = iI (eg (q.2 ++ [q.1.length]) m - stN (q.2 ++ [q.1.length]) m : Nat) := hs4
                have hek := hP3.1 m (by show m < (q.2 ++ [q.1.length]).length; omega)
                have hek2 : stN (q.2 ++ [q.1.length]) m ≤ eg (q.2 ++ [q.1.length]) m ∧ eg (q.2 ++ [q.1.length]) m ≤ q.1.length := hek
                have hq1l : q.1.length ≤ 300 := by have := hPI.2.2.1; have := stN_le hPI.1 (Nat.le_refl _); have := hokQ1; omega
                refine j_aload_n h 1 dX4_part_139 rfl rfl ?_
                refine jy_MpieceSizes h a_f_X4_22 dX4_part_140 ?_
                refine j_aload_n h 1 dX4_part_143 rfl rfl ?_
                refine jy_MpieceMany h a_f_X4_138 dX4_part_144 ?_
                refine j_iconst h dX4_part_147 ?_
                refine j_isub h dX4_part_148 ?_
                refine jy_ld h (by omega) (by omega) (by omega) dX4_part_149 ?_
                refine j_top (y := iI (eg (q.2 ++ [q.1.length]) m - stN (q.2 ++ [q.1.length]) m : Nat)) (by rw [show (((m + 1 : Nat) : Int) - 1).toNat = m by omega]; exact hs5) ?_
                refine j_if_ne h 166 dX4_part_150 (by decide) (by first | exact okI_of _ | exact okI_b _ | exact okI_sgz _ _ | assumption | (unfold okI; omega)) (fun c150 => ?_) (fun c150 => ?_)
                · have hfin : prtE (q.2 ++ [q.1.length]) L = (q.2 ++ [q.1.length]).take (m + 1) := by unfold prtE; rw [if_pos ⟨c124, hB2.mp c129⟩, ← h1 ⟨c124, c129⟩, loe, if_neg (by omega)]
                  refine j_aload_n h 1 dX4_part_166 rfl rfl ?_
                  refine jy_MpieceMany h a_f_X4_138 dX4_part_167 ?_
                  have hqQ : prtQ (A.1 (sw a)) x L = (q.1, (q.2 ++ [q.1.length]).take (m + 1)) := by unfold prtQ prtA prtP; rw [← hq0]; exact congrArg (Prod.mk q.1) hfin
                  have hml : ((q.2 ++ [q.1.length]).take (m + 1)).length = m + 1 := by rw [List.length_take]; omega
                  have hokQ := okP_prtQ (A.1 (sw a)) x L (by omega)
                  rw [hqQ] at hokQ
                  have e : paA A a x L = (((m + 1 : Nat) : Int), aP A (q.1, (q.2 ++ [q.1.length]).take (m + 1))) := by unfold paA; rw [if_pos ⟨c4, c11⟩, hqQ]; exact congrArg (fun k : Nat => ((k : Int), aP A (q.1, (q.2 ++ [q.1.length]).take (m + 1)))) hml
                  rw [e] at hq
                  have hMR : MR F2 (aP A (q.1, (q.2 ++ [q.1.length]).take (m + 1)), mk) := ⟨by rw [hFB 0 (by omega) (by omega) (by omega), hFB 1 (by omega) (by omega) (by omega)]; exact hF.1, PI_take hla hP3 hm h22, fun i hi => by rw [hFB 5 (by omega) (by omega) (by omega), hFB 6 (by omega) (by omega) (by omega), hFB 7 (by omega) (by omega) (by omega), hFB 8 (by omega) (by omega) (by omega), hFB 9 (by omega) (by omega) (by omega), hFB 10 (by omega) (by omega) (by omega)]; exact hF.2.2.1 i hi, by rw [hFB 11 (by omega) (by omega) (by omega)]; exact hF.2.2.2.1, hokQ, hok.2⟩
                  have hq := fnX (aP A (q.1, (q.2 ++ [q.1.length]).take (m + 1)), mk) (congrArg (fun k : Nat => iI (k : Int)) hml.symm) rfl hMR (fnM mk hq)
                  exact j_iret h hq rfl dX4_part_170
                · refine j_aload_n h 1 dX4_part_153 rfl rfl ?_
                  refine j_dup h dX4_part_154 rfl ?_
                  refine jy_MpieceMany h a_f_X4_138 dX4_part_155 ?_
                  refine j_iconst h dX4_part_158 ?_
                  refine j_isub h dX4_part_159 ?_
                  refine jy_put_pieceMany h a_f_X4_138 dX4_part_160 ?_
                  refine j_goto h 123 dX4_part_163 (by decide) ?_
                  refine j_S (S2 := (F2, iI (m : Nat), iI mk.length)) (by rw [show (((m + 1 : Nat) : Int) - 1) = (m : Int) by omega]) ?_
                  exact ih2 m (by omega) (by omega) (fun w => by rw [← h1 w, loe, if_pos (by omega)]) (Or.inr ⟨c124, c129⟩)
        · obtain ⟨B, hB, hB2⟩ : ∃ B : Bool, iI (bI B) = iI 1 ∧ (B = true ↔ 1 < (q.2 ++ [q.1.length]).length) := ⟨true, rfl, ⟨fun _ => by omega, fun _ => rfl⟩⟩
          refine j_iconst h dX4_part_116 ?_
          refine j_goto h 121 dX4_part_117 (by decide) ?_
          refine j_istore h [(5, _), (4, _), (0, _), (1, _), (2, _), (3, _)] dX4_part_121 (by decide) rfl ?_
          refine j_sub [0, 2, 5] rfl ?_
          refine j_lv (lv2 := [(5, .int (iI (bI B))), (0, eA E 76), (3, .int (iI L))]) (by rw [hB]; rfl) ?_
          have hokQ1 : q.1.length ≤ 300 := by have := (prtP_ok (A.1 (sw a)) (iI x) L).2.2; unfold prtA at this; rw [← hq0] at this; omega
          refine lpA1 (fun m : Nat => m) (fun m : Nat => m ≤ (q.2 ++ [q.1.length]).length → (L = 0 ∧ B = true → loe (q.2 ++ [q.1.length]) m = loe (q.2 ++ [q.1.length]) (q.2 ++ [q.1.length]).length) → (m = (q.2 ++ [q.1.length]).length ∨ (L = 0 ∧ B = true)) → JL E (RX E g0) X 123 [(5, .int (iI (bI B))), (0, eA E 76), (3, .int (iI L))] [] (F2, iI m, iI mk.length)) (fun m ih2 hm h1 h2 => ?_) (q.2 ++ [q.1.length]).length (Nat.le_refl _) (fun _ => rfl) (Or.inl rfl)
          refine j_iload_n h 2 dX4_part_123 rfl rfl ?_
          refine j_if_ne h 166 dX4_part_124 (by decide) (by first | exact okI_of _ | exact okI_b _ | exact okI_sgz _ _ | assumption | (unfold okI; omega)) (fun c124 => ?_) (fun c124 => ?_)
          · have hfin : prtE (q.2 ++ [q.1.length]) L = (q.2 ++ [q.1.length]).take m := by unfold prtE; rw [if_neg (fun w => c124 w.1), show m = (q.2 ++ [q.1.length]).length by omega, List.take_length]
            refine j_aload_n h 1 dX4_part_166 rfl rfl ?_
            refine jy_MpieceMany h a_f_X4_138 dX4_part_167 ?_
            have hqQ : prtQ (A.1 (sw a)) x L = (q.1, (q.2 ++ [q.1.length]).take (m)) := by unfold prtQ prtA prtP; rw [← hq0]; exact congrArg (Prod.mk q.1) hfin
            have hml : ((q.2 ++ [q.1.length]).take (m)).length = m := by rw [List.length_take]; omega
            have hokQ := okP_prtQ (A.1 (sw a)) x L (by omega)
            rw [hqQ] at hokQ
            have e : paA A a x L = (((m : Nat) : Int), aP A (q.1, (q.2 ++ [q.1.length]).take (m))) := by unfold paA; rw [if_pos ⟨c4, c11⟩, hqQ]; exact congrArg (fun k : Nat => ((k : Int), aP A (q.1, (q.2 ++ [q.1.length]).take (m)))) hml
            rw [e] at hq
            have hMR : MR F2 (aP A (q.1, (q.2 ++ [q.1.length]).take (m)), mk) := ⟨by rw [hFB 0 (by omega) (by omega) (by omega), hFB 1 (by omega) (by omega) (by omega)]; exact hF.1, PI_take hla hP3 hm h22, fun i hi => by rw [hFB 5 (by omega) (by omega) (by omega), hFB 6 (by omega) (by omega) (by omega), hFB 7 (by omega) (by omega) (by omega), hFB 8 (by omega) (by omega) (by omega), hFB 9 (by omega) (by omega) (by omega), hFB 10 (by omega) (by omega) (by omega)]; exact hF.2.2.1 i hi, by rw [hFB 11 (by omega) (by omega) (by omega)]; exact hF.2.2.2.1, hokQ, hok.2⟩
            have hq := fnX (aP A (q.1, (q.2 ++ [q.1.length]).take (m)), mk) (congrArg (fun k : Nat => iI (k : Int)) hml.symm) rfl hMR (fnM mk hq)
            exact j_iret h hq rfl dX4_part_170
          · refine j_iload h 0 dX4_part_127 rfl ?_
            refine j_if_eq h 166 dX4_part_129 (by decide) (by first | exact okI_of _ | exact okI_b _ | exact okI_sgz _ _ | assumption | (unfold okI; omega)) (fun c129 => ?_) (fun c129 => ?_)
            · rw [bI_0] at c129
              have hfin : prtE (q.2 ++ [q.1.length]) L = (q.2 ++ [q.1.length]).take m := by unfold prtE; rw [if_neg (fun w => by have := hB2.mpr w.2; rw [c129] at this; cases this), show m = (q.2 ++ [q.1.length]).length from h2.elim id (fun w => by have := w.2; rw [c129] at this; cases this), List.take_length]
              refine j_aload_n h 1 dX4_part_166 rfl rfl ?_
              refine jy_MpieceMany h a_f_X4_138 dX4_part_167 ?_
              have hqQ : prtQ (A.1 (sw a)) x L = (q.1, (q.2 ++ [q.1.length]).take (m)) := by unfold prtQ prtA prtP; rw [← hq0]; exact congrArg (Prod.mk q.1) hfin
              have hml : ((q.2 ++ [q.1.length]).take (m)).length = m := by rw [List.length_take]; omega
              have hokQ := okP_prtQ (A.1 (sw a)) x L (by omega)
              rw [hqQ] at hokQ
              have e : paA A a x L = (((m : Nat) : Int), aP A (q.1, (q.2 ++ [q.1.length]).take (m))) := by unfold paA; rw [if_pos ⟨c4, c11⟩, hqQ]; exact congrArg (fun k : Nat => ((k : Int), aP A (q.1, (q.2 ++ [q.1.length]).take (m)))) hml
              rw [e] at hq
              have hMR : MR F2 (aP A (q.1, (q.2 ++ [q.1.length]).take (m)), mk) := ⟨by rw [hFB 0 (by omega) (by omega) (by omega), hFB 1 (by omega) (by omega) (by omega)]; exact hF.1, PI_take hla hP3 hm h22, fun i hi => by rw [hFB 5 (by omega) (by omega) (by omega), hFB 6 (by omega) (by omega) (by omega), hFB 7 (by omega) (by omega) (by omega), hFB 8 (by omega) (by omega) (by omega), hFB 9 (by omega) (by omega) (by omega), hFB 10 (by omega) (by omega) (by omega)]; exact hF.2.2.1 i hi, by rw [hFB 11 (by omega) (by omega) (by omega)]; exact hF.2.2.2.1, hokQ, hok.2⟩
              have hq := fnX (aP A (q.1, (q.2 ++ [q.1.length]).take (m)), mk) (congrArg (fun k : Nat => iI (k : Int)) hml.symm) rfl hMR (fnM mk hq)
              exact j_iret h hq rfl dX4_part_170
            · rw [bI_n0] at c129
              refine j_aload_n h 1 dX4_part_132 rfl rfl ?_
              refine jy_MpieceMany h a_f_X4_138 dX4_part_133 ?_
              refine j_if_le h 166 dX4_part_136 (by decide) (by first | exact okI_of _ | exact okI_b _ | exact okI_sgz _ _ | assumption | (unfold okI; omega)) (fun c136 => ?_) (fun c136 => ?_)
              · have hfin : prtE (q.2 ++ [q.1.length]) L = (q.2 ++ [q.1.length]).take m := by unfold prtE; rw [if_pos ⟨c124, hB2.mp c129⟩, ← h1 ⟨c124, c129⟩, show m = 0 by omega]; rfl
                refine j_aload_n h 1 dX4_part_166 rfl rfl ?_
                refine jy_MpieceMany h a_f_X4_138 dX4_part_167 ?_
                have hqQ : prtQ (A.1 (sw a)) x L = (q.1, (q.2 ++ [q.1.length]).take (m)) := by unfold prtQ prtA prtP; rw [← hq0]; exact congrArg (Prod.mk q.1) hfin
                have hml : ((q.2 ++ [q.1.length]).take (m)).length = m := by rw [List.length_take]; omega
                have hokQ := okP_prtQ (A.1 (sw a)) x L (by omega)
                rw [hqQ] at hokQ
                have e : paA A a x L = (((m : Nat) : Int), aP A (q.1, (q.2 ++ [q.1.length]).take (m))) := by unfold paA; rw [if_pos ⟨c4, c11⟩, hqQ]; exact congrArg (fun k : Nat => ((k : Int), aP A (q.1, (q.2 ++ [q.1.length]).take (m)))) hml
                rw [e] at hq
                have hMR : MR F2 (aP A (q.1, (q.2 ++ [q.1.length]).take (m)), mk) := ⟨by rw [hFB 0 (by omega) (by omega) (by omega), hFB 1 (by omega) (by omega) (by omega)]; exact hF.1, PI_take hla hP3 hm h22, fun i hi => by rw [hFB 5 (by omega) (by omega) (by omega), hFB 6 (by omega) (by omega) (by omega), hFB 7 (by omega) (by omega) (by omega), hFB 8 (by omega) (by omega) (by omega), hFB 9 (by omega) (by omega) (by omega), hFB 10 (by omega) (by omega) (by omega)]; exact hF.2.2.1 i hi, by rw [hFB 11 (by omega) (by omega) (by omega)]; exact hF.2.2.2.1, hokQ, hok.2⟩
                have hq := fnX (aP A (q.1, (q.2 ++ [q.1.length]).take (m)), mk) (congrArg (fun k : Nat => iI (k : Int)) hml.symm) rfl hMR (fnM mk hq)
                exact j_iret h hq rfl dX4_part_170
              · obtain ⟨m, rfl⟩ : ∃ m2, m = m2 + 1 := ⟨m - 1, by omega⟩
                obtain ⟨r4, _, hs4, _, _⟩ := hP3.2.2.2.2 m (by show m < (q.2 ++ [q.1.length]).length; omega)
                have hs5 : F2 4 m = iI (eg (q.2 ++ [q.1.length]) m - stN (q.2 ++ [q.1.length]) m : Nat) := hs4
                have hek := hP3.1 m (by show m < (q.2 ++ [q.1.length]).length; omega)
                have hek2 : stN (q.2 ++ [q.1.length]) m ≤ eg (q.2 ++ [q.1.length]) m ∧ eg (q.2 ++ [q.1.length]) m ≤ q.1.length := hek
                have hq1l : q.1.length ≤ 300 := by have := hPI.2.2.1; have := stN_le hPI.1 (Nat.le_refl _); have := hokQ1; omega
                refine j_aload_n h 1 dX4_part_139 rfl rfl ?_
                refine jy_MpieceSizes h a_f_X4_22 dX4_part_140 ?_
                refine j_aload_n h 1 dX4_part_143 rfl rfl ?_
                refine jy_MpieceMany h a_f_X4_138 dX4_part_144 ?_
                refine j_iconst h dX4_part_147 ?_
                refine j_isub h dX4_part_148 ?_
                refine jy_ld h (by omega) (by omega) (by omega) dX4_part_149 ?_
                refine j_top (y := iI (eg (q.2 ++ [q.1.length]) m - stN (q.2 ++ [q.1.length]) m : Nat)) (by rw [show (((m + 1 : Nat) : Int) - 1).toNat = m by omega]; exact hs5) ?_
                refine j_if_ne h 166 dX4_part_150 (by decide) (by first | exact okI_of _ | exact okI_b _ | exact okI_sgz _ _ | assumption | (unfold okI; omega)) (fun c150 => ?_) (fun c150 => ?_)
                · have hfin : prtE (q.2 ++ [q.1.length]) L = (q.2 ++ [q.1.length]).take (m + 1) := by unfold prtE; rw [if_pos ⟨c124, hB2.mp c129⟩, ← h1 ⟨c124, c129⟩, loe, if_neg (by omega)]
                  refine j_aload_n h 1 dX4_part_166 rfl rfl ?_
                  refine jy_MpieceMany h a_f_X4_138 dX4_part_167 ?_
                  have hqQ : prtQ (A.1 (sw a)) x L = (q.1, (q.2 ++ [q.1.length]).take (m + 1)) := by unfold prtQ prtA prtP; rw [← hq0]; exact congrArg (Prod.mk q.1) hfin
                  have hml : ((q.2 ++ [q.1.length]).take (m + 1)).length = m + 1 := by rw [List.length_take]; omega
                  have hokQ := okP_prtQ (A.1 (sw a)) x L (by omega)
                  rw [hqQ] at hokQ
                  have e : paA A a x L = (((m + 1 : Nat) : Int), aP A (q.1, (q.2 ++ [q.1.length]).take (m + 1))) := by unfold paA; rw [if_pos ⟨c4, c11⟩, hqQ]; exact congrArg (fun k : Nat => ((k : Int), aP A (q.1, (q.2 ++ [q.1.length]).take (m + 1)))) hml
                  rw [e] at hq
                  have hMR : MR F2 (aP A (q.1, (q.2 ++ [q.1.length]).take (m + 1)), mk) := ⟨by rw [hFB 0 (by omega) (by omega) (by omega), hFB 1 (by omega) (by omega) (by omega)]; exact hF.1, PI_take hla hP3 hm h22, fun i hi => by rw [hFB 5 (by omega) (by omega) (by omega), hFB 6 (by omega) (by omega) (by omega), hFB 7 (by omega) (by omega) (by omega), hFB 8 (by omega) (by omega) (by omega), hFB 9 (by omega) (by omega) (by omega), hFB 10 (by omega) (by omega) (by omega)]; exact hF.2.2.1 i hi, by rw [hFB 11 (by omega) (by omega) (by omega)]; exact hF.2.2.2.1, hokQ, hok.2⟩
                  have hq := fnX (aP A (q.1, (q.2 ++ [q.1.length]).take (m + 1)), mk) (congrArg (fun k : Nat => iI (k : Int)) hml.symm) rfl hMR (fnM mk hq)
                  exact j_iret h hq rfl dX4_part_170
                · refine j_aload_n h 1 dX4_part_153 rfl rfl ?_
                  refine j_dup h dX4_part_154 rfl ?_
                  refine jy_MpieceMany h a_f_X4_138 dX4_part_155 ?_
                  refine j_iconst h dX4_part_158 ?_
                  refine j_isub h dX4_part_159 ?_
                  refine jy_put_pieceMany h a_f_X4_138 dX4_part_160 ?_
                  refine j_goto h 123 dX4_part_163 (by decide) ?_
                  refine j_S (S2 := (F2, iI (m : Nat), iI mk.length)) (by rw [show (((m + 1 : Nat) : Int) - 1) = (m : Int) by omega]) ?_
                  exact ih2 m (by omega) (by omega) (fun w => by rw [← h1 w, loe, if_pos (by omega)]) (Or.inr ⟨c124, c129⟩)
      · refine j_aload_n h 2 dX4_part_38 rfl rfl ?_
        refine jy_Mparted h a_f_X4_16 dX4_part_39 ?_
        refine j_iload h 0 dX4_part_42 rfl ?_
        refine j_aload_n h 2 dX4_part_44 rfl rfl ?_
        refine j_iload_n h 3 dX4_part_45 rfl rfl ?_
        refine j_iload h 0 dX4_part_46 rfl ?_
        refine j_callV h (x_signAt hE hx1 ha h0 (by omega)) m_X4_signAt a_l_X4_58 rfl rfl ⟨Nat.le_of_ble_eq_true rfl, Nat.le_of_ble_eq_true rfl⟩ (ci := 4) rfl (by omega) (rcX) rfl rfl (Nat.le_of_ble_eq_true rfl) dX4_part_48 ?_
        refine jy_st h (by omega) (by omega) (by omega) dX4_part_51 ?_
        have hg2 : ∀ j, j < (z + 1).toNat → upd (F1 2) z.toNat (gz (A.1 (sw a)) z.toNat) j = gz (A.1 (sw a)) j := fun j hj => by unfold upd; by_cases w : j = z.toNat; rw [if_pos w, w]; rw [if_neg w]; exact hF2x j (by omega)
        refine j_aload_n h 2 dX4_part_52 rfl rfl ?_
        refine jy_Mparted h a_f_X4_16 dX4_part_53 ?_
        refine j_iload h 0 dX4_part_56 rfl ?_
        refine jy_ld h (by omega) (by omega) (by omega) dX4_part_58 ?_
        refine j_top (y := gz (A.1 (sw a)) z.toNat) (by rw [va_up_self]; exact if_pos rfl) ?_
        refine j_iload_n h 4 dX4_part_59 rfl rfl ?_
        refine j_rcmp_ne h 91 dX4_part_60 (by decide) (fun c60 => ?_) (fun c60 => ?_)
        · have hsg : ¬ (gz (A.1 (sw a)) z.toNat = iI x ∧ (L ≤ 0 ∨ (q.2.length : Int) < L - 1)) := fun w => c60 w.1
          rw [show (((A.1 (sw a)).length : Int) - z).toNat = (((A.1 (sw a)).length : Int) - (z + 1)).toNat + 1 by omega, prt, if_neg hsg, show z.toNat + 1 = (z + 1).toNat by omega] at hv
          refine j_iinc h 0 [(5, _), (4, _), (0, _), (1, _), (2, _), (3, _)] dX4_part_91 rfl (by decide) rfl ?_
          refine j_goto h 28 dX4_part_94 (by decide) ?_
          first | (have hsg2 := hsg; exact ih (z + 1) r (q.1 ++ [gz (A.1 (sw a)) z.toNat], q.2) (va_up F1 2 (upd (F1 2) z.toNat (gz (A.1 (sw a)) z.toNat))) (by omega) (by omega) (by omega) hr0 (by omega) (fun k k2 k3 k4 => (va_up_ne _ _ k2).trans (hF1 k k2 k3 k4)) hg2 (by show q.2.length ≤ (z + 1).toNat; omega) (by rw [show (z + 1).toNat = z.toNat + 1 by omega]; exact PI_sign hPI) hv) | (refine j_S (S2 := ((va_up (va_up (va_up F1 2 (upd (F1 2) z.toNat (gz (A.1 (sw a)) z.toNat))) 3 (upd ((va_up F1 2 (upd (F1 2) z.toNat (gz (A.1 (sw a)) z.toNat))) 3) (q.2.length : Int).toNat (iI r))) 4 (upd ((va_up (va_up F1 2 (upd (F1 2) z.toNat (gz (A.1 (sw a)) z.toNat))) 3 (upd ((va_up F1 2 (upd (F1 2) z.toNat (gz (A.1 (sw a)) z.toNat))) 3) (q.2.length : Int).toNat (iI r))) 4) (q.2.length : Int).toNat (iI (z - r)))), iI ((q.2 ++ [q.1.length]).length : Nat), iI mk.length)) (by rw [show ((q.2 ++ [q.1.length]).length : Int) = (q.2.length : Int) + 1 by simp]) ?_; exact ih (z + 1) (z + 1) (q.1, (q.2 ++ [q.1.length])) (va_up (va_up (va_up F1 2 (upd (F1 2) z.toNat (gz (A.1 (sw a)) z.toNat))) 3 (upd ((va_up F1 2 (upd (F1 2) z.toNat (gz (A.1 (sw a)) z.toNat))) 3) (q.2.length : Int).toNat (iI r))) 4 (upd ((va_up (va_up F1 2 (upd (F1 2) z.toNat (gz (A.1 (sw a)) z.toNat))) 3 (upd ((va_up F1 2 (upd (F1 2) z.toNat (gz (A.1 (sw a)) z.toNat))) 3) (q.2.length : Int).toNat (iI r))) 4) (q.2.length : Int).toNat (iI (z - r)))) (by omega) (by omega) (by omega) (by omega) (by omega) (fun k k2 k3 k4 => ((va_up_ne _ _ k4).trans ((va_up_ne _ _ k3).trans (va_up_ne _ _ k2))).trans (hF1 k k2 k3 k4)) hg2 (by show (q.2 ++ [q.1.length]).length ≤ (z + 1).toNat; simp only [List.length_append, List.length_cons, List.length_nil]; omega) (by rw [show (z + 1).toNat = z.toNat + 1 by omega]; exact PI_skip hend) hv)
        · refine j_iload_n h 5 dX4_part_63 rfl rfl ?_
          refine j_if_le h 77 dX4_part_64 (by decide) (by first | exact okI_of _ | exact okI_b _ | exact okI_sgz _ _ | assumption | (unfold okI; omega)) (fun c64 => ?_) (fun c64 => ?_)
          · refine j_aload_n h 2 dX4_part_77 rfl rfl ?_
            refine j_iload h 1 dX4_part_78 rfl ?_
            refine j_iload h 0 dX4_part_80 rfl ?_
            refine j_callVv h (c_X4_addPiece hE (pm := q.2.length) (by omega)) m_X4_addPiece a_l_X4_144 rfl rfl ⟨Nat.le_of_ble_eq_true rfl, Nat.le_of_ble_eq_true rfl⟩ (ci := 4) rfl (by omega) (rcX) rfl rfl (Nat.le_of_ble_eq_true rfl) dX4_part_82 ?_
            have hcl : (gz (A.1 (sw a)) z.toNat = iI x ∧ (L ≤ 0 ∨ (q.2.length : Int) < L - 1)) := ⟨c60, by omega⟩
            rw [show (((A.1 (sw a)).length : Int) - z).toNat = (((A.1 (sw a)).length : Int) - (z + 1)).toNat + 1 by omega, prt, if_pos hcl, show z.toNat + 1 = (z + 1).toNat by omega] at hv
            have hend := PI_end hPI
            rw [show ((r.toNat : Nat) : Int) = r by omega, show ((z.toNat - r.toNat : Nat) : Int) = z - r by omega] at hend
            refine j_iload h 0 dX4_part_85 rfl ?_
            refine j_iconst h dX4_part_87 ?_
            refine j_iadd h dX4_part_88 ?_
            refine j_istore h [(4, _), (5, _), (0, _), (1, _), (2, _), (3, _)] dX4_part_89 (by decide) rfl ?_
            refine j_iinc h 1 [(5, _), (4, _), (0, _), (1, _), (2, _), (3, _)] dX4_part_91 rfl (by decide) rfl ?_
            refine j_goto h 28 dX4_part_94 (by decide) ?_
            first | (have hsg2 := hsg; exact ih (z + 1) r (q.1 ++ [gz (A.1 (sw a)) z.toNat], q.2) (va_up F1 2 (upd (F1 2) z.toNat (gz (A.1 (sw a)) z.toNat))) (by omega) (by omega) (by omega) hr0 (by omega) (fun k k2 k3 k4 => (va_up_ne _ _ k2).trans (hF1 k k2 k3 k4)) hg2 (by show q.2.length ≤ (z + 1).toNat; omega) (by rw [show (z + 1).toNat = z.toNat + 1 by omega]; exact PI_sign hPI) hv) | (refine j_S (S2 := ((va_up (va_up (va_up F1 2 (upd (F1 2) z.toNat (gz (A.1 (sw a)) z.toNat))) 3 (upd ((va_up F1 2 (upd (F1 2) z.toNat (gz (A.1 (sw a)) z.toNat))) 3) (q.2.length : Int).toNat (iI r))) 4 (upd ((va_up (va_up F1 2 (upd (F1 2) z.toNat (gz (A.1 (sw a)) z.toNat))) 3 (upd ((va_up F1 2 (upd (F1 2) z.toNat (gz (A.1 (sw a)) z.toNat))) 3) (q.2.length : Int).toNat (iI r))) 4) (q.2.length : Int).toNat (iI (z - r)))), iI ((q.2 ++ [q.1.length]).length : Nat), iI mk.length)) (by rw [show ((q.2 ++ [q.1.length]).length : Int) = (q.2.length : Int) + 1 by simp]) ?_; exact ih (z + 1) (z + 1) (q.1, (q.2 ++ [q.1.length])) (va_up (va_up (va_up F1 2 (upd (F1 2) z.toNat (gz (A.1 (sw a)) z.toNat))) 3 (upd ((va_up F1 2 (upd (F1 2) z.toNat (gz (A.1 (sw a)) z.toNat))) 3) (q.2.length : Int).toNat (iI r))) 4 (upd ((va_up (va_up F1 2 (upd (F1 2) z.toNat (gz (A.1 (sw a)) z.toNat))) 3 (upd ((va_up F1 2 (upd (F1 2) z.toNat (gz (A.1 (sw a)) z.toNat))) 3) (q.2.length : Int).toNat (iI r))) 4) (q.2.length : Int).toNat (iI (z - r)))) (by omega) (by omega) (by omega) (by omega) (by omega) (fun k k2 k3 k4 => ((va_up_ne _ _ k4).trans ((va_up_ne _ _ k3).trans (va_up_ne _ _ k2))).trans (hF1 k k2 k3 k4)) hg2 (by show (q.2 ++ [q.1.length]).length ≤ (z + 1).toNat; simp only [List.length_append, List.length_cons, List.length_nil]; omega) (by rw [show (z + 1).toNat = z.toNat + 1 by omega]; exact PI_skip hend) hv)
          · refine j_aload_n h 2 dX4_part_67 rfl rfl ?_
            refine jy_MpieceMany h a_f_X4_138 dX4_part_68 ?_
            refine j_iload_n h 5 dX4_part_71 rfl rfl ?_
            refine j_iconst h dX4_part_72 ?_
            refine j_isub h dX4_part_73 ?_
            refine j_icmp_ge h 91 dX4_part_74 (by decide) (by first | exact okI_of _ | exact okI_b _ | exact okI_sgz _ _ | assumption | (unfold okI; omega)) (by first | exact okI_of _ | exact okI_b _ | exact okI_sgz _ _ | assumption | (unfold okI; omega)) (fun c74 => ?_) (fun c74 => ?_)
            · have hsg : ¬ (gz (A.1 (sw a)) z.toNat = iI x ∧ (L ≤ 0 ∨ (q.2.length : Int) < L - 1)) := fun w => by have := w.2; omega
              rw [show (((A.1 (sw a)).length : Int) - z).toNat = (((A.1 (sw a)).length : Int) - (z + 1)).toNat + 1 by omega, prt, if_neg hsg, show z.toNat + 1 = (z + 1).toNat by omega] at hv
              refine j_iinc h 0 [(5, _), (4, _), (0, _), (1, _), (2, _), (3, _)] dX4_part_91 rfl (by decide) rfl ?_
              refine j_goto h 28 dX4_part_94 (by decide) ?_
              first | (have hsg2 := hsg; exact ih (z + 1) r (q.1 ++ [gz (A.1 (sw a)) z.toNat], q.2) (va_up F1 2 (upd (F1 2) z.toNat (gz (A.1 (sw a)) z.toNat))) (by omega) (by omega) (by omega) hr0 (by omega) (fun k k2 k3 k4 => (va_up_ne _ _ k2).trans (hF1 k k2 k3 k4)) hg2 (by show q.2.length ≤ (z + 1).toNat; omega) (by rw [show (z + 1).toNat = z.toNat + 1 by omega]; exact PI_sign hPI) hv) | (refine j_S (S2 := ((va_up (va_up (va_up F1 2 (upd (F1 2) z.toNat (gz (A.1 (sw a)) z.toNat))) 3 (upd ((va_up F1 2 (upd (F1 2) z.toNat (gz (A.1 (sw a)) z.toNat))) 3) (q.2.length : Int).toNat (iI r))) 4 (upd ((va_up (va_up F1 2 (upd (F1 2) z.toNat (gz (A.1 (sw a)) z.toNat))) 3 (upd ((va_up F1 2 (upd (F1 2) z.toNat (gz (A.1 (sw a)) z.toNat))) 3) (q.2.length : Int).toNat (iI r))) 4) (q.2.length : Int).toNat (iI (z - r)))), iI ((q.2 ++ [q.1.length]).length : Nat), iI mk.length)) (by rw [show ((q.2 ++ [q.1.length]).length : Int) = (q.2.length : Int) + 1 by simp]) ?_; exact ih (z + 1) (z + 1) (q.1, (q.2 ++ [q.1.length])) (va_up (va_up (va_up F1 2 (upd (F1 2) z.toNat (gz (A.1 (sw a)) z.toNat))) 3 (upd ((va_up F1 2 (upd (F1 2) z.toNat (gz (A.1 (sw a)) z.toNat))) 3) (q.2.length : Int).toNat (iI r))) 4 (upd ((va_up (va_up F1 2 (upd (F1 2) z.toNat (gz (A.1 (sw a)) z.toNat))) 3 (upd ((va_up F1 2 (upd (F1 2) z.toNat (gz (A.1 (sw a)) z.toNat))) 3) (q.2.length : Int).toNat (iI r))) 4) (q.2.length : Int).toNat (iI (z - r)))) (by omega) (by omega) (by omega) (by omega) (by omega) (fun k k2 k3 k4 => ((va_up_ne _ _ k4).trans ((va_up_ne _ _ k3).trans (va_up_ne _ _ k2))).trans (hF1 k k2 k3 k4)) hg2 (by show (q.2 ++ [q.1.length]).length ≤ (z + 1).toNat; simp only [List.length_append, List.length_cons, List.length_nil]; omega) (by rw [show (z + 1).toNat = z.toNat + 1 by omega]; exact PI_skip hend) hv)
            · refine j_aload_n h 2 dX4_part_77 rfl rfl ?_
              refine j_iload h 1 dX4_part_78 rfl ?_
              refine j_iload h 0 dX4_part_80 rfl ?_
              refine j_callVv h (c_X4_addPiece hE (pm := q.2.length) (by omega)) m_X4_addPiece a_l_X4_144 rfl rfl ⟨Nat.le_of_ble_eq_true rfl, Nat.le_of_ble_eq_true rfl⟩ (ci := 4) rfl (by omega) (rcX) rfl rfl (Nat.le_of_ble_eq_true rfl) dX4_part_82 ?_
              have hcl : (gz (A.1 (sw a)) z.toNat = iI x ∧ (L ≤ 0 ∨ (q.2.length : Int) < L - 1)) := ⟨c60, by omega⟩
              rw [show (((A.1 (sw a)).length : Int) - z).toNat = (((A.1 (sw a)).length : Int) - (z + 1)).toNat + 1 by omega, prt, if_pos hcl, show z.toNat + 1 = (z + 1).toNat by omega] at hv
              have hend := PI_end hPI
              rw [show ((r.toNat : Nat) : Int) = r by omega, show ((z.toNat - r.toNat : Nat) : Int) = z - r by omega] at hend
              refine j_iload h 0 dX4_part_85 rfl ?_
              refine j_iconst h dX4_part_87 ?_
              refine j_iadd h dX4_part_88 ?_
              refine j_istore h [(4, _), (5, _), (0, _), (1, _), (2, _), (3, _)] dX4_part_89 (by decide) rfl ?_
              refine j_iinc h 1 [(5, _), (4, _), (0, _), (1, _), (2, _), (3, _)] dX4_part_91 rfl (by decide) rfl ?_
              refine j_goto h 28 dX4_part_94 (by decide) ?_
              first | (have hsg2 := hsg; exact ih (z + 1) r (q.1 ++ [gz (A.1 (sw a)) z.toNat], q.2) (va_up F1 2 (upd (F1 2) z.toNat (gz (A.1 (sw a)) z.toNat))) (by omega) (by omega) (by omega) hr0 (by omega) (fun k k2 k3 k4 => (va_up_ne _ _ k2).trans (hF1 k k2 k3 k4)) hg2 (by show q.2.length ≤ (z + 1).toNat; omega) (by rw [show (z + 1).toNat = z.toNat + 1 by omega]; exact PI_sign hPI) hv) | (refine j_S (S2 := ((va_up (va_up (va_up F1 2 (upd (F1 2) z.toNat (gz (A.1 (sw a)) z.toNat))) 3 (upd ((va_up F1 2 (upd (F1 2) z.toNat (gz (A.1 (sw a)) z.toNat))) 3) (q.2.length : Int).toNat (iI r))) 4 (upd ((va_up (va_up F1 2 (upd (F1 2) z.toNat (gz (A.1 (sw a)) z.toNat))) 3 (upd ((va_up F1 2 (upd (F1 2) z.toNat (gz (A.1 (sw a)) z.toNat))) 3) (q.2.length : Int).toNat (iI r))) 4) (q.2.length : Int).toNat (iI (z - r)))), iI ((q.2 ++ [q.1.length]).length : Nat), iI mk.length)) (by rw [show ((q.2 ++ [q.1.length]).length : Int) = (q.2.length : Int) + 1 by simp]) ?_; exact ih (z + 1) (z + 1) (q.1, (q.2 ++ [q.1.length])) (va_up (va_up (va_up F1 2 (upd (F1 2) z.toNat (gz (A.1 (sw a)) z.toNat))) 3 (upd ((va_up F1 2 (upd (F1 2) z.toNat (gz (A.1 (sw a)) z.toNat))) 3) (q.2.length : Int).toNat (iI r))) 4 (upd ((va_up (va_up F1 2 (upd (F1 2) z.toNat (gz (A.1 (sw a)) z.toNat))) 3 (upd ((va_up F1 2 (upd (F1 2) z.toNat (gz (A.1 (sw a)) z.toNat))) 3) (q.2.length : Int).toNat (iI r))) 4) (q.2.length : Int).toNat (iI (z - r)))) (by omega) (by omega) (by omega) (by omega) (by omega) (fun k k2 k3 k4 => ((va_up_ne _ _ k4).trans ((va_up_ne _ _ k3).trans (va_up_ne _ _ k2))).trans (hF1 k k2 k3 k4)) hg2 (by show (q.2 ++ [q.1.length]).length ≤ (z + 1).toNat; simp only [List.length_append, List.length_cons, List.length_nil]; omega) (by rw [show (z + 1).toNat = z.toNat + 1 by omega]; exact PI_skip hend) hv)
    · rw [bI_n0] at c11
      refine j_ldc h (-1000001) a_k_X4_74 (by decide) dX4_part_14 ?_
      have e : paA A a x L = (-1000001, A) := by unfold paA; exact if_neg (fun w => by simp_all)
      rw [e] at hq
      have hq := fnX (A, mk) rfl rfl hF (fnM mk hq)
      exact j_iret h hq rfl dX4_part_16
