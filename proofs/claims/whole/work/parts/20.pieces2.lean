/-! Pieces, on -/
theorem take_eg {fs : List Nat} {k : Nat} (h : k < fs.length) : fs.take k ++ [eg fs k] = fs.take (k + 1) := by
  rw [List.take_succ]
  congr 1
  simp [eg, List.getD, h]
set_option maxHeartbeats 400000 in
set_option maxRecDepth 20000 in
theorem c_X1_leaveOutEmptyEnd {E : EV} (hE : EOK E) {S : SC} {g0 : GH} {p : Nat} (hp : p < 4) {es : List Nat} (hs : S.2.2 p = es) {n : Nat} (hok : eOK es n) (hn : n ≤ 300) : Ct E (RC E g0) yX1_leaveOutEmptyEnd wsX1_leaveOutEmptyEnd rX1_leaveOutEmptyEnd [eA E (66 + p)] S none (setE S p (es.take (loe es es.length))) := by
  refine ct_of [(0, _)] hE (by decide) rfl (Nat.le_of_ble_eq_true rfl) rfl (fun X h hq => ?_)
  refine j_of (fun G hG => (hG.2.1 p hp).2.1) (fun hle => ?_)
  rw [hs] at hle
  refine j_S (S2 := setE S p (es.take es.length)) (by rw [List.take_length, ← hs, setE_id]) ?_
  refine lpA1 (fun k : Nat => k) (fun k : Nat => k ≤ es.length → loe es k = loe es es.length → JL E (RC E g0) X 0 [(0, eA E (66 + p))] [] (setE S p (es.take k))) (fun k ih hk hv => ?_) es.length (Nat.le_refl _) rfl
  have hsk : (setE S p (es.take k)).2.2 p = es.take k := setE_2s _ _ _
  have hlk : (es.take k).length = k := by rw [List.length_take]; omega
  refine j_aload_n h 0 dX1_leaveOutEmptyEnd_0 rfl rfl ?_
  refine jx_Psize h hsk a_f_X1_24 (by omega) dX1_leaveOutEmptyEnd_1 ?_
  refine j_if_le h 43 dX1_leaveOutEmptyEnd_4 (by decide) (by first | exact okI_of _ | exact okI_b _ | exact okI_sgz _ _ | assumption | (unfold okI; omega)) (fun c4 => ?_) (fun c4 => ?_)
  · first | (rw [show es.take (loe es es.length) = es.take k by rw [← hv, show k = 0 by omega]; rfl] at hq; exact j_vret h hq rfl dX1_leaveOutEmptyEnd_43) | (rw [show es.take (loe es es.length) = es.take (m + 1) by rw [← hv, loe, if_neg (by omega)]] at hq; exact j_vret h hq rfl dX1_leaveOutEmptyEnd_43)
  · obtain ⟨m, rfl⟩ : ∃ m, k = m + 1 := ⟨k - 1, by omega⟩
    have hokk := hok m (by omega)
    have em : (((es.take (m + 1)).length : Int) - 1) = (m : Int) := by omega
    refine j_aload_n h 0 dX1_leaveOutEmptyEnd_7 rfl rfl ?_
    refine j_aload_n h 0 dX1_leaveOutEmptyEnd_8 rfl rfl ?_
    refine jx_Psize h hsk a_f_X1_24 (by omega) dX1_leaveOutEmptyEnd_9 ?_
    refine j_iconst h dX1_leaveOutEmptyEnd_12 ?_
    refine j_isub h dX1_leaveOutEmptyEnd_13 ?_
    refine j_callV h (c_X1_startOf hE hp hsk (by omega) (by omega)) m_X1_startOf a_l_X1_47 rfl rfl ⟨Nat.le_of_ble_eq_true rfl, Nat.le_of_ble_eq_true rfl⟩ (ci := 1) rfl (by omega) (rcP (by omega)) rfl rfl (Nat.le_of_ble_eq_true rfl) dX1_leaveOutEmptyEnd_14 ?_
    rw [em, enI_st (by omega), stN_take (by omega)]
    refine j_aload_n h 0 dX1_leaveOutEmptyEnd_17 rfl rfl ?_
    refine j_aload_n h 0 dX1_leaveOutEmptyEnd_18 rfl rfl ?_
    refine jx_Psize h hsk a_f_X1_24 (by omega) dX1_leaveOutEmptyEnd_19 ?_
    refine j_iconst h dX1_leaveOutEmptyEnd_22 ?_
    refine j_isub h dX1_leaveOutEmptyEnd_23 ?_
    refine j_callV h (c_X1_endOf hE hp hsk (by unfold okI; omega)) m_X1_endOf a_l_X1_50 rfl rfl ⟨Nat.le_of_ble_eq_true rfl, Nat.le_of_ble_eq_true rfl⟩ (ci := 1) rfl (by omega) (rcP (by omega)) rfl rfl (Nat.le_of_ble_eq_true rfl) dX1_leaveOutEmptyEnd_24 ?_
    rw [em, enI_en (by omega), eg_take (by omega)]
    refine j_icmp_ne h 43 dX1_leaveOutEmptyEnd_27 (by decide) (by first | exact okI_of _ | exact okI_b _ | exact okI_sgz _ _ | assumption | (unfold okI; omega)) (by first | exact okI_of _ | exact okI_b _ | exact okI_sgz _ _ | assumption | (unfold okI; omega)) (fun c27 => ?_) (fun c27 => ?_)
    · first | (rw [show es.take (loe es es.length) = es.take k by rw [← hv, show k = 0 by omega]; rfl] at hq; exact j_vret h hq rfl dX1_leaveOutEmptyEnd_43) | (rw [show es.take (loe es es.length) = es.take (m + 1) by rw [← hv, loe, if_neg (by omega)]] at hq; exact j_vret h hq rfl dX1_leaveOutEmptyEnd_43)
    · refine j_aload_n h 0 dX1_leaveOutEmptyEnd_30 rfl rfl ?_
      refine j_dup h dX1_leaveOutEmptyEnd_31 rfl ?_
      refine jx_Psize h hsk a_f_X1_24 (by omega) dX1_leaveOutEmptyEnd_32 ?_
      refine j_iconst h dX1_leaveOutEmptyEnd_35 ?_
      refine j_isub h dX1_leaveOutEmptyEnd_36 ?_
      refine j_Pput h m em hsk (by omega) a_f_X1_24 hp dX1_leaveOutEmptyEnd_37 ?_
      refine j_S (S2 := setE S p (es.take m)) (by rw [setE_E, List.take_take, Nat.min_eq_left (by omega)]) ?_
      refine j_goto h 0 dX1_leaveOutEmptyEnd_40 (by decide) ?_
      exact ih m (by omega) (by omega) (by rw [loe, if_pos (by omega)] at hv; exact hv)
set_option maxHeartbeats 400000 in
set_option maxRecDepth 20000 in
theorem c_X1_become {E : EV} (hE : EOK E) {S : SC} {g0 : GH} {p : Nat} (hp : p < 4) {es : List Nat} (hs : S.2.2 p = es) {q : Nat} (hq0 : q < 4) {fs : List Nat} (hf : S.2.2 q = fs) (hne : q ≠ p) {bs : List Int32} (hb0 : S.1 (26 + q) = bs) {n : Nat} (hok : eOK fs n) (hn : n ≤ 300) : Ct E (RC E g0) yX1_become wsX1_become rX1_become [eA E (66 + p), eA E (66 + q)] S none (setE (setT S (26 + p) bs) p fs) := by
  refine ct_of [(0, _), (1, _)] hE (by decide) rfl (Nat.le_of_ble_eq_true rfl) rfl (fun X h hq => ?_)
  refine j_of (fun G hG => (hG.2.1 p hp).2.1) (fun hle => ?_)
  rw [hs] at hle
  refine j_of (fun G hG => (hG.2.1 q hq0).2.1) (fun hlf => ?_)
  rw [hf] at hlf
  refine j_of (fun G hG => RC_len hG (show 26 + q < 30 by omega)) (fun hla => ?_)
  rw [hb0] at hla
  have hca : cap (26 + q) = 300 := by unfold cap; rw [if_neg (by omega), if_neg (by omega)]
  have hcp : cap (26 + p) = 300 := by unfold cap; rw [if_neg (by omega), if_neg (by omega)]
  refine j_aload_n h 0 dX1_become_0 rfl rfl ?_
  refine jg_Pall h a_f_X1_14 (by omega) dX1_become_1 ?_
  refine j_aload_n h 1 dX1_become_4 rfl rfl ?_
  refine jg_Pall h a_f_X1_14 (by omega) dX1_become_5 ?_
  refine j_callVv h (c_X2_become hE (show 26 + p < 30 by omega) (show 26 + q < 30 by omega) hb0 (by omega) (by omega)) m_X2_become a_l_X1_67 rfl rfl ⟨Nat.le_of_ble_eq_true rfl, Nat.le_of_ble_eq_true rfl⟩ (ci := 2) rfl (by omega) (rcT (by omega)) rfl rfl (Nat.le_of_ble_eq_true rfl) dX1_become_8 ?_
  refine j_aload_n h 0 dX1_become_11 rfl rfl ?_
  refine j_iconst h dX1_become_12 ?_
  refine j_Pput h 0 rfl (S := setT S (26 + p) bs) hs (Nat.zero_le _) a_f_X1_24 hp dX1_become_13 ?_
  refine j_iconst h dX1_become_16 ?_
  refine j_istore_n h [(2, _), (0, _), (1, _)] dX1_become_17 rfl (by decide) rfl ?_
  refine j_sub [0, 1, 2] rfl ?_
  rw [List.take_zero]
  refine lpA2 (fun (z : Int) (gs : List Nat) => (fs.length - z).toNat) (fun (z : Int) (gs : List Nat) => 0 ≤ z → z ≤ fs.length → gs = fs.take z.toNat → JL E (RC E g0) X 18 [(2, .int (iI z)), (0, eA E (66 + p)), (1, eA E (66 + q))] [] (setE (setT S (26 + p) bs) p gs)) (fun z gs ih h0 hb hv => ?_) 0 [] (Int.le_refl 0) (by omega) rfl
  refine j_iload_n h 0 dX1_become_18 rfl rfl ?_
  refine j_aload_n h 2 dX1_become_19 rfl rfl ?_
  refine jx_Psize h (S := setE (setT S (26 + p) bs) p gs) (es := fs) (by rw [setE_2n _ _ hne]; exact hf) a_f_X1_24 (by omega) dX1_become_20 ?_
  refine j_icmp_ge h 41 dX1_become_23 (by decide) (by first | exact okI_of _ | exact okI_b _ | exact okI_sgz _ _ | assumption | (unfold okI; omega)) (by first | exact okI_of _ | exact okI_b _ | exact okI_sgz _ _ | assumption | (unfold okI; omega)) (fun c23 => ?_) (fun c23 => ?_)
  · have e : gs = fs := by rw [hv]; exact List.take_of_length_le (by omega)
    subst e
    exact j_vret h hq rfl dX1_become_41
  · obtain ⟨k, rfl⟩ : ∃ k : Nat, z = k := ⟨z.toNat, by omega⟩
    have hgk : gs = fs.take k := by rw [hv, Int.toNat_natCast]
    have hgl : gs.length = k := by rw [hgk, List.length_take]; omega
    refine j_aload_n h 1 dX1_become_26 rfl rfl ?_
    refine j_aload_n h 2 dX1_become_27 rfl rfl ?_
    refine j_iload_n h 0 dX1_become_28 rfl rfl ?_
    refine j_callV h (c_X1_endOf hE hq0 (S := setE (setT S (26 + p) bs) p gs) (es := fs) (by rw [setE_2n _ _ hne]; exact hf) (by unfold okI; omega)) m_X1_endOf a_l_X1_50 rfl rfl ⟨Nat.le_of_ble_eq_true rfl, Nat.le_of_ble_eq_true rfl⟩ (ci := 1) rfl (by omega) (rcP (by omega)) rfl rfl (Nat.le_of_ble_eq_true rfl) dX1_become_29 ?_
    rw [enI_en (by omega)]
    refine j_callVv h (c_X1_addEnd hE hp (setE_2s _ _ _) (by omega)) m_X1_addEnd a_l_X1_71 rfl rfl ⟨Nat.le_of_ble_eq_true rfl, Nat.le_of_ble_eq_true rfl⟩ (ci := 1) rfl (by omega) (rcP (by omega)) rfl rfl (Nat.le_of_ble_eq_true rfl) dX1_become_32 ?_
    refine j_S (S2 := setE (setT S (26 + p) bs) p (gs ++ [eg fs k])) (by rw [setE_E]) ?_
    refine j_iinc h 0 [(2, _), (0, _), (1, _)] dX1_become_35 rfl (by decide) rfl ?_
    refine j_goto h 18 dX1_become_38 (by decide) ?_
    exact ih ((k : Int) + 1) _ (by omega) (by omega) (by omega) (by rw [hgk, show ((k : Int) + 1).toNat = k + 1 by omega, take_eg (by omega)])
set_option maxHeartbeats 400000 in
set_option maxRecDepth 20000 in
theorem c_X1_partAnew {E : EV} (hE : EOK E) {S : SC} {g0 : GH} {p : Nat} (hp : p < 4) {u : Nat} (hu : u < 30) {ys : List Int32} (hy : S.1 u = ys) (hne : u ≠ 26 + p) (hys : ys.length ≤ 300) {x : Int32} {L : Int} (hL : okI L) : Ct E (RC E g0) yX1_partAnew wsX1_partAnew rX1_partAnew [eA E (66 + p), eA E u, .int x, .int (iI L)] S none (setE (setT S (26 + p) (prtA ys x L)) p (prtP ys x L)) := by
  refine ct_of [(0, _), (1, _), (2, _), (3, _)] hE (by decide) rfl (Nat.le_of_ble_eq_true rfl) rfl (fun X h hq => ?_)
  refine j_of (fun G hG => (hG.2.1 p hp).2.1) (fun hle => ?_)
  have hL2 := hL
  unfold okI at hL2
  have hcp : cap (26 + p) = 300 := by unfold cap; rw [if_neg (by omega), if_neg (by omega)]
  have hpu : 26 + p < 30 := by omega
  refine j_aload_n h 0 dX1_partAnew_0 rfl rfl ?_
  refine jg_Pall h a_f_X1_14 (by omega) dX1_partAnew_1 ?_
  refine j_callVv h (c_X2_clear hE hpu) m_X2_clear a_l_X1_28 rfl rfl ⟨Nat.le_of_ble_eq_true rfl, Nat.le_of_ble_eq_true rfl⟩ (ci := 2) rfl (by omega) (rcT (by omega)) rfl rfl (Nat.le_of_ble_eq_true rfl) dX1_partAnew_4 ?_
  refine j_aload_n h 0 dX1_partAnew_7 rfl rfl ?_
  refine j_iconst h dX1_partAnew_8 ?_
  refine j_Pput h 0 rfl (S := setT S (26 + p) []) rfl (Nat.zero_le _) a_f_X1_24 hp dX1_partAnew_9 ?_
  refine j_iconst h dX1_partAnew_12 ?_
  refine j_istore h [(4, _), (0, _), (1, _), (2, _), (3, _)] dX1_partAnew_13 (by decide) rfl ?_
  refine j_sub [0, 1, 2, 3, 4] rfl ?_
  rw [List.take_zero]
  refine lpA3 (fun (z : Int) (bs : List Int32) (gs : List Nat) => (ys.length - z).toNat) (fun (z : Int) (bs : List Int32) (gs : List Nat) => 0 ≤ z → z ≤ ys.length → bs.length + gs.length = z.toNat → eOK gs bs.length → prt ys x L z.toNat (bs, gs) (ys.length - z.toNat) = prt ys x L 0 ([], []) ys.length → JL E (RC E g0) X 15 [(4, .int (iI z)), (0, eA E (66 + p)), (1, eA E u), (2, .int x), (3, .int (iI L))] [] (setE (setT S (26 + p) bs) p gs)) (fun z bs gs ih h0 hb hlen hok hv => ?_) 0 [] [] (Int.le_refl 0) (by omega) rfl (fun k hk => absurd hk (Nat.not_lt_zero _)) rfl
  have eu : (setE (setT S (26 + p) bs) p gs).1 u = ys := by rw [setE_1, setT_1n _ _ hne]; exact hy
  have ea_ : (setE (setT S (26 + p) bs) p gs).1 (26 + p) = bs := by rw [setE_1, setT_1s]
  have es_ : (setE (setT S (26 + p) bs) p gs).2.2 p = gs := setE_2s _ _ _
  refine j_iload h 0 dX1_partAnew_15 rfl ?_
  refine j_aload_n h 2 dX1_partAnew_17 rfl rfl ?_
  refine j_callV h (c_X2_size hE hu eu) m_X2_size a_l_X1_31 rfl rfl ⟨Nat.le_of_ble_eq_true rfl, Nat.le_of_ble_eq_true rfl⟩ (ci := 2) rfl (by omega) (rcT (by omega)) rfl rfl (Nat.le_of_ble_eq_true rfl) dX1_partAnew_18 ?_
  refine j_icmp_ge h 74 dX1_partAnew_21 (by decide) (by first | exact okI_of _ | exact okI_b _ | exact okI_sgz _ _ | assumption | (unfold okI; omega)) (by first | exact okI_of _ | exact okI_b _ | exact okI_sgz _ _ | assumption | (unfold okI; omega)) (fun c21 => ?_) (fun c21 => ?_)
  · refine j_aload_n h 1 dX1_partAnew_74 rfl rfl ?_
    refine j_callVv h (c_X1_endPiece hE hp es_ ea_ (by omega)) m_X1_endPiece a_l_X1_38 rfl rfl ⟨Nat.le_of_ble_eq_true rfl, Nat.le_of_ble_eq_true rfl⟩ (ci := 1) rfl (by omega) (rcP (by omega)) rfl rfl (Nat.le_of_ble_eq_true rfl) dX1_partAnew_75 ?_
    rw [show ys.length - z.toNat = 0 by omega, prt] at hv
    have hbs : (prt ys x L 0 ([], []) ys.length).1 = bs := by rw [← hv]
    have hgs : (prt ys x L 0 ([], []) ys.length).2 = gs := by rw [← hv]
    have hgl9 : (gs ++ [bs.length]).length = gs.length + 1 := by simp
    have hok9 : eOK (gs ++ [bs.length]) bs.length := eOK_push hok
    refine j_S (S2 := setE (setT S (26 + p) bs) p (gs ++ [bs.length])) (by rw [setE_E]) ?_
    have fin : prtA ys x L = bs := hbs
    have fin2 : prtP ys x L = prtE (gs ++ [bs.length]) L := by unfold prtP; rw [hbs, hgs]
    rw [fin, fin2] at hq
    refine j_iload_n h 4 dX1_partAnew_78 rfl rfl ?_
    refine j_if_ne h 94 dX1_partAnew_79 (by decide) (by first | exact okI_of _ | exact okI_b _ | exact okI_sgz _ _ | assumption | (unfold okI; omega)) (fun c79 => ?_) (fun c79 => ?_)
    · have e : prtE (gs ++ [bs.length]) L = prtE (gs ++ [bs.length]) L := rfl
      first | (rw [show prtE (gs ++ [bs.length]) L = (gs ++ [bs.length]).take (loe (gs ++ [bs.length]) (gs ++ [bs.length]).length) from if_pos ⟨by omega, by omega⟩] at hq; exact j_vret h hq rfl dX1_partAnew_94) | (rw [show prtE (gs ++ [bs.length]) L = gs ++ [bs.length] from if_neg (fun w => by omega)] at hq; exact j_vret h hq rfl dX1_partAnew_94)
    · refine j_aload_n h 1 dX1_partAnew_82 rfl rfl ?_
      refine jx_Psize h (setE_2s _ _ _) a_f_X1_24 (by omega) dX1_partAnew_83 ?_
      refine j_iconst h dX1_partAnew_86 ?_
      refine j_icmp_le h 94 dX1_partAnew_87 (by decide) (by first | exact okI_of _ | exact okI_b _ | exact okI_sgz _ _ | assumption | (unfold okI; omega)) (by first | exact okI_of _ | exact okI_b _ | exact okI_sgz _ _ | assumption | (unfold okI; omega)) (fun c87 => ?_) (fun c87 => ?_)
      · have e : prtE (gs ++ [bs.length]) L = prtE (gs ++ [bs.length]) L := rfl
        first | (rw [show prtE (gs ++ [bs.length]) L = (gs ++ [bs.length]).take (loe (gs ++ [bs.length]) (gs ++ [bs.length]).length) from if_pos ⟨by omega, by omega⟩] at hq; exact j_vret h hq rfl dX1_partAnew_94) | (rw [show prtE (gs ++ [bs.length]) L = gs ++ [bs.length] from if_neg (fun w => by omega)] at hq; exact j_vret h hq rfl dX1_partAnew_94)
      · refine j_aload_n h 1 dX1_partAnew_90 rfl rfl ?_
        refine j_callVv h (c_X1_leaveOutEmptyEnd hE hp (setE_2s _ _ _) hok9 (by omega)) m_X1_leaveOutEmptyEnd a_l_X1_44 rfl rfl ⟨Nat.le_of_ble_eq_true rfl, Nat.le_of_ble_eq_true rfl⟩ (ci := 1) rfl (by omega) (rcP (by omega)) rfl rfl (Nat.le_of_ble_eq_true rfl) dX1_partAnew_91 ?_
        rw [setE_E]
        have e : prtE (gs ++ [bs.length]) L = prtE (gs ++ [bs.length]) L := rfl
        first | (rw [show prtE (gs ++ [bs.length]) L = (gs ++ [bs.length]).take (loe (gs ++ [bs.length]) (gs ++ [bs.length]).length) from if_pos ⟨by omega, by omega⟩] at hq; exact j_vret h hq rfl dX1_partAnew_94) | (rw [show prtE (gs ++ [bs.length]) L = gs ++ [bs.length] from if_neg (fun w => by omega)] at hq; exact j_vret h hq rfl dX1_partAnew_94)
  · refine j_aload_n h 2 dX1_partAnew_24 rfl rfl ?_
    refine j_iload h 0 dX1_partAnew_25 rfl ?_
    refine j_callV h (c_X2_at hE hu eu h0 (by omega)) m_X2_at a_l_X1_34 rfl rfl ⟨Nat.le_of_ble_eq_true rfl, Nat.le_of_ble_eq_true rfl⟩ (ci := 2) rfl (by omega) (rcT (by omega)) rfl rfl (Nat.le_of_ble_eq_true rfl) dX1_partAnew_27 ?_
    refine j_iload_n h 3 dX1_partAnew_30 rfl rfl ?_
    refine j_rcmp_ne h 55 dX1_partAnew_31 (by decide) (fun c31 => ?_) (fun c31 => ?_)
    · have cc : ¬ (gz ys z.toNat = x ∧ (L ≤ 0 ∨ (gs.length : Int) < L - 1)) := fun w => c31 w.1
      refine j_aload_n h 1 dX1_partAnew_55 rfl rfl ?_
      refine jg_Pall h a_f_X1_14 (by omega) dX1_partAnew_56 ?_
      refine j_aload_n h 2 dX1_partAnew_59 rfl rfl ?_
      refine j_iload h 0 dX1_partAnew_60 rfl ?_
      refine j_callV h (c_X2_at hE hu eu h0 (by omega)) m_X2_at a_l_X1_34 rfl rfl ⟨Nat.le_of_ble_eq_true rfl, Nat.le_of_ble_eq_true rfl⟩ (ci := 2) rfl (by omega) (rcT (by omega)) rfl rfl (Nat.le_of_ble_eq_true rfl) dX1_partAnew_62 ?_
      refine j_callVv h (c_X2_add hE hpu ea_ (by omega)) m_X2_add a_l_X1_41 rfl rfl ⟨Nat.le_of_ble_eq_true rfl, Nat.le_of_ble_eq_true rfl⟩ (ci := 2) rfl (by omega) (rcT (by omega)) rfl rfl (Nat.le_of_ble_eq_true rfl) dX1_partAnew_65 ?_
      refine j_S (S2 := setE (setT S (26 + p) (bs ++ [gz ys z.toNat])) p gs) (by rw [← setE_T, setT_T]) ?_
      refine j_iinc h 0 [(4, _), (0, _), (1, _), (2, _), (3, _)] dX1_partAnew_68 rfl (by decide) rfl ?_
      refine j_goto h 15 dX1_partAnew_71 (by decide) ?_
      rw [show ys.length - z.toNat = ys.length - (z + 1).toNat + 1 by omega, prt] at hv
      first | (rw [if_pos cc, show z.toNat + 1 = (z + 1).toNat by omega] at hv; exact ih (z + 1) _ _ (by omega) (by omega) (by omega) (by simp only [List.length_append, List.length_cons, List.length_nil]; omega) (eOK_push hok) hv) | (rw [if_neg cc, show z.toNat + 1 = (z + 1).toNat by omega] at hv; exact ih (z + 1) _ _ (by omega) (by omega) (by omega) (by simp only [List.length_append, List.length_cons, List.length_nil]; omega) (eOK_mono hok (by simp)) hv)
    · skip
      refine j_iload_n h 4 dX1_partAnew_34 rfl rfl ?_
      refine j_if_le h 48 dX1_partAnew_35 (by decide) (by first | exact okI_of _ | exact okI_b _ | exact okI_sgz _ _ | assumption | (unfold okI; omega)) (fun c35 => ?_) (fun c35 => ?_)
      · have cc : (gz ys z.toNat = x ∧ (L ≤ 0 ∨ (gs.length : Int) < L - 1)) := ⟨c31, Or.inl c35⟩
        refine j_aload_n h 1 dX1_partAnew_48 rfl rfl ?_
        refine j_callVv h (c_X1_endPiece hE hp es_ ea_ (by omega)) m_X1_endPiece a_l_X1_38 rfl rfl ⟨Nat.le_of_ble_eq_true rfl, Nat.le_of_ble_eq_true rfl⟩ (ci := 1) rfl (by omega) (rcP (by omega)) rfl rfl (Nat.le_of_ble_eq_true rfl) dX1_partAnew_49 ?_
        refine j_S (S2 := setE (setT S (26 + p) bs) p (gs ++ [bs.length])) (by rw [setE_E]) ?_
        refine j_goto h 68 dX1_partAnew_52 (by decide) ?_
        refine j_iinc h 0 [(4, _), (0, _), (1, _), (2, _), (3, _)] dX1_partAnew_68 rfl (by decide) rfl ?_
        refine j_goto h 15 dX1_partAnew_71 (by decide) ?_
        rw [show ys.length - z.toNat = ys.length - (z + 1).toNat + 1 by omega, prt] at hv
        first | (rw [if_pos cc, show z.toNat + 1 = (z + 1).toNat by omega] at hv; exact ih (z + 1) _ _ (by omega) (by omega) (by omega) (by simp only [List.length_append, List.length_cons, List.length_nil]; omega) (eOK_push hok) hv) | (rw [if_neg cc, show z.toNat + 1 = (z + 1).toNat by omega] at hv; exact ih (z + 1) _ _ (by omega) (by omega) (by omega) (by simp only [List.length_append, List.length_cons, List.length_nil]; omega) (eOK_mono hok (by simp)) hv)
      · skip
        refine j_aload_n h 1 dX1_partAnew_38 rfl rfl ?_
        refine jx_Psize h es_ a_f_X1_24 (by omega) dX1_partAnew_39 ?_
        refine j_iload_n h 4 dX1_partAnew_42 rfl rfl ?_
        refine j_iconst h dX1_partAnew_43 ?_
        refine j_isub h dX1_partAnew_44 ?_
        refine j_icmp_ge h 55 dX1_partAnew_45 (by decide) (by first | exact okI_of _ | exact okI_b _ | exact okI_sgz _ _ | assumption | (unfold okI; omega)) (by first | exact okI_of _ | exact okI_b _ | exact okI_sgz _ _ | assumption | (unfold okI; omega)) (fun c45 => ?_) (fun c45 => ?_)
        · have cc : ¬ (gz ys z.toNat = x ∧ (L ≤ 0 ∨ (gs.length : Int) < L - 1)) := fun w => by omega
          refine j_aload_n h 1 dX1_partAnew_55 rfl rfl ?_
          refine jg_Pall h a_f_X1_14 (by omega) dX1_partAnew_56 ?_
          refine j_aload_n h 2 dX1_partAnew_59 rfl rfl ?_
          refine j_iload h 0 dX1_partAnew_60 rfl ?_
          refine j_callV h (c_X2_at hE hu eu h0 (by omega)) m_X2_at a_l_X1_34 rfl rfl ⟨Nat.le_of_ble_eq_true rfl, Nat.le_of_ble_eq_true rfl⟩ (ci := 2) rfl (by omega) (rcT (by omega)) rfl rfl (Nat.le_of_ble_eq_true rfl) dX1_partAnew_62 ?_
          refine j_callVv h (c_X2_add hE hpu ea_ (by omega)) m_X2_add a_l_X1_41 rfl rfl ⟨Nat.le_of_ble_eq_true rfl, Nat.le_of_ble_eq_true rfl⟩ (ci := 2) rfl (by omega) (rcT (by omega)) rfl rfl (Nat.le_of_ble_eq_true rfl) dX1_partAnew_65 ?_
          refine j_S (S2 := setE (setT S (26 + p) (bs ++ [gz ys z.toNat])) p gs) (by rw [← setE_T, setT_T]) ?_
          refine j_iinc h 0 [(4, _), (0, _), (1, _), (2, _), (3, _)] dX1_partAnew_68 rfl (by decide) rfl ?_
          refine j_goto h 15 dX1_partAnew_71 (by decide) ?_
          rw [show ys.length - z.toNat = ys.length - (z + 1).toNat + 1 by omega, prt] at hv
          first | (rw [if_pos cc, show z.toNat + 1 = (z + 1).toNat by omega] at hv; exact ih (z + 1) _ _ (by omega) (by omega) (by omega) (by simp only [List.length_append, List.length_cons, List.length_nil]; omega) (eOK_push hok) hv) | (rw [if_neg cc, show z.toNat + 1 = (z + 1).toNat by omega] at hv; exact ih (z + 1) _ _ (by omega) (by omega) (by omega) (by simp only [List.length_append, List.length_cons, List.length_nil]; omega) (eOK_mono hok (by simp)) hv)
        · have cc : (gz ys z.toNat = x ∧ (L ≤ 0 ∨ (gs.length : Int) < L - 1)) := ⟨c31, Or.inr (by omega)⟩
          refine j_aload_n h 1 dX1_partAnew_48 rfl rfl ?_
          refine j_callVv h (c_X1_endPiece hE hp es_ ea_ (by omega)) m_X1_endPiece a_l_X1_38 rfl rfl ⟨Nat.le_of_ble_eq_true rfl, Nat.le_of_ble_eq_true rfl⟩ (ci := 1) rfl (by omega) (rcP (by omega)) rfl rfl (Nat.le_of_ble_eq_true rfl) dX1_partAnew_49 ?_
          refine j_S (S2 := setE (setT S (26 + p) bs) p (gs ++ [bs.length])) (by rw [setE_E]) ?_
          refine j_goto h 68 dX1_partAnew_52 (by decide) ?_
          refine j_iinc h 0 [(4, _), (0, _), (1, _), (2, _), (3, _)] dX1_partAnew_68 rfl (by decide) rfl ?_
          refine j_goto h 15 dX1_partAnew_71 (by decide) ?_
          rw [show ys.length - z.toNat = ys.length - (z + 1).toNat + 1 by omega, prt] at hv
          first | (rw [if_pos cc, show z.toNat + 1 = (z + 1).toNat by omega] at hv; exact ih (z + 1) _ _ (by omega) (by omega) (by omega) (by simp only [List.length_append, List.length_cons, List.length_nil]; omega) (eOK_push hok) hv) | (rw [if_neg cc, show z.toNat + 1 = (z + 1).toNat by omega] at hv; exact ih (z + 1) _ _ (by omega) (by omega) (by omega) (by simp only [List.length_append, List.length_cons, List.length_nil]; omega) (eOK_mono hok (by simp)) hv)
