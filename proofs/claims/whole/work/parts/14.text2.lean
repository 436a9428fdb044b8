/-! Text: what is added to it -/
set_option maxHeartbeats 400000 in
set_option maxRecDepth 20000 in
theorem c_X2_addSpan {E : EV} (hE : EOK E) {S : SC} {g0 : GH} {t : Nat} (ht : t < 30) {xs : List Int32} (hx : S.1 t = xs) {u : Nat} (hu : u < 30) {ys : List Int32} (hy : S.1 u = ys) (hne : u ≠ t) {a b : Int} (h0 : 0 ≤ a) (h1 : a ≤ b) (h2 : b ≤ ys.length) (h3 : (xs.length : Int) + (b - a) ≤ cap t) : Ct E (RC E g0) yX2_addSpan wsX2_addSpan rX2_addSpan [eA E t, eA E u, .int (iI a), .int (iI b)] S none (setT S t (xs ++ sl ys a.toNat (b - a).toNat)) := by
  refine ct_of [(0, _), (1, _), (2, _), (3, _)] hE (by decide) rfl (Nat.le_of_ble_eq_true rfl) rfl (fun X h hq => ?_)
  refine j_of (fun G hG => RC_len hG ht) (fun hl => ?_)
  rw [hx] at hl
  have hc := cap_le t
  refine j_of (fun G hG => RC_len hG hu) (fun hlu => ?_)
  rw [hy] at hlu
  have hcu := cap_le u
  refine j_iload_n h 2 dX2_addSpan_0 rfl rfl ?_
  refine j_istore h [(4, _), (0, _), (1, _), (2, _), (3, _)] dX2_addSpan_1 (by decide) rfl ?_
  refine j_sub [0, 1, 2, 4] rfl ?_
  refine j_S (S2 := setT S t xs) (by rw [← hx, setT_id]) ?_
  refine lpA2 (fun (z : Int) (_ : List Int32) => (b - z).toNat) (fun (z : Int) (zs : List Int32) => a ≤ z → z ≤ b → zs.length + (b - z).toNat ≤ cap t → zs ++ sl ys z.toNat (b - z).toNat = xs ++ sl ys a.toNat (b - a).toNat → JL E (RC E g0) X 3 [(4, .int (iI z)), (0, eA E t), (1, eA E u), (3, .int (iI b))] [] (setT S t zs)) (fun z zs ih ha hb hcp hv => ?_) a xs (Int.le_refl _) h1 (by omega) rfl
  refine j_iload h 0 dX2_addSpan_3 rfl ?_
  refine j_iload_n h 3 dX2_addSpan_5 rfl rfl ?_
  refine j_icmp_ge h 25 dX2_addSpan_6 (by decide) (by first | exact okI_of _ | exact okI_b _ | (unfold okI; omega)) (by first | exact okI_of _ | exact okI_b _ | (unfold okI; omega)) (fun c6 => ?_) (fun c6 => ?_)
  · rw [show (b - z).toNat = 0 by omega, sl, List.append_nil] at hv
    rw [← hv] at hq
    exact j_vret h hq rfl dX2_addSpan_25
  · refine j_aload_n h 1 dX2_addSpan_9 rfl rfl ?_
    refine j_aload_n h 2 dX2_addSpan_10 rfl rfl ?_
    refine j_iload h 0 dX2_addSpan_11 rfl ?_
    refine j_callV h (c_X2_at hE hu (xs := ys) (by rw [setT_1n _ _ hne]; exact hy) (by omega) (by omega)) m_X2_at a_l_X2_25 rfl rfl ⟨Nat.le_of_ble_eq_true rfl, Nat.le_of_ble_eq_true rfl⟩ (ci := 2) rfl (by omega) (rcT (by omega)) rfl rfl (Nat.le_of_ble_eq_true rfl) dX2_addSpan_13 ?_
    refine j_callVv h (c_X2_add hE ht (xs := zs) (setT_1s _ _ _) (by omega)) m_X2_add a_l_X2_29 rfl rfl ⟨Nat.le_of_ble_eq_true rfl, Nat.le_of_ble_eq_true rfl⟩ (ci := 2) rfl (by omega) (rcT (by omega)) rfl rfl (Nat.le_of_ble_eq_true rfl) dX2_addSpan_16 ?_
    refine j_iinc h 0 [(4, _), (0, _), (1, _), (3, _)] dX2_addSpan_19 rfl (by decide) rfl ?_
    refine j_goto h 3 dX2_addSpan_22 (by decide) ?_
    refine j_S (S2 := setT S t (zs ++ [gz ys z.toNat])) (by rw [setT_T]) ?_
    exact ih (z + 1) _ (by omega) (by omega) (by omega) (by simp only [List.length_append, List.length_cons, List.length_nil]; omega) (by rw [← hv, show (b - z).toNat = (b - (z + 1)).toNat + 1 by omega, sl, show z.toNat + 1 = (z + 1).toNat by omega, List.append_assoc]; rfl)
set_option maxHeartbeats 400000 in
set_option maxRecDepth 20000 in
theorem c_X2_addText {E : EV} (hE : EOK E) {S : SC} {g0 : GH} {t : Nat} (ht : t < 30) {xs : List Int32} (hx : S.1 t = xs) {u : Nat} (hu : u < 30) {ys : List Int32} (hy : S.1 u = ys) (hne : u ≠ t) (h3 : xs.length + ys.length ≤ cap t) : Ct E (RC E g0) yX2_addText wsX2_addText rX2_addText [eA E t, eA E u] S none (setT S t (xs ++ ys)) := by
  refine ct_of [(0, _), (1, _)] hE (by decide) rfl (Nat.le_of_ble_eq_true rfl) rfl (fun X h hq => ?_)
  refine j_of (fun G hG => RC_len hG ht) (fun hl => ?_)
  rw [hx] at hl
  have hc := cap_le t
  refine j_of (fun G hG => RC_len hG hu) (fun hlu => ?_)
  rw [hy] at hlu
  have hcu := cap_le u
  refine j_aload_n h 0 dX2_addText_0 rfl rfl ?_
  refine j_aload_n h 1 dX2_addText_1 rfl rfl ?_
  refine j_iconst h dX2_addText_2 ?_
  refine j_aload_n h 1 dX2_addText_3 rfl rfl ?_
  refine jx_Tsize h hy a_f_X2_21 (by omega) dX2_addText_4 ?_
  refine j_callVv h (c_X2_addSpan hE ht hx hu hy hne (Int.le_refl 0) (by omega) (Int.le_refl _) (by omega)) m_X2_addSpan a_l_X2_33 rfl rfl ⟨Nat.le_of_ble_eq_true rfl, Nat.le_of_ble_eq_true rfl⟩ (ci := 2) rfl (by omega) (rcT (by omega)) rfl rfl (Nat.le_of_ble_eq_true rfl) dX2_addText_7 ?_
  refine j_S (S2 := setT S t (xs ++ ys)) (by rw [show ((0 : Int)).toNat = 0 from rfl, show ((ys.length : Int) - 0).toNat = ys.length by omega, sl_all]) ?_
  exact j_vret h hq rfl dX2_addText_10
set_option maxHeartbeats 400000 in
set_option maxRecDepth 20000 in
theorem c_X2_become {E : EV} (hE : EOK E) {S : SC} {g0 : GH} {t : Nat} (ht : t < 30) {u : Nat} (hu : u < 30) {ys : List Int32} (hy : S.1 u = ys) (hne : u ≠ t) (h3 : ys.length ≤ cap t) : Ct E (RC E g0) yX2_become wsX2_become rX2_become [eA E t, eA E u] S none (setT S t ys) := by
  refine ct_of [(0, _), (1, _)] hE (by decide) rfl (Nat.le_of_ble_eq_true rfl) rfl (fun X h hq => ?_)
  refine j_aload_n h 0 dX2_become_0 rfl rfl ?_
  refine j_callVv h (c_X2_clear hE ht) m_X2_clear a_l_X2_51 rfl rfl ⟨Nat.le_of_ble_eq_true rfl, Nat.le_of_ble_eq_true rfl⟩ (ci := 2) rfl (by omega) (rcT (by omega)) rfl rfl (Nat.le_of_ble_eq_true rfl) dX2_become_1 ?_
  refine j_aload_n h 0 dX2_become_4 rfl rfl ?_
  refine j_aload_n h 1 dX2_become_5 rfl rfl ?_
  refine j_callVv h (c_X2_addText hE ht (xs := []) (setT_1s _ _ _) hu (ys := ys) (by rw [setT_1n _ _ hne]; exact hy) hne (by simpa using h3)) m_X2_addText a_l_X2_47 rfl rfl ⟨Nat.le_of_ble_eq_true rfl, Nat.le_of_ble_eq_true rfl⟩ (ci := 2) rfl (by omega) (rcT (by omega)) rfl rfl (Nat.le_of_ble_eq_true rfl) dX2_become_6 ?_
  refine j_S (S2 := setT S t ys) (by rw [setT_T, List.nil_append]) ?_
  exact j_vret h hq rfl dX2_become_9
set_option maxHeartbeats 400000 in
set_option maxRecDepth 20000 in
theorem c_X2_addTurned {E : EV} (hE : EOK E) {S : SC} {g0 : GH} {t : Nat} (ht : t < 30) {xs : List Int32} (hx : S.1 t = xs) {u : Nat} (hu : u < 30) {ys : List Int32} (hy : S.1 u = ys) (hne : u ≠ t) (h3 : xs.length + ys.length ≤ cap t) : Ct E (RC E g0) yX2_addTurned wsX2_addTurned rX2_addTurned [eA E t, eA E u] S none (setT S t (xs ++ rv ys ys.length)) := by
  refine ct_of [(0, _), (1, _)] hE (by decide) rfl (Nat.le_of_ble_eq_true rfl) rfl (fun X h hq => ?_)
  refine j_of (fun G hG => RC_len hG ht) (fun hl => ?_)
  rw [hx] at hl
  have hc := cap_le t
  refine j_of (fun G hG => RC_len hG hu) (fun hlu => ?_)
  rw [hy] at hlu
  have hcu := cap_le u
  refine j_aload_n h 1 dX2_addTurned_0 rfl rfl ?_
  refine jx_Tsize h hy a_f_X2_21 (by omega) dX2_addTurned_1 ?_
  refine j_iconst h dX2_addTurned_4 ?_
  refine j_isub h dX2_addTurned_5 ?_
  refine j_istore_n h [(2, _), (0, _), (1, _)] dX2_addTurned_6 rfl (by decide) rfl ?_
  refine j_sub [0, 1, 2] rfl ?_
  refine j_S (S2 := setT S t xs) (by rw [← hx, setT_id]) ?_
  refine lpA2 (fun (z : Int) (_ : List Int32) => (z + 1).toNat) (fun (z : Int) (zs : List Int32) => -1 ≤ z → z < ys.length → zs.length + (z + 1).toNat ≤ cap t → zs ++ rv ys (z + 1).toNat = xs ++ rv ys ys.length → JL E (RC E g0) X 7 [(2, .int (iI z)), (0, eA E t), (1, eA E u)] [] (setT S t zs)) (fun z zs ih ha hb hcp hv => ?_) _ xs (by omega) (by omega) (by omega) (by rw [show ((ys.length : Int) - 1 + 1).toNat = ys.length by omega])
  refine j_iload_n h 0 dX2_addTurned_7 rfl rfl ?_
  refine j_if_lt h 26 dX2_addTurned_8 (by decide) (by first | exact okI_of _ | exact okI_b _ | (unfold okI; omega)) (fun c8 => ?_) (fun c8 => ?_)
  · rw [show (z + 1).toNat = 0 by omega, rv, List.append_nil] at hv
    rw [← hv] at hq
    exact j_vret h hq rfl dX2_addTurned_26
  · refine j_aload_n h 1 dX2_addTurned_11 rfl rfl ?_
    refine j_aload_n h 2 dX2_addTurned_12 rfl rfl ?_
    refine j_iload_n h 0 dX2_addTurned_13 rfl rfl ?_
    refine j_callV h (c_X2_at hE hu (xs := ys) (by rw [setT_1n _ _ hne]; exact hy) (by omega) (by omega)) m_X2_at a_l_X2_25 rfl rfl ⟨Nat.le_of_ble_eq_true rfl, Nat.le_of_ble_eq_true rfl⟩ (ci := 2) rfl (by omega) (rcT (by omega)) rfl rfl (Nat.le_of_ble_eq_true rfl) dX2_addTurned_14 ?_
    refine j_callVv h (c_X2_add hE ht (xs := zs) (setT_1s _ _ _) (by omega)) m_X2_add a_l_X2_29 rfl rfl ⟨Nat.le_of_ble_eq_true rfl, Nat.le_of_ble_eq_true rfl⟩ (ci := 2) rfl (by omega) (rcT (by omega)) rfl rfl (Nat.le_of_ble_eq_true rfl) dX2_addTurned_17 ?_
    refine j_iinc h 0 [(2, _), (0, _), (1, _)] dX2_addTurned_20 rfl (by decide) rfl ?_
    refine j_goto h 7 dX2_addTurned_23 (by decide) ?_
    refine j_S (S2 := setT S t (zs ++ [gz ys z.toNat])) (by rw [setT_T]) ?_
    exact ih (z + -1) _ (by omega) (by omega) (by omega) (by simp only [List.length_append, List.length_cons, List.length_nil]; omega) (by rw [← hv, show (z + 1).toNat = (z + -1 + 1).toNat + 1 by omega, rv, show (z + -1 + 1).toNat = z.toNat by omega, List.append_assoc]; rfl)
