/-! Text: what is asked of it, on -/
set_option maxHeartbeats 400000 in
set_option maxRecDepth 20000 in
theorem c_X2_placeFrom {E : EV} (hE : EOK E) {S : SC} {g0 : GH} {t : Nat} (ht : t < 30) {xs : List Int32} (hx : S.1 t = xs) {u : Nat} (hu : u < 30) {ys : List Int32} (hy : S.1 u = ys) {f : Int} (hf : okI f) : Ct E (RC E g0) yX2_placeFrom wsX2_placeFrom rX2_placeFrom [eA E t, eA E u, .int (iI f)] S (some (.int (iI (plF xs ys f)))) S := by
  refine ct_of [(0, _), (1, _), (2, _)] hE (by decide) rfl (Nat.le_of_ble_eq_true rfl) rfl (fun X h hq => ?_)
  refine j_of (fun G hG => RC_len hG ht) (fun hl => ?_)
  rw [hx] at hl
  have hc := cap_le t
  refine j_of (fun G hG => RC_len hG hu) (fun hlu => ?_)
  rw [hy] at hlu
  have hcu := cap_le u
  have hmx : ∀ a b : Int, (a ≤ mxI a b ∧ b ≤ mxI a b ∧ (mxI a b = a ∨ mxI a b = b)) := fun a b => by unfold mxI; split <;> omega
  have hmn : ∀ a b : Int, (mnI a b ≤ a ∧ mnI a b ≤ b ∧ (mnI a b = a ∨ mnI a b = b)) := fun a b => by unfold mnI; split <;> omega
  have hf2 := hf
  unfold okI at hf2
  have hm := hmn f xs.length
  have hm2 := hmx 0 (mnI f xs.length)
  refine j_iconst h dX2_placeFrom_0 ?_
  refine j_iload_n h 2 dX2_placeFrom_1 rfl rfl ?_
  refine j_aload_n h 0 dX2_placeFrom_2 rfl rfl ?_
  refine jx_Tsize h hx a_f_X2_21 (by omega) dX2_placeFrom_3 ?_
  refine j_min h (by first | exact okI_of _ | exact okI_b _ | exact okI_sgz _ _ | assumption | (unfold okI; omega)) (by first | exact okI_of _ | exact okI_b _ | exact okI_sgz _ _ | assumption | (unfold okI; omega)) a_l_X2_54 ⟨Nat.le_of_ble_eq_true rfl, Nat.le_of_ble_eq_true rfl⟩ (Nat.le_of_ble_eq_true rfl) dX2_placeFrom_6 ?_
  refine j_max h (by first | exact okI_of _ | exact okI_b _ | exact okI_sgz _ _ | assumption | (unfold okI; omega)) (by first | exact okI_of _ | exact okI_b _ | exact okI_sgz _ _ | assumption | (unfold okI; omega)) a_l_X2_9 ⟨Nat.le_of_ble_eq_true rfl, Nat.le_of_ble_eq_true rfl⟩ (Nat.le_of_ble_eq_true rfl) dX2_placeFrom_9 ?_
  refine j_istore_n h [(3, _), (0, _), (1, _), (2, _)] dX2_placeFrom_12 rfl (by decide) rfl ?_
  refine j_iload_n h 0 dX2_placeFrom_13 rfl rfl ?_
  refine j_istore h [(4, _), (3, _), (0, _), (1, _), (2, _)] dX2_placeFrom_14 (by decide) rfl ?_
  refine j_sub [0, 2, 3] rfl ?_
  refine lpA1 (fun z : Int => (xs.length + 1 - z).toNat) (fun z : Int => 0 ≤ z → z ≤ xs.length + 1 → lo (fun k => bz xs ys k) z.toNat (xs.length + 1 - z.toNat) = plF xs ys f → JL E (RC E g0) X 16 [(4, .int (iI z)), (0, eA E t), (1, eA E u)] [] S) (fun z ih h0 hb hv => ?_) _ (by omega) (by omega) rfl
  refine j_iload h 0 dX2_placeFrom_16 rfl ?_
  refine j_aload_n h 1 dX2_placeFrom_18 rfl rfl ?_
  refine jx_Tsize h hx a_f_X2_21 (by omega) dX2_placeFrom_19 ?_
  refine j_aload_n h 2 dX2_placeFrom_22 rfl rfl ?_
  refine jx_Tsize h hy a_f_X2_21 (by omega) dX2_placeFrom_23 ?_
  refine j_isub h dX2_placeFrom_26 ?_
  refine j_icmp_gt h 49 dX2_placeFrom_27 (by decide) (by first | exact okI_of _ | exact okI_b _ | exact okI_sgz _ _ | assumption | (unfold okI; omega)) (by first | exact okI_of _ | exact okI_b _ | exact okI_sgz _ _ | assumption | (unfold okI; omega)) (fun c27 => ?_) (fun c27 => ?_)
  · refine j_iconst h dX2_placeFrom_49 ?_
    exact j_iret h hq (by rw [← hv, lo_none _ _ (fun k h1 h2 => bz_out (Or.inr (by omega)))]) dX2_placeFrom_50
  · refine j_aload_n h 1 dX2_placeFrom_30 rfl rfl ?_
    refine j_aload_n h 2 dX2_placeFrom_31 rfl rfl ?_
    refine j_iload h 0 dX2_placeFrom_32 rfl ?_
    refine j_callV h (c_X2_bears hE ht hx hu hy (by unfold okI; omega)) m_X2_bears a_l_X2_43 rfl rfl ⟨Nat.le_of_ble_eq_true rfl, Nat.le_of_ble_eq_true rfl⟩ (ci := 2) rfl (by omega) (rcT (by omega)) rfl rfl (Nat.le_of_ble_eq_true rfl) dX2_placeFrom_34 ?_
    refine j_if_eq h 43 dX2_placeFrom_37 (by decide) (by first | exact okI_of _ | exact okI_b _ | exact okI_sgz _ _ | assumption | (unfold okI; omega)) (fun c37 => ?_) (fun c37 => ?_)
    · rw [bI_0] at c37
      refine j_iinc h 0 [(4, _), (0, _), (1, _)] dX2_placeFrom_43 rfl (by decide) rfl ?_
      refine j_goto h 16 dX2_placeFrom_46 (by decide) ?_
      exact ih (z + 1) (by omega) (by omega) (by omega) (by rw [lo_step h0 (by omega), if_neg (by rw [show ((z.toNat : Nat) : Int) = z by omega, c37]; simp)] at hv; exact hv)
    · rw [bI_n0] at c37
      refine j_iload h 0 dX2_placeFrom_40 rfl ?_
      exact j_iret h hq (by rw [← hv, lo_step h0 (by omega), if_pos (by rw [show ((z.toNat : Nat) : Int) = z by omega, c37])]) dX2_placeFrom_42
set_option maxHeartbeats 400000 in
set_option maxRecDepth 20000 in
theorem c_X2_placeBack {E : EV} (hE : EOK E) {S : SC} {g0 : GH} {t : Nat} (ht : t < 30) {xs : List Int32} (hx : S.1 t = xs) {u : Nat} (hu : u < 30) {ys : List Int32} (hy : S.1 u = ys) {f : Int} (hf : okI f) : Ct E (RC E g0) yX2_placeBack wsX2_placeBack rX2_placeBack [eA E t, eA E u, .int (iI f)] S (some (.int (iI (plB xs ys f)))) S := by
  refine ct_of [(0, _), (1, _), (2, _)] hE (by decide) rfl (Nat.le_of_ble_eq_true rfl) rfl (fun X h hq => ?_)
  refine j_of (fun G hG => RC_len hG ht) (fun hl => ?_)
  rw [hx] at hl
  have hc := cap_le t
  refine j_of (fun G hG => RC_len hG hu) (fun hlu => ?_)
  rw [hy] at hlu
  have hcu := cap_le u
  have hmx : ∀ a b : Int, (a ≤ mxI a b ∧ b ≤ mxI a b ∧ (mxI a b = a ∨ mxI a b = b)) := fun a b => by unfold mxI; split <;> omega
  have hmn : ∀ a b : Int, (mnI a b ≤ a ∧ mnI a b ≤ b ∧ (mnI a b = a ∨ mnI a b = b)) := fun a b => by unfold mnI; split <;> omega
  have hf2 := hf
  unfold okI at hf2
  have hm := hmn f xs.length
  have hm2 := hmn f ((xs.length : Int) - ys.length)
  refine j_iload_n h 2 dX2_placeBack_0 rfl rfl ?_
  refine j_aload_n h 0 dX2_placeBack_1 rfl rfl ?_
  refine jx_Tsize h hx a_f_X2_21 (by omega) dX2_placeBack_2 ?_
  refine j_aload_n h 1 dX2_placeBack_5 rfl rfl ?_
  refine jx_Tsize h hy a_f_X2_21 (by omega) dX2_placeBack_6 ?_
  refine j_isub h dX2_placeBack_9 ?_
  refine j_min h (by first | exact okI_of _ | exact okI_b _ | exact okI_sgz _ _ | assumption | (unfold okI; omega)) (by first | exact okI_of _ | exact okI_b _ | exact okI_sgz _ _ | assumption | (unfold okI; omega)) a_l_X2_54 ⟨Nat.le_of_ble_eq_true rfl, Nat.le_of_ble_eq_true rfl⟩ (Nat.le_of_ble_eq_true rfl) dX2_placeBack_10 ?_
  refine j_istore_n h [(3, _), (0, _), (1, _), (2, _)] dX2_placeBack_13 rfl (by decide) rfl ?_
  refine j_sub [0, 1, 2] rfl ?_
  refine lpA1 (fun z : Int => (z + 1).toNat) (fun z : Int => z ≤ xs.length → -2147483648 ≤ z → hi (fun k => bz xs ys k) (z + 1).toNat = plB xs ys f → JL E (RC E g0) X 14 [(3, .int (iI z)), (0, eA E t), (1, eA E u)] [] S) (fun z ih h0 hb hv => ?_) _ (by omega) (by omega) (by unfold plB; exact (hi_skip _ (by omega) (fun k h1 h2 => bz_out (Or.inr (by omega)))).symm)
  refine j_iload_n h 0 dX2_placeBack_14 rfl rfl ?_
  refine j_if_lt h 35 dX2_placeBack_15 (by decide) (by first | exact okI_of _ | exact okI_b _ | exact okI_sgz _ _ | assumption | (unfold okI; omega)) (fun c15 => ?_) (fun c15 => ?_)
  · refine j_iconst h dX2_placeBack_35 ?_
    exact j_iret h hq (by rw [← hv, hi_end (by omega)]) dX2_placeBack_36
  · refine j_aload_n h 1 dX2_placeBack_18 rfl rfl ?_
    refine j_aload_n h 2 dX2_placeBack_19 rfl rfl ?_
    refine j_iload_n h 0 dX2_placeBack_20 rfl rfl ?_
    refine j_callV h (c_X2_bears hE ht hx hu hy (by unfold okI; omega)) m_X2_bears a_l_X2_43 rfl rfl ⟨Nat.le_of_ble_eq_true rfl, Nat.le_of_ble_eq_true rfl⟩ (ci := 2) rfl (by omega) (rcT (by omega)) rfl rfl (Nat.le_of_ble_eq_true rfl) dX2_placeBack_21 ?_
    refine j_if_eq h 29 dX2_placeBack_24 (by decide) (by first | exact okI_of _ | exact okI_b _ | exact okI_sgz _ _ | assumption | (unfold okI; omega)) (fun c24 => ?_) (fun c24 => ?_)
    · rw [bI_0] at c24
      refine j_iinc h 0 [(3, _), (0, _), (1, _)] dX2_placeBack_29 rfl (by decide) rfl ?_
      refine j_goto h 14 dX2_placeBack_32 (by decide) ?_
      exact ih (z + -1) (by omega) (by omega) (by omega) (by rw [hi_step (by omega), if_neg (by rw [show ((z.toNat : Nat) : Int) = z by omega, c24]; simp)] at hv; exact hv)
    · rw [bI_n0] at c24
      refine j_iload_n h 0 dX2_placeBack_27 rfl rfl ?_
      exact j_iret h hq (by rw [← hv, hi_step (by omega), if_pos (by rw [show ((z.toNat : Nat) : Int) = z by omega, c24])]) dX2_placeBack_28
theorem ord_step {cs : Bool} {xs ys : List Int32} {z : Int} {m : Nat} (h0 : 0 ≤ z) (h1 : z < m) : ord cs xs ys z.toNat (m - z.toNat) = if tl cs (gz xs z.toNat) = tl cs (gz ys z.toNat) then ord cs xs ys (z + 1).toNat (m - (z + 1).toNat) else iI (tlz cs (gz xs z.toNat).toInt - tlz cs (gz ys z.toNat).toInt) := by
  rw [show m - z.toNat = m - (z + 1).toNat + 1 by omega, ord, show z.toNat + 1 = (z + 1).toNat by omega]
theorem ord_end {cs : Bool} {xs ys : List Int32} {z : Int} {m : Nat} (h1 : (m : Int) ≤ z) : ord cs xs ys z.toNat (m - z.toNat) = iI ((xs.length : Int) - ys.length) := by
  rw [show m - z.toNat = 0 by omega]; rfl
set_option maxHeartbeats 400000 in
set_option maxRecDepth 20000 in
theorem c_X2_order {E : EV} (hE : EOK E) {S : SC} {g0 : GH} {t : Nat} (ht : t < 30) {xs : List Int32} (hx : S.1 t = xs) {u : Nat} (hu : u < 30) {ys : List Int32} (hy : S.1 u = ys) (cs : Bool) : Ct E (RC E g0) yX2_order wsX2_order rX2_order [eA E t, eA E u, .int (iI (bI cs))] S (some (.int (orI cs xs ys))) S := by
  refine ct_of [(0, _), (1, _), (2, _)] hE (by decide) rfl (Nat.le_of_ble_eq_true rfl) rfl (fun X h hq => ?_)
  refine j_of (fun G hG => RC_len hG ht) (fun hl => ?_)
  rw [hx] at hl
  have hc := cap_le t
  refine j_of (fun G hG => RC_len hG hu) (fun hlu => ?_)
  rw [hy] at hlu
  have hcu := cap_le u
  refine j_iconst h dX2_order_0 ?_
  refine j_istore_n h [(3, _), (0, _), (1, _), (2, _)] dX2_order_1 rfl (by decide) rfl ?_
  refine j_sub [0, 1, 2, 3] rfl ?_
  refine lpA1 (fun z : Int => (xs.length - z).toNat) (fun z : Int => 0 ≤ z → z ≤ xs.length → ord cs xs ys z.toNat (min xs.length ys.length - z.toNat) = orI cs xs ys → JL E (RC E g0) X 2 [(3, .int (iI z)), (0, eA E t), (1, eA E u), (2, .int (iI (bI cs)))] [] S) (fun z ih h0 hb hv => ?_) 0 (Int.le_refl 0) (by omega) rfl
  refine j_iload_n h 0 dX2_order_2 rfl rfl ?_
  refine j_aload_n h 1 dX2_order_3 rfl rfl ?_
  refine jx_Tsize h hx a_f_X2_21 (by omega) dX2_order_4 ?_
  refine j_icmp_ge h 53 dX2_order_7 (by decide) (by first | exact okI_of _ | exact okI_b _ | exact okI_sgz _ _ | assumption | (unfold okI; omega)) (by first | exact okI_of _ | exact okI_b _ | exact okI_sgz _ _ | assumption | (unfold okI; omega)) (fun c7 => ?_) (fun c7 => ?_)
  · refine j_aload_n h 1 dX2_order_53 rfl rfl ?_
    refine jx_Tsize h hx a_f_X2_21 (by omega) dX2_order_54 ?_
    refine j_aload_n h 2 dX2_order_57 rfl rfl ?_
    refine jx_Tsize h hy a_f_X2_21 (by omega) dX2_order_58 ?_
    refine j_isub h dX2_order_61 ?_
    exact j_iret h hq (by rw [← hv, ord_end (by omega)]) dX2_order_62
  · refine j_iload_n h 0 dX2_order_10 rfl rfl ?_
    refine j_aload_n h 2 dX2_order_11 rfl rfl ?_
    refine jx_Tsize h hy a_f_X2_21 (by omega) dX2_order_12 ?_
    refine j_icmp_ge h 53 dX2_order_15 (by decide) (by first | exact okI_of _ | exact okI_b _ | exact okI_sgz _ _ | assumption | (unfold okI; omega)) (by first | exact okI_of _ | exact okI_b _ | exact okI_sgz _ _ | assumption | (unfold okI; omega)) (fun c15 => ?_) (fun c15 => ?_)
    · refine j_aload_n h 1 dX2_order_53 rfl rfl ?_
      refine jx_Tsize h hx a_f_X2_21 (by omega) dX2_order_54 ?_
      refine j_aload_n h 2 dX2_order_57 rfl rfl ?_
      refine jx_Tsize h hy a_f_X2_21 (by omega) dX2_order_58 ?_
      refine j_isub h dX2_order_61 ?_
      exact j_iret h hq (by rw [← hv, ord_end (by omega)]) dX2_order_62
    · refine j_aload_n h 1 dX2_order_18 rfl rfl ?_
      refine j_iload_n h 0 dX2_order_19 rfl rfl ?_
      refine j_callV h (c_X2_at hE ht hx h0 (by omega)) m_X2_at a_l_X2_25 rfl rfl ⟨Nat.le_of_ble_eq_true rfl, Nat.le_of_ble_eq_true rfl⟩ (ci := 2) rfl (by omega) (rcT (by omega)) rfl rfl (Nat.le_of_ble_eq_true rfl) dX2_order_20 ?_
      refine j_iload_n h 3 dX2_order_23 rfl rfl ?_
      refine j_callN (host := "TextShelves") h (c_asTold_raw hE _ cs) m_X3_asTold (by decide) rfl rfl ⟨Nat.le_of_ble_eq_true rfl, Nat.le_of_ble_eq_true rfl⟩ rfl rfl (Nat.le_of_ble_eq_true rfl) dX2_order_24 ?_
      refine j_aload_n h 2 dX2_order_27 rfl rfl ?_
      refine j_iload_n h 0 dX2_order_28 rfl rfl ?_
      refine j_callV h (c_X2_at hE hu hy h0 (by omega)) m_X2_at a_l_X2_25 rfl rfl ⟨Nat.le_of_ble_eq_true rfl, Nat.le_of_ble_eq_true rfl⟩ (ci := 2) rfl (by omega) (rcT (by omega)) rfl rfl (Nat.le_of_ble_eq_true rfl) dX2_order_29 ?_
      refine j_iload_n h 3 dX2_order_32 rfl rfl ?_
      refine j_callN (host := "TextShelves") h (c_asTold_raw hE _ cs) m_X3_asTold (by decide) rfl rfl ⟨Nat.le_of_ble_eq_true rfl, Nat.le_of_ble_eq_true rfl⟩ rfl rfl (Nat.le_of_ble_eq_true rfl) dX2_order_33 ?_
      refine j_isub h dX2_order_36 ?_
      refine j_istore h [(4, _), (3, _), (0, _), (1, _), (2, _)] dX2_order_37 (by decide) rfl ?_
      refine j_iload h 0 dX2_order_39 rfl ?_
      refine j_rif_eq h 47 dX2_order_41 (by decide) (fun c41 => ?_) (fun c41 => ?_)
      · refine j_iinc h 1 [(3, _), (4, _), (0, _), (1, _), (2, _)] dX2_order_47 rfl (by decide) rfl ?_
        refine j_goto h 2 dX2_order_50 (by decide) ?_
        refine j_sub [0, 2, 3, 4] rfl ?_
        exact ih (z + 1) (by omega) (by omega) (by omega) (by rw [ord_step h0 (by omega), if_pos (show tl cs _ = tl cs _ from iI_sub0.mp c41)] at hv; exact hv)
      · refine j_iload h 0 dX2_order_44 rfl ?_
        exact j_iret h hq (by rw [← hv, ord_step h0 (by omega), if_neg (fun q : tl cs _ = tl cs _ => c41 (iI_sub0.mpr q))]) dX2_order_46
set_option maxHeartbeats 400000 in
set_option maxRecDepth 20000 in
theorem c_X2_finds {E : EV} (hE : EOK E) {S : SC} {g0 : GH} {t : Nat} (ht : t < 30) {xs : List Int32} (hx : S.1 t = xs) {u : Nat} (hu : u < 30) {ys : List Int32} (hy : S.1 u = ys) : Ct E (RC E g0) yX2_finds wsX2_finds rX2_finds [eA E t, eA E u] S (some (.int (iI (fdc xs ys (xs.length + 1) 0 : Nat)))) S := by
  refine ct_of [(0, _), (1, _)] hE (by decide) rfl (Nat.le_of_ble_eq_true rfl) rfl (fun X h hq => ?_)
  refine j_of (fun G hG => RC_len hG ht) (fun hl => ?_)
  rw [hx] at hl
  have hc := cap_le t
  refine j_of (fun G hG => RC_len hG hu) (fun hlu => ?_)
  rw [hy] at hlu
  have hcu := cap_le u
  have hm1 : mxI 1 ys.length = ((max 1 ys.length : Nat) : Int) := by unfold mxI; split <;> omega
  refine j_iconst h dX2_finds_0 ?_
  refine j_istore_n h [(2, _), (0, _), (1, _)] dX2_finds_1 rfl (by decide) rfl ?_
  refine j_iconst h dX2_finds_2 ?_
  refine j_istore_n h [(3, _), (2, _), (0, _), (1, _)] dX2_finds_3 rfl (by decide) rfl ?_
  refine j_sub [0, 1, 2, 3] rfl ?_
  refine lpA3 (fun (z a : Int) (f : Nat) => f) (fun (z a : Int) (f : Nat) => 0 ≤ z → z ≤ 1300 → 0 ≤ a → a ≤ z → (xs.length : Int) - z < f → a + fdc xs ys f z.toNat = fdc xs ys (xs.length + 1) 0 → JL E (RC E g0) X 4 [(3, .int (iI z)), (2, .int (iI a)), (0, eA E t), (1, eA E u)] [] S) (fun z a f ih h0 hb ha hb2 hf hv => ?_) 0 0 (xs.length + 1) (Int.le_refl 0) (by omega) (by omega) (by omega) (by omega) (by simp)
  refine j_iload_n h 0 dX2_finds_4 rfl rfl ?_
  refine j_aload_n h 2 dX2_finds_5 rfl rfl ?_
  refine jx_Tsize h hx a_f_X2_21 (by omega) dX2_finds_6 ?_
  refine j_icmp_ge h 44 dX2_finds_9 (by decide) (by first | exact okI_of _ | exact okI_b _ | exact okI_sgz _ _ | assumption | (unfold okI; omega)) (by first | exact okI_of _ | exact okI_b _ | exact okI_sgz _ _ | assumption | (unfold okI; omega)) (fun c9 => ?_) (fun c9 => ?_)
  · refine j_iload_n h 1 dX2_finds_44 rfl rfl ?_
    exact j_iret h hq (by rw [← hv]; cases f with | zero => simp [fdc] | succ f => rw [fdc, if_neg (by omega)]; simp) dX2_finds_45
  · refine j_aload_n h 2 dX2_finds_12 rfl rfl ?_
    refine j_aload_n h 3 dX2_finds_13 rfl rfl ?_
    refine j_iload_n h 0 dX2_finds_14 rfl rfl ?_
    refine j_callV h (c_X2_bears hE ht hx hu hy (by unfold okI; omega)) m_X2_bears a_l_X2_43 rfl rfl ⟨Nat.le_of_ble_eq_true rfl, Nat.le_of_ble_eq_true rfl⟩ (ci := 2) rfl (by omega) (rcT (by omega)) rfl rfl (Nat.le_of_ble_eq_true rfl) dX2_finds_15 ?_
    refine j_if_eq h 38 dX2_finds_18 (by decide) (by first | exact okI_of _ | exact okI_b _ | exact okI_sgz _ _ | assumption | (unfold okI; omega)) (fun c18 => ?_) (fun c18 => ?_)
    · rw [bI_0] at c18
      refine j_iinc h 0 [(3, _), (2, _), (0, _), (1, _)] dX2_finds_38 rfl (by decide) rfl ?_
      refine j_goto h 4 dX2_finds_41 (by decide) ?_
      obtain ⟨f, rfl⟩ : ∃ f2, f = f2 + 1 := ⟨f - 1, by omega⟩
      rw [fdc, if_pos (by omega), show ((z.toNat : Nat) : Int) = z by omega, c18] at hv
      first | exact ih (z + 1) a f (by omega) (by omega) (by omega) (by omega) (by omega) (by omega) (by rw [show (z + 1).toNat = z.toNat + 1 by omega]; simpa using hv) | exact ih (z + mxI 1 ys.length) (a + 1) f (by omega) (by omega) (by omega) (by omega) (by omega) (by omega) (by rw [show (z + mxI 1 ys.length).toNat = z.toNat + max 1 ys.length by omega]; simp only [if_true] at hv; omega)
    · rw [bI_n0] at c18
      refine j_iinc h 1 [(2, _), (3, _), (0, _), (1, _)] dX2_finds_21 rfl (by decide) rfl ?_
      refine j_iload_n h 1 dX2_finds_24 rfl rfl ?_
      refine j_iconst h dX2_finds_25 ?_
      refine j_aload_n h 3 dX2_finds_26 rfl rfl ?_
      refine jx_Tsize h hy a_f_X2_21 (by omega) dX2_finds_27 ?_
      refine j_max h (by first | exact okI_of _ | exact okI_b _ | exact okI_sgz _ _ | assumption | (unfold okI; omega)) (by first | exact okI_of _ | exact okI_b _ | exact okI_sgz _ _ | assumption | (unfold okI; omega)) a_l_X2_9 ⟨Nat.le_of_ble_eq_true rfl, Nat.le_of_ble_eq_true rfl⟩ (Nat.le_of_ble_eq_true rfl) dX2_finds_30 ?_
      refine j_iadd h dX2_finds_33 ?_
      refine j_istore_n h [(3, _), (2, _), (0, _), (1, _)] dX2_finds_34 rfl (by decide) rfl ?_
      refine j_goto h 4 dX2_finds_35 (by decide) ?_
      obtain ⟨f, rfl⟩ : ∃ f2, f = f2 + 1 := ⟨f - 1, by omega⟩
      rw [fdc, if_pos (by omega), show ((z.toNat : Nat) : Int) = z by omega, c18] at hv
      first | exact ih (z + 1) a f (by omega) (by omega) (by omega) (by omega) (by omega) (by omega) (by rw [show (z + 1).toNat = z.toNat + 1 by omega]; simpa using hv) | exact ih (z + mxI 1 ys.length) (a + 1) f (by omega) (by omega) (by omega) (by omega) (by omega) (by omega) (by rw [show (z + mxI 1 ys.length).toNat = z.toNat + max 1 ys.length by omega]; simp only [if_true] at hv; omega)
set_option maxHeartbeats 400000 in
set_option maxRecDepth 20000 in
theorem c_X2_sharedFront {E : EV} (hE : EOK E) {S : SC} {g0 : GH} {t : Nat} (ht : t < 30) {xs : List Int32} (hx : S.1 t = xs) {u : Nat} (hu : u < 30) {ys : List Int32} (hy : S.1 u = ys) : Ct E (RC E g0) yX2_sharedFront wsX2_sharedFront rX2_sharedFront [eA E t, eA E u] S (some (.int (iI (sfr xs ys 0 (min xs.length ys.length) : Nat)))) S := by
  refine ct_of [(0, _), (1, _)] hE (by decide) rfl (Nat.le_of_ble_eq_true rfl) rfl (fun X h hq => ?_)
  refine j_of (fun G hG => RC_len hG ht) (fun hl => ?_)
  rw [hx] at hl
  have hc := cap_le t
  refine j_of (fun G hG => RC_len hG hu) (fun hlu => ?_)
  rw [hy] at hlu
  have hcu := cap_le u
  have hmm : mnI xs.length ys.length = ((min xs.length ys.length : Nat) : Int) := by unfold mnI; split <;> omega
  refine j_aload_n h 0 dX2_sharedFront_0 rfl rfl ?_
  refine jx_Tsize h hx a_f_X2_21 (by omega) dX2_sharedFront_1 ?_
  refine j_aload_n h 1 dX2_sharedFront_4 rfl rfl ?_
  refine jx_Tsize h hy a_f_X2_21 (by omega) dX2_sharedFront_5 ?_
  refine j_min h (by first | exact okI_of _ | exact okI_b _ | exact okI_sgz _ _ | assumption | (unfold okI; omega)) (by first | exact okI_of _ | exact okI_b _ | exact okI_sgz _ _ | assumption | (unfold okI; omega)) a_l_X2_54 ⟨Nat.le_of_ble_eq_true rfl, Nat.le_of_ble_eq_true rfl⟩ (Nat.le_of_ble_eq_true rfl) dX2_sharedFront_8 ?_
  refine j_istore_n h [(2, _), (0, _), (1, _)] dX2_sharedFront_11 rfl (by decide) rfl ?_
  refine j_iconst h dX2_sharedFront_12 ?_
  refine j_istore_n h [(3, _), (2, _), (0, _), (1, _)] dX2_sharedFront_13 rfl (by decide) rfl ?_
  refine j_sub [0, 1, 2, 3] rfl ?_
  rw [hmm]
  refine lpA1 (fun z : Int => (xs.length - z).toNat) (fun z : Int => 0 ≤ z → z ≤ (min xs.length ys.length : Nat) → sfr xs ys z.toNat (min xs.length ys.length - z.toNat) = sfr xs ys 0 (min xs.length ys.length) → JL E (RC E g0) X 14 [(3, .int (iI z)), (2, .int (iI (min xs.length ys.length : Nat))), (0, eA E t), (1, eA E u)] [] S) (fun z ih h0 hb hv => ?_) 0 (Int.le_refl 0) (by omega) rfl
  refine j_iload_n h 0 dX2_sharedFront_14 rfl rfl ?_
  refine j_iload_n h 1 dX2_sharedFront_15 rfl rfl ?_
  refine j_icmp_ge h 38 dX2_sharedFront_16 (by decide) (by first | exact okI_of _ | exact okI_b _ | exact okI_sgz _ _ | assumption | (unfold okI; omega)) (by first | exact okI_of _ | exact okI_b _ | exact okI_sgz _ _ | assumption | (unfold okI; omega)) (fun c16 => ?_) (fun c16 => ?_)
  · refine j_iload_n h 0 dX2_sharedFront_38 rfl rfl ?_
    exact j_iret h hq (by rw [← hv]; first | rw [show min xs.length ys.length - z.toNat = 0 by omega, sfr, show ((z.toNat : Nat) : Int) = z by omega] | rw [show min xs.length ys.length - z.toNat = min xs.length ys.length - (z + 1).toNat + 1 by omega, sfr, if_neg c29, show ((z.toNat : Nat) : Int) = z by omega]) dX2_sharedFront_39
  · refine j_aload_n h 2 dX2_sharedFront_19 rfl rfl ?_
    refine j_iload_n h 0 dX2_sharedFront_20 rfl rfl ?_
    refine j_callV h (c_X2_at hE ht hx h0 (by omega)) m_X2_at a_l_X2_25 rfl rfl ⟨Nat.le_of_ble_eq_true rfl, Nat.le_of_ble_eq_true rfl⟩ (ci := 2) rfl (by omega) (rcT (by omega)) rfl rfl (Nat.le_of_ble_eq_true rfl) dX2_sharedFront_21 ?_
    refine j_aload_n h 3 dX2_sharedFront_24 rfl rfl ?_
    refine j_iload_n h 0 dX2_sharedFront_25 rfl rfl ?_
    refine j_callV h (c_X2_at hE hu hy h0 (by omega)) m_X2_at a_l_X2_25 rfl rfl ⟨Nat.le_of_ble_eq_true rfl, Nat.le_of_ble_eq_true rfl⟩ (ci := 2) rfl (by omega) (rcT (by omega)) rfl rfl (Nat.le_of_ble_eq_true rfl) dX2_sharedFront_26 ?_
    refine j_rcmp_ne h 38 dX2_sharedFront_29 (by decide) (fun c29 => ?_) (fun c29 => ?_)
    · refine j_iload_n h 0 dX2_sharedFront_38 rfl rfl ?_
      exact j_iret h hq (by rw [← hv]; first | rw [show min xs.length ys.length - z.toNat = 0 by omega, sfr, show ((z.toNat : Nat) : Int) = z by omega] | rw [show min xs.length ys.length - z.toNat = min xs.length ys.length - (z + 1).toNat + 1 by omega, sfr, if_neg c29, show ((z.toNat : Nat) : Int) = z by omega]) dX2_sharedFront_39
    · refine j_iinc h 0 [(3, _), (2, _), (0, _), (1, _)] dX2_sharedFront_32 rfl (by decide) rfl ?_
      refine j_goto h 14 dX2_sharedFront_35 (by decide) ?_
      exact ih (z + 1) (by omega) (by omega) (by omega) (by rw [show min xs.length ys.length - z.toNat = min xs.length ys.length - (z + 1).toNat + 1 by omega, sfr, if_pos c29, show z.toNat + 1 = (z + 1).toNat by omega] at hv; exact hv)
set_option maxHeartbeats 400000 in
set_option maxRecDepth 20000 in
theorem c_X2_sharedRear {E : EV} (hE : EOK E) {S : SC} {g0 : GH} {t : Nat} (ht : t < 30) {xs : List Int32} (hx : S.1 t = xs) {u : Nat} (hu : u < 30) {ys : List Int32} (hy : S.1 u = ys) : Ct E (RC E g0) yX2_sharedRear wsX2_sharedRear rX2_sharedRear [eA E t, eA E u] S (some (.int (iI (srr xs ys 0 (min xs.length ys.length) : Nat)))) S := by
  refine ct_of [(0, _), (1, _)] hE (by decide) rfl (Nat.le_of_ble_eq_true rfl) rfl (fun X h hq => ?_)
  refine j_of (fun G hG => RC_len hG ht) (fun hl => ?_)
  rw [hx] at hl
  have hc := cap_le t
  refine j_of (fun G hG => RC_len hG hu) (fun hlu => ?_)
  rw [hy] at hlu
  have hcu := cap_le u
  have hmm : mnI xs.length ys.length = ((min xs.length ys.length : Nat) : Int) := by unfold mnI; split <;> omega
  refine j_aload_n h 0 dX2_sharedRear_0 rfl rfl ?_
  refine jx_Tsize h hx a_f_X2_21 (by omega) dX2_sharedRear_1 ?_
  refine j_aload_n h 1 dX2_sharedRear_4 rfl rfl ?_
  refine jx_Tsize h hy a_f_X2_21 (by omega) dX2_sharedRear_5 ?_
  refine j_min h (by first | exact okI_of _ | exact okI_b _ | exact okI_sgz _ _ | assumption | (unfold okI; omega)) (by first | exact okI_of _ | exact okI_b _ | exact okI_sgz _ _ | assumption | (unfold okI; omega)) a_l_X2_54 ⟨Nat.le_of_ble_eq_true rfl, Nat.le_of_ble_eq_true rfl⟩ (Nat.le_of_ble_eq_true rfl) dX2_sharedRear_8 ?_
  refine j_istore_n h [(2, _), (0, _), (1, _)] dX2_sharedRear_11 rfl (by decide) rfl ?_
  refine j_iconst h dX2_sharedRear_12 ?_
  refine j_istore_n h [(3, _), (2, _), (0, _), (1, _)] dX2_sharedRear_13 rfl (by decide) rfl ?_
  refine j_sub [0, 1, 2, 3] rfl ?_
  rw [hmm]
  refine lpA1 (fun z : Int => (xs.length - z).toNat) (fun z : Int => 0 ≤ z → z ≤ (min xs.length ys.length : Nat) → srr xs ys z.toNat (min xs.length ys.length - z.toNat) = srr xs ys 0 (min xs.length ys.length) → JL E (RC E g0) X 14 [(3, .int (iI z)), (2, .int (iI (min xs.length ys.length : Nat))), (0, eA E t), (1, eA E u)] [] S) (fun z ih h0 hb hv => ?_) 0 (Int.le_refl 0) (by omega) rfl
  refine j_iload_n h 0 dX2_sharedRear_14 rfl rfl ?_
  refine j_iload_n h 1 dX2_sharedRear_15 rfl rfl ?_
  refine j_icmp_ge h 52 dX2_sharedRear_16 (by decide) (by first | exact okI_of _ | exact okI_b _ | exact okI_sgz _ _ | assumption | (unfold okI; omega)) (by first | exact okI_of _ | exact okI_b _ | exact okI_sgz _ _ | assumption | (unfold okI; omega)) (fun c16 => ?_) (fun c16 => ?_)
  · refine j_iload_n h 0 dX2_sharedRear_52 rfl rfl ?_
    exact j_iret h hq (by rw [← hv]; first | rw [show min xs.length ys.length - z.toNat = 0 by omega, srr, show ((z.toNat : Nat) : Int) = z by omega] | rw [show min xs.length ys.length - z.toNat = min xs.length ys.length - (z + 1).toNat + 1 by omega, srr, if_neg (by rw [show xs.length - 1 - z.toNat = ((xs.length : Int) - 1 - z).toNat by omega, show ys.length - 1 - z.toNat = ((ys.length : Int) - 1 - z).toNat by omega]; exact c43), show ((z.toNat : Nat) : Int) = z by omega]) dX2_sharedRear_53
  · refine j_aload_n h 2 dX2_sharedRear_19 rfl rfl ?_
    refine j_aload_n h 2 dX2_sharedRear_20 rfl rfl ?_
    refine jx_Tsize h hx a_f_X2_21 (by omega) dX2_sharedRear_21 ?_
    refine j_iconst h dX2_sharedRear_24 ?_
    refine j_isub h dX2_sharedRear_25 ?_
    refine j_iload_n h 0 dX2_sharedRear_26 rfl rfl ?_
    refine j_isub h dX2_sharedRear_27 ?_
    refine j_callV h (c_X2_at hE ht hx (by omega) (by omega)) m_X2_at a_l_X2_25 rfl rfl ⟨Nat.le_of_ble_eq_true rfl, Nat.le_of_ble_eq_true rfl⟩ (ci := 2) rfl (by omega) (rcT (by omega)) rfl rfl (Nat.le_of_ble_eq_true rfl) dX2_sharedRear_28 ?_
    refine j_aload_n h 3 dX2_sharedRear_31 rfl rfl ?_
    refine j_aload_n h 3 dX2_sharedRear_32 rfl rfl ?_
    refine jx_Tsize h hy a_f_X2_21 (by omega) dX2_sharedRear_33 ?_
    refine j_iconst h dX2_sharedRear_36 ?_
    refine j_isub h dX2_sharedRear_37 ?_
    refine j_iload_n h 0 dX2_sharedRear_38 rfl rfl ?_
    refine j_isub h dX2_sharedRear_39 ?_
    refine j_callV h (c_X2_at hE hu hy (by omega) (by omega)) m_X2_at a_l_X2_25 rfl rfl ⟨Nat.le_of_ble_eq_true rfl, Nat.le_of_ble_eq_true rfl⟩ (ci := 2) rfl (by omega) (rcT (by omega)) rfl rfl (Nat.le_of_ble_eq_true rfl) dX2_sharedRear_40 ?_
    refine j_rcmp_ne h 52 dX2_sharedRear_43 (by decide) (fun c43 => ?_) (fun c43 => ?_)
    · refine j_iload_n h 0 dX2_sharedRear_52 rfl rfl ?_
      exact j_iret h hq (by rw [← hv]; first | rw [show min xs.length ys.length - z.toNat = 0 by omega, srr, show ((z.toNat : Nat) : Int) = z by omega] | rw [show min xs.length ys.length - z.toNat = min xs.length ys.length - (z + 1).toNat + 1 by omega, srr, if_neg (by rw [show xs.length - 1 - z.toNat = ((xs.length : Int) - 1 - z).toNat by omega, show ys.length - 1 - z.toNat = ((ys.length : Int) - 1 - z).toNat by omega]; exact c43), show ((z.toNat : Nat) : Int) = z by omega]) dX2_sharedRear_53
    · refine j_iinc h 0 [(3, _), (2, _), (0, _), (1, _)] dX2_sharedRear_46 rfl (by decide) rfl ?_
      refine j_goto h 14 dX2_sharedRear_49 (by decide) ?_
      exact ih (z + 1) (by omega) (by omega) (by omega) (by rw [show min xs.length ys.length - z.toNat = min xs.length ys.length - (z + 1).toNat + 1 by omega, srr, if_pos (by rw [show xs.length - 1 - z.toNat = ((xs.length : Int) - 1 - z).toNat by omega, show ys.length - 1 - z.toNat = ((ys.length : Int) - 1 - z).toNat by omega]; exact c43), show z.toNat + 1 = (z + 1).toNat by omega] at hv; exact hv)
set_option maxHeartbeats 400000 in
set_option maxRecDepth 20000 in
theorem c_X2_endOfFront {E : EV} (hE : EOK E) {S : SC} {g0 : GH} {t : Nat} (ht : t < 30) {xs : List Int32} (hx : S.1 t = xs) (b : Bool) : Ct E (RC E g0) yX2_endOfFront wsX2_endOfFront rX2_endOfFront [eA E t, .int (iI (bI b))] S (some (.int (iI (eof b xs 0 xs.length : Nat)))) S := by
  refine ct_of [(0, _), (1, _)] hE (by decide) rfl (Nat.le_of_ble_eq_true rfl) rfl (fun X h hq => ?_)
  refine j_of (fun G hG => RC_len hG ht) (fun hl => ?_)
  rw [hx] at hl
  have hc := cap_le t
  refine j_iconst h dX2_endOfFront_0 ?_
  refine j_istore_n h [(2, _), (0, _), (1, _)] dX2_endOfFront_1 rfl (by decide) rfl ?_
  refine j_sub [0, 1, 2] rfl ?_
  refine lpA1 (fun z : Int => (xs.length - z).toNat) (fun z : Int => 0 ≤ z → z ≤ xs.length → eof b xs z.toNat (xs.length - z.toNat) = eof b xs 0 xs.length → JL E (RC E g0) X 2 [(2, .int (iI z)), (0, eA E t), (1, .int (iI (bI b)))] [] S) (fun z ih h0 hb hv => ?_) 0 (Int.le_refl 0) (by omega) rfl
  refine j_iload_n h 0 dX2_endOfFront_2 rfl rfl ?_
  refine j_aload_n h 1 dX2_endOfFront_3 rfl rfl ?_
  refine jx_Tsize h hx a_f_X2_21 (by omega) dX2_endOfFront_4 ?_
  refine j_icmp_ge h 28 dX2_endOfFront_7 (by decide) (by first | exact okI_of _ | exact okI_b _ | exact okI_sgz _ _ | assumption | (unfold okI; omega)) (by first | exact okI_of _ | exact okI_b _ | exact okI_sgz _ _ | assumption | (unfold okI; omega)) (fun c7 => ?_) (fun c7 => ?_)
  · refine j_iload_n h 0 dX2_endOfFront_28 rfl rfl ?_
    exact j_iret h hq (by rw [← hv]; first | rw [show xs.length - z.toNat = 0 by omega, eof, show ((z.toNat : Nat) : Int) = z by omega] | rw [show xs.length - z.toNat = xs.length - (z + 1).toNat + 1 by omega, eof, if_neg (by rw [c19]; simp), show ((z.toNat : Nat) : Int) = z by omega]) dX2_endOfFront_29
  · refine j_aload_n h 1 dX2_endOfFront_10 rfl rfl ?_
    refine j_iload_n h 0 dX2_endOfFront_11 rfl rfl ?_
    refine j_callV h (c_X2_at hE ht hx h0 (by omega)) m_X2_at a_l_X2_25 rfl rfl ⟨Nat.le_of_ble_eq_true rfl, Nat.le_of_ble_eq_true rfl⟩ (ci := 2) rfl (by omega) (rcT (by omega)) rfl rfl (Nat.le_of_ble_eq_true rfl) dX2_endOfFront_12 ?_
    refine j_iload_n h 2 dX2_endOfFront_15 rfl rfl ?_
    refine j_callN (host := "TextShelves") h (c_isLoose_raw hE _ b) m_X3_isLoose (by decide) rfl rfl ⟨Nat.le_of_ble_eq_true rfl, Nat.le_of_ble_eq_true rfl⟩ rfl rfl (Nat.le_of_ble_eq_true rfl) dX2_endOfFront_16 ?_
    refine j_if_eq h 28 dX2_endOfFront_19 (by decide) (by first | exact okI_of _ | exact okI_b _ | exact okI_sgz _ _ | assumption | (unfold okI; omega)) (fun c19 => ?_) (fun c19 => ?_)
    · rw [bI_0] at c19
      refine j_iload_n h 0 dX2_endOfFront_28 rfl rfl ?_
      exact j_iret h hq (by rw [← hv]; first | rw [show xs.length - z.toNat = 0 by omega, eof, show ((z.toNat : Nat) : Int) = z by omega] | rw [show xs.length - z.toNat = xs.length - (z + 1).toNat + 1 by omega, eof, if_neg (by rw [c19]; simp), show ((z.toNat : Nat) : Int) = z by omega]) dX2_endOfFront_29
    · rw [bI_n0] at c19
      refine j_iinc h 0 [(2, _), (0, _), (1, _)] dX2_endOfFront_22 rfl (by decide) rfl ?_
      refine j_goto h 2 dX2_endOfFront_25 (by decide) ?_
      exact ih (z + 1) (by omega) (by omega) (by omega) (by rw [show xs.length - z.toNat = xs.length - (z + 1).toNat + 1 by omega, eof, if_pos c19, show z.toNat + 1 = (z + 1).toNat by omega] at hv; exact hv)
set_option maxHeartbeats 400000 in
set_option maxRecDepth 20000 in
theorem c_X2_startOfRear {E : EV} (hE : EOK E) {S : SC} {g0 : GH} {t : Nat} (ht : t < 30) {xs : List Int32} (hx : S.1 t = xs) (b : Bool) {f : Nat} (hf : f ≤ xs.length) : Ct E (RC E g0) yX2_startOfRear wsX2_startOfRear rX2_startOfRear [eA E t, .int (iI (f : Int)), .int (iI (bI b))] S (some (.int (iI (sor b xs f (xs.length - f) : Nat)))) S := by
  refine ct_of [(0, _), (1, _), (2, _)] hE (by decide) rfl (Nat.le_of_ble_eq_true rfl) rfl (fun X h hq => ?_)
  refine j_of (fun G hG => RC_len hG ht) (fun hl => ?_)
  rw [hx] at hl
  have hc := cap_le t
  refine j_aload_n h 0 dX2_startOfRear_0 rfl rfl ?_
  refine jx_Tsize h hx a_f_X2_21 (by omega) dX2_startOfRear_1 ?_
  refine j_istore_n h [(3, _), (0, _), (1, _), (2, _)] dX2_startOfRear_4 rfl (by decide) rfl ?_
  refine j_sub [0, 1, 2, 3] rfl ?_
  refine lpA1 (fun z : Int => z.toNat) (fun z : Int => f ≤ z → z ≤ xs.length → sor b xs f (z - f).toNat = sor b xs f (xs.length - f) → JL E (RC E g0) X 5 [(3, .int (iI z)), (0, eA E t), (1, .int (iI (f : Int))), (2, .int (iI (bI b)))] [] S) (fun z ih h0 hb hv => ?_) _ (by omega) (by omega) (by rw [show ((xs.length : Int) - f).toNat = xs.length - f by omega])
  refine j_iload_n h 0 dX2_startOfRear_5 rfl rfl ?_
  refine j_iload_n h 2 dX2_startOfRear_6 rfl rfl ?_
  refine j_icmp_le h 30 dX2_startOfRear_7 (by decide) (by first | exact okI_of _ | exact okI_b _ | exact okI_sgz _ _ | assumption | (unfold okI; omega)) (by first | exact okI_of _ | exact okI_b _ | exact okI_sgz _ _ | assumption | (unfold okI; omega)) (fun c7 => ?_) (fun c7 => ?_)
  · refine j_iload_n h 0 dX2_startOfRear_30 rfl rfl ?_
    exact j_iret h hq (by rw [← hv]; first | rw [show (z - f).toNat = 0 by omega, sor, show (f : Int) = z by omega] | rw [show (z - f).toNat = (z + -1 - f).toNat + 1 by omega, sor, if_neg (by rw [show f + (z + -1 - f).toNat = (z - 1).toNat by omega, c21]; simp), show ((f + (z + -1 - f).toNat + 1 : Nat) : Int) = z by omega]) dX2_startOfRear_31
  · refine j_aload_n h 1 dX2_startOfRear_10 rfl rfl ?_
    refine j_iload_n h 0 dX2_startOfRear_11 rfl rfl ?_
    refine j_iconst h dX2_startOfRear_12 ?_
    refine j_isub h dX2_startOfRear_13 ?_
    refine j_callV h (c_X2_at hE ht hx (by omega) (by omega)) m_X2_at a_l_X2_25 rfl rfl ⟨Nat.le_of_ble_eq_true rfl, Nat.le_of_ble_eq_true rfl⟩ (ci := 2) rfl (by omega) (rcT (by omega)) rfl rfl (Nat.le_of_ble_eq_true rfl) dX2_startOfRear_14 ?_
    refine j_iload_n h 3 dX2_startOfRear_17 rfl rfl ?_
    refine j_callN (host := "TextShelves") h (c_isLoose_raw hE _ b) m_X3_isLoose (by decide) rfl rfl ⟨Nat.le_of_ble_eq_true rfl, Nat.le_of_ble_eq_true rfl⟩ rfl rfl (Nat.le_of_ble_eq_true rfl) dX2_startOfRear_18 ?_
    refine j_if_eq h 30 dX2_startOfRear_21 (by decide) (by first | exact okI_of _ | exact okI_b _ | exact okI_sgz _ _ | assumption | (unfold okI; omega)) (fun c21 => ?_) (fun c21 => ?_)
    · rw [bI_0] at c21
      refine j_iload_n h 0 dX2_startOfRear_30 rfl rfl ?_
      exact j_iret h hq (by rw [← hv]; first | rw [show (z - f).toNat = 0 by omega, sor, show (f : Int) = z by omega] | rw [show (z - f).toNat = (z + -1 - f).toNat + 1 by omega, sor, if_neg (by rw [show f + (z + -1 - f).toNat = (z - 1).toNat by omega, c21]; simp), show ((f + (z + -1 - f).toNat + 1 : Nat) : Int) = z by omega]) dX2_startOfRear_31
    · rw [bI_n0] at c21
      refine j_iinc h 0 [(3, _), (0, _), (1, _), (2, _)] dX2_startOfRear_24 rfl (by decide) rfl ?_
      refine j_goto h 5 dX2_startOfRear_27 (by decide) ?_
      exact ih (z + -1) (by omega) (by omega) (by omega) (by rw [show (z - f).toNat = (z + -1 - f).toNat + 1 by omega, sor, if_pos (by rw [show f + (z + -1 - f).toNat = (z - 1).toNat by omega]; exact c21)] at hv; exact hv)
