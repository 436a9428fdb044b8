/-! Text: replaced, folded, changed, digits -/
theorem gz_set (us : List Int32) (k : Nat) : us.set k (gz us k) = us := by
  by_cases h : k < us.length
  · have : gz us k = us[k] := by simp [gz, List.getD, h]
    rw [this]
    exact List.set_getElem_self h
  · exact List.set_eq_of_length_le (by omega)
theorem tOK_put {E : EV} {G : GH} {t k : Nat} {xs : List Int32} {f : Nat → Int32} {x : Int32} (ht : t < 30) (h0 : G t = .inr (2, [eA E (30 + t), .int (iI xs.length)])) (hl : xs.length ≤ cap t) (hf : G (30 + t) = .inl (eI E, cap t, .inl f)) (hv : ∀ j, j < xs.length → f j = xs.getD j 0) (hk : k < xs.length) : tOK E (va_up G (30 + t) (.inl (eI E, cap t, .inl (upd f k x)))) t (xs.set k x) := by
  refine ⟨?_, by rw [List.length_set]; exact hl, _, va_up_self _ _ _, fun j hj => ?_⟩
  · rw [va_up_ne _ _ (by omega), List.length_set]
    exact h0
  · rw [List.length_set] at hj
    by_cases q : j = k
    · subst q; simp [upd, List.getD, hj]
    · rw [show upd f k x j = f j from if_neg q, hv j hj]
      simp [List.getD, List.getElem?_set_ne (Ne.symm q)]
set_option maxHeartbeats 400000 in
set_option maxRecDepth 20000 in
theorem c_X2_addReplaced {E : EV} (hE : EOK E) {S : SC} {g0 : GH} {t : Nat} (ht : t < 30) {ws : List Int32} (hx : S.1 t = ws) {u : Nat} (hu : u < 30) {xs : List Int32} (hx2 : S.1 u = xs) {v : Nat} (hv0 : v < 30) {ys : List Int32} (hy : S.1 v = ys) {w : Nat} (hw0 : w < 30) {zs : List Int32} (hz : S.1 w = zs) (hne : u ≠ t) (hne2 : v ≠ t) (hne3 : w ≠ t) (hcp : ws.length + (rpl xs ys zs (xs.length + 1) 0).length ≤ cap t) : Ct E (RC E g0) yX2_addReplaced wsX2_addReplaced rX2_addReplaced [eA E t, eA E u, eA E v, eA E w] S none (setT S t (ws ++ rpl xs ys zs (xs.length + 1) 0)) := by
  refine ct_of [(0, _), (1, _), (2, _), (3, _)] hE (by decide) rfl (Nat.le_of_ble_eq_true rfl) rfl (fun X h hq => ?_)
  refine j_of (fun G hG => RC_len hG ht) (fun hl => ?_)
  rw [hx] at hl
  have hc := cap_le t
  refine j_of (fun G hG => RC_len hG hu) (fun hlu => ?_)
  rw [hx2] at hlu
  have hcu := cap_le u
  refine j_of (fun G hG => RC_len hG hv0) (fun hlv => ?_)
  rw [hy] at hlv
  have hcv := cap_le v
  have hm1 : mxI 1 ys.length = ((max 1 ys.length : Nat) : Int) := by unfold mxI; split <;> omega
  refine j_iconst h dX2_addReplaced_0 ?_
  refine j_istore h [(4, _), (0, _), (1, _), (2, _), (3, _)] dX2_addReplaced_1 (by decide) rfl ?_
  refine j_sub [0, 1, 2, 3, 4] rfl ?_
  refine j_S (S2 := setT S t ws) (by rw [← hx, setT_id]) ?_
  refine lpA3 (fun (z : Int) (us : List Int32) (f : Nat) => f) (fun (z : Int) (us : List Int32) (f : Nat) => 0 ≤ z → z ≤ 1300 → (xs.length : Int) - z < f → us ++ rpl xs ys zs f z.toNat = ws ++ rpl xs ys zs (xs.length + 1) 0 → JL E (RC E g0) X 3 [(4, .int (iI z)), (0, eA E t), (1, eA E u), (2, eA E v), (3, eA E w)] [] (setT S t us)) (fun z us f ih h0 hb hf hv => ?_) 0 ws (xs.length + 1) (Int.le_refl 0) (by omega) (by omega) rfl
  have eu : (setT S t us).1 u = xs := by rw [setT_1n _ _ hne]; exact hx2
  have ev : (setT S t us).1 v = ys := by rw [setT_1n _ _ hne2]; exact hy
  have ew : (setT S t us).1 w = zs := by rw [setT_1n _ _ hne3]; exact hz
  have hlen := congrArg List.length hv
  simp only [List.length_append] at hlen
  refine j_iload h 0 dX2_addReplaced_3 rfl ?_
  refine j_aload_n h 2 dX2_addReplaced_5 rfl rfl ?_
  refine jx_Tsize h eu a_f_X2_21 (by omega) dX2_addReplaced_6 ?_
  refine j_icmp_ge h 59 dX2_addReplaced_9 (by decide) (by first | exact okI_of _ | exact okI_b _ | exact okI_sgz _ _ | assumption | (unfold okI; omega)) (by first | exact okI_of _ | exact okI_b _ | exact okI_sgz _ _ | assumption | (unfold okI; omega)) (fun c9 => ?_) (fun c9 => ?_)
  · have e : rpl xs ys zs f z.toNat = [] := by cases f with | zero => rfl | succ f => rw [rpl, if_neg (by omega)]
    rw [e, List.append_nil] at hv
    rw [← hv] at hq
    exact j_vret h hq rfl dX2_addReplaced_59
  · refine j_aload_n h 2 dX2_addReplaced_12 rfl rfl ?_
    refine j_aload_n h 3 dX2_addReplaced_13 rfl rfl ?_
    refine j_iload h 0 dX2_addReplaced_14 rfl ?_
    refine j_callV h (c_X2_bears hE hu eu hv0 ev (by unfold okI; omega)) m_X2_bears a_l_X2_43 rfl rfl ⟨Nat.le_of_ble_eq_true rfl, Nat.le_of_ble_eq_true rfl⟩ (ci := 2) rfl (by omega) (rcT (by omega)) rfl rfl (Nat.le_of_ble_eq_true rfl) dX2_addReplaced_16 ?_
    refine j_if_eq h 43 dX2_addReplaced_19 (by decide) (by first | exact okI_of _ | exact okI_b _ | exact okI_sgz _ _ | assumption | (unfold okI; omega)) (fun c19 => ?_) (fun c19 => ?_)
    · rw [bI_0] at c19
      obtain ⟨f, rfl⟩ : ∃ f2, f = f2 + 1 := ⟨f - 1, by omega⟩
      rw [rpl, if_pos (by omega), show ((z.toNat : Nat) : Int) = z by omega, c19, if_neg (by simp), List.append_cons, show z.toNat + 1 = (z + 1).toNat by omega] at hv
      have hlen := congrArg List.length hv
      simp only [List.length_append, List.length_cons, List.length_nil] at hlen
      refine j_aload_n h 1 dX2_addReplaced_43 rfl rfl ?_
      refine j_aload_n h 2 dX2_addReplaced_44 rfl rfl ?_
      refine j_iload h 0 dX2_addReplaced_45 rfl ?_
      refine j_callV h (c_X2_at hE hu eu h0 (by omega)) m_X2_at a_l_X2_25 rfl rfl ⟨Nat.le_of_ble_eq_true rfl, Nat.le_of_ble_eq_true rfl⟩ (ci := 2) rfl (by omega) (rcT (by omega)) rfl rfl (Nat.le_of_ble_eq_true rfl) dX2_addReplaced_47 ?_
      refine j_callVv h (c_X2_add hE ht (xs := us) (setT_1s _ _ _) (by omega)) m_X2_add a_l_X2_29 rfl rfl ⟨Nat.le_of_ble_eq_true rfl, Nat.le_of_ble_eq_true rfl⟩ (ci := 2) rfl (by omega) (rcT (by omega)) rfl rfl (Nat.le_of_ble_eq_true rfl) dX2_addReplaced_50 ?_
      refine j_S (S2 := setT S t (us ++ [gz xs z.toNat])) (by rw [setT_T]) ?_
      refine j_iinc h 0 [(4, _), (0, _), (1, _), (2, _), (3, _)] dX2_addReplaced_53 rfl (by decide) rfl ?_
      refine j_goto h 3 dX2_addReplaced_56 (by decide) ?_
      exact ih _ _ f (by omega) (by omega) (by omega) (by omega) hv
    · rw [bI_n0] at c19
      obtain ⟨f, rfl⟩ : ∃ f2, f = f2 + 1 := ⟨f - 1, by omega⟩
      rw [rpl, if_pos (by omega), show ((z.toNat : Nat) : Int) = z by omega, c19, if_pos rfl, ← List.append_assoc, show z.toNat + max 1 ys.length = (z + mxI 1 ys.length).toNat by omega] at hv
      have hlen := congrArg List.length hv
      simp only [List.length_append] at hlen
      refine j_aload_n h 1 dX2_addReplaced_22 rfl rfl ?_
      refine j_aload_n h 4 dX2_addReplaced_23 rfl rfl ?_
      refine j_callVv h (c_X2_addText hE ht (xs := us) (setT_1s _ _ _) hw0 ew hne3 (by omega)) m_X2_addText a_l_X2_47 rfl rfl ⟨Nat.le_of_ble_eq_true rfl, Nat.le_of_ble_eq_true rfl⟩ (ci := 2) rfl (by omega) (rcT (by omega)) rfl rfl (Nat.le_of_ble_eq_true rfl) dX2_addReplaced_24 ?_
      refine j_S (S2 := setT S t (us ++ zs)) (by rw [setT_T]) ?_
      refine j_iload h 0 dX2_addReplaced_27 rfl ?_
      refine j_iconst h dX2_addReplaced_29 ?_
      refine j_aload_n h 3 dX2_addReplaced_30 rfl rfl ?_
      refine jx_Tsize h (xs := ys) (by rw [setT_1n _ _ hne2]; exact hy) a_f_X2_21 (by omega) dX2_addReplaced_31 ?_
      refine j_max h (by first | exact okI_of _ | exact okI_b _ | exact okI_sgz _ _ | assumption | (unfold okI; omega)) (by first | exact okI_of _ | exact okI_b _ | exact okI_sgz _ _ | assumption | (unfold okI; omega)) a_l_X2_9 ⟨Nat.le_of_ble_eq_true rfl, Nat.le_of_ble_eq_true rfl⟩ (Nat.le_of_ble_eq_true rfl) dX2_addReplaced_34 ?_
      refine j_iadd h dX2_addReplaced_37 ?_
      refine j_istore h [(4, _), (0, _), (1, _), (2, _), (3, _)] dX2_addReplaced_38 (by decide) rfl ?_
      refine j_goto h 3 dX2_addReplaced_40 (by decide) ?_
      exact ih _ _ f (by omega) (by omega) (by omega) (by omega) hv
set_option maxHeartbeats 400000 in
set_option maxRecDepth 20000 in
theorem c_X2_foldSpan {E : EV} (hE : EOK E) {S : SC} {g0 : GH} {t : Nat} (ht : t < 30) {xs : List Int32} (hx : S.1 t = xs) {h0 : Int} {a b : Int} (ha : 0 ≤ a) (hab : a ≤ b) (hb : b ≤ xs.length) : Ct E (RC E g0) yX2_foldSpan wsX2_foldSpan rX2_foldSpan [eA E t, .long (lI h0), .int (iI a), .int (iI b)] S (some (.long (lI (fld xs (31 * h0 + (b - a)) a.toNat (b - a).toNat)))) S := by
  refine ct_of [(0, _), (1, _), (3, _), (4, _)] hE (by decide) rfl (Nat.le_of_ble_eq_true rfl) rfl (fun X h hq => ?_)
  refine j_of (fun G hG => RC_len hG ht) (fun hl => ?_)
  rw [hx] at hl
  have hc := cap_le t
  refine j_ldc2 h (31) a_k_X2_69 (by decide) dX2_foldSpan_0 ?_
  refine j_lload_n h 1 dX2_foldSpan_3 rfl rfl ?_
  refine j_lmul h dX2_foldSpan_4 ?_
  refine j_iload h 3 dX2_foldSpan_5 rfl ?_
  refine j_iload_n h 2 dX2_foldSpan_7 rfl rfl ?_
  refine j_isub h dX2_foldSpan_8 ?_
  refine j_i2l h (lI (b - a)) dX2_foldSpan_9 (iI_i2l (by unfold okI; omega)) ?_
  refine j_ladd h dX2_foldSpan_10 ?_
  refine j_lstore h [(5, _), (0, _), (1, _), (3, _), (4, _)] dX2_foldSpan_11 (by decide) rfl ?_
  refine j_iload_n h 3 dX2_foldSpan_13 rfl rfl ?_
  refine j_istore h [(7, _), (5, _), (0, _), (1, _), (3, _), (4, _)] dX2_foldSpan_14 (by decide) rfl ?_
  refine j_sub [0, 1, 2, 5] rfl ?_
  refine lpA2 (fun (z k : Int) => (b - z).toNat) (fun (z k : Int) => a ≤ z → z ≤ b → fld xs k z.toNat (b - z).toNat = fld xs (31 * h0 + (b - a)) a.toNat (b - a).toNat → JL E (RC E g0) X 16 [(7, .int (iI z)), (5, .long (lI k)), (0, eA E t), (4, .int (iI b))] [] S) (fun z k ih h1 h2 hv => ?_) a _ (Int.le_refl a) hab rfl
  refine j_iload h 0 dX2_foldSpan_16 rfl ?_
  refine j_iload h 3 dX2_foldSpan_18 rfl ?_
  refine j_icmp_ge h 45 dX2_foldSpan_20 (by decide) (by first | exact okI_of _ | exact okI_b _ | exact okI_sgz _ _ | assumption | (unfold okI; omega)) (by first | exact okI_of _ | exact okI_b _ | exact okI_sgz _ _ | assumption | (unfold okI; omega)) (fun c20 => ?_) (fun c20 => ?_)
  · refine j_lload h 1 dX2_foldSpan_45 rfl ?_
    exact j_lret h hq (by rw [← hv, show (b - z).toNat = 0 by omega, fld]) dX2_foldSpan_47
  · refine j_ldc2 h (31) a_k_X2_69 (by decide) dX2_foldSpan_23 ?_
    refine j_lload h 1 dX2_foldSpan_26 rfl ?_
    refine j_lmul h dX2_foldSpan_28 ?_
    refine j_aload_n h 2 dX2_foldSpan_29 rfl rfl ?_
    refine j_iload h 0 dX2_foldSpan_30 rfl ?_
    refine j_callV h (c_X2_at hE ht hx (by omega) (by omega)) m_X2_at a_l_X2_25 rfl rfl ⟨Nat.le_of_ble_eq_true rfl, Nat.le_of_ble_eq_true rfl⟩ (ci := 2) rfl (by omega) (rcT (by omega)) rfl rfl (Nat.le_of_ble_eq_true rfl) dX2_foldSpan_32 ?_
    refine j_i2l h _ dX2_foldSpan_35 (i2l_raw _) ?_
    refine j_ladd h dX2_foldSpan_36 ?_
    refine j_lstore h [(5, _), (7, _), (0, _), (4, _)] dX2_foldSpan_37 (by decide) rfl ?_
    refine j_iinc h 1 [(7, _), (5, _), (0, _), (4, _)] dX2_foldSpan_39 rfl (by decide) rfl ?_
    refine j_goto h 16 dX2_foldSpan_42 (by decide) ?_
    exact ih (z + 1) _ (by omega) (by omega) (by omega) (by rw [show (b - z).toNat = (b - (z + 1)).toNat + 1 by omega, fld, show z.toNat + 1 = (z + 1).toNat by omega] at hv; exact hv)
set_option maxHeartbeats 400000 in
set_option maxRecDepth 20000 in
theorem c_X2_change {E : EV} (hE : EOK E) {S : SC} {g0 : GH} {t : Nat} (ht : t < 30) {xs : List Int32} (hx : S.1 t = xs) {p q : Int32} : Ct E (RC E g0) yX2_change wsX2_change rX2_change [eA E t, .int p, .int q] S none (setT S t (chg p q xs 0 xs.length)) := by
  refine ct_of [(0, _), (1, _), (2, _)] hE (by decide) rfl (Nat.le_of_ble_eq_true rfl) rfl (fun X h hq => ?_)
  refine j_of (fun G hG => RC_len hG ht) (fun hl => ?_)
  rw [hx] at hl
  have hc := cap_le t
  refine j_iconst h dX2_change_0 ?_
  refine j_istore_n h [(3, _), (0, _), (1, _), (2, _)] dX2_change_1 rfl (by decide) rfl ?_
  refine j_sub [0, 1, 2, 3] rfl ?_
  refine j_S (S2 := setT S t xs) (by rw [← hx, setT_id]) ?_
  refine lpA2 (fun (z : Int) (us : List Int32) => (xs.length - z).toNat) (fun (z : Int) (us : List Int32) => 0 ≤ z → z ≤ xs.length → us.length = xs.length → chg p q us z.toNat (xs.length - z.toNat) = chg p q xs 0 xs.length → JL E (RC E g0) X 2 [(3, .int (iI z)), (0, eA E t), (1, .int p), (2, .int q)] [] (setT S t us)) (fun z us ih h0 hb hlu hv => ?_) 0 xs (Int.le_refl 0) (by omega) rfl rfl
  refine j_iload_n h 0 dX2_change_2 rfl rfl ?_
  refine j_aload_n h 1 dX2_change_3 rfl rfl ?_
  refine jx_Tsize h (setT_1s _ _ _) a_f_X2_21 (by omega) dX2_change_4 ?_
  refine j_icmp_ge h 42 dX2_change_7 (by decide) (by first | exact okI_of _ | exact okI_b _ | exact okI_sgz _ _ | assumption | (unfold okI; omega)) (by first | exact okI_of _ | exact okI_b _ | exact okI_sgz _ _ | assumption | (unfold okI; omega)) (fun c7 => ?_) (fun c7 => ?_)
  · rw [show xs.length - z.toNat = 0 by omega, chg] at hv
    rw [← hv] at hq
    exact j_vret h hq rfl dX2_change_42
  · refine j_iload_n h 0 dX2_change_10 rfl rfl ?_
    refine j_aload_n h 1 dX2_change_11 rfl rfl ?_
    refine jg_Tsigns h a_f_X2_15 (by omega) dX2_change_12 ?_
    refine j_alen h (cap t) (by omega) (fun G hG => by obtain ⟨_, _, f, e1, _⟩ := hG.1 t ht; exact ⟨f, e1⟩) dX2_change_15 ?_
    refine j_icmp_ge h 42 dX2_change_16 (by decide) (by first | exact okI_of _ | exact okI_b _ | exact okI_sgz _ _ | assumption | (unfold okI; omega)) (by first | exact okI_of _ | exact okI_b _ | exact okI_sgz _ _ | assumption | (unfold okI; omega)) (fun c16 => ?_) (fun c16 => ?_)
    · exact absurd c16 (by omega)
    · refine j_aload_n h 1 dX2_change_19 rfl rfl ?_
      refine jg_Tsigns h a_f_X2_15 (by omega) dX2_change_20 ?_
      refine j_iload_n h 0 dX2_change_23 rfl rfl ?_
      refine j_iald h (gz us z.toNat) (by omega) ⟨by omega, by omega⟩ (fun G hG => by have hh := hG.1 t ht; rw [setT_1s] at hh; obtain ⟨_, _, f, e1, e2⟩ := hh; exact ⟨cap t, f, e1, by omega, e2 _ (by omega)⟩) dX2_change_24 ?_
      refine j_iload_n h 2 dX2_change_25 rfl rfl ?_
      refine j_rcmp_ne h 36 dX2_change_26 (by decide) (fun c26 => ?_) (fun c26 => ?_)
      · refine j_iinc h 0 [(3, _), (0, _), (1, _), (2, _)] dX2_change_36 rfl (by decide) rfl ?_
        refine j_goto h 2 dX2_change_39 (by decide) ?_
        rw [show xs.length - z.toNat = xs.length - (z + 1).toNat + 1 by omega, chg, show z.toNat + 1 = (z + 1).toNat by omega] at hv
        first | (rw [if_pos c26] at hv; exact ih (z + 1) _ (by omega) (by omega) (by omega) (by simpa using hlu) hv) | (rw [if_neg c26] at hv; refine j_S (S2 := setT S t (us.set z.toNat (gz us z.toNat))) (by rw [gz_set]) ?_; exact ih (z + 1) _ (by omega) (by omega) (by omega) (by simpa using hlu) hv)
      · refine j_aload_n h 1 dX2_change_29 rfl rfl ?_
        refine jg_Tsigns h a_f_X2_15 (by omega) dX2_change_30 ?_
        refine j_iload_n h 0 dX2_change_33 rfl rfl ?_
        refine j_iload_n h 3 dX2_change_34 rfl rfl ?_
        refine j_iast h (S' := setT S t (us.set z.toNat q)) (by omega) ⟨by omega, by omega⟩ (fun G hG => by have hh := hG.1 t ht; rw [setT_1s] at hh; obtain ⟨e0, e9, f, e1, e2⟩ := hh; refine ⟨cap t, f, e1, by omega, ?_⟩; rw [← setT_T S t us]; exact RC_setT ht hG (tOK_put ht e0 e9 e1 e2 (by omega)) (fun i h1 h2 => va_up_ne _ _ h2)) dX2_change_35 ?_
        refine j_iinc h 0 [(3, _), (0, _), (1, _), (2, _)] dX2_change_36 rfl (by decide) rfl ?_
        refine j_goto h 2 dX2_change_39 (by decide) ?_
        rw [show xs.length - z.toNat = xs.length - (z + 1).toNat + 1 by omega, chg, show z.toNat + 1 = (z + 1).toNat by omega] at hv
        first | (rw [if_pos c26] at hv; exact ih (z + 1) _ (by omega) (by omega) (by omega) (by simpa using hlu) hv) | (rw [if_neg c26] at hv; refine j_S (S2 := setT S t (us.set z.toNat (gz us z.toNat))) (by rw [gz_set]) ?_; exact ih (z + 1) _ (by omega) (by omega) (by omega) (by simpa using hlu) hv)
set_option maxHeartbeats 400000 in
set_option maxRecDepth 20000 in
theorem c_X2_addDigitsFromLowest {E : EV} (hE : EOK E) {S : SC} {g0 : GH} {t : Nat} (ht : t < 30) {xs : List Int32} (hx : S.1 t = xs) {L : Int64} (h3 : xs.length + 19 ≤ cap t) : Ct E (RC E g0) yX2_addDigitsFromLowest wsX2_addDigitsFromLowest rX2_addDigitsFromLowest [eA E t, .long L] S none (setT S t (xs ++ dgs 19 L)) := by
  refine ct_of [(0, _), (1, _)] hE (by decide) rfl (Nat.le_of_ble_eq_true rfl) rfl (fun X h hq => ?_)
  refine j_of (fun G hG => RC_len hG ht) (fun hl => ?_)
  rw [hx] at hl
  have hc := cap_le t
  refine j_lload_n h 1 dX2_addDigitsFromLowest_0 rfl rfl ?_
  refine j_lstore_n h [(3, _), (0, _), (1, _)] dX2_addDigitsFromLowest_1 rfl (by decide) rfl ?_
  refine j_iconst h dX2_addDigitsFromLowest_2 ?_
  refine j_istore h [(5, _), (3, _), (0, _), (1, _)] dX2_addDigitsFromLowest_3 (by decide) rfl ?_
  refine j_sub [0, 1, 2] rfl ?_
  refine j_S (S2 := setT S t xs) (by rw [← hx, setT_id]) ?_
  refine lpA3 (fun (z : Int) (us : List Int32) (r : Int64) => (19 - z).toNat) (fun (z : Int) (us : List Int32) (r : Int64) => 0 ≤ z → z ≤ 19 → us.length + (19 - z).toNat ≤ cap t → us ++ dgs (19 - z).toNat r = xs ++ dgs 19 L → JL E (RC E g0) X 5 [(5, .int (iI z)), (3, .long r), (0, eA E t)] [] (setT S t us)) (fun z us r ih h0 hb hcp hv => ?_) 0 xs L (Int.le_refl 0) (by omega) (by omega) rfl
  refine j_iload h 0 dX2_addDigitsFromLowest_5 rfl ?_
  refine j_bipush h dX2_addDigitsFromLowest_7 (by decide) ?_
  refine j_icmp_ge h 51 dX2_addDigitsFromLowest_9 (by decide) (by first | exact okI_of _ | exact okI_b _ | exact okI_sgz _ _ | assumption | (unfold okI; omega)) (by first | exact okI_of _ | exact okI_b _ | exact okI_sgz _ _ | assumption | (unfold okI; omega)) (fun c9 => ?_) (fun c9 => ?_)
  · have e : dgs (19 - z).toNat r = [] := by first | (rw [show (19 - z).toNat = 0 by omega]; rfl) | (rw [show (19 - z).toNat = (19 - (z + 1)).toNat + 1 by omega, dgs, if_neg (fun q => q.elim (fun w => by omega) (fun w => w c20))])
    rw [e, List.append_nil] at hv
    rw [← hv] at hq
    exact j_vret h hq rfl dX2_addDigitsFromLowest_51
  · refine j_iload h 0 dX2_addDigitsFromLowest_12 rfl ?_
    refine j_if_eq h 23 dX2_addDigitsFromLowest_14 (by decide) (by first | exact okI_of _ | exact okI_b _ | exact okI_sgz _ _ | assumption | (unfold okI; omega)) (fun c14 => ?_) (fun c14 => ?_)
    · refine j_aload_n h 2 dX2_addDigitsFromLowest_23 rfl rfl ?_
      refine j_bipush h dX2_addDigitsFromLowest_24 (by decide) ?_
      refine j_lload_n h 1 dX2_addDigitsFromLowest_26 rfl rfl ?_
      refine j_ldc2 h (10) a_k_X2_37 (by decide) dX2_addDigitsFromLowest_27 ?_
      refine j_lrem h _ dX2_addDigitsFromLowest_30 (by decide) rfl ?_
      refine j_abs h a_l_X2_39 ⟨Nat.le_of_ble_eq_true rfl, Nat.le_of_ble_eq_true rfl⟩ (Nat.le_of_ble_eq_true rfl) dX2_addDigitsFromLowest_31 ?_
      refine j_l2i h _ dX2_addDigitsFromLowest_34 rfl ?_
      refine j_top (iI_of _).symm ?_
      refine j_iadd h dX2_addDigitsFromLowest_35 ?_
      refine j_callVv h (c_X2_add hE ht (xs := us) (x := dig r) (setT_1s _ _ _) (by omega)) m_X2_add a_l_X2_29 rfl rfl ⟨Nat.le_of_ble_eq_true rfl, Nat.le_of_ble_eq_true rfl⟩ (ci := 2) rfl (by omega) (rcT (by omega)) rfl rfl (Nat.le_of_ble_eq_true rfl) dX2_addDigitsFromLowest_36 ?_
      refine j_lload_n h 1 dX2_addDigitsFromLowest_39 rfl rfl ?_
      refine j_ldc2 h (10) a_k_X2_37 (by decide) dX2_addDigitsFromLowest_40 ?_
      refine j_ldiv h _ dX2_addDigitsFromLowest_43 (by decide) rfl ?_
      refine j_lstore_n h [(3, _), (5, _), (0, _)] dX2_addDigitsFromLowest_44 rfl (by decide) rfl ?_
      refine j_iinc h 1 [(5, _), (3, _), (0, _)] dX2_addDigitsFromLowest_45 rfl (by decide) rfl ?_
      refine j_goto h 5 dX2_addDigitsFromLowest_48 (by decide) ?_
      rw [show (19 - z).toNat = (19 - (z + 1)).toNat + 1 by omega, dgs, if_pos (by first | exact Or.inl (by omega) | exact Or.inr c20), List.append_cons] at hv
      refine j_S (S2 := setT S t (us ++ [dig r])) (by rw [setT_T]) ?_
      exact ih (z + 1) _ _ (by omega) (by omega) (by omega) (by simp only [List.length_append, List.length_cons, List.length_nil]; omega) hv
    · refine j_lload_n h 1 dX2_addDigitsFromLowest_17 rfl rfl ?_
      refine j_lconst h 0 dX2_addDigitsFromLowest_18 (by decide) ?_
      refine j_lcmp h _ dX2_addDigitsFromLowest_19 rfl ?_
      refine j_rif_eq h 51 dX2_addDigitsFromLowest_20 (by decide) (fun c20 => ?_) (fun c20 => ?_)
      · rw [lg_cmp_0] at c20
        have e : dgs (19 - z).toNat r = [] := by first | (rw [show (19 - z).toNat = 0 by omega]; rfl) | (rw [show (19 - z).toNat = (19 - (z + 1)).toNat + 1 by omega, dgs, if_neg (fun q => q.elim (fun w => by omega) (fun w => w c20))])
        rw [e, List.append_nil] at hv
        rw [← hv] at hq
        exact j_vret h hq rfl dX2_addDigitsFromLowest_51
      · rw [lg_cmp_0] at c20
        refine j_aload_n h 2 dX2_addDigitsFromLowest_23 rfl rfl ?_
        refine j_bipush h dX2_addDigitsFromLowest_24 (by decide) ?_
        refine j_lload_n h 1 dX2_addDigitsFromLowest_26 rfl rfl ?_
        refine j_ldc2 h (10) a_k_X2_37 (by decide) dX2_addDigitsFromLowest_27 ?_
        refine j_lrem h _ dX2_addDigitsFromLowest_30 (by decide) rfl ?_
        refine j_abs h a_l_X2_39 ⟨Nat.le_of_ble_eq_true rfl, Nat.le_of_ble_eq_true rfl⟩ (Nat.le_of_ble_eq_true rfl) dX2_addDigitsFromLowest_31 ?_
        refine j_l2i h _ dX2_addDigitsFromLowest_34 rfl ?_
        refine j_top (iI_of _).symm ?_
        refine j_iadd h dX2_addDigitsFromLowest_35 ?_
        refine j_callVv h (c_X2_add hE ht (xs := us) (x := dig r) (setT_1s _ _ _) (by omega)) m_X2_add a_l_X2_29 rfl rfl ⟨Nat.le_of_ble_eq_true rfl, Nat.le_of_ble_eq_true rfl⟩ (ci := 2) rfl (by omega) (rcT (by omega)) rfl rfl (Nat.le_of_ble_eq_true rfl) dX2_addDigitsFromLowest_36 ?_
        refine j_lload_n h 1 dX2_addDigitsFromLowest_39 rfl rfl ?_
        refine j_ldc2 h (10) a_k_X2_37 (by decide) dX2_addDigitsFromLowest_40 ?_
        refine j_ldiv h _ dX2_addDigitsFromLowest_43 (by decide) rfl ?_
        refine j_lstore_n h [(3, _), (5, _), (0, _)] dX2_addDigitsFromLowest_44 rfl (by decide) rfl ?_
        refine j_iinc h 1 [(5, _), (3, _), (0, _)] dX2_addDigitsFromLowest_45 rfl (by decide) rfl ?_
        refine j_goto h 5 dX2_addDigitsFromLowest_48 (by decide) ?_
        rw [show (19 - z).toNat = (19 - (z + 1)).toNat + 1 by omega, dgs, if_pos (by first | exact Or.inl (by omega) | exact Or.inr c20), List.append_cons] at hv
        refine j_S (S2 := setT S t (us ++ [dig r])) (by rw [setT_T]) ?_
        exact ih (z + 1) _ _ (by omega) (by omega) (by omega) (by simp only [List.length_append, List.length_cons, List.length_nil]; omega) hv
