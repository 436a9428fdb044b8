/-! parting a text -/
theorem stN_succ2 (es : List Nat) (k : Nat) : stN es (k + 1) = eg es k := by
  unfold stN
  rw [if_neg (by omega), Nat.add_sub_cancel]
theorem loe_le2 (es : List Nat) : ∀ n, loe es n ≤ n ∧ stN es (loe es n) = stN es n := by
  intro n
  induction n with
  | zero => exact ⟨Nat.le_refl _, rfl⟩
  | succ n ih =>
    rw [loe]
    split
    · rename_i e
      exact ⟨by omega, by rw [ih.2, stN_succ2, e]⟩
    · exact ⟨Nat.le_refl _, rfl⟩
theorem stN_push (es : List Nat) (n : Nat) : stN (es ++ [n]) (es ++ [n]).length = n := by
  rw [show (es ++ [n]).length = es.length + 1 by simp, stN_succ2]
  exact eg_last es n
theorem prtE_is (es : List Nat) (L : Int) : ∃ m, m ≤ es.length ∧ prtE es L = es.take m ∧ stN es m = stN es es.length ∧ (prtE es L).length = m := by
  unfold prtE
  split
  · have h := loe_le2 es es.length
    exact ⟨loe es es.length, h.1, rfl, h.2, by rw [List.length_take]; omega⟩
  · exact ⟨es.length, Nat.le_refl _, (List.take_length).symm, rfl, rfl⟩
theorem okP_prtQ (xs : List Int32) (x L : Int) (h : xs.length ≤ 300) : okP (prtQ xs x L) := by
  have h1 := prtP_ok xs (iI x) L
  obtain ⟨m, m1, m2, m3, m4⟩ := prtE_is ((prt xs (iI x) L 0 ([], []) xs.length).2 ++ [(prt xs (iI x) L 0 ([], []) xs.length).1.length]) L
  refine ⟨h1.1, Nat.le_trans h1.2.2 h, by have := h1.2.1; show (prtP xs (iI x) L).length ≤ 301; omega, ?_⟩
  show stN (prtP xs (iI x) L) (prtP xs (iI x) L).length = (prtA xs (iI x) L).length
  unfold prtP prtA
  rw [m4, m2, stN_take (Nat.le_refl _), m3, stN_push]
def PI (xs : List Int32) (f3 f4 : Nat → Int32) (q : AP) (z r : Nat) : Prop := eOK q.2 q.1.length ∧ r ≤ z ∧ q.1.length = stN q.2 q.2.length + (z - r) ∧ (∀ j, j < z - r → gz q.1 (stN q.2 q.2.length + j) = gz xs (r + j)) ∧ ∀ k, k < q.2.length → ∃ r' : Nat, f3 k = iI r' ∧ f4 k = iI (eg q.2 k - stN q.2 k : Nat) ∧ r' + (eg q.2 k - stN q.2 k) ≤ z ∧ ∀ j, j < eg q.2 k - stN q.2 k → gz q.1 (stN q.2 k + j) = gz xs (r' + j)
theorem PI_0 (xs : List Int32) (f3 f4 : Nat → Int32) : PI xs f3 f4 ([], []) 0 0 := ⟨fun k h => absurd h (Nat.not_lt_zero _), Nat.le_refl _, rfl, fun j h => absurd h (Nat.not_lt_zero _), fun k h => absurd h (Nat.not_lt_zero _)⟩
theorem stN_le {es : List Nat} {n k : Nat} (h : eOK es n) (hk : k ≤ es.length) : stN es k ≤ n := by
  cases k with
  | zero => exact Nat.zero_le _
  | succ k => rw [stN_succ2]; exact (h k (by omega)).2
theorem PI_sign {xs : List Int32} {f3 f4 : Nat → Int32} {q : AP} {z r : Nat} (h : PI xs f3 f4 q z r) : PI xs f3 f4 (q.1 ++ [gz xs z], q.2) (z + 1) r := by
  obtain ⟨h1, h2, h3, h4, h5⟩ := h
  refine ⟨eOK_mono h1 (by simp), by omega, ?_, fun j hj => ?_, fun k hk => ?_⟩
  · show (q.1 ++ [gz xs z]).length = stN q.2 q.2.length + (z + 1 - r)
    rw [List.length_append, List.length_cons, List.length_nil]; omega
  · show gz (q.1 ++ [gz xs z]) (stN q.2 q.2.length + j) = _
    by_cases e : j < z - r
    · rw [gz_app_l (by omega)]; exact h4 j e
    · rw [gz_app_r (by omega), show stN q.2 q.2.length + j - q.1.length = 0 by omega, show r + j = z by omega]; rfl
  · obtain ⟨r', a, b, c, d⟩ := h5 k hk
    have := h1 k hk
    exact ⟨r', a, b, by show r' + (eg q.2 k - stN q.2 k) ≤ z + 1; omega, fun j hj => by rw [← d j hj]; exact gz_app_l (by have : j < eg q.2 k - stN q.2 k := hj; show stN q.2 k + j < q.1.length; omega)⟩
theorem PI_end {xs : List Int32} {f3 f4 : Nat → Int32} {q : AP} {z r : Nat} (h : PI xs f3 f4 q z r) : PI xs (upd f3 q.2.length (iI r)) (upd f4 q.2.length (iI (z - r : Nat))) (q.1, q.2 ++ [q.1.length]) z z := by
  obtain ⟨h1, h2, h3, h4, h5⟩ := h
  have hs := stN_le h1 (Nat.le_refl _)
  refine ⟨eOK_push h1, Nat.le_refl _, ?_, fun j hj => by omega, fun k hk => ?_⟩
  · show q.1.length = stN (q.2 ++ [q.1.length]) (q.2 ++ [q.1.length]).length + (z - z)
    rw [stN_push]; omega
  · have hk2 : k < q.2.length + 1 := by have := hk; simp only [List.length_append, List.length_cons, List.length_nil] at this; omega
    show ∃ r' : Nat, upd f3 q.2.length (iI r) k = iI r' ∧ upd f4 q.2.length (iI (z - r : Nat)) k = iI (eg (q.2 ++ [q.1.length]) k - stN (q.2 ++ [q.1.length]) k : Nat) ∧ r' + (eg (q.2 ++ [q.1.length]) k - stN (q.2 ++ [q.1.length]) k) ≤ z ∧ ∀ j, j < eg (q.2 ++ [q.1.length]) k - stN (q.2 ++ [q.1.length]) k → gz q.1 (stN (q.2 ++ [q.1.length]) k + j) = gz xs (r' + j)
    by_cases e : k = q.2.length
    · subst e
      rw [eg_last, stN_app (Nat.le_refl _), show q.1.length - stN q.2 q.2.length = z - r by omega]
      exact ⟨r, if_pos rfl, if_pos rfl, by omega, h4⟩
    · obtain ⟨r', a, b, c, d⟩ := h5 k (by omega)
      rw [eg_app_l (by omega), stN_app (by omega)]
      exact ⟨r', (if_neg e).trans a, (if_neg e).trans b, c, d⟩
theorem PI_skip {xs : List Int32} {f3 f4 : Nat → Int32} {q : AP} {z : Nat} (h : PI xs f3 f4 q z z) : PI xs f3 f4 q (z + 1) (z + 1) := by
  obtain ⟨h1, h2, h3, h4, h5⟩ := h
  refine ⟨h1, Nat.le_refl _, by omega, fun j hj => by omega, fun k hk => ?_⟩
  obtain ⟨r', a, b, c, d⟩ := h5 k hk
  exact ⟨r', a, b, by omega, d⟩
theorem PI_take {xs : List Int32} {f2 f3 f4 : Nat → Int32} {q : AP} {m : Nat} (hx : xs.length ≤ 300) (h : PI xs f3 f4 q xs.length xs.length) (hm : m ≤ q.2.length) (h2 : ∀ j, j < xs.length → f2 j = gz xs j) : pR f2 f3 f4 0 0 (q.1, q.2.take m) := by
  intro k hk
  have hk2 : k < m := by have := hk; simp only [List.length_take] at this; omega
  obtain ⟨r', a, b, c, d⟩ := h.2.2.2.2 k (by omega)
  show ∃ r : Nat, f3 (0 + k) = iI r ∧ f4 (0 + k) = iI (eg (q.2.take m) k - stN (q.2.take m) k : Nat) ∧ r + (eg (q.2.take m) k - stN (q.2.take m) k) ≤ 300 ∧ ∀ j, j < eg (q.2.take m) k - stN (q.2.take m) k → f2 (0 + r + j) = gz q.1 (stN (q.2.take m) k + j)
  rw [eg_take hk2, stN_take (by omega), Nat.zero_add]
  refine ⟨r', a, b, by omega, fun j hj => ?_⟩
  rw [Nat.zero_add, h2 _ (by omega)]
  exact (d j hj).symm
set_option maxHeartbeats 400000 in
set_option maxRecDepth 20000 in
theorem c_X4_isSpecial {E : EV} (hE : EOK E) {τ : Type} {Rp : τ → GH → Prop} {S : τ} {z : Int} (hz : okI z) : Ct E Rp yX4_isSpecial wsX4_isSpecial rX4_isSpecial [.int (iI z)] S (some (.int (iI (bI (spc z))))) S := by
  refine ct_of [(0, _)] hE (by decide) rfl (Nat.le_of_ble_eq_true rfl) rfl (fun X h hq => ?_)
  refine j_iload_n h 0 dX4_isSpecial_0 rfl rfl ?_
  refine j_bipush h dX4_isSpecial_1 (by decide) ?_
  refine j_icmp_eq h 59 dX4_isSpecial_3 (by decide) (by first | exact okI_of _ | exact okI_b _ | exact okI_sgz _ _ | assumption | (unfold okI; omega)) (by first | exact okI_of _ | exact okI_b _ | exact okI_sgz _ _ | assumption | (unfold okI; omega)) (fun c3 => ?_) (fun c3 => ?_)
  · refine j_iconst h dX4_isSpecial_59 ?_
    refine j_goto h 64 dX4_isSpecial_60 (by decide) ?_
    exact j_zret h hq (by first | exact bt (decide_eq_true (by omega)) | exact bf (decide_eq_false (by omega))) (by first | exact nzb true | exact nzb false | exact nzb _) dX4_isSpecial_64
  · refine j_iload_n h 0 dX4_isSpecial_6 rfl rfl ?_
    refine j_bipush h dX4_isSpecial_7 (by decide) ?_
    refine j_icmp_eq h 59 dX4_isSpecial_9 (by decide) (by first | exact okI_of _ | exact okI_b _ | exact okI_sgz _ _ | assumption | (unfold okI; omega)) (by first | exact okI_of _ | exact okI_b _ | exact okI_sgz _ _ | assumption | (unfold okI; omega)) (fun c9 => ?_) (fun c9 => ?_)
    · refine j_iconst h dX4_isSpecial_59 ?_
      refine j_goto h 64 dX4_isSpecial_60 (by decide) ?_
      exact j_zret h hq (by first | exact bt (decide_eq_true (by omega)) | exact bf (decide_eq_false (by omega))) (by first | exact nzb true | exact nzb false | exact nzb _) dX4_isSpecial_64
    · refine j_iload_n h 0 dX4_isSpecial_12 rfl rfl ?_
      refine j_bipush h dX4_isSpecial_13 (by decide) ?_
      refine j_icmp_eq h 59 dX4_isSpecial_15 (by decide) (by first | exact okI_of _ | exact okI_b _ | exact okI_sgz _ _ | assumption | (unfold okI; omega)) (by first | exact okI_of _ | exact okI_b _ | exact okI_sgz _ _ | assumption | (unfold okI; omega)) (fun c15 => ?_) (fun c15 => ?_)
      · refine j_iconst h dX4_isSpecial_59 ?_
        refine j_goto h 64 dX4_isSpecial_60 (by decide) ?_
        exact j_zret h hq (by first | exact bt (decide_eq_true (by omega)) | exact bf (decide_eq_false (by omega))) (by first | exact nzb true | exact nzb false | exact nzb _) dX4_isSpecial_64
      · refine j_iload_n h 0 dX4_isSpecial_18 rfl rfl ?_
        refine j_bipush h dX4_isSpecial_19 (by decide) ?_
        refine j_bipush h dX4_isSpecial_21 (by decide) ?_
        refine j_callS h (c_X4_isIn hE hz ⟨by decide, by decide⟩ ⟨by decide, by decide⟩) m_X4_isIn a_l_X4_46 rfl rfl ⟨Nat.le_of_ble_eq_true rfl, Nat.le_of_ble_eq_true rfl⟩ rfl rfl (Nat.le_of_ble_eq_true rfl) dX4_isSpecial_23 ?_
        refine j_if_ne h 59 dX4_isSpecial_26 (by decide) (by first | exact okI_of _ | exact okI_b _ | exact okI_sgz _ _ | assumption | (unfold okI; omega)) (fun c26 => ?_) (fun c26 => ?_)
        · rw [bI_n0, decide_eq_true_eq] at c26
          refine j_iconst h dX4_isSpecial_59 ?_
          refine j_goto h 64 dX4_isSpecial_60 (by decide) ?_
          exact j_zret h hq (by first | exact bt (decide_eq_true (by omega)) | exact bf (decide_eq_false (by omega))) (by first | exact nzb true | exact nzb false | exact nzb _) dX4_isSpecial_64
        · rw [bI_0, decide_eq_false_iff_not] at c26
          refine j_iload_n h 0 dX4_isSpecial_29 rfl rfl ?_
          refine j_bipush h dX4_isSpecial_30 (by decide) ?_
          refine j_icmp_eq h 59 dX4_isSpecial_32 (by decide) (by first | exact okI_of _ | exact okI_b _ | exact okI_sgz _ _ | assumption | (unfold okI; omega)) (by first | exact okI_of _ | exact okI_b _ | exact okI_sgz _ _ | assumption | (unfold okI; omega)) (fun c32 => ?_) (fun c32 => ?_)
          · refine j_iconst h dX4_isSpecial_59 ?_
            refine j_goto h 64 dX4_isSpecial_60 (by decide) ?_
            exact j_zret h hq (by first | exact bt (decide_eq_true (by omega)) | exact bf (decide_eq_false (by omega))) (by first | exact nzb true | exact nzb false | exact nzb _) dX4_isSpecial_64
          · refine j_iload_n h 0 dX4_isSpecial_35 rfl rfl ?_
            refine j_bipush h dX4_isSpecial_36 (by decide) ?_
            refine j_icmp_eq h 59 dX4_isSpecial_38 (by decide) (by first | exact okI_of _ | exact okI_b _ | exact okI_sgz _ _ | assumption | (unfold okI; omega)) (by first | exact okI_of _ | exact okI_b _ | exact okI_sgz _ _ | assumption | (unfold okI; omega)) (fun c38 => ?_) (fun c38 => ?_)
            · refine j_iconst h dX4_isSpecial_59 ?_
              refine j_goto h 64 dX4_isSpecial_60 (by decide) ?_
              exact j_zret h hq (by first | exact bt (decide_eq_true (by omega)) | exact bf (decide_eq_false (by omega))) (by first | exact nzb true | exact nzb false | exact nzb _) dX4_isSpecial_64
            · refine j_iload_n h 0 dX4_isSpecial_41 rfl rfl ?_
              refine j_bipush h dX4_isSpecial_42 (by decide) ?_
              refine j_icmp_eq h 59 dX4_isSpecial_44 (by decide) (by first | exact okI_of _ | exact okI_b _ | exact okI_sgz _ _ | assumption | (unfold okI; omega)) (by first | exact okI_of _ | exact okI_b _ | exact okI_sgz _ _ | assumption | (unfold okI; omega)) (fun c44 => ?_) (fun c44 => ?_)
              · refine j_iconst h dX4_isSpecial_59 ?_
                refine j_goto h 64 dX4_isSpecial_60 (by decide) ?_
                exact j_zret h hq (by first | exact bt (decide_eq_true (by omega)) | exact bf (decide_eq_false (by omega))) (by first | exact nzb true | exact nzb false | exact nzb _) dX4_isSpecial_64
              · refine j_iload_n h 0 dX4_isSpecial_47 rfl rfl ?_
                refine j_bipush h dX4_isSpecial_48 (by decide) ?_
                refine j_icmp_eq h 59 dX4_isSpecial_50 (by decide) (by first | exact okI_of _ | exact okI_b _ | exact okI_sgz _ _ | assumption | (unfold okI; omega)) (by first | exact okI_of _ | exact okI_b _ | exact okI_sgz _ _ | assumption | (unfold okI; omega)) (fun c50 => ?_) (fun c50 => ?_)
                · refine j_iconst h dX4_isSpecial_59 ?_
                  refine j_goto h 64 dX4_isSpecial_60 (by decide) ?_
                  exact j_zret h hq (by first | exact bt (decide_eq_true (by omega)) | exact bf (decide_eq_false (by omega))) (by first | exact nzb true | exact nzb false | exact nzb _) dX4_isSpecial_64
                · refine j_iload_n h 0 dX4_isSpecial_53 rfl rfl ?_
                  refine j_bipush h dX4_isSpecial_54 (by decide) ?_
                  refine j_icmp_ne h 63 dX4_isSpecial_56 (by decide) (by first | exact okI_of _ | exact okI_b _ | exact okI_sgz _ _ | assumption | (unfold okI; omega)) (by first | exact okI_of _ | exact okI_b _ | exact okI_sgz _ _ | assumption | (unfold okI; omega)) (fun c56 => ?_) (fun c56 => ?_)
                  · refine j_iconst h dX4_isSpecial_63 ?_
                    exact j_zret h hq (by first | exact bt (decide_eq_true (by omega)) | exact bf (decide_eq_false (by omega))) (by first | exact nzb true | exact nzb false | exact nzb _) dX4_isSpecial_64
                  · refine j_iconst h dX4_isSpecial_59 ?_
                    refine j_goto h 64 dX4_isSpecial_60 (by decide) ?_
                    exact j_zret h hq (by first | exact bt (decide_eq_true (by omega)) | exact bf (decide_eq_false (by omega))) (by first | exact nzb true | exact nzb false | exact nzb _) dX4_isSpecial_64
set_option maxHeartbeats 400000 in
set_option maxRecDepth 20000 in
theorem c_X4_addPiece {E : EV} (hE : EOK E) {g0 : GH} {F : Nat → Nat → Int32} {pm : Nat} {mm : Int32} (hpm : pm < 301) {f u : Int} : Ct E (RX E g0) yX4_addPiece wsX4_addPiece rX4_addPiece [eA E 76, .int (iI f), .int (iI u)] (F, iI pm, mm) none ((va_up (va_up F 3 (upd (F 3) (pm : Int).toNat (iI f))) 4 (upd ((va_up F 3 (upd (F 3) (pm : Int).toNat (iI f))) 4) (pm : Int).toNat (iI (u - f)))), iI ((pm : Int) + 1), mm) := by
  refine ct_of [(0, _), (1, _), (2, _)] hE (by decide) rfl (Nat.le_of_ble_eq_true rfl) rfl (fun X h hq => ?_)
  have hL0 : LN 0 = 2400 := rfl
  have hL1 : LN 1 = 8 := rfl
  have hL2 : LN 2 = 300 := rfl
  have hL3 : LN 3 = 301 := rfl
  have hL4 : LN 4 = 301 := rfl
  have hL5 : LN 5 = 4800 := rfl
  have hL6 : LN 6 = 16 := rfl
  have hL7 : LN 7 = 2 := rfl
  have hL8 : LN 8 = 600 := rfl
  have hL9 : LN 9 = 602 := rfl
  have hL10 : LN 10 = 602 := rfl
  have hL11 : LN 11 = 300 := rfl
  refine j_aload_n h 0 dX4_addPiece_0 rfl rfl ?_
  refine jy_MpieceFroms h a_f_X4_19 dX4_addPiece_1 ?_
  refine j_aload_n h 0 dX4_addPiece_4 rfl rfl ?_
  refine jy_MpieceMany h a_f_X4_138 dX4_addPiece_5 ?_
  refine j_iload_n h 1 dX4_addPiece_8 rfl rfl ?_
  refine jy_st h (by omega) (by omega) (by omega) dX4_addPiece_9 ?_
  refine j_aload_n h 0 dX4_addPiece_10 rfl rfl ?_
  refine jy_MpieceSizes h a_f_X4_22 dX4_addPiece_11 ?_
  refine j_aload_n h 0 dX4_addPiece_14 rfl rfl ?_
  refine jy_MpieceMany h a_f_X4_138 dX4_addPiece_15 ?_
  refine j_iload_n h 2 dX4_addPiece_18 rfl rfl ?_
  refine j_iload_n h 1 dX4_addPiece_19 rfl rfl ?_
  refine j_isub h dX4_addPiece_20 ?_
  refine jy_st h (by omega) (by omega) (by omega) dX4_addPiece_21 ?_
  refine j_aload_n h 0 dX4_addPiece_22 rfl rfl ?_
  refine j_dup h dX4_addPiece_23 rfl ?_
  refine jy_MpieceMany h a_f_X4_138 dX4_addPiece_24 ?_
  refine j_iconst h dX4_addPiece_27 ?_
  refine j_iadd h dX4_addPiece_28 ?_
  refine jy_put_pieceMany h a_f_X4_138 dX4_addPiece_29 ?_
  exact j_vret h hq rfl dX4_addPiece_32
