/-! the reference: its own tools -/
set_option maxHeartbeats 400000 in
set_option maxRecDepth 20000 in
theorem c_X4_isIn {E : EV} (hE : EOK E) {τ : Type} {Rp : τ → GH → Prop} {S : τ} {a l m : Int} (ha : okI a) (hl : okI l) (hm : okI m) : Ct E Rp yX4_isIn wsX4_isIn rX4_isIn [.int (iI a), .int (iI l), .int (iI m)] S (some (.int (iI (bI (decide (l ≤ a ∧ a ≤ m)))))) S := by
  refine ct_of [(0, _), (1, _), (2, _)] hE (by decide) rfl (Nat.le_of_ble_eq_true rfl) rfl (fun X h hq => ?_)
  refine j_iload_n h 0 dX4_isIn_0 rfl rfl ?_
  refine j_iload_n h 1 dX4_isIn_1 rfl rfl ?_
  refine j_icmp_lt h 14 dX4_isIn_2 (by decide) (by first | exact okI_of _ | exact okI_b _ | exact okI_sgz _ _ | assumption | (unfold okI; omega)) (by first | exact okI_of _ | exact okI_b _ | exact okI_sgz _ _ | assumption | (unfold okI; omega)) (fun c2 => ?_) (fun c2 => ?_)
  · refine j_iconst h dX4_isIn_14 ?_
    exact j_zret h hq (by first | exact bt (decide_eq_true (by omega)) | exact bf (decide_eq_false (by omega))) (by first | exact nzb true | exact nzb false | exact nzb _) dX4_isIn_15
  · refine j_iload_n h 0 dX4_isIn_5 rfl rfl ?_
    refine j_iload_n h 2 dX4_isIn_6 rfl rfl ?_
    refine j_icmp_gt h 14 dX4_isIn_7 (by decide) (by first | exact okI_of _ | exact okI_b _ | exact okI_sgz _ _ | assumption | (unfold okI; omega)) (by first | exact okI_of _ | exact okI_b _ | exact okI_sgz _ _ | assumption | (unfold okI; omega)) (fun c7 => ?_) (fun c7 => ?_)
    · refine j_iconst h dX4_isIn_14 ?_
      exact j_zret h hq (by first | exact bt (decide_eq_true (by omega)) | exact bf (decide_eq_false (by omega))) (by first | exact nzb true | exact nzb false | exact nzb _) dX4_isIn_15
    · refine j_iconst h dX4_isIn_10 ?_
      refine j_goto h 15 dX4_isIn_11 (by decide) ?_
      exact j_zret h hq (by first | exact bt (decide_eq_true (by omega)) | exact bf (decide_eq_false (by omega))) (by first | exact nzb true | exact nzb false | exact nzb _) dX4_isIn_15
set_option maxHeartbeats 400000 in
set_option maxRecDepth 20000 in
theorem c_X4_isSign {E : EV} (hE : EOK E) {τ : Type} {Rp : τ → GH → Prop} {S : τ} {z : Int} (hz : okI z) : Ct E Rp yX4_isSign wsX4_isSign rX4_isSign [.int (iI z)] S (some (.int (iI (bI (isg z))))) S := by
  refine ct_of [(0, _)] hE (by decide) rfl (Nat.le_of_ble_eq_true rfl) rfl (fun X h hq => ?_)
  refine j_iload_n h 0 dX4_isSign_0 rfl rfl ?_
  refine j_iconst h dX4_isSign_1 ?_
  refine j_bipush h dX4_isSign_2 (by decide) ?_
  refine j_callS h (c_X4_isIn hE hz ⟨by decide, by decide⟩ ⟨by decide, by decide⟩) m_X4_isIn a_l_X4_46 rfl rfl ⟨Nat.le_of_ble_eq_true rfl, Nat.le_of_ble_eq_true rfl⟩ rfl rfl (Nat.le_of_ble_eq_true rfl) dX4_isSign_4 ?_
  exact j_zret h hq rfl (by first | exact nzb true | exact nzb false | exact nzb _) dX4_isSign_7
set_option maxHeartbeats 400000 in
set_option maxRecDepth 20000 in
theorem c_X4_meant {E : EV} (hE : EOK E) {τ : Type} {Rp : τ → GH → Prop} {S : τ} {z : Int} (hz : okI z) : Ct E Rp yX4_meant wsX4_meant rX4_meant [.int (iI z)] S (some (.int (iI (fmo z 8)))) S := by
  refine ct_of [(0, _)] hE (by decide) rfl (Nat.le_of_ble_eq_true rfl) rfl (fun X h hq => ?_)
  refine j_iload_n h 0 dX4_meant_0 rfl rfl ?_
  refine j_bipush h dX4_meant_1 (by decide) ?_
  refine j_iand h (iI (fmo z 8)) dX4_meant_3 (and7 hz) ?_
  exact j_iret h hq rfl dX4_meant_4
set_option maxHeartbeats 400000 in
set_option maxRecDepth 20000 in
theorem c_X4_isBlankSign {E : EV} (hE : EOK E) {τ : Type} {Rp : τ → GH → Prop} {S : τ} {z : Int} (hz : okI z) : Ct E Rp yX4_isBlankSign wsX4_isBlankSign rX4_isBlankSign [.int (iI z)] S (some (.int (iI (bI (ibl z))))) S := by
  refine ct_of [(0, _)] hE (by decide) rfl (Nat.le_of_ble_eq_true rfl) rfl (fun X h hq => ?_)
  refine j_iload_n h 0 dX4_isBlankSign_0 rfl rfl ?_
  refine j_bipush h dX4_isBlankSign_1 (by decide) ?_
  refine j_bipush h dX4_isBlankSign_3 (by decide) ?_
  refine j_callS h (c_X4_isIn hE hz ⟨by decide, by decide⟩ ⟨by decide, by decide⟩) m_X4_isIn a_l_X4_46 rfl rfl ⟨Nat.le_of_ble_eq_true rfl, Nat.le_of_ble_eq_true rfl⟩ rfl rfl (Nat.le_of_ble_eq_true rfl) dX4_isBlankSign_5 ?_
  refine j_if_ne h 22 dX4_isBlankSign_8 (by decide) (by first | exact okI_of _ | exact okI_b _ | exact okI_sgz _ _ | assumption | (unfold okI; omega)) (fun c8 => ?_) (fun c8 => ?_)
  · rw [bI_n0, decide_eq_true_eq] at c8
    refine j_iconst h dX4_isBlankSign_22 ?_
    refine j_goto h 27 dX4_isBlankSign_23 (by decide) ?_
    exact j_zret h hq (by first | exact bt (decide_eq_true (by omega)) | exact bf (decide_eq_false (by omega))) (by first | exact nzb true | exact nzb false | exact nzb _) dX4_isBlankSign_27
  · rw [bI_0, decide_eq_false_iff_not] at c8
    refine j_iload_n h 0 dX4_isBlankSign_11 rfl rfl ?_
    refine j_bipush h dX4_isBlankSign_12 (by decide) ?_
    refine j_bipush h dX4_isBlankSign_14 (by decide) ?_
    refine j_callS h (c_X4_isIn hE hz ⟨by decide, by decide⟩ ⟨by decide, by decide⟩) m_X4_isIn a_l_X4_46 rfl rfl ⟨Nat.le_of_ble_eq_true rfl, Nat.le_of_ble_eq_true rfl⟩ rfl rfl (Nat.le_of_ble_eq_true rfl) dX4_isBlankSign_16 ?_
    refine j_if_eq h 26 dX4_isBlankSign_19 (by decide) (by first | exact okI_of _ | exact okI_b _ | exact okI_sgz _ _ | assumption | (unfold okI; omega)) (fun c19 => ?_) (fun c19 => ?_)
    · rw [bI_0, decide_eq_false_iff_not] at c19
      refine j_iconst h dX4_isBlankSign_26 ?_
      exact j_zret h hq (by first | exact bt (decide_eq_true (by omega)) | exact bf (decide_eq_false (by omega))) (by first | exact nzb true | exact nzb false | exact nzb _) dX4_isBlankSign_27
    · rw [bI_n0, decide_eq_true_eq] at c19
      refine j_iconst h dX4_isBlankSign_22 ?_
      refine j_goto h 27 dX4_isBlankSign_23 (by decide) ?_
      exact j_zret h hq (by first | exact bt (decide_eq_true (by omega)) | exact bf (decide_eq_false (by omega))) (by first | exact nzb true | exact nzb false | exact nzb _) dX4_isBlankSign_27
set_option maxHeartbeats 400000 in
set_option maxRecDepth 20000 in
theorem c_X4_small {E : EV} (hE : EOK E) {τ : Type} {Rp : τ → GH → Prop} {S : τ} {z : Int} (hz : okI z) : Ct E Rp yX4_small wsX4_small rX4_small [.int (iI z)] S (some (.int (iI (tlz false z)))) S := by
  refine ct_of [(0, _)] hE (by decide) rfl (Nat.le_of_ble_eq_true rfl) rfl (fun X h hq => ?_)
  refine j_iload_n h 0 dX4_small_0 rfl rfl ?_
  refine j_bipush h dX4_small_1 (by decide) ?_
  refine j_bipush h dX4_small_3 (by decide) ?_
  refine j_callS h (c_X4_isIn hE hz ⟨by decide, by decide⟩ ⟨by decide, by decide⟩) m_X4_isIn a_l_X4_46 rfl rfl ⟨Nat.le_of_ble_eq_true rfl, Nat.le_of_ble_eq_true rfl⟩ rfl rfl (Nat.le_of_ble_eq_true rfl) dX4_small_5 ?_
  refine j_if_eq h 18 dX4_small_8 (by decide) (by first | exact okI_of _ | exact okI_b _ | exact okI_sgz _ _ | assumption | (unfold okI; omega)) (fun c8 => ?_) (fun c8 => ?_)
  · rw [bI_0, decide_eq_false_iff_not] at c8
    have e : tlz false z = z := if_neg (fun w => c8 w.2)
    refine j_iload_n h 0 dX4_small_18 rfl rfl ?_
    exact j_iret h hq (by rw [e]) dX4_small_19
  · rw [bI_n0, decide_eq_true_eq] at c8
    have e : tlz false z = z + 32 := if_pos ⟨rfl, c8⟩
    refine j_iload_n h 0 dX4_small_11 rfl rfl ?_
    refine j_bipush h dX4_small_12 (by decide) ?_
    refine j_iadd h dX4_small_14 ?_
    refine j_goto h 19 dX4_small_15 (by decide) ?_
    exact j_iret h hq (by rw [e]) dX4_small_19
theorem c_small_raw {E : EV} (hE : EOK E) {τ : Type} {Rp : τ → GH → Prop} {S : τ} (x : Int32) : Ct E Rp yX4_small wsX4_small rX4_small [.int x] S (some (.int (tl false x))) S := by
  have := c_X4_small hE (Rp := Rp) (S := S) (okI_of x)
  rwa [iI_of] at this
theorem c_blank_raw {E : EV} (hE : EOK E) {τ : Type} {Rp : τ → GH → Prop} {S : τ} (x : Int32) : Ct E Rp yX4_isBlankSign wsX4_isBlankSign rX4_isBlankSign [.int x] S (some (.int (iI (bI (ibl x.toInt))))) S := by
  have := c_X4_isBlankSign hE (Rp := Rp) (S := S) (okI_of x)
  rwa [iI_of] at this
theorem c_isSignM_raw {E : EV} (hE : EOK E) {τ : Type} {Rp : τ → GH → Prop} {S : τ} (x : Int32) : Ct E Rp yX4_isSign wsX4_isSign rX4_isSign [.int x] S (some (.int (iI (bI (isg x.toInt))))) S := by
  have := c_X4_isSign hE (Rp := Rp) (S := S) (okI_of x)
  rwa [iI_of] at this
set_option maxHeartbeats 400000 in
set_option maxRecDepth 20000 in
theorem c_X4_sizeOf {E : EV} (hE : EOK E) {A : AS} {mk : List Int32} {g0 : GH} {a : Int} (ha : okI a) : Ct E (RM E g0) yX4_sizeOf wsX4_sizeOf rX4_sizeOf [eA E 76, .int (iI a)] (A, mk) (some (.int (iI (A.1 (sw a)).length))) (A, mk) := by
  refine ct_of [(0, _), (1, _)] hE (by decide) rfl (Nat.le_of_ble_eq_true rfl) rfl (fun X h hq => ?_)
  refine j_of (fun G hG => RM_len hG) (fun hLM => ?_)
  have hla := hLM.1 (sw a) (sw_lt a)
  have hwa := sw_lt a
  have hfma : 0 ≤ fmo a 8 ∧ fmo a 8 < 8 := by unfold fmo; omega
  have hswa : (fmo a 8).toNat = sw a := rfl
  dsimp only at *
  refine j_aload_n h 0 dX4_sizeOf_0 rfl rfl ?_
  refine jg_Msizes h a_f_X4_13 dX4_sizeOf_1 ?_
  refine j_iload_n h 1 dX4_sizeOf_4 rfl rfl ?_
  refine j_callS h (c_X4_meant hE ha) m_X4_meant a_l_X4_50 rfl rfl ⟨Nat.le_of_ble_eq_true rfl, Nat.le_of_ble_eq_true rfl⟩ rfl rfl (Nat.le_of_ble_eq_true rfl) dX4_sizeOf_5 ?_
  refine j_iald h (iI (A.1 (sw a)).length) (by omega) ⟨by omega, by omega⟩ (fun G hG => by obtain ⟨f, n, e1, e2, e3⟩ := hG.2.1; exact ⟨8, n, e2, by omega, by have := (e3 (sw a) hwa).1; rw [Nat.zero_add] at this; rw [hswa]; exact this⟩) dX4_sizeOf_8 ?_
  exact j_iret h hq rfl dX4_sizeOf_9
set_option maxHeartbeats 400000 in
set_option maxRecDepth 20000 in
theorem c_X4_signAt {E : EV} (hE : EOK E) {A : AS} {mk : List Int32} {g0 : GH} {a : Int} (ha : okI a) {p : Int} (h0 : 0 ≤ p) (h1 : p < (A.1 (sw a)).length) : Ct E (RM E g0) yX4_signAt wsX4_signAt rX4_signAt [eA E 76, .int (iI a), .int (iI p)] (A, mk) (some (.int (gz (A.1 (sw a)) p.toNat))) (A, mk) := by
  refine ct_of [(0, _), (1, _), (2, _)] hE (by decide) rfl (Nat.le_of_ble_eq_true rfl) rfl (fun X h hq => ?_)
  refine j_of (fun G hG => RM_len hG) (fun hLM => ?_)
  have hla := hLM.1 (sw a) (sw_lt a)
  have hwa := sw_lt a
  have hfma : 0 ≤ fmo a 8 ∧ fmo a 8 < 8 := by unfold fmo; omega
  have hswa : (fmo a 8).toNat = sw a := rfl
  dsimp only at *
  refine j_aload_n h 0 dX4_signAt_0 rfl rfl ?_
  refine jg_Msigns h a_f_X4_7 dX4_signAt_1 ?_
  refine j_sipush h dX4_signAt_4 (by decide) ?_
  refine j_iload_n h 1 dX4_signAt_7 rfl rfl ?_
  refine j_callS h (c_X4_meant hE ha) m_X4_meant a_l_X4_50 rfl rfl ⟨Nat.le_of_ble_eq_true rfl, Nat.le_of_ble_eq_true rfl⟩ rfl rfl (Nat.le_of_ble_eq_true rfl) dX4_signAt_8 ?_
  refine j_imul h dX4_signAt_11 ?_
  refine j_iload_n h 2 dX4_signAt_12 rfl rfl ?_
  refine j_iadd h dX4_signAt_13 ?_
  refine j_iald h (gz (A.1 (sw a)) p.toNat) (by omega) ⟨by omega, by omega⟩ (fun G hG => by obtain ⟨f, n, e1, e2, e3⟩ := hG.2.1; exact ⟨2400, f, e1, by omega, by have := (e3 (sw a) hwa).2.2 p.toNat (show p.toNat < (A.1 (sw a)).length by omega); rw [Nat.zero_add] at this; rw [show (300 * fmo a 8 + p).toNat = 300 * sw a + p.toNat by omega]; exact this⟩) dX4_signAt_14 ?_
  exact j_iret h hq rfl dX4_signAt_15
set_option maxHeartbeats 400000 in
set_option maxRecDepth 20000 in
theorem c_X4_begins {E : EV} (hE : EOK E) {A : AS} {mk : List Int32} {g0 : GH}  : Ct E (RM E g0) yX4_begins wsX4_begins rX4_begins [eA E 76] (A, mk) none (A, []) := by
  refine ct_of [(0, _)] hE (by decide) rfl (Nat.le_of_ble_eq_true rfl) rfl (fun X h hq => ?_)
  refine j_aload_n h 0 dX4_begins_0 rfl rfl ?_
  refine j_iconst h dX4_begins_1 ?_
  refine j_eq (fun G0 hG0 => ?_)
  refine je_Mput_madeMany h hG0.1 a_f_X4_54 dX4_begins_2 ?_
  refine j_re (Rp2 := RM E g0) (S2 := (A, [])) (fun G hG => ?_) ?_
  · subst hG
    obtain ⟨f, e1, e2, e3⟩ := hG0.2.2.2.2.1
    exact RM_mk hG0 (va_up_self _ _ _) ⟨f, by rw [va_up_ne _ _ (by omega)]; exact e1, by simp, fun j hj => absurd hj (Nat.not_lt_zero _)⟩ (fun i h1 h2 => va_up_ne _ _ h1)
  exact j_vret h hq rfl dX4_begins_5
set_option maxHeartbeats 400000 in
set_option maxRecDepth 20000 in
theorem c_X4_puts {E : EV} (hE : EOK E) {A : AS} {mk : List Int32} {g0 : GH} {x : Int32} (hb : mk.length < 99999) : Ct E (RM E g0) yX4_puts wsX4_puts rX4_puts [eA E 76, .int x] (A, mk) none (A, mk ++ [x]) := by
  refine ct_of [(0, _), (1, _)] hE (by decide) rfl (Nat.le_of_ble_eq_true rfl) rfl (fun X h hq => ?_)
  refine j_aload_n h 0 dX4_puts_0 rfl rfl ?_
  refine jg_MmadeMany h a_f_X4_54 dX4_puts_1 ?_
  refine j_sipush h dX4_puts_4 (by decide) ?_
  refine j_icmp_ge h 20 dX4_puts_7 (by decide) (by first | exact okI_of _ | exact okI_b _ | exact okI_sgz _ _ | assumption | (unfold okI; omega)) (by first | exact okI_of _ | exact okI_b _ | exact okI_sgz _ _ | assumption | (unfold okI; omega)) (fun c7 => ?_) (fun c7 => ?_)
  · refine j_aload_n h 0 dX4_puts_20 rfl rfl ?_
    refine j_dup h dX4_puts_21 rfl ?_
    refine jg_MmadeMany h a_f_X4_54 dX4_puts_22 ?_
    refine j_iconst h dX4_puts_25 ?_
    refine j_iadd h dX4_puts_26 ?_
    refine j_eq (fun G0 hG0 => ?_)
    obtain ⟨f0, e0, b0, v0⟩ := hG0.2.2.2.2.1
    refine je_Mput_madeMany h hG0.1 a_f_X4_54 dX4_puts_27 ?_
    refine j_re (Rp2 := RM E g0) (S2 := (A, mk ++ [x])) (fun G hG => ?_) ?_
    · subst hG
      have hz : ((mk.length : Int) + 1) = ((mk ++ [x]).length : Int) := by simp
      rw [hz]
      refine RM_mk hG0 (va_up_self _ _ _) ⟨f0, by rw [va_up_ne _ _ (by omega)]; exact e0, by simp; omega, fun j hj hj2 => ?_⟩ (fun i h1 h2 => va_up_ne _ _ h1)
      have q2 : j < mk.length := by omega
      rw [v0 j q2 hj2, gz_app_l q2]
    exact j_vret h hq rfl dX4_puts_30
  · refine j_aload_n h 0 dX4_puts_10 rfl rfl ?_
    refine j_eq (fun G0 hG0 => ?_)
    obtain ⟨f0, e0, b0, v0⟩ := hG0.2.2.2.2.1
    refine je_Mmade h hG0.1 a_f_X4_43 dX4_puts_11 ?_
    refine j_aload_n h 0 dX4_puts_14 rfl rfl ?_
    refine je_MmadeMany h hG0.1 a_f_X4_54 dX4_puts_15 ?_
    refine j_iload_n h 1 dX4_puts_18 rfl rfl ?_
    refine j_iast h (S' := va_up G0 88 (iA E 300 (upd f0 mk.length x))) (by omega) ⟨by omega, by omega⟩ (fun G hG => by subst hG; exact ⟨300, f0, e0, by omega, by rw [Int.toNat_natCast]⟩) dX4_puts_19 ?_
    have h76 : (va_up G0 88 (iA E 300 (upd f0 mk.length x))) 76 = mObj E (iI A.2.1.2.length) (iI mk.length) := by rw [va_up_ne _ _ (by omega)]; exact hG0.1
    refine j_aload_n h 0 dX4_puts_20 rfl rfl ?_
    refine j_dup h dX4_puts_21 rfl ?_
    refine je_MmadeMany h h76 a_f_X4_54 dX4_puts_22 ?_
    refine j_iconst h dX4_puts_25 ?_
    refine j_iadd h dX4_puts_26 ?_
    refine je_Mput_madeMany h h76 a_f_X4_54 dX4_puts_27 ?_
    refine j_re (Rp2 := RM E g0) (S2 := (A, mk ++ [x])) (fun G hG => ?_) ?_
    · subst hG
      have hz : ((mk.length : Int) + 1) = ((mk ++ [x]).length : Int) := by simp
      rw [hz]
      refine RM_mk hG0 (va_up_self _ _ _) ⟨_, by rw [va_up_ne _ _ (by omega)]; exact va_up_self _ _ _, by simp; omega, fun j hj hj2 => ?_⟩ (fun i h1 h2 => by rw [va_up_ne _ _ h1, va_up_ne _ _ h2])
      by_cases q : j = mk.length
      · subst q; rw [gz_app_r (Nat.le_refl _)]; simp [upd, gz]
      · have q2 : j < mk.length := by simp at hj; omega
        rw [show upd f0 mk.length x j = f0 j from if_neg q, v0 j q2 hj2, gz_app_l q2]
    exact j_vret h hq rfl dX4_puts_30
set_option maxHeartbeats 400000 in
set_option maxRecDepth 20000 in
theorem c_X4_putsPart {E : EV} (hE : EOK E) {A : AS} {mk : List Int32} {g0 : GH} {a : Int} (ha : okI a) {f u : Int} (h0 : 0 ≤ f) (h1 : f ≤ u) (h2 : u ≤ (A.1 (sw a)).length) (hb : mk.length < 99000) : Ct E (RM E g0) yX4_putsPart wsX4_putsPart rX4_putsPart [eA E 76, .int (iI a), .int (iI f), .int (iI u)] (A, mk) none (A, mk ++ sl (A.1 (sw a)) f.toNat (u - f).toNat) := by
  refine ct_of [(0, _), (1, _), (2, _), (3, _)] hE (by decide) rfl (Nat.le_of_ble_eq_true rfl) rfl (fun X h hq => ?_)
  refine j_of (fun G hG => RM_len hG) (fun hLM => ?_)
  have hla := hLM.1 (sw a) (sw_lt a)
  have hwa := sw_lt a
  have hfma : 0 ≤ fmo a 8 ∧ fmo a 8 < 8 := by unfold fmo; omega
  have hswa : (fmo a 8).toNat = sw a := rfl
  dsimp only at *
  refine j_iload_n h 2 dX4_putsPart_0 rfl rfl ?_
  refine j_istore h [(4, _), (0, _), (1, _), (2, _), (3, _)] dX4_putsPart_1 (by decide) rfl ?_
  refine j_sub [0, 1, 2, 4] rfl ?_
  refine lpA2 (fun (z : Int) (us : List Int32) => (u - z).toNat) (fun (z : Int) (us : List Int32) => f ≤ z → z ≤ u → us.length + (u - z).toNat < 99400 → us ++ sl (A.1 (sw a)) z.toNat (u - z).toNat = mk ++ sl (A.1 (sw a)) f.toNat (u - f).toNat → JL E (RM E g0) X 3 [(4, .int (iI z)), (0, eA E 76), (1, .int (iI a)), (3, .int (iI u))] [] (A, us)) (fun z us ih hz hzb hcp hv => ?_) f mk (Int.le_refl _) h1 (by omega) rfl
  refine j_iload h 0 dX4_putsPart_3 rfl ?_
  refine j_iload_n h 3 dX4_putsPart_5 rfl rfl ?_
  refine j_icmp_ge h 26 dX4_putsPart_6 (by decide) (by first | exact okI_of _ | exact okI_b _ | exact okI_sgz _ _ | assumption | (unfold okI; omega)) (by first | exact okI_of _ | exact okI_b _ | exact okI_sgz _ _ | assumption | (unfold okI; omega)) (fun c6 => ?_) (fun c6 => ?_)
  · rw [show (u - z).toNat = 0 by omega, sl, List.append_nil] at hv
    rw [← hv] at hq
    exact j_vret h hq rfl dX4_putsPart_26
  · refine j_aload_n h 1 dX4_putsPart_9 rfl rfl ?_
    refine j_aload_n h 1 dX4_putsPart_10 rfl rfl ?_
    refine j_iload_n h 2 dX4_putsPart_11 rfl rfl ?_
    refine j_iload h 0 dX4_putsPart_12 rfl ?_
    refine j_callV h (c_X4_signAt hE ha (by omega) (by omega)) m_X4_signAt a_l_X4_58 rfl rfl ⟨Nat.le_of_ble_eq_true rfl, Nat.le_of_ble_eq_true rfl⟩ (ci := 4) rfl (by omega) (rcM) rfl rfl (Nat.le_of_ble_eq_true rfl) dX4_putsPart_14 ?_
    refine j_callVv h (c_X4_puts hE (by omega)) m_X4_puts a_l_X4_62 rfl rfl ⟨Nat.le_of_ble_eq_true rfl, Nat.le_of_ble_eq_true rfl⟩ (ci := 4) rfl (by omega) (rcM) rfl rfl (Nat.le_of_ble_eq_true rfl) dX4_putsPart_17 ?_
    refine j_iinc h 0 [(4, _), (0, _), (1, _), (3, _)] dX4_putsPart_20 rfl (by decide) rfl ?_
    refine j_goto h 3 dX4_putsPart_23 (by decide) ?_
    exact ih (z + 1) _ (by omega) (by omega) (by omega) (by simp only [List.length_append, List.length_cons, List.length_nil]; omega) (by rw [← hv, show (u - z).toNat = (u - (z + 1)).toNat + 1 by omega, sl, show z.toNat + 1 = (z + 1).toNat by omega, List.append_assoc]; rfl)
theorem cpy_step {α : Type} (f : Nat → Int32) (g : Nat → Int32) (sp dp n : Nat) : upd (va_cpy f g sp dp n) (dp + n) (f (sp + n)) = va_cpy f g sp dp (n + 1) := by
  funext j
  unfold upd va_cpy
  by_cases q : j = dp + n
  · subst q
    rw [if_pos rfl, if_pos (by omega)]
    congr 1
    omega
  · rw [if_neg q]
    by_cases w : dp ≤ j ∧ j < dp + n
    · rw [if_pos w, if_pos (by omega)]
    · rw [if_neg w, if_neg (by omega)]
theorem cpy_0 (f g : Nat → Int32) (sp dp : Nat) : va_cpy f g sp dp 0 = g := by
  funext j
  unfold va_cpy
  rw [if_neg (by omega)]
set_option maxHeartbeats 400000 in
set_option maxRecDepth 20000 in
theorem c_lays_ok {E : EV} (hE : EOK E) {A : AS} {mk : List Int32} {g0 : GH} {a : Int} (ha : okI a) (hb : mk.length ≤ 300) : Ct E (RM E g0) yX4_lays wsX4_lays rX4_lays [eA E 76, .int (iI a)] (A, mk) (some (.int (iI mk.length))) (aX A (sw a) mk, mk) := by
  refine ct_of [(0, _), (1, _)] hE (by decide) rfl (Nat.le_of_ble_eq_true rfl) rfl (fun X h hq => ?_)
  refine j_of (fun G hG => RM_len hG) (fun hLM => ?_)
  have hla := hLM.1 (sw a) (sw_lt a)
  have hwa := sw_lt a
  have hfma : 0 ≤ fmo a 8 ∧ fmo a 8 < 8 := by unfold fmo; omega
  have hswa : (fmo a 8).toNat = sw a := rfl
  dsimp only at *
  refine j_aload_n h 0 dX4_lays_0 rfl rfl ?_
  refine jg_MmadeMany h a_f_X4_54 dX4_lays_1 ?_
  refine j_sipush h dX4_lays_4 (by decide) ?_
  refine j_icmp_le h 13 dX4_lays_7 (by decide) (by first | exact okI_of _ | exact okI_b _ | exact okI_sgz _ _ | assumption | (unfold okI; omega)) (by first | exact okI_of _ | exact okI_b _ | exact okI_sgz _ _ | assumption | (unfold okI; omega)) (fun c7 => ?_) (fun c7 => ?_)
  · refine j_iload_n h 1 dX4_lays_13 rfl rfl ?_
    refine j_callS h (c_X4_meant hE ha) m_X4_meant a_l_X4_50 rfl rfl ⟨Nat.le_of_ble_eq_true rfl, Nat.le_of_ble_eq_true rfl⟩ rfl rfl (Nat.le_of_ble_eq_true rfl) dX4_lays_14 ?_
    refine j_istore_n h [(2, _), (0, _), (1, _)] dX4_lays_17 rfl (by decide) rfl ?_
    refine j_iconst h dX4_lays_18 ?_
    refine j_istore_n h [(3, _), (2, _), (0, _), (1, _)] dX4_lays_19 rfl (by decide) rfl ?_
    refine j_sub [0, 1, 2] rfl ?_
    refine j_eq (fun G0 hG0 => ?_)
    obtain ⟨f, n, ef, en, hx⟩ := hG0.2.1
    obtain ⟨fm, em, _, vm⟩ := hG0.2.2.2.2.1
    refine j_S (S2 := va_up G0 77 (iA E 2400 (va_cpy fm f 0 (300 * sw a) 0))) (by rw [cpy_0, ← ef, up_id]) ?_
    refine lpA1 (fun z : Int => (mk.length - z).toNat) (fun z : Int => 0 ≤ z → z ≤ mk.length → JL E (fun (G1 : GH) G => G1 = G) X 20 [(3, .int (iI z)), (2, .int (iI (fmo a 8))), (0, eA E 76)] [] (va_up G0 77 (iA E 2400 (va_cpy fm f 0 (300 * sw a) z.toNat)))) (fun z ih h0 hzb => ?_) 0 (Int.le_refl 0) (by omega)
    have h76 : (va_up G0 77 (iA E 2400 (va_cpy fm f 0 (300 * sw a) z.toNat))) 76 = mObj E (iI A.2.1.2.length) (iI mk.length) := by rw [va_up_ne _ _ (by omega)]; exact hG0.1
    refine j_iload_n h 0 dX4_lays_20 rfl rfl ?_
    refine j_aload_n h 2 dX4_lays_21 rfl rfl ?_
    refine je_MmadeMany h h76 a_f_X4_54 dX4_lays_22 ?_
    refine j_icmp_ge h 52 dX4_lays_25 (by decide) (by first | exact okI_of _ | exact okI_b _ | exact okI_sgz _ _ | assumption | (unfold okI; omega)) (by first | exact okI_of _ | exact okI_b _ | exact okI_sgz _ _ | assumption | (unfold okI; omega)) (fun c25 => ?_) (fun c25 => ?_)
    · refine j_aload_n h 2 dX4_lays_52 rfl rfl ?_
      refine je_Msizes h h76 a_f_X4_13 dX4_lays_53 ?_
      refine j_iload_n h 1 dX4_lays_56 rfl rfl ?_
      refine j_aload_n h 2 dX4_lays_57 rfl rfl ?_
      refine je_MmadeMany h h76 a_f_X4_54 dX4_lays_58 ?_
      refine j_iast h (S' := va_up (va_up G0 77 (iA E 2400 (va_cpy fm f 0 (300 * sw a) z.toNat))) 78 (iA E 8 (upd n (sw a) (iI mk.length)))) (by omega) ⟨by omega, by omega⟩ (fun G hG => by subst hG; exact ⟨8, n, by rw [va_up_ne _ _ (by omega)]; exact en, by omega, rfl⟩) dX4_lays_61 ?_
      refine j_re (Rp2 := RM E g0) (S2 := (aX A (sw a) mk, mk)) (fun G hG => ?_) ?_
      · subst hG
        refine RM_X hG0 ⟨_, _, by rw [va_up_ne _ _ (by omega)]; exact va_up_self _ _ _, va_up_self _ _ _, fun j hj => ?_⟩ (fun i h1 h2 => by rw [va_up_ne _ _ h2, va_up_ne _ _ h1])
        show upd n (sw a) (iI mk.length) (0 + j) = iI (va_up A.1 (sw a) mk j).length ∧ (va_up A.1 (sw a) mk j).length ≤ 300 ∧ ∀ l, l < (va_up A.1 (sw a) mk j).length → va_cpy fm f 0 (300 * sw a) z.toNat (0 + 300 * j + l) = gz (va_up A.1 (sw a) mk j) l
        rw [Nat.zero_add, Nat.zero_add]
        by_cases q : j = sw a
        · subst q
          rw [va_up_self]
          refine ⟨if_pos rfl, hb, fun l hl => ?_⟩
          unfold va_cpy
          rw [if_pos (by omega), Nat.zero_add, show 300 * sw a + l - 300 * sw a = l by omega]
          exact vm l hl (by omega)
        · rw [va_up_ne _ _ q]
          have hj3 := hx j hj
          rw [Nat.zero_add, Nat.zero_add] at hj3
          refine ⟨by rw [show upd n (sw a) (iI mk.length) j = n j from if_neg q]; exact hj3.1, hj3.2.1, fun l hl => ?_⟩
          unfold va_cpy
          have := hLM.1 j hj
          rw [if_neg (by omega)]
          exact hj3.2.2 l hl
      refine j_aload_n h 2 dX4_lays_62 rfl rfl ?_
      refine jg_MmadeMany h a_f_X4_54 dX4_lays_63 ?_
      exact j_iret h hq rfl dX4_lays_66
    · refine j_aload_n h 2 dX4_lays_28 rfl rfl ?_
      refine je_Msigns h h76 a_f_X4_7 dX4_lays_29 ?_
      refine j_sipush h dX4_lays_32 (by decide) ?_
      refine j_iload_n h 1 dX4_lays_35 rfl rfl ?_
      refine j_imul h dX4_lays_36 ?_
      refine j_iload_n h 0 dX4_lays_37 rfl rfl ?_
      refine j_iadd h dX4_lays_38 ?_
      refine j_aload_n h 2 dX4_lays_39 rfl rfl ?_
      refine je_Mmade h h76 a_f_X4_43 dX4_lays_40 ?_
      refine j_iload_n h 0 dX4_lays_43 rfl rfl ?_
      refine j_iald h (fm z.toNat) (by omega) ⟨by omega, by omega⟩ (fun G hG => by subst hG; exact ⟨300, fm, by rw [va_up_ne _ _ (by omega)]; exact em, by omega, rfl⟩) dX4_lays_44 ?_
      refine j_iast h (S' := va_up G0 77 (iA E 2400 (va_cpy fm f 0 (300 * sw a) (z + 1).toNat))) (by omega) ⟨by omega, by omega⟩ (fun G hG => by subst hG; exact ⟨2400, _, va_up_self _ _ _, by omega, by rw [up_up, show (300 * fmo a 8 + z).toNat = 300 * sw a + z.toNat by omega, show (z + 1).toNat = z.toNat + 1 by omega, ← cpy_step (α := Nat), Nat.zero_add]⟩) dX4_lays_45 ?_
      refine j_iinc h 0 [(3, _), (2, _), (0, _)] dX4_lays_46 rfl (by decide) rfl ?_
      refine j_goto h 20 dX4_lays_49 (by decide) ?_
      exact ih (z + 1) (by omega) (by omega) (by omega)
  · exact absurd c7 (by omega)
set_option maxHeartbeats 400000 in
set_option maxRecDepth 20000 in
theorem c_lays_full {E : EV} (hE : EOK E) {A : AS} {mk : List Int32} {g0 : GH} {a : Int} (ha : okI a) (hb : 300 < mk.length) : Ct E (RM E g0) yX4_lays wsX4_lays rX4_lays [eA E 76, .int (iI a)] (A, mk) (some (.int (iI (-1000004)))) (A, mk) := by
  refine ct_of [(0, _), (1, _)] hE (by decide) rfl (Nat.le_of_ble_eq_true rfl) rfl (fun X h hq => ?_)
  refine j_of (fun G hG => RM_len hG) (fun hLM => ?_)
  have hla := hLM.1 (sw a) (sw_lt a)
  have hwa := sw_lt a
  have hfma : 0 ≤ fmo a 8 ∧ fmo a 8 < 8 := by unfold fmo; omega
  have hswa : (fmo a 8).toNat = sw a := rfl
  dsimp only at *
  refine j_aload_n h 0 dX4_lays_0 rfl rfl ?_
  refine jg_MmadeMany h a_f_X4_54 dX4_lays_1 ?_
  refine j_sipush h dX4_lays_4 (by decide) ?_
  refine j_icmp_le h 13 dX4_lays_7 (by decide) (by first | exact okI_of _ | exact okI_b _ | exact okI_sgz _ _ | assumption | (unfold okI; omega)) (by first | exact okI_of _ | exact okI_b _ | exact okI_sgz _ _ | assumption | (unfold okI; omega)) (fun c7 => ?_) (fun c7 => ?_)
  · exact absurd c7 (by omega)
  · refine j_ldc h (-1000004) a_k_X4_66 (by decide) dX4_lays_10 ?_
    exact j_iret h hq rfl dX4_lays_12
