/-! the reference: what only asks -/
theorem eof_all (b : Bool) (xs : List Int32) : ∀ d i, eof b xs i d = i + d ↔ ∀ k, i ≤ k → k < i + d → lsb b (gz xs k).toInt = true := by
  intro d
  induction d with
  | zero => intro i; exact ⟨fun _ k h1 h2 => by omega, fun _ => rfl⟩
  | succ d ih =>
    intro i
    rw [eof]
    cases q : lsb b (gz xs i).toInt with
    | true =>
      simp only [if_true]
      rw [show i + (d + 1) = i + 1 + d by omega, ih (i + 1)]
      refine ⟨fun h k h1 h2 => ?_, fun h k h1 h2 => h k (by omega) h2⟩
      by_cases w : k = i
      · rw [w]; exact q
      · exact h k (by omega) h2
    | false =>
      simp only [Bool.false_eq_true, if_false]
      refine ⟨fun h => by omega, fun h => ?_⟩
      have := h i (Nat.le_refl _) (by omega)
      rw [q] at this
      cases this
set_option maxHeartbeats 400000 in
set_option maxRecDepth 20000 in
theorem c_X4_isBlank {E : EV} (hE : EOK E) {A : AS} {mk : List Int32} {g0 : GH} {a : Int} (ha : okI a) : Ct E (RM E g0) yX4_isBlank wsX4_isBlank rX4_isBlank [eA E 76, .int (iI a)] (A, mk) (some (.int (iI (bI (decide (eof true (A.1 (sw a)) 0 (A.1 (sw a)).length = (A.1 (sw a)).length)))))) (A, mk) := by
  refine ct_of [(0, _), (1, _)] hE (by decide) rfl (Nat.le_of_ble_eq_true rfl) rfl (fun X h hq => ?_)
  refine j_of (fun G hG => RM_len hG) (fun hLM => ?_)
  have hla := hLM.1 (sw a) (sw_lt a)
  have hwa := sw_lt a
  have hfma : 0 ≤ fmo a 8 ∧ fmo a 8 < 8 := by unfold fmo; omega
  have hswa : (fmo a 8).toNat = sw a := rfl
  dsimp only at *
  refine j_iconst h dX4_isBlank_0 ?_
  refine j_istore_n h [(2, _), (0, _), (1, _)] dX4_isBlank_1 rfl (by decide) rfl ?_
  refine j_iconst h dX4_isBlank_2 ?_
  refine j_istore_n h [(3, _), (2, _), (0, _), (1, _)] dX4_isBlank_3 rfl (by decide) rfl ?_
  refine j_sub [0, 1, 2, 3] rfl ?_
  refine lpA2 (fun (z : Int) (B : Bool) => ((A.1 (sw a)).length - z).toNat) (fun (z : Int) (B : Bool) => 0 ≤ z → z ≤ (A.1 (sw a)).length → (B = true ↔ ∀ k, k < z.toNat → ibl (gz (A.1 (sw a)) k).toInt = true) → JL E (RM E g0) X 4 [(3, .int (iI z)), (2, .int (iI (bI B))), (0, eA E 76), (1, .int (iI a))] [] (A, mk)) (fun z B ih h0 hzb hB => ?_) 0 true (Int.le_refl 0) (by omega) ⟨fun _ k hk => absurd hk (by omega), fun _ => rfl⟩
  refine j_iload_n h 0 dX4_isBlank_4 rfl rfl ?_
  refine j_aload_n h 2 dX4_isBlank_5 rfl rfl ?_
  refine j_iload_n h 3 dX4_isBlank_6 rfl rfl ?_
  refine j_callV h (c_X4_sizeOf hE ha) m_X4_sizeOf a_l_X4_67 rfl rfl ⟨Nat.le_of_ble_eq_true rfl, Nat.le_of_ble_eq_true rfl⟩ (ci := 4) rfl (by omega) (rcM) rfl rfl (Nat.le_of_ble_eq_true rfl) dX4_isBlank_7 ?_
  refine j_icmp_ge h 41 dX4_isBlank_10 (by decide) (by first | exact okI_of _ | exact okI_b _ | exact okI_sgz _ _ | assumption | (unfold okI; omega)) (by first | exact okI_of _ | exact okI_b _ | exact okI_sgz _ _ | assumption | (unfold okI; omega)) (fun c10 => ?_) (fun c10 => ?_)
  · refine j_iload_n h 1 dX4_isBlank_41 rfl rfl ?_
    have hfin : decide (eof true (A.1 (sw a)) 0 (A.1 (sw a)).length = (A.1 (sw a)).length) = B := by cases B with | true => (refine decide_eq_true ?_; have := (eof_all true (A.1 (sw a)) (A.1 (sw a)).length 0).mpr (fun k _ hk => hB.mp rfl k (by omega)); rw [Nat.zero_add] at this; exact this) | false => (refine decide_eq_false (fun w => ?_); have := (eof_all true (A.1 (sw a)) (A.1 (sw a)).length 0).mp (by rw [Nat.zero_add]; exact w); have h9 := hB.mpr (fun k hk => this k (Nat.zero_le _) (by omega)); cases h9)
    rw [hfin] at hq
    exact j_zret h hq rfl (by first | exact nzb true | exact nzb false | exact nzb _) dX4_isBlank_42
  · refine j_iload_n h 1 dX4_isBlank_13 rfl rfl ?_
    refine j_if_eq h 33 dX4_isBlank_14 (by decide) (by first | exact okI_of _ | exact okI_b _ | exact okI_sgz _ _ | assumption | (unfold okI; omega)) (fun c14 => ?_) (fun c14 => ?_)
    · rw [bI_0] at c14
      have hB2 : ¬ (∀ k, k < (z + 1).toNat → ibl (gz (A.1 (sw a)) k).toInt = true) := fun w => by have := hB.mpr (fun k hk => w k (by omega)); rw [c14] at this; cases this
      refine j_iconst h dX4_isBlank_33 ?_
      refine j_istore_n h [(2, _), (3, _), (0, _), (1, _)] dX4_isBlank_34 rfl (by decide) rfl ?_
      refine j_iinc h 1 [(3, _), (2, _), (0, _), (1, _)] dX4_isBlank_35 rfl (by decide) rfl ?_
      refine j_goto h 4 dX4_isBlank_38 (by decide) ?_
      first | exact ih (z + 1) true (by omega) (by omega) (by omega) ⟨fun _ => hB2, fun _ => rfl⟩ | exact ih (z + 1) false (by omega) (by omega) (by omega) ⟨fun w => Bool.noConfusion w, fun w => absurd w hB2⟩
    · rw [bI_n0] at c14
      refine j_aload_n h 2 dX4_isBlank_17 rfl rfl ?_
      refine j_iload_n h 3 dX4_isBlank_18 rfl rfl ?_
      refine j_iload_n h 0 dX4_isBlank_19 rfl rfl ?_
      refine j_callV h (c_X4_signAt hE ha (by omega) (by omega)) m_X4_signAt a_l_X4_58 rfl rfl ⟨Nat.le_of_ble_eq_true rfl, Nat.le_of_ble_eq_true rfl⟩ (ci := 4) rfl (by omega) (rcM) rfl rfl (Nat.le_of_ble_eq_true rfl) dX4_isBlank_20 ?_
      refine j_callS h (c_blank_raw hE _) m_X4_isBlankSign a_l_X4_98 rfl rfl ⟨Nat.le_of_ble_eq_true rfl, Nat.le_of_ble_eq_true rfl⟩ rfl rfl (Nat.le_of_ble_eq_true rfl) dX4_isBlank_23 ?_
      refine j_if_eq h 33 dX4_isBlank_26 (by decide) (by first | exact okI_of _ | exact okI_b _ | exact okI_sgz _ _ | assumption | (unfold okI; omega)) (fun c26 => ?_) (fun c26 => ?_)
      · rw [bI_0] at c26
        have hB2 : ¬ (∀ k, k < (z + 1).toNat → ibl (gz (A.1 (sw a)) k).toInt = true) := fun w => by have := w z.toNat (by omega); rw [c26] at this; cases this
        refine j_iconst h dX4_isBlank_33 ?_
        refine j_istore_n h [(2, _), (3, _), (0, _), (1, _)] dX4_isBlank_34 rfl (by decide) rfl ?_
        refine j_iinc h 1 [(3, _), (2, _), (0, _), (1, _)] dX4_isBlank_35 rfl (by decide) rfl ?_
        refine j_goto h 4 dX4_isBlank_38 (by decide) ?_
        first | exact ih (z + 1) true (by omega) (by omega) (by omega) ⟨fun _ => hB2, fun _ => rfl⟩ | exact ih (z + 1) false (by omega) (by omega) (by omega) ⟨fun w => Bool.noConfusion w, fun w => absurd w hB2⟩
      · rw [bI_n0] at c26
        have hB2 : ∀ k, k < (z + 1).toNat → ibl (gz (A.1 (sw a)) k).toInt = true := fun k hk => by by_cases q : k = z.toNat; rw [q]; exact c26; exact hB.mp c14 k (by omega)
        refine j_iconst h dX4_isBlank_29 ?_
        refine j_goto h 34 dX4_isBlank_30 (by decide) ?_
        refine j_istore_n h [(2, _), (3, _), (0, _), (1, _)] dX4_isBlank_34 rfl (by decide) rfl ?_
        refine j_iinc h 1 [(3, _), (2, _), (0, _), (1, _)] dX4_isBlank_35 rfl (by decide) rfl ?_
        refine j_goto h 4 dX4_isBlank_38 (by decide) ?_
        first | exact ih (z + 1) true (by omega) (by omega) (by omega) ⟨fun _ => hB2, fun _ => rfl⟩ | exact ih (z + 1) false (by omega) (by omega) (by omega) ⟨fun w => Bool.noConfusion w, fun w => absurd w hB2⟩
set_option maxHeartbeats 400000 in
set_option maxRecDepth 20000 in
theorem c_X4_charAt {E : EV} (hE : EOK E) {A : AS} {mk : List Int32} {g0 : GH} {a : Int} (ha : okI a) {p : Int} (hp : okI p) : Ct E (RM E g0) yX4_charAt wsX4_charAt rX4_charAt [eA E 76, .int (iI a), .int (iI p)] (A, mk) (some (.int (chA (A.1 (sw a)) p))) (A, mk) := by
  refine ct_of [(0, _), (1, _), (2, _)] hE (by decide) rfl (Nat.le_of_ble_eq_true rfl) rfl (fun X h hq => ?_)
  refine j_of (fun G hG => RM_len hG) (fun hLM => ?_)
  have hla := hLM.1 (sw a) (sw_lt a)
  have hwa := sw_lt a
  have hfma : 0 ≤ fmo a 8 ∧ fmo a 8 < 8 := by unfold fmo; omega
  have hswa : (fmo a 8).toNat = sw a := rfl
  dsimp only at *
  refine j_iload_n h 2 dX4_charAt_0 rfl rfl ?_
  refine j_iconst h dX4_charAt_1 ?_
  refine j_aload_n h 0 dX4_charAt_2 rfl rfl ?_
  refine j_iload_n h 1 dX4_charAt_3 rfl rfl ?_
  refine j_callV h (c_X4_sizeOf hE ha) m_X4_sizeOf a_l_X4_67 rfl rfl ⟨Nat.le_of_ble_eq_true rfl, Nat.le_of_ble_eq_true rfl⟩ (ci := 4) rfl (by omega) (rcM) rfl rfl (Nat.le_of_ble_eq_true rfl) dX4_charAt_4 ?_
  refine j_iconst h dX4_charAt_7 ?_
  refine j_isub h dX4_charAt_8 ?_
  refine j_callS h (c_X4_isIn hE hp ⟨by decide, by decide⟩ (by unfold okI; omega)) m_X4_isIn a_l_X4_46 rfl rfl ⟨Nat.le_of_ble_eq_true rfl, Nat.le_of_ble_eq_true rfl⟩ rfl rfl (Nat.le_of_ble_eq_true rfl) dX4_charAt_9 ?_
  refine j_if_eq h 24 dX4_charAt_12 (by decide) (by first | exact okI_of _ | exact okI_b _ | exact okI_sgz _ _ | assumption | (unfold okI; omega)) (fun c12 => ?_) (fun c12 => ?_)
  · rw [bI_0, decide_eq_false_iff_not] at c12
    have e : chA (A.1 (sw a)) p = iI (-1000002) := if_neg (by omega)
    refine j_ldc h (-1000002) a_k_X4_87 (by decide) dX4_charAt_24 ?_
    exact j_iret h hq (by rw [e]) dX4_charAt_26
  · rw [bI_n0, decide_eq_true_eq] at c12
    have e : chA (A.1 (sw a)) p = gz (A.1 (sw a)) p.toNat := if_pos (by omega)
    refine j_aload_n h 0 dX4_charAt_15 rfl rfl ?_
    refine j_iload_n h 1 dX4_charAt_16 rfl rfl ?_
    refine j_iload_n h 2 dX4_charAt_17 rfl rfl ?_
    refine j_callV h (c_X4_signAt hE ha (by omega) (by omega)) m_X4_signAt a_l_X4_58 rfl rfl ⟨Nat.le_of_ble_eq_true rfl, Nat.le_of_ble_eq_true rfl⟩ (ci := 4) rfl (by omega) (rcM) rfl rfl (Nat.le_of_ble_eq_true rfl) dX4_charAt_18 ?_
    refine j_goto h 26 dX4_charAt_21 (by decide) ?_
    exact j_iret h hq (by rw [e]) dX4_charAt_26
set_option maxHeartbeats 400000 in
set_option maxRecDepth 20000 in
theorem c_X4_hash {E : EV} (hE : EOK E) {A : AS} {mk : List Int32} {g0 : GH} {a : Int} (ha : okI a) : Ct E (RM E g0) yX4_hash wsX4_hash rX4_hash [eA E 76, .int (iI a)] (A, mk) (some (.int (iI (fld (A.1 (sw a)) 0 0 (A.1 (sw a)).length)))) (A, mk) := by
  refine ct_of [(0, _), (1, _)] hE (by decide) rfl (Nat.le_of_ble_eq_true rfl) rfl (fun X h hq => ?_)
  refine j_of (fun G hG => RM_len hG) (fun hLM => ?_)
  have hla := hLM.1 (sw a) (sw_lt a)
  have hwa := sw_lt a
  have hfma : 0 ≤ fmo a 8 ∧ fmo a 8 < 8 := by unfold fmo; omega
  have hswa : (fmo a 8).toNat = sw a := rfl
  dsimp only at *
  refine j_iconst h dX4_hash_0 ?_
  refine j_istore_n h [(2, _), (0, _), (1, _)] dX4_hash_1 rfl (by decide) rfl ?_
  refine j_iconst h dX4_hash_2 ?_
  refine j_istore_n h [(3, _), (2, _), (0, _), (1, _)] dX4_hash_3 rfl (by decide) rfl ?_
  refine j_sub [0, 1, 2, 3] rfl ?_
  refine lpA2 (fun (z k : Int) => ((A.1 (sw a)).length - z).toNat) (fun (z k : Int) => 0 ≤ z → z ≤ (A.1 (sw a)).length → fld (A.1 (sw a)) k z.toNat ((A.1 (sw a)).length - z.toNat) = fld (A.1 (sw a)) 0 0 (A.1 (sw a)).length → JL E (RM E g0) X 4 [(3, .int (iI z)), (2, .int (iI k)), (0, eA E 76), (1, .int (iI a))] [] (A, mk)) (fun z k ih h0 hb hv => ?_) 0 0 (Int.le_refl 0) (by omega) rfl
  refine j_iload_n h 0 dX4_hash_4 rfl rfl ?_
  refine j_aload_n h 2 dX4_hash_5 rfl rfl ?_
  refine j_iload_n h 3 dX4_hash_6 rfl rfl ?_
  refine j_callV h (c_X4_sizeOf hE ha) m_X4_sizeOf a_l_X4_67 rfl rfl ⟨Nat.le_of_ble_eq_true rfl, Nat.le_of_ble_eq_true rfl⟩ (ci := 4) rfl (by omega) (rcM) rfl rfl (Nat.le_of_ble_eq_true rfl) dX4_hash_7 ?_
  refine j_icmp_ge h 31 dX4_hash_10 (by decide) (by first | exact okI_of _ | exact okI_b _ | exact okI_sgz _ _ | assumption | (unfold okI; omega)) (by first | exact okI_of _ | exact okI_b _ | exact okI_sgz _ _ | assumption | (unfold okI; omega)) (fun c10 => ?_) (fun c10 => ?_)
  · refine j_iload_n h 1 dX4_hash_31 rfl rfl ?_
    exact j_iret h hq (by rw [← hv, show (A.1 (sw a)).length - z.toNat = 0 by omega, fld]) dX4_hash_32
  · refine j_bipush h dX4_hash_13 (by decide) ?_
    refine j_iload_n h 1 dX4_hash_15 rfl rfl ?_
    refine j_imul h dX4_hash_16 ?_
    refine j_aload_n h 2 dX4_hash_17 rfl rfl ?_
    refine j_iload_n h 3 dX4_hash_18 rfl rfl ?_
    refine j_iload_n h 0 dX4_hash_19 rfl rfl ?_
    refine j_callV h (c_X4_signAt hE ha (by omega) (by omega)) m_X4_signAt a_l_X4_58 rfl rfl ⟨Nat.le_of_ble_eq_true rfl, Nat.le_of_ble_eq_true rfl⟩ (ci := 4) rfl (by omega) (rcM) rfl rfl (Nat.le_of_ble_eq_true rfl) dX4_hash_20 ?_
    refine j_top (iI_of _).symm ?_
    refine j_iadd h dX4_hash_23 ?_
    refine j_istore_n h [(2, _), (3, _), (0, _), (1, _)] dX4_hash_24 rfl (by decide) rfl ?_
    refine j_iinc h 1 [(3, _), (2, _), (0, _), (1, _)] dX4_hash_25 rfl (by decide) rfl ?_
    refine j_goto h 4 dX4_hash_28 (by decide) ?_
    exact ih (z + 1) _ (by omega) (by omega) (by omega) (by rw [show (A.1 (sw a)).length - z.toNat = (A.1 (sw a)).length - (z + 1).toNat + 1 by omega, fld, show z.toNat + 1 = (z + 1).toNat by omega] at hv; exact hv)
set_option maxHeartbeats 400000 in
set_option maxRecDepth 20000 in
theorem c_X4_firstFrom {E : EV} (hE : EOK E) {A : AS} {mk : List Int32} {g0 : GH} {a : Int} (ha : okI a) {c : Int32} {f : Int} (hf : okI f) : Ct E (RM E g0) yX4_firstFrom wsX4_firstFrom rX4_firstFrom [eA E 76, .int (iI a), .int c, .int (iI f)] (A, mk) (some (.int (iI (sgF (A.1 (sw a)) c f)))) (A, mk) := by
  refine ct_of [(0, _), (1, _), (2, _), (3, _)] hE (by decide) rfl (Nat.le_of_ble_eq_true rfl) rfl (fun X h hq => ?_)
  refine j_of (fun G hG => RM_len hG) (fun hLM => ?_)
  have hla := hLM.1 (sw a) (sw_lt a)
  have hwa := sw_lt a
  have hfma : 0 ≤ fmo a 8 ∧ fmo a 8 < 8 := by unfold fmo; omega
  have hswa : (fmo a 8).toNat = sw a := rfl
  dsimp only at *
  have hf2 := hf
  unfold okI at hf2
  have hmx : ∀ a b : Int, (a ≤ mxI a b ∧ b ≤ mxI a b ∧ (mxI a b = a ∨ mxI a b = b)) := fun a b => by unfold mxI; split <;> omega
  have hmn : ∀ a b : Int, (mnI a b ≤ a ∧ mnI a b ≤ b ∧ (mnI a b = a ∨ mnI a b = b)) := fun a b => by unfold mnI; split <;> omega
  refine j_iconst h dX4_firstFrom_0 ?_
  refine j_istore h [(4, _), (0, _), (1, _), (2, _), (3, _)] dX4_firstFrom_1 (by decide) rfl ?_
  refine j_aload_n h 1 dX4_firstFrom_3 rfl rfl ?_
  refine j_iload_n h 2 dX4_firstFrom_4 rfl rfl ?_
  refine j_callV h (c_X4_sizeOf hE ha) m_X4_sizeOf a_l_X4_67 rfl rfl ⟨Nat.le_of_ble_eq_true rfl, Nat.le_of_ble_eq_true rfl⟩ (ci := 4) rfl (by omega) (rcM) rfl rfl (Nat.le_of_ble_eq_true rfl) dX4_firstFrom_5 ?_
  refine j_iconst h dX4_firstFrom_8 ?_
  refine j_isub h dX4_firstFrom_9 ?_
  refine j_istore h [(5, _), (4, _), (0, _), (1, _), (2, _), (3, _)] dX4_firstFrom_10 (by decide) rfl ?_
  refine j_sub [0, 1, 2, 3, 4, 5] rfl ?_
  refine lpA2 (fun (z r : Int) => (z + 1).toNat) (fun (z r : Int) => -1 ≤ z → z < (A.1 (sw a)).length → (mxI 0 f ≤ z + 1 ∨ z = ((A.1 (sw a)).length : Int) - 1) → lo (fun k => decide (gz (A.1 (sw a)) k = c)) (z + 1).toNat ((A.1 (sw a)).length - (z + 1).toNat) = r → JL E (RM E g0) X 12 [(5, .int (iI z)), (4, .int (iI r)), (0, eA E 76), (1, .int (iI a)), (2, .int c), (3, .int (iI f))] [] (A, mk)) (fun z r ih h0 hzb hz2 hv => ?_) _ (-1) (by omega) (by omega) (Or.inr rfl) (by rw [show (A.1 (sw a)).length - (((A.1 (sw a)).length : Int) - 1 + 1).toNat = 0 by omega]; rfl)
  have hm0 := hmx 0 f
  refine j_iload h 0 dX4_firstFrom_12 rfl ?_
  refine j_iload_n h 5 dX4_firstFrom_14 rfl rfl ?_
  refine j_icmp_lt h 49 dX4_firstFrom_15 (by decide) (by first | exact okI_of _ | exact okI_b _ | exact okI_sgz _ _ | assumption | (unfold okI; omega)) (by first | exact okI_of _ | exact okI_b _ | exact okI_sgz _ _ | assumption | (unfold okI; omega)) (fun c15 => ?_) (fun c15 => ?_)
  · refine j_iload h 1 dX4_firstFrom_49 rfl ?_
    have hm := hmx 0 f
    have e : sgF (A.1 (sw a)) c f = r := by unfold sgF; rw [← hv]; by_cases w : z + 1 = mxI 0 f; rw [w]; rw [show (A.1 (sw a)).length - (z + 1).toNat = 0 by omega, show (A.1 (sw a)).length - (mxI 0 f).toNat = 0 by omega]; rfl
    rw [e] at hq
    exact j_iret h hq rfl dX4_firstFrom_51
  · refine j_iload h 0 dX4_firstFrom_18 rfl ?_
    refine j_if_lt h 49 dX4_firstFrom_20 (by decide) (by first | exact okI_of _ | exact okI_b _ | exact okI_sgz _ _ | assumption | (unfold okI; omega)) (fun c20 => ?_) (fun c20 => ?_)
    · refine j_iload h 1 dX4_firstFrom_49 rfl ?_
      have hm := hmx 0 f
      have e : sgF (A.1 (sw a)) c f = r := by unfold sgF; rw [← hv]; by_cases w : z + 1 = mxI 0 f; rw [w]; rw [show (A.1 (sw a)).length - (z + 1).toNat = 0 by omega, show (A.1 (sw a)).length - (mxI 0 f).toNat = 0 by omega]; rfl
      rw [e] at hq
      exact j_iret h hq rfl dX4_firstFrom_51
    · refine j_aload_n h 2 dX4_firstFrom_23 rfl rfl ?_
      refine j_iload_n h 3 dX4_firstFrom_24 rfl rfl ?_
      refine j_iload h 0 dX4_firstFrom_25 rfl ?_
      refine j_callV h (c_X4_signAt hE ha (by omega) (by omega)) m_X4_signAt a_l_X4_58 rfl rfl ⟨Nat.le_of_ble_eq_true rfl, Nat.le_of_ble_eq_true rfl⟩ (ci := 4) rfl (by omega) (rcM) rfl rfl (Nat.le_of_ble_eq_true rfl) dX4_firstFrom_27 ?_
      refine j_iload_n h 4 dX4_firstFrom_30 rfl rfl ?_
      refine j_rcmp_ne h 39 dX4_firstFrom_31 (by decide) (fun c31 => ?_) (fun c31 => ?_)
      · have hst : lo (fun k => decide (gz (A.1 (sw a)) k = c)) z.toNat ((A.1 (sw a)).length - z.toNat) = r := by rw [lo_step (by omega) (by omega), if_neg (by simpa using c31)]; exact hv
        refine j_iload h 1 dX4_firstFrom_39 rfl ?_
        refine j_istore h [(4, _), (5, _), (0, _), (1, _), (2, _), (3, _)] dX4_firstFrom_41 (by decide) rfl ?_
        refine j_iinc h 1 [(5, _), (4, _), (0, _), (1, _), (2, _), (3, _)] dX4_firstFrom_43 rfl (by decide) rfl ?_
        refine j_goto h 12 dX4_firstFrom_46 (by decide) ?_
        exact ih (z + -1) _ (by omega) (by omega) (by omega) (by omega) (by rw [show z + -1 + 1 = z by omega]; exact hst)
      · have hst : lo (fun k => decide (gz (A.1 (sw a)) k = c)) z.toNat ((A.1 (sw a)).length - z.toNat) = z := by rw [lo_step (by omega) (by omega), if_pos (by simpa using c31)]
        refine j_iload h 0 dX4_firstFrom_34 rfl ?_
        refine j_goto h 41 dX4_firstFrom_36 (by decide) ?_
        refine j_istore h [(4, _), (5, _), (0, _), (1, _), (2, _), (3, _)] dX4_firstFrom_41 (by decide) rfl ?_
        refine j_iinc h 1 [(5, _), (4, _), (0, _), (1, _), (2, _), (3, _)] dX4_firstFrom_43 rfl (by decide) rfl ?_
        refine j_goto h 12 dX4_firstFrom_46 (by decide) ?_
        exact ih (z + -1) _ (by omega) (by omega) (by omega) (by omega) (by rw [show z + -1 + 1 = z by omega]; exact hst)
set_option maxHeartbeats 400000 in
set_option maxRecDepth 20000 in
theorem c_X4_lastFrom {E : EV} (hE : EOK E) {A : AS} {mk : List Int32} {g0 : GH} {a : Int} (ha : okI a) {c : Int32} {f : Int} (hf : okI f) : Ct E (RM E g0) yX4_lastFrom wsX4_lastFrom rX4_lastFrom [eA E 76, .int (iI a), .int c, .int (iI f)] (A, mk) (some (.int (iI (sgB (A.1 (sw a)) c f)))) (A, mk) := by
  refine ct_of [(0, _), (1, _), (2, _), (3, _)] hE (by decide) rfl (Nat.le_of_ble_eq_true rfl) rfl (fun X h hq => ?_)
  refine j_of (fun G hG => RM_len hG) (fun hLM => ?_)
  have hla := hLM.1 (sw a) (sw_lt a)
  have hwa := sw_lt a
  have hfma : 0 ≤ fmo a 8 ∧ fmo a 8 < 8 := by unfold fmo; omega
  have hswa : (fmo a 8).toNat = sw a := rfl
  dsimp only at *
  have hf2 := hf
  unfold okI at hf2
  have hmx : ∀ a b : Int, (a ≤ mxI a b ∧ b ≤ mxI a b ∧ (mxI a b = a ∨ mxI a b = b)) := fun a b => by unfold mxI; split <;> omega
  have hmn : ∀ a b : Int, (mnI a b ≤ a ∧ mnI a b ≤ b ∧ (mnI a b = a ∨ mnI a b = b)) := fun a b => by unfold mnI; split <;> omega
  refine j_iconst h dX4_lastFrom_0 ?_
  refine j_istore h [(4, _), (0, _), (1, _), (2, _), (3, _)] dX4_lastFrom_1 (by decide) rfl ?_
  refine j_iconst h dX4_lastFrom_3 ?_
  refine j_istore h [(5, _), (4, _), (0, _), (1, _), (2, _), (3, _)] dX4_lastFrom_4 (by decide) rfl ?_
  refine j_sub [0, 1, 2, 3, 4, 5] rfl ?_
  refine lpA2 (fun (z r : Int) => ((A.1 (sw a)).length - z).toNat) (fun (z r : Int) => 0 ≤ z → z ≤ (A.1 (sw a)).length → (z = 0 ∨ z - 1 ≤ f) → hi (fun k => decide (gz (A.1 (sw a)) k = c)) z.toNat = r → JL E (RM E g0) X 6 [(5, .int (iI z)), (4, .int (iI r)), (0, eA E 76), (1, .int (iI a)), (2, .int c), (3, .int (iI f))] [] (A, mk)) (fun z r ih h0 hzb hz2 hv => ?_) 0 (-1) (by omega) (by omega) (Or.inl rfl) rfl
  refine j_iload h 0 dX4_lastFrom_6 rfl ?_
  refine j_aload_n h 2 dX4_lastFrom_8 rfl rfl ?_
  refine j_iload_n h 3 dX4_lastFrom_9 rfl rfl ?_
  refine j_callV h (c_X4_sizeOf hE ha) m_X4_sizeOf a_l_X4_67 rfl rfl ⟨Nat.le_of_ble_eq_true rfl, Nat.le_of_ble_eq_true rfl⟩ (ci := 4) rfl (by omega) (rcM) rfl rfl (Nat.le_of_ble_eq_true rfl) dX4_lastFrom_10 ?_
  refine j_icmp_ge h 48 dX4_lastFrom_13 (by decide) (by first | exact okI_of _ | exact okI_b _ | exact okI_sgz _ _ | assumption | (unfold okI; omega)) (by first | exact okI_of _ | exact okI_b _ | exact okI_sgz _ _ | assumption | (unfold okI; omega)) (fun c13 => ?_) (fun c13 => ?_)
  · refine j_iload h 1 dX4_lastFrom_48 rfl ?_
    have hm := hmn f (((A.1 (sw a)).length : Int) - 1)
    have e : sgB (A.1 (sw a)) c f = r := by unfold sgB; rw [← hv, show (mnI f (((A.1 (sw a)).length : Int) - 1) + 1).toNat = z.toNat by omega]
    rw [e] at hq
    exact j_iret h hq rfl dX4_lastFrom_50
  · refine j_iload h 0 dX4_lastFrom_16 rfl ?_
    refine j_iload_n h 5 dX4_lastFrom_18 rfl rfl ?_
    refine j_icmp_gt h 48 dX4_lastFrom_19 (by decide) (by first | exact okI_of _ | exact okI_b _ | exact okI_sgz _ _ | assumption | (unfold okI; omega)) (by first | exact okI_of _ | exact okI_b _ | exact okI_sgz _ _ | assumption | (unfold okI; omega)) (fun c19 => ?_) (fun c19 => ?_)
    · refine j_iload h 1 dX4_lastFrom_48 rfl ?_
      have hm := hmn f (((A.1 (sw a)).length : Int) - 1)
      have e : sgB (A.1 (sw a)) c f = r := by unfold sgB; rw [← hv, show (mnI f (((A.1 (sw a)).length : Int) - 1) + 1).toNat = z.toNat by omega]
      rw [e] at hq
      exact j_iret h hq rfl dX4_lastFrom_50
    · refine j_aload_n h 2 dX4_lastFrom_22 rfl rfl ?_
      refine j_iload_n h 3 dX4_lastFrom_23 rfl rfl ?_
      refine j_iload h 0 dX4_lastFrom_24 rfl ?_
      refine j_callV h (c_X4_signAt hE ha (by omega) (by omega)) m_X4_signAt a_l_X4_58 rfl rfl ⟨Nat.le_of_ble_eq_true rfl, Nat.le_of_ble_eq_true rfl⟩ (ci := 4) rfl (by omega) (rcM) rfl rfl (Nat.le_of_ble_eq_true rfl) dX4_lastFrom_26 ?_
      refine j_iload_n h 4 dX4_lastFrom_29 rfl rfl ?_
      refine j_rcmp_ne h 38 dX4_lastFrom_30 (by decide) (fun c30 => ?_) (fun c30 => ?_)
      · have hst : hi (fun k => decide (gz (A.1 (sw a)) k = c)) (z.toNat + 1) = r := by rw [hi, if_neg (by simpa using c30)]; exact hv
        refine j_iload h 1 dX4_lastFrom_38 rfl ?_
        refine j_istore h [(4, _), (5, _), (0, _), (1, _), (2, _), (3, _)] dX4_lastFrom_40 (by decide) rfl ?_
        refine j_iinc h 1 [(5, _), (4, _), (0, _), (1, _), (2, _), (3, _)] dX4_lastFrom_42 rfl (by decide) rfl ?_
        refine j_goto h 6 dX4_lastFrom_45 (by decide) ?_
        exact ih (z + 1) _ (by omega) (by omega) (by omega) (by omega) (by rw [show (z + 1).toNat = z.toNat + 1 by omega]; exact hst)
      · have hst : hi (fun k => decide (gz (A.1 (sw a)) k = c)) (z.toNat + 1) = z := by rw [hi, if_pos (by simpa using c30)]; omega
        refine j_iload h 0 dX4_lastFrom_33 rfl ?_
        refine j_goto h 40 dX4_lastFrom_35 (by decide) ?_
        refine j_istore h [(4, _), (5, _), (0, _), (1, _), (2, _), (3, _)] dX4_lastFrom_40 (by decide) rfl ?_
        refine j_iinc h 1 [(5, _), (4, _), (0, _), (1, _), (2, _), (3, _)] dX4_lastFrom_42 rfl (by decide) rfl ?_
        refine j_goto h 6 dX4_lastFrom_45 (by decide) ?_
        exact ih (z + 1) _ (by omega) (by omega) (by omega) (by omega) (by rw [show (z + 1).toNat = z.toNat + 1 by omega]; exact hst)
set_option maxHeartbeats 400000 in
set_option maxRecDepth 20000 in
theorem c_X4_first {E : EV} (hE : EOK E) {A : AS} {mk : List Int32} {g0 : GH} {a : Int} (ha : okI a) {c : Int32} : Ct E (RM E g0) yX4_first wsX4_first rX4_first [eA E 76, .int (iI a), .int c] (A, mk) (some (.int (iI (sgF (A.1 (sw a)) c 0)))) (A, mk) := by
  refine ct_of [(0, _), (1, _), (2, _)] hE (by decide) rfl (Nat.le_of_ble_eq_true rfl) rfl (fun X h hq => ?_)
  refine j_of (fun G hG => RM_len hG) (fun hLM => ?_)
  have hla := hLM.1 (sw a) (sw_lt a)
  have hwa := sw_lt a
  have hfma : 0 ≤ fmo a 8 ∧ fmo a 8 < 8 := by unfold fmo; omega
  have hswa : (fmo a 8).toNat = sw a := rfl
  dsimp only at *
  refine j_aload_n h 0 dX4_first_0 rfl rfl ?_
  refine j_iload_n h 1 dX4_first_1 rfl rfl ?_
  refine j_iload_n h 2 dX4_first_2 rfl rfl ?_
  refine j_iconst h dX4_first_3 ?_
  refine j_callV h (c_X4_firstFrom hE ha ⟨by decide, by decide⟩) m_X4_firstFrom a_l_X4_101 rfl rfl ⟨Nat.le_of_ble_eq_true rfl, Nat.le_of_ble_eq_true rfl⟩ (ci := 4) rfl (by omega) (rcM) rfl rfl (Nat.le_of_ble_eq_true rfl) dX4_first_4 ?_
  exact j_iret h hq rfl dX4_first_7
set_option maxHeartbeats 400000 in
set_option maxRecDepth 20000 in
theorem c_X4_last {E : EV} (hE : EOK E) {A : AS} {mk : List Int32} {g0 : GH} {a : Int} (ha : okI a) {c : Int32} : Ct E (RM E g0) yX4_last wsX4_last rX4_last [eA E 76, .int (iI a), .int c] (A, mk) (some (.int (iI (sgB (A.1 (sw a)) c 300)))) (A, mk) := by
  refine ct_of [(0, _), (1, _), (2, _)] hE (by decide) rfl (Nat.le_of_ble_eq_true rfl) rfl (fun X h hq => ?_)
  refine j_of (fun G hG => RM_len hG) (fun hLM => ?_)
  have hla := hLM.1 (sw a) (sw_lt a)
  have hwa := sw_lt a
  have hfma : 0 ≤ fmo a 8 ∧ fmo a 8 < 8 := by unfold fmo; omega
  have hswa : (fmo a 8).toNat = sw a := rfl
  dsimp only at *
  refine j_aload_n h 0 dX4_last_0 rfl rfl ?_
  refine j_iload_n h 1 dX4_last_1 rfl rfl ?_
  refine j_iload_n h 2 dX4_last_2 rfl rfl ?_
  refine j_sipush h dX4_last_3 (by decide) ?_
  refine j_callV h (c_X4_lastFrom hE ha ⟨by decide, by decide⟩) m_X4_lastFrom a_l_X4_105 rfl rfl ⟨Nat.le_of_ble_eq_true rfl, Nat.le_of_ble_eq_true rfl⟩ (ci := 4) rfl (by omega) (rcM) rfl rfl (Nat.le_of_ble_eq_true rfl) dX4_last_6 ?_
  exact j_iret h hq rfl dX4_last_9
set_option maxHeartbeats 400000 in
set_option maxRecDepth 20000 in
theorem c_X4_stands {E : EV} (hE : EOK E) {A : AS} {mk : List Int32} {g0 : GH} {a : Int} (ha : okI a) {b : Int} (hb : okI b) {p : Int} (hp : okI p) : Ct E (RM E g0) yX4_stands wsX4_stands rX4_stands [eA E 76, .int (iI a), .int (iI b), .int (iI p)] (A, mk) (some (.int (iI (bI (bz (A.1 (sw a)) (A.1 (sw b)) p))))) (A, mk) := by
  refine ct_of [(0, _), (1, _), (2, _), (3, _)] hE (by decide) rfl (Nat.le_of_ble_eq_true rfl) rfl (fun X h hq => ?_)
  refine j_of (fun G hG => RM_len hG) (fun hLM => ?_)
  have hla := hLM.1 (sw a) (sw_lt a)
  have hwa := sw_lt a
  have hfma : 0 ≤ fmo a 8 ∧ fmo a 8 < 8 := by unfold fmo; omega
  have hswa : (fmo a 8).toNat = sw a := rfl
  have hlb := hLM.1 (sw b) (sw_lt b)
  have hwb := sw_lt b
  have hfmb : 0 ≤ fmo b 8 ∧ fmo b 8 < 8 := by unfold fmo; omega
  have hswb : (fmo b 8).toNat = sw b := rfl
  dsimp only at *
  have hp2 := hp
  unfold okI at hp2
  refine j_aload_n h 0 dX4_stands_0 rfl rfl ?_
  refine j_iload_n h 2 dX4_stands_1 rfl rfl ?_
  refine j_callV h (c_X4_sizeOf hE hb) m_X4_sizeOf a_l_X4_67 rfl rfl ⟨Nat.le_of_ble_eq_true rfl, Nat.le_of_ble_eq_true rfl⟩ (ci := 4) rfl (by omega) (rcM) rfl rfl (Nat.le_of_ble_eq_true rfl) dX4_stands_2 ?_
  refine j_istore h [(4, _), (0, _), (1, _), (2, _), (3, _)] dX4_stands_5 (by decide) rfl ?_
  refine j_iload_n h 4 dX4_stands_7 rfl rfl ?_
  refine j_if_lt h 27 dX4_stands_8 (by decide) (by first | exact okI_of _ | exact okI_b _ | exact okI_sgz _ _ | assumption | (unfold okI; omega)) (fun c8 => ?_) (fun c8 => ?_)
  · obtain ⟨B, hB, hB2⟩ : ∃ B : Bool, iI (bI B) = iI 0 ∧ (B = true ↔ 0 ≤ p ∧ p + (A.1 (sw b)).length ≤ (A.1 (sw a)).length) := ⟨false, rfl, ⟨fun w => Bool.noConfusion w, fun w => absurd w.1 (by omega)⟩⟩
    refine j_iconst h dX4_stands_27 ?_
    refine j_istore h [(5, _), (4, _), (0, _), (1, _), (2, _), (3, _)] dX4_stands_28 (by decide) rfl ?_
    refine j_iconst h dX4_stands_30 ?_
    refine j_istore h [(6, _), (5, _), (4, _), (0, _), (1, _), (2, _), (3, _)] dX4_stands_31 (by decide) rfl ?_
    refine j_sub [0, 1, 3, 4, 5, 6, 2] rfl ?_
    refine j_lv (lv2 := [(6, .int (iI 0)), (5, .int (iI (bI B))), (0, eA E 76), (1, .int (iI a)), (2, .int (iI b)), (3, .int (iI p)), (4, .int (iI (A.1 (sw b)).length))]) (by rw [hB]; rfl) ?_
    refine lpA2 (fun (z : Int) (C2 : Bool) => ((A.1 (sw b)).length - z).toNat) (fun (z : Int) (C2 : Bool) => 0 ≤ z → z ≤ (A.1 (sw b)).length → (C2 = true → 0 ≤ p ∧ p + (A.1 (sw b)).length ≤ (A.1 (sw a)).length) → bz (A.1 (sw a)) (A.1 (sw b)) p = (C2 && eqs true (A.1 (sw a)) (A.1 (sw b)) (p + z).toNat z.toNat ((A.1 (sw b)).length - z.toNat)) → JL E (RM E g0) X 33 [(6, .int (iI z)), (5, .int (iI (bI C2))), (0, eA E 76), (1, .int (iI a)), (2, .int (iI b)), (3, .int (iI p)), (4, .int (iI (A.1 (sw b)).length))] [] (A, mk)) (fun z C2 ih h0 hzb hK hv => ?_) 0 B (Int.le_refl 0) (by omega) hB2.mp (by unfold bz agr; rw [Int.add_zero, Int.toNat_natCast, Int.toNat_zero, Nat.sub_zero]; congr 1; cases B with | true => (exact decide_eq_true ⟨(hB2.mp rfl).1, Int.le_refl 0, (hB2.mp rfl).2, by omega⟩) | false => (exact decide_eq_false (fun w => Bool.noConfusion (hB2.mpr ⟨w.1, w.2.2.1⟩))))
    refine j_iload h 0 dX4_stands_33 rfl ?_
    refine j_iload h 6 dX4_stands_35 rfl ?_
    refine j_icmp_ge h 77 dX4_stands_37 (by decide) (by first | exact okI_of _ | exact okI_b _ | exact okI_sgz _ _ | assumption | (unfold okI; omega)) (by first | exact okI_of _ | exact okI_b _ | exact okI_sgz _ _ | assumption | (unfold okI; omega)) (fun c37 => ?_) (fun c37 => ?_)
    · refine j_iload h 1 dX4_stands_77 rfl ?_
      have e : bz (A.1 (sw a)) (A.1 (sw b)) p = C2 := by rw [hv]; first | (rw [show (A.1 (sw b)).length - z.toNat = 0 by omega, eqs, Bool.and_true]) | (rw [c42, Bool.false_and])
      rw [e] at hq
      exact j_zret h hq rfl (by first | exact nzb true | exact nzb false | exact nzb _) dX4_stands_79
    · refine j_iload h 1 dX4_stands_40 rfl ?_
      refine j_if_eq h 77 dX4_stands_42 (by decide) (by first | exact okI_of _ | exact okI_b _ | exact okI_sgz _ _ | assumption | (unfold okI; omega)) (fun c42 => ?_) (fun c42 => ?_)
      · rw [bI_0] at c42
        refine j_iload h 1 dX4_stands_77 rfl ?_
        have e : bz (A.1 (sw a)) (A.1 (sw b)) p = C2 := by rw [hv]; first | (rw [show (A.1 (sw b)).length - z.toNat = 0 by omega, eqs, Bool.and_true]) | (rw [c42, Bool.false_and])
        rw [e] at hq
        exact j_zret h hq rfl (by first | exact nzb true | exact nzb false | exact nzb _) dX4_stands_79
      · rw [bI_n0] at c42
        have hpb := hK c42
        refine j_aload_n h 2 dX4_stands_45 rfl rfl ?_
        refine j_iload_n h 3 dX4_stands_46 rfl rfl ?_
        refine j_iload_n h 5 dX4_stands_47 rfl rfl ?_
        refine j_iload h 0 dX4_stands_48 rfl ?_
        refine j_iadd h dX4_stands_50 ?_
        refine j_callV h (c_X4_signAt hE ha (by omega) (by omega)) m_X4_signAt a_l_X4_58 rfl rfl ⟨Nat.le_of_ble_eq_true rfl, Nat.le_of_ble_eq_true rfl⟩ (ci := 4) rfl (by omega) (rcM) rfl rfl (Nat.le_of_ble_eq_true rfl) dX4_stands_51 ?_
        refine j_aload_n h 2 dX4_stands_54 rfl rfl ?_
        refine j_iload_n h 4 dX4_stands_55 rfl rfl ?_
        refine j_iload h 0 dX4_stands_56 rfl ?_
        refine j_callV h (c_X4_signAt hE hb (by omega) (by omega)) m_X4_signAt a_l_X4_58 rfl rfl ⟨Nat.le_of_ble_eq_true rfl, Nat.le_of_ble_eq_true rfl⟩ (ci := 4) rfl (by omega) (rcM) rfl rfl (Nat.le_of_ble_eq_true rfl) dX4_stands_58 ?_
        refine j_rcmp_ne h 68 dX4_stands_61 (by decide) (fun c61 => ?_) (fun c61 => ?_)
        · refine j_iconst h dX4_stands_68 ?_
          refine j_istore h [(5, _), (6, _), (0, _), (1, _), (2, _), (3, _), (4, _)] dX4_stands_69 (by decide) rfl ?_
          refine j_iinc h 1 [(6, _), (5, _), (0, _), (1, _), (2, _), (3, _), (4, _)] dX4_stands_71 rfl (by decide) rfl ?_
          refine j_goto h 33 dX4_stands_74 (by decide) ?_
          rw [c42, Bool.true_and, show (A.1 (sw b)).length - z.toNat = (A.1 (sw b)).length - (z + 1).toNat + 1 by omega, eqs, tl_t, tl_t, show (p + z).toNat + 1 = (p + (z + 1)).toNat by omega, show z.toNat + 1 = (z + 1).toNat by omega] at hv
          first | (rw [decide_eq_true c61] at hv; exact ih (z + 1) true (by omega) (by omega) (by omega) (fun _ => hpb) hv) | (rw [decide_eq_false c61, Bool.false_and] at hv; exact ih (z + 1) false (by omega) (by omega) (by omega) (fun w => Bool.noConfusion w) (by rw [hv, Bool.false_and]))
        · refine j_iconst h dX4_stands_64 ?_
          refine j_goto h 69 dX4_stands_65 (by decide) ?_
          refine j_istore h [(5, _), (6, _), (0, _), (1, _), (2, _), (3, _), (4, _)] dX4_stands_69 (by decide) rfl ?_
          refine j_iinc h 1 [(6, _), (5, _), (0, _), (1, _), (2, _), (3, _), (4, _)] dX4_stands_71 rfl (by decide) rfl ?_
          refine j_goto h 33 dX4_stands_74 (by decide) ?_
          rw [c42, Bool.true_and, show (A.1 (sw b)).length - z.toNat = (A.1 (sw b)).length - (z + 1).toNat + 1 by omega, eqs, tl_t, tl_t, show (p + z).toNat + 1 = (p + (z + 1)).toNat by omega, show z.toNat + 1 = (z + 1).toNat by omega] at hv
          first | (rw [decide_eq_true c61] at hv; exact ih (z + 1) true (by omega) (by omega) (by omega) (fun _ => hpb) hv) | (rw [decide_eq_false c61, Bool.false_and] at hv; exact ih (z + 1) false (by omega) (by omega) (by omega) (fun w => Bool.noConfusion w) (by rw [hv, Bool.false_and]))
  · refine j_iload_n h 4 dX4_stands_11 rfl rfl ?_
    refine j_aload_n h 1 dX4_stands_12 rfl rfl ?_
    refine j_iload_n h 2 dX4_stands_13 rfl rfl ?_
    refine j_callV h (c_X4_sizeOf hE ha) m_X4_sizeOf a_l_X4_67 rfl rfl ⟨Nat.le_of_ble_eq_true rfl, Nat.le_of_ble_eq_true rfl⟩ (ci := 4) rfl (by omega) (rcM) rfl rfl (Nat.le_of_ble_eq_true rfl) dX4_stands_14 ?_
    refine j_iload h 0 dX4_stands_17 rfl ?_
    refine j_isub h dX4_stands_19 ?_
    refine j_icmp_gt h 27 dX4_stands_20 (by decide) (by first | exact okI_of _ | exact okI_b _ | exact okI_sgz _ _ | assumption | (unfold okI; omega)) (by first | exact okI_of _ | exact okI_b _ | exact okI_sgz _ _ | assumption | (unfold okI; omega)) (fun c20 => ?_) (fun c20 => ?_)
    · obtain ⟨B, hB, hB2⟩ : ∃ B : Bool, iI (bI B) = iI 0 ∧ (B = true ↔ 0 ≤ p ∧ p + (A.1 (sw b)).length ≤ (A.1 (sw a)).length) := ⟨false, rfl, ⟨fun w => Bool.noConfusion w, fun w => absurd w.2 (by omega)⟩⟩
      refine j_iconst h dX4_stands_27 ?_
      refine j_istore h [(5, _), (4, _), (0, _), (1, _), (2, _), (3, _)] dX4_stands_28 (by decide) rfl ?_
      refine j_iconst h dX4_stands_30 ?_
      refine j_istore h [(6, _), (5, _), (4, _), (0, _), (1, _), (2, _), (3, _)] dX4_stands_31 (by decide) rfl ?_
      refine j_sub [0, 1, 3, 4, 5, 6, 2] rfl ?_
      refine j_lv (lv2 := [(6, .int (iI 0)), (5, .int (iI (bI B))), (0, eA E 76), (1, .int (iI a)), (2, .int (iI b)), (3, .int (iI p)), (4, .int (iI (A.1 (sw b)).length))]) (by rw [hB]; rfl) ?_
      refine lpA2 (fun (z : Int) (C2 : Bool) => ((A.1 (sw b)).length - z).toNat) (fun (z : Int) (C2 : Bool) => 0 ≤ z → z ≤ (A.1 (sw b)).length → (C2 = true → 0 ≤ p ∧ p + (A.1 (sw b)).length ≤ (A.1 (sw a)).length) → bz (A.1 (sw a)) (A.1 (sw b)) p = (C2 && eqs true (A.1 (sw a)) (A.1 (sw b)) (p + z).toNat z.toNat ((A.1 (sw b)).length - z.toNat)) → JL E (RM E g0) X 33 [(6, .int (iI z)), (5, .int (iI (bI C2))), (0, eA E 76), (1, .int (iI a)), (2, .int (iI b)), (3, .int (iI p)), (4, .int (iI (A.1 (sw b)).length))] [] (A, mk)) (fun z C2 ih h0 hzb hK hv => ?_) 0 B (Int.le_refl 0) (by omega) hB2.mp (by unfold bz agr; rw [Int.add_zero, Int.toNat_natCast, Int.toNat_zero, Nat.sub_zero]; congr 1; cases B with | true => (exact decide_eq_true ⟨(hB2.mp rfl).1, Int.le_refl 0, (hB2.mp rfl).2, by omega⟩) | false => (exact decide_eq_false (fun w => Bool.noConfusion (hB2.mpr ⟨w.1, w.2.2.1⟩))))
      refine j_iload h 0 dX4_stands_33 rfl ?_
      refine j_iload h 6 dX4_stands_35 rfl ?_
      refine j_icmp_ge h 77 dX4_stands_37 (by decide) (by first | exact okI_of _ | exact okI_b _ | exact okI_sgz _ _ | assumption | (unfold okI; omega)) (by first | exact okI_of _ | exact okI_b _ | exact okI_sgz _ _ | assumption | (unfold okI; omega)) (fun c37 => ?_) (fun c37 => ?_)
      · refine j_iload h 1 dX4_stands_77 rfl ?_
        have e : bz (A.1 (sw a)) (A.1 (sw b)) p = C2 := by rw [hv]; first | (rw [show (A.1 (sw b)).length - z.toNat = 0 by omega, eqs, Bool.and_true]) | (rw [c42, Bool.false_and])
        rw [e] at hq
        exact j_zret h hq rfl (by first | exact nzb true | exact nzb false | exact nzb _) dX4_stands_79
      · refine j_iload h 1 dX4_stands_40 rfl ?_
        refine j_if_eq h 77 dX4_stands_42 (by decide) (by first | exact okI_of _ | exact okI_b _ | exact okI_sgz _ _ | assumption | (unfold okI; omega)) (fun c42 => ?_) (fun c42 => ?_)
        · rw [bI_0] at c42
          refine j_iload h 1 dX4_stands_77 rfl ?_
          have e : bz (A.1 (sw a)) (A.1 (sw b)) p = C2 := by rw [hv]; first | (rw [show (A.1 (sw b)).length - z.toNat = 0 by omega, eqs, Bool.and_true]) | (rw [c42, Bool.false_and])
          rw [e] at hq
          exact j_zret h hq rfl (by first | exact nzb true | exact nzb false | exact nzb _) dX4_stands_79
        · rw [bI_n0] at c42
          have hpb := hK c42
          refine j_aload_n h 2 dX4_stands_45 rfl rfl ?_
          refine j_iload_n h 3 dX4_stands_46 rfl rfl ?_
          refine j_iload_n h 5 dX4_stands_47 rfl rfl ?_
          refine j_iload h 0 dX4_stands_48 rfl ?_
          refine j_iadd h dX4_stands_50 ?_
          refine j_callV h (c_X4_signAt hE ha (by omega) (by omega)) m_X4_signAt a_l_X4_58 rfl rfl ⟨Nat.le_of_ble_eq_true rfl, Nat.le_of_ble_eq_true rfl⟩ (ci := 4) rfl (by omega) (rcM) rfl rfl (Nat.le_of_ble_eq_true rfl) dX4_stands_51 ?_
          refine j_aload_n h 2 dX4_stands_54 rfl rfl ?_
          refine j_iload_n h 4 dX4_stands_55 rfl rfl ?_
          refine j_iload h 0 dX4_stands_56 rfl ?_
          refine j_callV h (c_X4_signAt hE hb (by omega) (by omega)) m_X4_signAt a_l_X4_58 rfl rfl ⟨Nat.le_of_ble_eq_true rfl, Nat.le_of_ble_eq_true rfl⟩ (ci := 4) rfl (by omega) (rcM) rfl rfl (Nat.le_of_ble_eq_true rfl) dX4_stands_58 ?_
          refine j_rcmp_ne h 68 dX4_stands_61 (by decide) (fun c61 => ?_) (fun c61 => ?_)
          · refine j_iconst h dX4_stands_68 ?_
            refine j_istore h [(5, _), (6, _), (0, _), (1, _), (2, _), (3, _), (4, _)] dX4_stands_69 (by decide) rfl ?_
            refine j_iinc h 1 [(6, _), (5, _), (0, _), (1, _), (2, _), (3, _), (4, _)] dX4_stands_71 rfl (by decide) rfl ?_
            refine j_goto h 33 dX4_stands_74 (by decide) ?_
            rw [c42, Bool.true_and, show (A.1 (sw b)).length - z.toNat = (A.1 (sw b)).length - (z + 1).toNat + 1 by omega, eqs, tl_t, tl_t, show (p + z).toNat + 1 = (p + (z + 1)).toNat by omega, show z.toNat + 1 = (z + 1).toNat by omega] at hv
            first | (rw [decide_eq_true c61] at hv; exact ih (z + 1) true (by omega) (by omega) (by omega) (fun _ => hpb) hv) | (rw [decide_eq_false c61, Bool.false_and] at hv; exact ih (z + 1) false (by omega) (by omega) (by omega) (fun w => Bool.noConfusion w) (by rw [hv, Bool.false_and]))
          · refine j_iconst h dX4_stands_64 ?_
            refine j_goto h 69 dX4_stands_65 (by decide) ?_
            refine j_istore h [(5, _), (6, _), (0, _), (1, _), (2, _), (3, _), (4, _)] dX4_stands_69 (by decide) rfl ?_
            refine j_iinc h 1 [(6, _), (5, _), (0, _), (1, _), (2, _), (3, _), (4, _)] dX4_stands_71 rfl (by decide) rfl ?_
            refine j_goto h 33 dX4_stands_74 (by decide) ?_
            rw [c42, Bool.true_and, show (A.1 (sw b)).length - z.toNat = (A.1 (sw b)).length - (z + 1).toNat + 1 by omega, eqs, tl_t, tl_t, show (p + z).toNat + 1 = (p + (z + 1)).toNat by omega, show z.toNat + 1 = (z + 1).toNat by omega] at hv
            first | (rw [decide_eq_true c61] at hv; exact ih (z + 1) true (by omega) (by omega) (by omega) (fun _ => hpb) hv) | (rw [decide_eq_false c61, Bool.false_and] at hv; exact ih (z + 1) false (by omega) (by omega) (by omega) (fun w => Bool.noConfusion w) (by rw [hv, Bool.false_and]))
    · obtain ⟨B, hB, hB2⟩ : ∃ B : Bool, iI (bI B) = iI 1 ∧ (B = true ↔ 0 ≤ p ∧ p + (A.1 (sw b)).length ≤ (A.1 (sw a)).length) := ⟨true, rfl, ⟨fun _ => ⟨by omega, by omega⟩, fun _ => rfl⟩⟩
      refine j_iconst h dX4_stands_23 ?_
      refine j_goto h 28 dX4_stands_24 (by decide) ?_
      refine j_istore h [(5, _), (4, _), (0, _), (1, _), (2, _), (3, _)] dX4_stands_28 (by decide) rfl ?_
      refine j_iconst h dX4_stands_30 ?_
      refine j_istore h [(6, _), (5, _), (4, _), (0, _), (1, _), (2, _), (3, _)] dX4_stands_31 (by decide) rfl ?_
      refine j_sub [0, 1, 3, 4, 5, 6, 2] rfl ?_
      refine j_lv (lv2 := [(6, .int (iI 0)), (5, .int (iI (bI B))), (0, eA E 76), (1, .int (iI a)), (2, .int (iI b)), (3, .int (iI p)), (4, .int (iI (A.1 (sw b)).length))]) (by rw [hB]; rfl) ?_
      refine lpA2 (fun (z : Int) (C2 : Bool) => ((A.1 (sw b)).length - z).toNat) (fun (z : Int) (C2 : Bool) => 0 ≤ z → z ≤ (A.1 (sw b)).length → (C2 = true → 0 ≤ p ∧ p + (A.1 (sw b)).length ≤ (A.1 (sw a)).length) → bz (A.1 (sw a)) (A.1 (sw b)) p = (C2 && eqs true (A.1 (sw a)) (A.1 (sw b)) (p + z).toNat z.toNat ((A.1 (sw b)).length - z.toNat)) → JL E (RM E g0) X 33 [(6, .int (iI z)), (5, .int (iI (bI C2))), (0, eA E 76), (1, .int (iI a)), (2, .int (iI b)), (3, .int (iI p)), (4, .int (iI (A.1 (sw b)).length))] [] (A, mk)) (fun z C2 ih h0 hzb hK hv => ?_) 0 B (Int.le_refl 0) (by omega) hB2.mp (by unfold bz agr; rw [Int.add_zero, Int.toNat_natCast, Int.toNat_zero, Nat.sub_zero]; congr 1; cases B with | true => (exact decide_eq_true ⟨(hB2.mp rfl).1, Int.le_refl 0, (hB2.mp rfl).2, by omega⟩) | false => (exact decide_eq_false (fun w => Bool.noConfusion (hB2.mpr ⟨w.1, w.2.2.1⟩))))
      refine j_iload h 0 dX4_stands_33 rfl ?_
      refine j_iload h 6 dX4_stands_35 rfl ?_
      refine j_icmp_ge h 77 dX4_stands_37 (by decide) (by first | exact okI_of _ | exact okI_b _ | exact okI_sgz _ _ | assumption | (unfold okI; omega)) (by first | exact okI_of _ | exact okI_b _ | exact okI_sgz _ _ | assumption | (unfold okI; omega)) (fun c37 => ?_) (fun c37 => ?_)
      · refine j_iload h 1 dX4_stands_77 rfl ?_
        have e : bz (A.1 (sw a)) (A.1 (sw b)) p = C2 := by rw [hv]; first | (rw [show (A.1 (sw b)).length - z.toNat = 0 by omega, eqs, Bool.and_true]) | (rw [c42, Bool.false_and])
        rw [e] at hq
        exact j_zret h hq rfl (by first | exact nzb true | exact nzb false | exact nzb _) dX4_stands_79
      · refine j_iload h 1 dX4_stands_40 rfl ?_
        refine j_if_eq h 77 dX4_stands_42 (by decide) (by first | exact okI_of _ | exact okI_b _ | exact okI_sgz _ _ | assumption | (unfold okI; omega)) (fun c42 => ?_) (fun c42 => ?_)
        · rw [bI_0] at c42
          refine j_iload h 1 dX4_stands_77 rfl ?_
          have e : bz (A.1 (sw a)) (A.1 (sw b)) p = C2 := by rw [hv]; first | (rw [show (A.1 (sw b)).length - z.toNat = 0 by omega, eqs, Bool.and_true]) | (rw [c42, Bool.false_and])
          rw [e] at hq
          exact j_zret h hq rfl (by first | exact nzb true | exact nzb false | exact nzb _) dX4_stands_79
        · rw [bI_n0] at c42
          have hpb := hK c42
          refine j_aload_n h 2 dX4_stands_45 rfl rfl ?_
          refine j_iload_n h 3 dX4_stands_46 rfl rfl ?_
          refine j_iload_n h 5 dX4_stands_47 rfl rfl ?_
          refine j_iload h 0 dX4_stands_48 rfl ?_
          refine j_iadd h dX4_stands_50 ?_
          refine j_callV h (c_X4_signAt hE ha (by omega) (by omega)) m_X4_signAt a_l_X4_58 rfl rfl ⟨Nat.le_of_ble_eq_true rfl, Nat.le_of_ble_eq_true rfl⟩ (ci := 4) rfl (by omega) (rcM) rfl rfl (Nat.le_of_ble_eq_true rfl) dX4_stands_51 ?_
          refine j_aload_n h 2 dX4_stands_54 rfl rfl ?_
          refine j_iload_n h 4 dX4_stands_55 rfl rfl ?_
          refine j_iload h 0 dX4_stands_56 rfl ?_
          refine j_callV h (c_X4_signAt hE hb (by omega) (by omega)) m_X4_signAt a_l_X4_58 rfl rfl ⟨Nat.le_of_ble_eq_true rfl, Nat.le_of_ble_eq_true rfl⟩ (ci := 4) rfl (by omega) (rcM) rfl rfl (Nat.le_of_ble_eq_true rfl) dX4_stands_58 ?_
          refine j_rcmp_ne h 68 dX4_stands_61 (by decide) (fun c61 => ?_) (fun c61 => ?_)
          · refine j_iconst h dX4_stands_68 ?_
            refine j_istore h [(5, _), (6, _), (0, _), (1, _), (2, _), (3, _), (4, _)] dX4_stands_69 (by decide) rfl ?_
            refine j_iinc h 1 [(6, _), (5, _), (0, _), (1, _), (2, _), (3, _), (4, _)] dX4_stands_71 rfl (by decide) rfl ?_
            refine j_goto h 33 dX4_stands_74 (by decide) ?_
            rw [c42, Bool.true_and, show (A.1 (sw b)).length - z.toNat = (A.1 (sw b)).length - (z + 1).toNat + 1 by omega, eqs, tl_t, tl_t, show (p + z).toNat + 1 = (p + (z + 1)).toNat by omega, show z.toNat + 1 = (z + 1).toNat by omega] at hv
            first | (rw [decide_eq_true c61] at hv; exact ih (z + 1) true (by omega) (by omega) (by omega) (fun _ => hpb) hv) | (rw [decide_eq_false c61, Bool.false_and] at hv; exact ih (z + 1) false (by omega) (by omega) (by omega) (fun w => Bool.noConfusion w) (by rw [hv, Bool.false_and]))
          · refine j_iconst h dX4_stands_64 ?_
            refine j_goto h 69 dX4_stands_65 (by decide) ?_
            refine j_istore h [(5, _), (6, _), (0, _), (1, _), (2, _), (3, _), (4, _)] dX4_stands_69 (by decide) rfl ?_
            refine j_iinc h 1 [(6, _), (5, _), (0, _), (1, _), (2, _), (3, _), (4, _)] dX4_stands_71 rfl (by decide) rfl ?_
            refine j_goto h 33 dX4_stands_74 (by decide) ?_
            rw [c42, Bool.true_and, show (A.1 (sw b)).length - z.toNat = (A.1 (sw b)).length - (z + 1).toNat + 1 by omega, eqs, tl_t, tl_t, show (p + z).toNat + 1 = (p + (z + 1)).toNat by omega, show z.toNat + 1 = (z + 1).toNat by omega] at hv
            first | (rw [decide_eq_true c61] at hv; exact ih (z + 1) true (by omega) (by omega) (by omega) (fun _ => hpb) hv) | (rw [decide_eq_false c61, Bool.false_and] at hv; exact ih (z + 1) false (by omega) (by omega) (by omega) (fun w => Bool.noConfusion w) (by rw [hv, Bool.false_and]))
