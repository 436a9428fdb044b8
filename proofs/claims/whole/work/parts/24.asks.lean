/-! TextShelves: what only asks -/
theorem plF_range (xs ys : List Int32) (f : Int) : -1 ≤ plF xs ys f ∧ plF xs ys f ≤ xs.length := by
  have h := lo_range (P := fun k => bz xs ys k) (xs.length + 1 - (mxI 0 (mnI f xs.length)).toNat) (mxI 0 (mnI f xs.length)).toNat
  have hm : (mxI 0 (mnI f xs.length)).toNat ≤ xs.length := by unfold mxI mnI; split <;> (try split) <;> omega
  unfold plF
  omega
theorem plB_range (xs ys : List Int32) (f : Int) : -1 ≤ plB xs ys f ∧ plB xs ys f ≤ xs.length := by
  have h := hi_range (P := fun k => bz xs ys k) (mnI f xs.length + 1).toNat
  have hm : (mnI f xs.length + 1).toNat ≤ xs.length + 1 := by unfold mnI; split <;> omega
  unfold plB
  omega
theorem eof_le (b : Bool) (xs : List Int32) : ∀ d i, eof b xs i d ≤ i + d ∧ i ≤ eof b xs i d := by
  intro d
  induction d with
  | zero => intro i; exact ⟨Nat.le_refl _, Nat.le_refl _⟩
  | succ d ih =>
    intro i
    rw [eof]
    have := ih (i + 1)
    split <;> omega
theorem sfr_le (xs ys : List Int32) : ∀ d i, sfr xs ys i d ≤ i + d ∧ i ≤ sfr xs ys i d := by
  intro d
  induction d with
  | zero => intro i; exact ⟨Nat.le_refl _, Nat.le_refl _⟩
  | succ d ih =>
    intro i
    rw [sfr]
    have := ih (i + 1)
    split <;> omega
theorem fdc_le (xs ys : List Int32) : ∀ f p, fdc xs ys f p ≤ f := by
  intro f
  induction f with
  | zero => intro p; exact Nat.le_refl _
  | succ f ih =>
    intro p
    rw [fdc]
    have h1 := ih (p + max 1 ys.length)
    have h2 := ih (p + 1)
    split
    · split <;> omega
    · omega
def chA (xs : List Int32) (p : Int) : Int32 := if 0 ≤ p ∧ p < xs.length then gz xs p.toNat else iI (-1000002)
def cnI (xs ys : List Int32) : Int := if ys.length = 0 then -1000001 else fdc xs ys (xs.length + 1) 0
set_option maxHeartbeats 400000 in
set_option maxRecDepth 20000 in
theorem c_X3_length {E : EV} (hE : EOK E) {S : SC} {g0 : GH} {a : Int} (ha : okI a) {xs : List Int32} (hxs : S.1 (sh S a) = xs)  : Ct E (RC E g0) yX3_length wsX3_length rX3_length [eA E 74, .int (iI a)] S (some (.int (iI xs.length))) S := by
  refine ct_of [(0, _), (1, _)] hE (by decide) rfl (Nat.le_of_ble_eq_true rfl) rfl (fun X h hq => ?_)
  refine j_of (fun G hG => RC_okS hG) (fun hS0 => ?_)
  refine j_of (fun G hG => RC_lens hG) (fun hLL => ?_)
  have hsa := sh_lt hS0 a
  have hlxs := hLL (sh S a) (by omega)
  rw [hxs, cap_lo (by omega)] at hlxs
  refine j_aload_n h 0 dX3_length_0 rfl rfl ?_
  refine jg_Snow h a_f_X3_10 dX3_length_1 ?_
  refine j_iload_n h 1 dX3_length_4 rfl rfl ?_
  refine j_callV h (c_X0_text hE ha) m_X0_text a_l_X3_39 rfl rfl ⟨Nat.le_of_ble_eq_true rfl, Nat.le_of_ble_eq_true rfl⟩ (ci := 0) rfl (by omega) (rcI (i := 0) (by omega)) rfl rfl (Nat.le_of_ble_eq_true rfl) dX3_length_5 ?_
  refine j_callV h (c_X2_size hE (by omega) hxs) m_X2_size a_l_X3_43 rfl rfl ⟨Nat.le_of_ble_eq_true rfl, Nat.le_of_ble_eq_true rfl⟩ (ci := 2) rfl (by omega) (rcT (by omega)) rfl rfl (Nat.le_of_ble_eq_true rfl) dX3_length_8 ?_
  exact j_iret h hq rfl dX3_length_11
set_option maxHeartbeats 400000 in
set_option maxRecDepth 20000 in
theorem c_X3_isEmpty {E : EV} (hE : EOK E) {S : SC} {g0 : GH} {a : Int} (ha : okI a) {xs : List Int32} (hxs : S.1 (sh S a) = xs)  : Ct E (RC E g0) yX3_isEmpty wsX3_isEmpty rX3_isEmpty [eA E 74, .int (iI a)] S (some (.int (iI (bI (decide (xs.length = 0)))))) S := by
  refine ct_of [(0, _), (1, _)] hE (by decide) rfl (Nat.le_of_ble_eq_true rfl) rfl (fun X h hq => ?_)
  refine j_of (fun G hG => RC_okS hG) (fun hS0 => ?_)
  refine j_of (fun G hG => RC_lens hG) (fun hLL => ?_)
  have hsa := sh_lt hS0 a
  have hlxs := hLL (sh S a) (by omega)
  rw [hxs, cap_lo (by omega)] at hlxs
  refine j_aload_n h 0 dX3_isEmpty_0 rfl rfl ?_
  refine jg_Snow h a_f_X3_10 dX3_isEmpty_1 ?_
  refine j_iload_n h 1 dX3_isEmpty_4 rfl rfl ?_
  refine j_callV h (c_X0_text hE ha) m_X0_text a_l_X3_39 rfl rfl ⟨Nat.le_of_ble_eq_true rfl, Nat.le_of_ble_eq_true rfl⟩ (ci := 0) rfl (by omega) (rcI (i := 0) (by omega)) rfl rfl (Nat.le_of_ble_eq_true rfl) dX3_isEmpty_5 ?_
  refine j_callV h (c_X2_size hE (by omega) hxs) m_X2_size a_l_X3_43 rfl rfl ⟨Nat.le_of_ble_eq_true rfl, Nat.le_of_ble_eq_true rfl⟩ (ci := 2) rfl (by omega) (rcT (by omega)) rfl rfl (Nat.le_of_ble_eq_true rfl) dX3_isEmpty_8 ?_
  refine j_if_ne h 18 dX3_isEmpty_11 (by decide) (by first | exact okI_of _ | exact okI_b _ | exact okI_sgz _ _ | assumption | (unfold okI; omega)) (fun c11 => ?_) (fun c11 => ?_)
  · refine j_iconst h dX3_isEmpty_18 ?_
    exact j_zret h hq (by first | exact bt (decide_eq_true (by omega)) | exact bf (decide_eq_false (by omega))) (by first | exact nzb true | exact nzb false | exact nzb _) dX3_isEmpty_19
  · refine j_iconst h dX3_isEmpty_14 ?_
    refine j_goto h 19 dX3_isEmpty_15 (by decide) ?_
    exact j_zret h hq (by first | exact bt (decide_eq_true (by omega)) | exact bf (decide_eq_false (by omega))) (by first | exact nzb true | exact nzb false | exact nzb _) dX3_isEmpty_19
set_option maxHeartbeats 400000 in
set_option maxRecDepth 20000 in
theorem c_X3_isBlank {E : EV} (hE : EOK E) {S : SC} {g0 : GH} {a : Int} (ha : okI a) {xs : List Int32} (hxs : S.1 (sh S a) = xs)  : Ct E (RC E g0) yX3_isBlank wsX3_isBlank rX3_isBlank [eA E 74, .int (iI a)] S (some (.int (iI (bI (decide (eof true xs 0 xs.length = xs.length)))))) S := by
  refine ct_of [(0, _), (1, _)] hE (by decide) rfl (Nat.le_of_ble_eq_true rfl) rfl (fun X h hq => ?_)
  refine j_of (fun G hG => RC_okS hG) (fun hS0 => ?_)
  refine j_of (fun G hG => RC_lens hG) (fun hLL => ?_)
  have hsa := sh_lt hS0 a
  have hlxs := hLL (sh S a) (by omega)
  rw [hxs, cap_lo (by omega)] at hlxs
  refine j_aload_n h 0 dX3_isBlank_0 rfl rfl ?_
  refine jg_Snow h a_f_X3_10 dX3_isBlank_1 ?_
  refine j_iload_n h 1 dX3_isBlank_4 rfl rfl ?_
  refine j_callV h (c_X0_text hE ha) m_X0_text a_l_X3_39 rfl rfl ⟨Nat.le_of_ble_eq_true rfl, Nat.le_of_ble_eq_true rfl⟩ (ci := 0) rfl (by omega) (rcI (i := 0) (by omega)) rfl rfl (Nat.le_of_ble_eq_true rfl) dX3_isBlank_5 ?_
  refine j_astore_n h [(2, _), (0, _), (1, _)] dX3_isBlank_8 rfl (by decide) rfl ?_
  refine j_aload_n h 0 dX3_isBlank_9 rfl rfl ?_
  refine j_iconst h dX3_isBlank_10 ?_
  refine j_callV h (c_X2_endOfFront hE (by omega) hxs true) m_X2_endOfFront a_l_X3_101 rfl rfl ⟨Nat.le_of_ble_eq_true rfl, Nat.le_of_ble_eq_true rfl⟩ (ci := 2) rfl (by omega) (rcT (by omega)) rfl rfl (Nat.le_of_ble_eq_true rfl) dX3_isBlank_11 ?_
  have hef := eof_le true xs xs.length 0
  refine j_aload_n h 0 dX3_isBlank_14 rfl rfl ?_
  refine j_callV h (c_X2_size hE (by omega) hxs) m_X2_size a_l_X3_43 rfl rfl ⟨Nat.le_of_ble_eq_true rfl, Nat.le_of_ble_eq_true rfl⟩ (ci := 2) rfl (by omega) (rcT (by omega)) rfl rfl (Nat.le_of_ble_eq_true rfl) dX3_isBlank_15 ?_
  refine j_icmp_ne h 25 dX3_isBlank_18 (by decide) (by first | exact okI_of _ | exact okI_b _ | exact okI_sgz _ _ | assumption | (unfold okI; omega)) (by first | exact okI_of _ | exact okI_b _ | exact okI_sgz _ _ | assumption | (unfold okI; omega)) (fun c18 => ?_) (fun c18 => ?_)
  · refine j_iconst h dX3_isBlank_25 ?_
    exact j_zret h hq (by first | exact bt (decide_eq_true (by omega)) | exact bf (decide_eq_false (by omega))) (by first | exact nzb true | exact nzb false | exact nzb _) dX3_isBlank_26
  · refine j_iconst h dX3_isBlank_21 ?_
    refine j_goto h 26 dX3_isBlank_22 (by decide) ?_
    exact j_zret h hq (by first | exact bt (decide_eq_true (by omega)) | exact bf (decide_eq_false (by omega))) (by first | exact nzb true | exact nzb false | exact nzb _) dX3_isBlank_26
set_option maxHeartbeats 400000 in
set_option maxRecDepth 20000 in
theorem c_X3_charAt {E : EV} (hE : EOK E) {S : SC} {g0 : GH} {a : Int} (ha : okI a) {xs : List Int32} (hxs : S.1 (sh S a) = xs) {p : Int} (hp : okI p) : Ct E (RC E g0) yX3_charAt wsX3_charAt rX3_charAt [eA E 74, .int (iI a), .int (iI p)] S (some (.int (chA xs p))) S := by
  refine ct_of [(0, _), (1, _), (2, _)] hE (by decide) rfl (Nat.le_of_ble_eq_true rfl) rfl (fun X h hq => ?_)
  refine j_of (fun G hG => RC_okS hG) (fun hS0 => ?_)
  refine j_of (fun G hG => RC_lens hG) (fun hLL => ?_)
  have hsa := sh_lt hS0 a
  have hlxs := hLL (sh S a) (by omega)
  rw [hxs, cap_lo (by omega)] at hlxs
  refine j_aload_n h 0 dX3_charAt_0 rfl rfl ?_
  refine jg_Snow h a_f_X3_10 dX3_charAt_1 ?_
  refine j_iload_n h 1 dX3_charAt_4 rfl rfl ?_
  refine j_callV h (c_X0_text hE ha) m_X0_text a_l_X3_39 rfl rfl ⟨Nat.le_of_ble_eq_true rfl, Nat.le_of_ble_eq_true rfl⟩ (ci := 0) rfl (by omega) (rcI (i := 0) (by omega)) rfl rfl (Nat.le_of_ble_eq_true rfl) dX3_charAt_5 ?_
  refine j_astore_n h [(3, _), (0, _), (1, _), (2, _)] dX3_charAt_8 rfl (by decide) rfl ?_
  refine j_iload_n h 3 dX3_charAt_9 rfl rfl ?_
  refine j_if_lt h 21 dX3_charAt_10 (by decide) (by first | exact okI_of _ | exact okI_b _ | exact okI_sgz _ _ | assumption | (unfold okI; omega)) (fun c10 => ?_) (fun c10 => ?_)
  · refine j_ldc h (-1000002) a_k_X3_82 (by decide) dX3_charAt_21 ?_
    exact j_iret h hq (by unfold chA; rw [if_neg (by omega)]) dX3_charAt_23
  · refine j_iload_n h 3 dX3_charAt_13 rfl rfl ?_
    refine j_aload_n h 0 dX3_charAt_14 rfl rfl ?_
    refine j_callV h (c_X2_size hE (by omega) hxs) m_X2_size a_l_X3_43 rfl rfl ⟨Nat.le_of_ble_eq_true rfl, Nat.le_of_ble_eq_true rfl⟩ (ci := 2) rfl (by omega) (rcT (by omega)) rfl rfl (Nat.le_of_ble_eq_true rfl) dX3_charAt_15 ?_
    refine j_icmp_lt h 24 dX3_charAt_18 (by decide) (by first | exact okI_of _ | exact okI_b _ | exact okI_sgz _ _ | assumption | (unfold okI; omega)) (by first | exact okI_of _ | exact okI_b _ | exact okI_sgz _ _ | assumption | (unfold okI; omega)) (fun c18 => ?_) (fun c18 => ?_)
    · refine j_aload_n h 0 dX3_charAt_24 rfl rfl ?_
      refine j_iload_n h 3 dX3_charAt_25 rfl rfl ?_
      refine j_callV h (c_X2_at hE (by omega) hxs (by omega) (by omega)) m_X2_at a_l_X3_105 rfl rfl ⟨Nat.le_of_ble_eq_true rfl, Nat.le_of_ble_eq_true rfl⟩ (ci := 2) rfl (by omega) (rcT (by omega)) rfl rfl (Nat.le_of_ble_eq_true rfl) dX3_charAt_26 ?_
      exact j_iret h hq (by unfold chA; rw [if_pos (by omega)]) dX3_charAt_29
    · refine j_ldc h (-1000002) a_k_X3_82 (by decide) dX3_charAt_21 ?_
      exact j_iret h hq (by unfold chA; rw [if_neg (by omega)]) dX3_charAt_23
set_option maxHeartbeats 400000 in
set_option maxRecDepth 20000 in
theorem c_X3_hash {E : EV} (hE : EOK E) {S : SC} {g0 : GH} {a : Int} (ha : okI a) {xs : List Int32} (hxs : S.1 (sh S a) = xs)  : Ct E (RC E g0) yX3_hash wsX3_hash rX3_hash [eA E 74, .int (iI a)] S (some (.int (iI (fld xs 0 0 xs.length)))) S := by
  refine ct_of [(0, _), (1, _)] hE (by decide) rfl (Nat.le_of_ble_eq_true rfl) rfl (fun X h hq => ?_)
  refine j_of (fun G hG => RC_okS hG) (fun hS0 => ?_)
  refine j_of (fun G hG => RC_lens hG) (fun hLL => ?_)
  have hsa := sh_lt hS0 a
  have hlxs := hLL (sh S a) (by omega)
  rw [hxs, cap_lo (by omega)] at hlxs
  refine j_aload_n h 0 dX3_hash_0 rfl rfl ?_
  refine jg_Snow h a_f_X3_10 dX3_hash_1 ?_
  refine j_iload_n h 1 dX3_hash_4 rfl rfl ?_
  refine j_callV h (c_X0_text hE ha) m_X0_text a_l_X3_39 rfl rfl ⟨Nat.le_of_ble_eq_true rfl, Nat.le_of_ble_eq_true rfl⟩ (ci := 0) rfl (by omega) (rcI (i := 0) (by omega)) rfl rfl (Nat.le_of_ble_eq_true rfl) dX3_hash_5 ?_
  refine j_astore_n h [(2, _), (0, _), (1, _)] dX3_hash_8 rfl (by decide) rfl ?_
  refine j_iconst h dX3_hash_9 ?_
  refine j_istore_n h [(3, _), (2, _), (0, _), (1, _)] dX3_hash_10 rfl (by decide) rfl ?_
  refine j_iconst h dX3_hash_11 ?_
  refine j_istore h [(4, _), (3, _), (2, _), (0, _), (1, _)] dX3_hash_12 (by decide) rfl ?_
  refine j_sub [0, 1, 2] rfl ?_
  refine lpA2 (fun (z k : Int) => (xs.length - z).toNat) (fun (z k : Int) => 0 ≤ z → z ≤ xs.length → fld xs k z.toNat (xs.length - z.toNat) = fld xs 0 0 xs.length → JL E (RC E g0) X 14 [(4, .int (iI z)), (3, .int (iI k)), (2, eA E (sh S a))] [] S) (fun z k ih h0 hb hv => ?_) 0 0 (Int.le_refl 0) (by omega) rfl
  refine j_iload h 0 dX3_hash_14 rfl ?_
  refine j_aload_n h 2 dX3_hash_16 rfl rfl ?_
  refine j_callV h (c_X2_size hE (by omega) hxs) m_X2_size a_l_X3_43 rfl rfl ⟨Nat.le_of_ble_eq_true rfl, Nat.le_of_ble_eq_true rfl⟩ (ci := 2) rfl (by omega) (rcT (by omega)) rfl rfl (Nat.le_of_ble_eq_true rfl) dX3_hash_17 ?_
  refine j_icmp_ge h 41 dX3_hash_20 (by decide) (by first | exact okI_of _ | exact okI_b _ | exact okI_sgz _ _ | assumption | (unfold okI; omega)) (by first | exact okI_of _ | exact okI_b _ | exact okI_sgz _ _ | assumption | (unfold okI; omega)) (fun c20 => ?_) (fun c20 => ?_)
  · refine j_iload_n h 1 dX3_hash_41 rfl rfl ?_
    exact j_iret h hq (by rw [← hv, show xs.length - z.toNat = 0 by omega, fld]) dX3_hash_42
  · refine j_bipush h dX3_hash_23 (by decide) ?_
    refine j_iload_n h 1 dX3_hash_25 rfl rfl ?_
    refine j_imul h dX3_hash_26 ?_
    refine j_aload_n h 2 dX3_hash_27 rfl rfl ?_
    refine j_iload h 0 dX3_hash_28 rfl ?_
    refine j_callV h (c_X2_at hE (by omega) hxs (by omega) (by omega)) m_X2_at a_l_X3_105 rfl rfl ⟨Nat.le_of_ble_eq_true rfl, Nat.le_of_ble_eq_true rfl⟩ (ci := 2) rfl (by omega) (rcT (by omega)) rfl rfl (Nat.le_of_ble_eq_true rfl) dX3_hash_30 ?_
    refine j_top (iI_of _).symm ?_
    refine j_iadd h dX3_hash_33 ?_
    refine j_istore_n h [(3, _), (4, _), (2, _)] dX3_hash_34 rfl (by decide) rfl ?_
    refine j_iinc h 1 [(4, _), (3, _), (2, _)] dX3_hash_35 rfl (by decide) rfl ?_
    refine j_goto h 14 dX3_hash_38 (by decide) ?_
    exact ih (z + 1) _ (by omega) (by omega) (by omega) (by rw [show xs.length - z.toNat = xs.length - (z + 1).toNat + 1 by omega, fld, show z.toNat + 1 = (z + 1).toNat by omega] at hv; exact hv)
set_option maxHeartbeats 400000 in
set_option maxRecDepth 20000 in
theorem c_X3_firstFrom {E : EV} (hE : EOK E) {S : SC} {g0 : GH} {a : Int} (ha : okI a) {xs : List Int32} (hxs : S.1 (sh S a) = xs) {c : Int32} {f : Int} (hf : okI f) : Ct E (RC E g0) yX3_firstFrom wsX3_firstFrom rX3_firstFrom [eA E 74, .int (iI a), .int c, .int (iI f)] S (some (.int (iI (sgF xs c f)))) S := by
  refine ct_of [(0, _), (1, _), (2, _), (3, _)] hE (by decide) rfl (Nat.le_of_ble_eq_true rfl) rfl (fun X h hq => ?_)
  refine j_of (fun G hG => RC_okS hG) (fun hS0 => ?_)
  refine j_of (fun G hG => RC_lens hG) (fun hLL => ?_)
  have hsa := sh_lt hS0 a
  have hlxs := hLL (sh S a) (by omega)
  rw [hxs, cap_lo (by omega)] at hlxs
  refine j_aload_n h 0 dX3_firstFrom_0 rfl rfl ?_
  refine jg_Snow h a_f_X3_10 dX3_firstFrom_1 ?_
  refine j_iload_n h 1 dX3_firstFrom_4 rfl rfl ?_
  refine j_callV h (c_X0_text hE ha) m_X0_text a_l_X3_39 rfl rfl ⟨Nat.le_of_ble_eq_true rfl, Nat.le_of_ble_eq_true rfl⟩ (ci := 0) rfl (by omega) (rcI (i := 0) (by omega)) rfl rfl (Nat.le_of_ble_eq_true rfl) dX3_firstFrom_5 ?_
  refine j_iload_n h 2 dX3_firstFrom_8 rfl rfl ?_
  refine j_iload_n h 3 dX3_firstFrom_9 rfl rfl ?_
  refine j_callV h (c_X2_signFrom hE (by omega) hxs hf) m_X2_signFrom a_l_X3_112 rfl rfl ⟨Nat.le_of_ble_eq_true rfl, Nat.le_of_ble_eq_true rfl⟩ (ci := 2) rfl (by omega) (rcT (by omega)) rfl rfl (Nat.le_of_ble_eq_true rfl) dX3_firstFrom_10 ?_
  exact j_iret h hq rfl dX3_firstFrom_13
set_option maxHeartbeats 400000 in
set_option maxRecDepth 20000 in
theorem c_X3_lastFrom {E : EV} (hE : EOK E) {S : SC} {g0 : GH} {a : Int} (ha : okI a) {xs : List Int32} (hxs : S.1 (sh S a) = xs) {c : Int32} {f : Int} (hf : okI f) : Ct E (RC E g0) yX3_lastFrom wsX3_lastFrom rX3_lastFrom [eA E 74, .int (iI a), .int c, .int (iI f)] S (some (.int (iI (sgB xs c f)))) S := by
  refine ct_of [(0, _), (1, _), (2, _), (3, _)] hE (by decide) rfl (Nat.le_of_ble_eq_true rfl) rfl (fun X h hq => ?_)
  refine j_of (fun G hG => RC_okS hG) (fun hS0 => ?_)
  refine j_of (fun G hG => RC_lens hG) (fun hLL => ?_)
  have hsa := sh_lt hS0 a
  have hlxs := hLL (sh S a) (by omega)
  rw [hxs, cap_lo (by omega)] at hlxs
  refine j_aload_n h 0 dX3_lastFrom_0 rfl rfl ?_
  refine jg_Snow h a_f_X3_10 dX3_lastFrom_1 ?_
  refine j_iload_n h 1 dX3_lastFrom_4 rfl rfl ?_
  refine j_callV h (c_X0_text hE ha) m_X0_text a_l_X3_39 rfl rfl ⟨Nat.le_of_ble_eq_true rfl, Nat.le_of_ble_eq_true rfl⟩ (ci := 0) rfl (by omega) (rcI (i := 0) (by omega)) rfl rfl (Nat.le_of_ble_eq_true rfl) dX3_lastFrom_5 ?_
  refine j_iload_n h 2 dX3_lastFrom_8 rfl rfl ?_
  refine j_iload_n h 3 dX3_lastFrom_9 rfl rfl ?_
  refine j_callV h (c_X2_signBack hE (by omega) hxs hf) m_X2_signBack a_l_X3_119 rfl rfl ⟨Nat.le_of_ble_eq_true rfl, Nat.le_of_ble_eq_true rfl⟩ (ci := 2) rfl (by omega) (rcT (by omega)) rfl rfl (Nat.le_of_ble_eq_true rfl) dX3_lastFrom_10 ?_
  exact j_iret h hq rfl dX3_lastFrom_13
set_option maxHeartbeats 400000 in
set_option maxRecDepth 20000 in
theorem c_X3_first {E : EV} (hE : EOK E) {S : SC} {g0 : GH} {a : Int} (ha : okI a) {xs : List Int32} (hxs : S.1 (sh S a) = xs) {c : Int32} : Ct E (RC E g0) yX3_first wsX3_first rX3_first [eA E 74, .int (iI a), .int c] S (some (.int (iI (sgF xs c 0)))) S := by
  refine ct_of [(0, _), (1, _), (2, _)] hE (by decide) rfl (Nat.le_of_ble_eq_true rfl) rfl (fun X h hq => ?_)
  refine j_of (fun G hG => RC_okS hG) (fun hS0 => ?_)
  refine j_of (fun G hG => RC_lens hG) (fun hLL => ?_)
  have hsa := sh_lt hS0 a
  have hlxs := hLL (sh S a) (by omega)
  rw [hxs, cap_lo (by omega)] at hlxs
  refine j_aload_n h 0 dX3_first_0 rfl rfl ?_
  refine j_iload_n h 1 dX3_first_1 rfl rfl ?_
  refine j_iload_n h 2 dX3_first_2 rfl rfl ?_
  refine j_iconst h dX3_first_3 ?_
  refine j_callV h (c_X3_firstFrom hE ha hxs ⟨by decide, by decide⟩) m_X3_firstFrom a_l_X3_108 rfl rfl ⟨Nat.le_of_ble_eq_true rfl, Nat.le_of_ble_eq_true rfl⟩ (ci := 3) rfl (by omega) (rcS) rfl rfl (Nat.le_of_ble_eq_true rfl) dX3_first_4 ?_
  exact j_iret h hq rfl dX3_first_7
set_option maxHeartbeats 400000 in
set_option maxRecDepth 20000 in
theorem c_X3_last {E : EV} (hE : EOK E) {S : SC} {g0 : GH} {a : Int} (ha : okI a) {xs : List Int32} (hxs : S.1 (sh S a) = xs) {c : Int32} : Ct E (RC E g0) yX3_last wsX3_last rX3_last [eA E 74, .int (iI a), .int c] S (some (.int (iI (sgB xs c 300)))) S := by
  refine ct_of [(0, _), (1, _), (2, _)] hE (by decide) rfl (Nat.le_of_ble_eq_true rfl) rfl (fun X h hq => ?_)
  refine j_of (fun G hG => RC_okS hG) (fun hS0 => ?_)
  refine j_of (fun G hG => RC_lens hG) (fun hLL => ?_)
  have hsa := sh_lt hS0 a
  have hlxs := hLL (sh S a) (by omega)
  rw [hxs, cap_lo (by omega)] at hlxs
  refine j_aload_n h 0 dX3_last_0 rfl rfl ?_
  refine j_iload_n h 1 dX3_last_1 rfl rfl ?_
  refine j_iload_n h 2 dX3_last_2 rfl rfl ?_
  refine j_sipush h dX3_last_3 (by decide) ?_
  refine j_callV h (c_X3_lastFrom hE ha hxs ⟨by decide, by decide⟩) m_X3_lastFrom a_l_X3_116 rfl rfl ⟨Nat.le_of_ble_eq_true rfl, Nat.le_of_ble_eq_true rfl⟩ (ci := 3) rfl (by omega) (rcS) rfl rfl (Nat.le_of_ble_eq_true rfl) dX3_last_6 ?_
  exact j_iret h hq rfl dX3_last_9
set_option maxHeartbeats 400000 in
set_option maxRecDepth 20000 in
theorem c_X3_findFrom {E : EV} (hE : EOK E) {S : SC} {g0 : GH} {a : Int} (ha : okI a) {xs : List Int32} (hxs : S.1 (sh S a) = xs) {b : Int} (hb : okI b) {ys : List Int32} (hys : S.1 (sh S b) = ys) {f : Int} (hf : okI f) : Ct E (RC E g0) yX3_findFrom wsX3_findFrom rX3_findFrom [eA E 74, .int (iI a), .int (iI b), .int (iI f)] S (some (.int (iI (plF xs ys f)))) S := by
  refine ct_of [(0, _), (1, _), (2, _), (3, _)] hE (by decide) rfl (Nat.le_of_ble_eq_true rfl) rfl (fun X h hq => ?_)
  refine j_of (fun G hG => RC_okS hG) (fun hS0 => ?_)
  refine j_of (fun G hG => RC_lens hG) (fun hLL => ?_)
  have hsa := sh_lt hS0 a
  have hlxs := hLL (sh S a) (by omega)
  rw [hxs, cap_lo (by omega)] at hlxs
  have hsb := sh_lt hS0 b
  have hlys := hLL (sh S b) (by omega)
  rw [hys, cap_lo (by omega)] at hlys
  refine j_aload_n h 0 dX3_findFrom_0 rfl rfl ?_
  refine jg_Snow h a_f_X3_10 dX3_findFrom_1 ?_
  refine j_iload_n h 1 dX3_findFrom_4 rfl rfl ?_
  refine j_callV h (c_X0_text hE ha) m_X0_text a_l_X3_39 rfl rfl ⟨Nat.le_of_ble_eq_true rfl, Nat.le_of_ble_eq_true rfl⟩ (ci := 0) rfl (by omega) (rcI (i := 0) (by omega)) rfl rfl (Nat.le_of_ble_eq_true rfl) dX3_findFrom_5 ?_
  refine j_aload_n h 0 dX3_findFrom_8 rfl rfl ?_
  refine jg_Snow h a_f_X3_10 dX3_findFrom_9 ?_
  refine j_iload_n h 2 dX3_findFrom_12 rfl rfl ?_
  refine j_callV h (c_X0_text hE hb) m_X0_text a_l_X3_39 rfl rfl ⟨Nat.le_of_ble_eq_true rfl, Nat.le_of_ble_eq_true rfl⟩ (ci := 0) rfl (by omega) (rcI (i := 0) (by omega)) rfl rfl (Nat.le_of_ble_eq_true rfl) dX3_findFrom_13 ?_
  refine j_iload_n h 3 dX3_findFrom_16 rfl rfl ?_
  refine j_callV h (c_X2_placeFrom hE (by omega) hxs (by omega) hys hf) m_X2_placeFrom a_l_X3_125 rfl rfl ⟨Nat.le_of_ble_eq_true rfl, Nat.le_of_ble_eq_true rfl⟩ (ci := 2) rfl (by omega) (rcT (by omega)) rfl rfl (Nat.le_of_ble_eq_true rfl) dX3_findFrom_17 ?_
  exact j_iret h hq rfl dX3_findFrom_20
set_option maxHeartbeats 400000 in
set_option maxRecDepth 20000 in
theorem c_X3_findLastFrom {E : EV} (hE : EOK E) {S : SC} {g0 : GH} {a : Int} (ha : okI a) {xs : List Int32} (hxs : S.1 (sh S a) = xs) {b : Int} (hb : okI b) {ys : List Int32} (hys : S.1 (sh S b) = ys) {f : Int} (hf : okI f) : Ct E (RC E g0) yX3_findLastFrom wsX3_findLastFrom rX3_findLastFrom [eA E 74, .int (iI a), .int (iI b), .int (iI f)] S (some (.int (iI (plB xs ys f)))) S := by
  refine ct_of [(0, _), (1, _), (2, _), (3, _)] hE (by decide) rfl (Nat.le_of_ble_eq_true rfl) rfl (fun X h hq => ?_)
  refine j_of (fun G hG => RC_okS hG) (fun hS0 => ?_)
  refine j_of (fun G hG => RC_lens hG) (fun hLL => ?_)
  have hsa := sh_lt hS0 a
  have hlxs := hLL (sh S a) (by omega)
  rw [hxs, cap_lo (by omega)] at hlxs
  have hsb := sh_lt hS0 b
  have hlys := hLL (sh S b) (by omega)
  rw [hys, cap_lo (by omega)] at hlys
  refine j_aload_n h 0 dX3_findLastFrom_0 rfl rfl ?_
  refine jg_Snow h a_f_X3_10 dX3_findLastFrom_1 ?_
  refine j_iload_n h 1 dX3_findLastFrom_4 rfl rfl ?_
  refine j_callV h (c_X0_text hE ha) m_X0_text a_l_X3_39 rfl rfl ⟨Nat.le_of_ble_eq_true rfl, Nat.le_of_ble_eq_true rfl⟩ (ci := 0) rfl (by omega) (rcI (i := 0) (by omega)) rfl rfl (Nat.le_of_ble_eq_true rfl) dX3_findLastFrom_5 ?_
  refine j_aload_n h 0 dX3_findLastFrom_8 rfl rfl ?_
  refine jg_Snow h a_f_X3_10 dX3_findLastFrom_9 ?_
  refine j_iload_n h 2 dX3_findLastFrom_12 rfl rfl ?_
  refine j_callV h (c_X0_text hE hb) m_X0_text a_l_X3_39 rfl rfl ⟨Nat.le_of_ble_eq_true rfl, Nat.le_of_ble_eq_true rfl⟩ (ci := 0) rfl (by omega) (rcI (i := 0) (by omega)) rfl rfl (Nat.le_of_ble_eq_true rfl) dX3_findLastFrom_13 ?_
  refine j_iload_n h 3 dX3_findLastFrom_16 rfl rfl ?_
  refine j_callV h (c_X2_placeBack hE (by omega) hxs (by omega) hys hf) m_X2_placeBack a_l_X3_132 rfl rfl ⟨Nat.le_of_ble_eq_true rfl, Nat.le_of_ble_eq_true rfl⟩ (ci := 2) rfl (by omega) (rcT (by omega)) rfl rfl (Nat.le_of_ble_eq_true rfl) dX3_findLastFrom_17 ?_
  exact j_iret h hq rfl dX3_findLastFrom_20
set_option maxHeartbeats 400000 in
set_option maxRecDepth 20000 in
theorem c_X3_find {E : EV} (hE : EOK E) {S : SC} {g0 : GH} {a : Int} (ha : okI a) {xs : List Int32} (hxs : S.1 (sh S a) = xs) {b : Int} (hb : okI b) {ys : List Int32} (hys : S.1 (sh S b) = ys)  : Ct E (RC E g0) yX3_find wsX3_find rX3_find [eA E 74, .int (iI a), .int (iI b)] S (some (.int (iI (plF xs ys 0)))) S := by
  refine ct_of [(0, _), (1, _), (2, _)] hE (by decide) rfl (Nat.le_of_ble_eq_true rfl) rfl (fun X h hq => ?_)
  refine j_of (fun G hG => RC_okS hG) (fun hS0 => ?_)
  refine j_of (fun G hG => RC_lens hG) (fun hLL => ?_)
  have hsa := sh_lt hS0 a
  have hlxs := hLL (sh S a) (by omega)
  rw [hxs, cap_lo (by omega)] at hlxs
  have hsb := sh_lt hS0 b
  have hlys := hLL (sh S b) (by omega)
  rw [hys, cap_lo (by omega)] at hlys
  refine j_aload_n h 0 dX3_find_0 rfl rfl ?_
  refine j_iload_n h 1 dX3_find_1 rfl rfl ?_
  refine j_iload_n h 2 dX3_find_2 rfl rfl ?_
  refine j_iconst h dX3_find_3 ?_
  refine j_callV h (c_X3_findFrom hE ha hxs hb hys ⟨by decide, by decide⟩) m_X3_findFrom a_l_X3_122 rfl rfl ⟨Nat.le_of_ble_eq_true rfl, Nat.le_of_ble_eq_true rfl⟩ (ci := 3) rfl (by omega) (rcS) rfl rfl (Nat.le_of_ble_eq_true rfl) dX3_find_4 ?_
  exact j_iret h hq rfl dX3_find_7
set_option maxHeartbeats 400000 in
set_option maxRecDepth 20000 in
theorem c_X3_findLast {E : EV} (hE : EOK E) {S : SC} {g0 : GH} {a : Int} (ha : okI a) {xs : List Int32} (hxs : S.1 (sh S a) = xs) {b : Int} (hb : okI b) {ys : List Int32} (hys : S.1 (sh S b) = ys)  : Ct E (RC E g0) yX3_findLast wsX3_findLast rX3_findLast [eA E 74, .int (iI a), .int (iI b)] S (some (.int (iI (plB xs ys 300)))) S := by
  refine ct_of [(0, _), (1, _), (2, _)] hE (by decide) rfl (Nat.le_of_ble_eq_true rfl) rfl (fun X h hq => ?_)
  refine j_of (fun G hG => RC_okS hG) (fun hS0 => ?_)
  refine j_of (fun G hG => RC_lens hG) (fun hLL => ?_)
  have hsa := sh_lt hS0 a
  have hlxs := hLL (sh S a) (by omega)
  rw [hxs, cap_lo (by omega)] at hlxs
  have hsb := sh_lt hS0 b
  have hlys := hLL (sh S b) (by omega)
  rw [hys, cap_lo (by omega)] at hlys
  refine j_aload_n h 0 dX3_findLast_0 rfl rfl ?_
  refine j_iload_n h 1 dX3_findLast_1 rfl rfl ?_
  refine j_iload_n h 2 dX3_findLast_2 rfl rfl ?_
  refine j_sipush h dX3_findLast_3 (by decide) ?_
  refine j_callV h (c_X3_findLastFrom hE ha hxs hb hys ⟨by decide, by decide⟩) m_X3_findLastFrom a_l_X3_129 rfl rfl ⟨Nat.le_of_ble_eq_true rfl, Nat.le_of_ble_eq_true rfl⟩ (ci := 3) rfl (by omega) (rcS) rfl rfl (Nat.le_of_ble_eq_true rfl) dX3_findLast_6 ?_
  exact j_iret h hq rfl dX3_findLast_9
set_option maxHeartbeats 400000 in
set_option maxRecDepth 20000 in
theorem c_X3_contains {E : EV} (hE : EOK E) {S : SC} {g0 : GH} {a : Int} (ha : okI a) {xs : List Int32} (hxs : S.1 (sh S a) = xs) {b : Int} (hb : okI b) {ys : List Int32} (hys : S.1 (sh S b) = ys)  : Ct E (RC E g0) yX3_contains wsX3_contains rX3_contains [eA E 74, .int (iI a), .int (iI b)] S (some (.int (iI (bI (!decide (plF xs ys 0 = -1)))))) S := by
  refine ct_of [(0, _), (1, _), (2, _)] hE (by decide) rfl (Nat.le_of_ble_eq_true rfl) rfl (fun X h hq => ?_)
  refine j_of (fun G hG => RC_okS hG) (fun hS0 => ?_)
  refine j_of (fun G hG => RC_lens hG) (fun hLL => ?_)
  have hsa := sh_lt hS0 a
  have hlxs := hLL (sh S a) (by omega)
  rw [hxs, cap_lo (by omega)] at hlxs
  have hsb := sh_lt hS0 b
  have hlys := hLL (sh S b) (by omega)
  rw [hys, cap_lo (by omega)] at hlys
  refine j_aload_n h 0 dX3_contains_0 rfl rfl ?_
  refine j_iload_n h 1 dX3_contains_1 rfl rfl ?_
  refine j_iload_n h 2 dX3_contains_2 rfl rfl ?_
  refine j_callV h (c_X3_find hE ha hxs hb hys) m_X3_find a_l_X3_135 rfl rfl ⟨Nat.le_of_ble_eq_true rfl, Nat.le_of_ble_eq_true rfl⟩ (ci := 3) rfl (by omega) (rcS) rfl rfl (Nat.le_of_ble_eq_true rfl) dX3_contains_3 ?_
  have hpl := plF_range xs ys 0
  refine j_iconst h dX3_contains_6 ?_
  refine j_icmp_eq h 14 dX3_contains_7 (by decide) (by first | exact okI_of _ | exact okI_b _ | exact okI_sgz _ _ | assumption | (unfold okI; omega)) (by first | exact okI_of _ | exact okI_b _ | exact okI_sgz _ _ | assumption | (unfold okI; omega)) (fun c7 => ?_) (fun c7 => ?_)
  · refine j_iconst h dX3_contains_14 ?_
    exact j_zret h hq (by first | exact bt (by rw [decide_eq_false (by omega)]; rfl) | exact bf (by rw [decide_eq_true (by omega)]; rfl)) (by first | exact nzb true | exact nzb false | exact nzb _) dX3_contains_15
  · refine j_iconst h dX3_contains_10 ?_
    refine j_goto h 15 dX3_contains_11 (by decide) ?_
    exact j_zret h hq (by first | exact bt (by rw [decide_eq_false (by omega)]; rfl) | exact bf (by rw [decide_eq_true (by omega)]; rfl)) (by first | exact nzb true | exact nzb false | exact nzb _) dX3_contains_15
set_option maxHeartbeats 400000 in
set_option maxRecDepth 20000 in
theorem c_X3_startsAt {E : EV} (hE : EOK E) {S : SC} {g0 : GH} {a : Int} (ha : okI a) {xs : List Int32} (hxs : S.1 (sh S a) = xs) {b : Int} (hb : okI b) {ys : List Int32} (hys : S.1 (sh S b) = ys) {p : Int} (hp : okI p) : Ct E (RC E g0) yX3_startsAt wsX3_startsAt rX3_startsAt [eA E 74, .int (iI a), .int (iI b), .int (iI p)] S (some (.int (iI (bI (bz xs ys p))))) S := by
  refine ct_of [(0, _), (1, _), (2, _), (3, _)] hE (by decide) rfl (Nat.le_of_ble_eq_true rfl) rfl (fun X h hq => ?_)
  refine j_of (fun G hG => RC_okS hG) (fun hS0 => ?_)
  refine j_of (fun G hG => RC_lens hG) (fun hLL => ?_)
  have hsa := sh_lt hS0 a
  have hlxs := hLL (sh S a) (by omega)
  rw [hxs, cap_lo (by omega)] at hlxs
  have hsb := sh_lt hS0 b
  have hlys := hLL (sh S b) (by omega)
  rw [hys, cap_lo (by omega)] at hlys
  refine j_aload_n h 0 dX3_startsAt_0 rfl rfl ?_
  refine jg_Snow h a_f_X3_10 dX3_startsAt_1 ?_
  refine j_iload_n h 1 dX3_startsAt_4 rfl rfl ?_
  refine j_callV h (c_X0_text hE ha) m_X0_text a_l_X3_39 rfl rfl ⟨Nat.le_of_ble_eq_true rfl, Nat.le_of_ble_eq_true rfl⟩ (ci := 0) rfl (by omega) (rcI (i := 0) (by omega)) rfl rfl (Nat.le_of_ble_eq_true rfl) dX3_startsAt_5 ?_
  refine j_aload_n h 0 dX3_startsAt_8 rfl rfl ?_
  refine jg_Snow h a_f_X3_10 dX3_startsAt_9 ?_
  refine j_iload_n h 2 dX3_startsAt_12 rfl rfl ?_
  refine j_callV h (c_X0_text hE hb) m_X0_text a_l_X3_39 rfl rfl ⟨Nat.le_of_ble_eq_true rfl, Nat.le_of_ble_eq_true rfl⟩ (ci := 0) rfl (by omega) (rcI (i := 0) (by omega)) rfl rfl (Nat.le_of_ble_eq_true rfl) dX3_startsAt_13 ?_
  refine j_iload_n h 3 dX3_startsAt_16 rfl rfl ?_
  refine j_callV h (c_X2_bears hE (by omega) hxs (by omega) hys hp) m_X2_bears a_l_X3_142 rfl rfl ⟨Nat.le_of_ble_eq_true rfl, Nat.le_of_ble_eq_true rfl⟩ (ci := 2) rfl (by omega) (rcT (by omega)) rfl rfl (Nat.le_of_ble_eq_true rfl) dX3_startsAt_17 ?_
  exact j_zret h hq rfl (by first | exact nzb true | exact nzb false | exact nzb _) dX3_startsAt_20
set_option maxHeartbeats 400000 in
set_option maxRecDepth 20000 in
theorem c_X3_starts {E : EV} (hE : EOK E) {S : SC} {g0 : GH} {a : Int} (ha : okI a) {xs : List Int32} (hxs : S.1 (sh S a) = xs) {b : Int} (hb : okI b) {ys : List Int32} (hys : S.1 (sh S b) = ys)  : Ct E (RC E g0) yX3_starts wsX3_starts rX3_starts [eA E 74, .int (iI a), .int (iI b)] S (some (.int (iI (bI (bz xs ys 0))))) S := by
  refine ct_of [(0, _), (1, _), (2, _)] hE (by decide) rfl (Nat.le_of_ble_eq_true rfl) rfl (fun X h hq => ?_)
  refine j_of (fun G hG => RC_okS hG) (fun hS0 => ?_)
  refine j_of (fun G hG => RC_lens hG) (fun hLL => ?_)
  have hsa := sh_lt hS0 a
  have hlxs := hLL (sh S a) (by omega)
  rw [hxs, cap_lo (by omega)] at hlxs
  have hsb := sh_lt hS0 b
  have hlys := hLL (sh S b) (by omega)
  rw [hys, cap_lo (by omega)] at hlys
  refine j_aload_n h 0 dX3_starts_0 rfl rfl ?_
  refine j_iload_n h 1 dX3_starts_1 rfl rfl ?_
  refine j_iload_n h 2 dX3_starts_2 rfl rfl ?_
  refine j_iconst h dX3_starts_3 ?_
  refine j_callV h (c_X3_startsAt hE ha hxs hb hys ⟨by decide, by decide⟩) m_X3_startsAt a_l_X3_138 rfl rfl ⟨Nat.le_of_ble_eq_true rfl, Nat.le_of_ble_eq_true rfl⟩ (ci := 3) rfl (by omega) (rcS) rfl rfl (Nat.le_of_ble_eq_true rfl) dX3_starts_4 ?_
  exact j_zret h hq rfl (by first | exact nzb true | exact nzb false | exact nzb _) dX3_starts_7
set_option maxHeartbeats 400000 in
set_option maxRecDepth 20000 in
theorem c_X3_ends {E : EV} (hE : EOK E) {S : SC} {g0 : GH} {a : Int} (ha : okI a) {xs : List Int32} (hxs : S.1 (sh S a) = xs) {b : Int} (hb : okI b) {ys : List Int32} (hys : S.1 (sh S b) = ys)  : Ct E (RC E g0) yX3_ends wsX3_ends rX3_ends [eA E 74, .int (iI a), .int (iI b)] S (some (.int (iI (bI (bz xs ys ((xs.length : Int) - ys.length)))))) S := by
  refine ct_of [(0, _), (1, _), (2, _)] hE (by decide) rfl (Nat.le_of_ble_eq_true rfl) rfl (fun X h hq => ?_)
  refine j_of (fun G hG => RC_okS hG) (fun hS0 => ?_)
  refine j_of (fun G hG => RC_lens hG) (fun hLL => ?_)
  have hsa := sh_lt hS0 a
  have hlxs := hLL (sh S a) (by omega)
  rw [hxs, cap_lo (by omega)] at hlxs
  have hsb := sh_lt hS0 b
  have hlys := hLL (sh S b) (by omega)
  rw [hys, cap_lo (by omega)] at hlys
  refine j_aload_n h 0 dX3_ends_0 rfl rfl ?_
  refine j_iload_n h 1 dX3_ends_1 rfl rfl ?_
  refine j_iload_n h 2 dX3_ends_2 rfl rfl ?_
  refine j_aload_n h 0 dX3_ends_3 rfl rfl ?_
  refine j_iload_n h 1 dX3_ends_4 rfl rfl ?_
  refine j_callV h (c_X3_length hE ha hxs) m_X3_length a_l_X3_146 rfl rfl ⟨Nat.le_of_ble_eq_true rfl, Nat.le_of_ble_eq_true rfl⟩ (ci := 3) rfl (by omega) (rcS) rfl rfl (Nat.le_of_ble_eq_true rfl) dX3_ends_5 ?_
  refine j_aload_n h 0 dX3_ends_8 rfl rfl ?_
  refine j_iload_n h 2 dX3_ends_9 rfl rfl ?_
  refine j_callV h (c_X3_length hE hb hys) m_X3_length a_l_X3_146 rfl rfl ⟨Nat.le_of_ble_eq_true rfl, Nat.le_of_ble_eq_true rfl⟩ (ci := 3) rfl (by omega) (rcS) rfl rfl (Nat.le_of_ble_eq_true rfl) dX3_ends_10 ?_
  refine j_isub h dX3_ends_13 ?_
  refine j_callV h (c_X3_startsAt hE ha hxs hb hys (by unfold okI; omega)) m_X3_startsAt a_l_X3_138 rfl rfl ⟨Nat.le_of_ble_eq_true rfl, Nat.le_of_ble_eq_true rfl⟩ (ci := 3) rfl (by omega) (rcS) rfl rfl (Nat.le_of_ble_eq_true rfl) dX3_ends_14 ?_
  exact j_zret h hq rfl (by first | exact nzb true | exact nzb false | exact nzb _) dX3_ends_17
set_option maxHeartbeats 400000 in
set_option maxRecDepth 20000 in
theorem c_X3_region {E : EV} (hE : EOK E) {S : SC} {g0 : GH} {a : Int} (ha : okI a) {xs : List Int32} (hxs : S.1 (sh S a) = xs) {b : Int} (hb : okI b) {ys : List Int32} (hys : S.1 (sh S b) = ys) {p q n : Int} (hp : okI p) (hq0 : okI q) (hn : okI n) : Ct E (RC E g0) yX3_region wsX3_region rX3_region [eA E 74, .int (iI a), .int (iI p), .int (iI b), .int (iI q), .int (iI n)] S (some (.int (iI (bI (agr true xs ys p q n))))) S := by
  refine ct_of [(0, _), (1, _), (2, _), (3, _), (4, _), (5, _)] hE (by decide) rfl (Nat.le_of_ble_eq_true rfl) rfl (fun X h hq => ?_)
  refine j_of (fun G hG => RC_okS hG) (fun hS0 => ?_)
  refine j_of (fun G hG => RC_lens hG) (fun hLL => ?_)
  have hsa := sh_lt hS0 a
  have hlxs := hLL (sh S a) (by omega)
  rw [hxs, cap_lo (by omega)] at hlxs
  have hsb := sh_lt hS0 b
  have hlys := hLL (sh S b) (by omega)
  rw [hys, cap_lo (by omega)] at hlys
  refine j_aload_n h 0 dX3_region_0 rfl rfl ?_
  refine jg_Snow h a_f_X3_10 dX3_region_1 ?_
  refine j_iload_n h 1 dX3_region_4 rfl rfl ?_
  refine j_callV h (c_X0_text hE ha) m_X0_text a_l_X3_39 rfl rfl ⟨Nat.le_of_ble_eq_true rfl, Nat.le_of_ble_eq_true rfl⟩ (ci := 0) rfl (by omega) (rcI (i := 0) (by omega)) rfl rfl (Nat.le_of_ble_eq_true rfl) dX3_region_5 ?_
  refine j_iload_n h 2 dX3_region_8 rfl rfl ?_
  refine j_aload_n h 0 dX3_region_9 rfl rfl ?_
  refine jg_Snow h a_f_X3_10 dX3_region_10 ?_
  refine j_iload_n h 3 dX3_region_13 rfl rfl ?_
  refine j_callV h (c_X0_text hE hb) m_X0_text a_l_X3_39 rfl rfl ⟨Nat.le_of_ble_eq_true rfl, Nat.le_of_ble_eq_true rfl⟩ (ci := 0) rfl (by omega) (rcI (i := 0) (by omega)) rfl rfl (Nat.le_of_ble_eq_true rfl) dX3_region_14 ?_
  refine j_iload h 4 dX3_region_17 rfl ?_
  refine j_iload h 5 dX3_region_19 rfl ?_
  refine j_iconst h dX3_region_21 ?_
  refine j_callV h (c_X2_agrees hE (by omega) hxs (by omega) hys hp hq0 hn true) m_X2_agrees a_l_X3_149 rfl rfl ⟨Nat.le_of_ble_eq_true rfl, Nat.le_of_ble_eq_true rfl⟩ (ci := 2) rfl (by omega) (rcT (by omega)) rfl rfl (Nat.le_of_ble_eq_true rfl) dX3_region_22 ?_
  exact j_zret h hq rfl (by first | exact nzb true | exact nzb false | exact nzb _) dX3_region_25
set_option maxHeartbeats 400000 in
set_option maxRecDepth 20000 in
theorem c_X3_regionAlike {E : EV} (hE : EOK E) {S : SC} {g0 : GH} {a : Int} (ha : okI a) {xs : List Int32} (hxs : S.1 (sh S a) = xs) {b : Int} (hb : okI b) {ys : List Int32} (hys : S.1 (sh S b) = ys) {p q n : Int} (hp : okI p) (hq0 : okI q) (hn : okI n) : Ct E (RC E g0) yX3_regionAlike wsX3_regionAlike rX3_regionAlike [eA E 74, .int (iI a), .int (iI p), .int (iI b), .int (iI q), .int (iI n)] S (some (.int (iI (bI (agr false xs ys p q n))))) S := by
  refine ct_of [(0, _), (1, _), (2, _), (3, _), (4, _), (5, _)] hE (by decide) rfl (Nat.le_of_ble_eq_true rfl) rfl (fun X h hq => ?_)
  refine j_of (fun G hG => RC_okS hG) (fun hS0 => ?_)
  refine j_of (fun G hG => RC_lens hG) (fun hLL => ?_)
  have hsa := sh_lt hS0 a
  have hlxs := hLL (sh S a) (by omega)
  rw [hxs, cap_lo (by omega)] at hlxs
  have hsb := sh_lt hS0 b
  have hlys := hLL (sh S b) (by omega)
  rw [hys, cap_lo (by omega)] at hlys
  refine j_aload_n h 0 dX3_regionAlike_0 rfl rfl ?_
  refine jg_Snow h a_f_X3_10 dX3_regionAlike_1 ?_
  refine j_iload_n h 1 dX3_regionAlike_4 rfl rfl ?_
  refine j_callV h (c_X0_text hE ha) m_X0_text a_l_X3_39 rfl rfl ⟨Nat.le_of_ble_eq_true rfl, Nat.le_of_ble_eq_true rfl⟩ (ci := 0) rfl (by omega) (rcI (i := 0) (by omega)) rfl rfl (Nat.le_of_ble_eq_true rfl) dX3_regionAlike_5 ?_
  refine j_iload_n h 2 dX3_regionAlike_8 rfl rfl ?_
  refine j_aload_n h 0 dX3_regionAlike_9 rfl rfl ?_
  refine jg_Snow h a_f_X3_10 dX3_regionAlike_10 ?_
  refine j_iload_n h 3 dX3_regionAlike_13 rfl rfl ?_
  refine j_callV h (c_X0_text hE hb) m_X0_text a_l_X3_39 rfl rfl ⟨Nat.le_of_ble_eq_true rfl, Nat.le_of_ble_eq_true rfl⟩ (ci := 0) rfl (by omega) (rcI (i := 0) (by omega)) rfl rfl (Nat.le_of_ble_eq_true rfl) dX3_regionAlike_14 ?_
  refine j_iload h 4 dX3_regionAlike_17 rfl ?_
  refine j_iload h 5 dX3_regionAlike_19 rfl ?_
  refine j_iconst h dX3_regionAlike_21 ?_
  refine j_callV h (c_X2_agrees hE (by omega) hxs (by omega) hys hp hq0 hn false) m_X2_agrees a_l_X3_149 rfl rfl ⟨Nat.le_of_ble_eq_true rfl, Nat.le_of_ble_eq_true rfl⟩ (ci := 2) rfl (by omega) (rcT (by omega)) rfl rfl (Nat.le_of_ble_eq_true rfl) dX3_regionAlike_22 ?_
  exact j_zret h hq rfl (by first | exact nzb true | exact nzb false | exact nzb _) dX3_regionAlike_25
set_option maxHeartbeats 400000 in
set_option maxRecDepth 20000 in
theorem c_X3_same {E : EV} (hE : EOK E) {S : SC} {g0 : GH} {a : Int} (ha : okI a) {xs : List Int32} (hxs : S.1 (sh S a) = xs) {b : Int} (hb : okI b) {ys : List Int32} (hys : S.1 (sh S b) = ys)  : Ct E (RC E g0) yX3_same wsX3_same rX3_same [eA E 74, .int (iI a), .int (iI b)] S (some (.int (iI (bI (who true xs ys))))) S := by
  refine ct_of [(0, _), (1, _), (2, _)] hE (by decide) rfl (Nat.le_of_ble_eq_true rfl) rfl (fun X h hq => ?_)
  refine j_of (fun G hG => RC_okS hG) (fun hS0 => ?_)
  refine j_of (fun G hG => RC_lens hG) (fun hLL => ?_)
  have hsa := sh_lt hS0 a
  have hlxs := hLL (sh S a) (by omega)
  rw [hxs, cap_lo (by omega)] at hlxs
  have hsb := sh_lt hS0 b
  have hlys := hLL (sh S b) (by omega)
  rw [hys, cap_lo (by omega)] at hlys
  refine j_aload_n h 0 dX3_same_0 rfl rfl ?_
  refine jg_Snow h a_f_X3_10 dX3_same_1 ?_
  refine j_iload_n h 1 dX3_same_4 rfl rfl ?_
  refine j_callV h (c_X0_text hE ha) m_X0_text a_l_X3_39 rfl rfl ⟨Nat.le_of_ble_eq_true rfl, Nat.le_of_ble_eq_true rfl⟩ (ci := 0) rfl (by omega) (rcI (i := 0) (by omega)) rfl rfl (Nat.le_of_ble_eq_true rfl) dX3_same_5 ?_
  refine j_aload_n h 0 dX3_same_8 rfl rfl ?_
  refine jg_Snow h a_f_X3_10 dX3_same_9 ?_
  refine j_iload_n h 2 dX3_same_12 rfl rfl ?_
  refine j_callV h (c_X0_text hE hb) m_X0_text a_l_X3_39 rfl rfl ⟨Nat.le_of_ble_eq_true rfl, Nat.le_of_ble_eq_true rfl⟩ (ci := 0) rfl (by omega) (rcI (i := 0) (by omega)) rfl rfl (Nat.le_of_ble_eq_true rfl) dX3_same_13 ?_
  refine j_iconst h dX3_same_16 ?_
  refine j_callV h (c_X2_agreesWholly hE (by omega) hxs (by omega) hys true) m_X2_agreesWholly a_l_X3_153 rfl rfl ⟨Nat.le_of_ble_eq_true rfl, Nat.le_of_ble_eq_true rfl⟩ (ci := 2) rfl (by omega) (rcT (by omega)) rfl rfl (Nat.le_of_ble_eq_true rfl) dX3_same_17 ?_
  exact j_zret h hq rfl (by first | exact nzb true | exact nzb false | exact nzb _) dX3_same_20
set_option maxHeartbeats 400000 in
set_option maxRecDepth 20000 in
theorem c_X3_alike {E : EV} (hE : EOK E) {S : SC} {g0 : GH} {a : Int} (ha : okI a) {xs : List Int32} (hxs : S.1 (sh S a) = xs) {b : Int} (hb : okI b) {ys : List Int32} (hys : S.1 (sh S b) = ys)  : Ct E (RC E g0) yX3_alike wsX3_alike rX3_alike [eA E 74, .int (iI a), .int (iI b)] S (some (.int (iI (bI (who false xs ys))))) S := by
  refine ct_of [(0, _), (1, _), (2, _)] hE (by decide) rfl (Nat.le_of_ble_eq_true rfl) rfl (fun X h hq => ?_)
  refine j_of (fun G hG => RC_okS hG) (fun hS0 => ?_)
  refine j_of (fun G hG => RC_lens hG) (fun hLL => ?_)
  have hsa := sh_lt hS0 a
  have hlxs := hLL (sh S a) (by omega)
  rw [hxs, cap_lo (by omega)] at hlxs
  have hsb := sh_lt hS0 b
  have hlys := hLL (sh S b) (by omega)
  rw [hys, cap_lo (by omega)] at hlys
  refine j_aload_n h 0 dX3_alike_0 rfl rfl ?_
  refine jg_Snow h a_f_X3_10 dX3_alike_1 ?_
  refine j_iload_n h 1 dX3_alike_4 rfl rfl ?_
  refine j_callV h (c_X0_text hE ha) m_X0_text a_l_X3_39 rfl rfl ⟨Nat.le_of_ble_eq_true rfl, Nat.le_of_ble_eq_true rfl⟩ (ci := 0) rfl (by omega) (rcI (i := 0) (by omega)) rfl rfl (Nat.le_of_ble_eq_true rfl) dX3_alike_5 ?_
  refine j_aload_n h 0 dX3_alike_8 rfl rfl ?_
  refine jg_Snow h a_f_X3_10 dX3_alike_9 ?_
  refine j_iload_n h 2 dX3_alike_12 rfl rfl ?_
  refine j_callV h (c_X0_text hE hb) m_X0_text a_l_X3_39 rfl rfl ⟨Nat.le_of_ble_eq_true rfl, Nat.le_of_ble_eq_true rfl⟩ (ci := 0) rfl (by omega) (rcI (i := 0) (by omega)) rfl rfl (Nat.le_of_ble_eq_true rfl) dX3_alike_13 ?_
  refine j_iconst h dX3_alike_16 ?_
  refine j_callV h (c_X2_agreesWholly hE (by omega) hxs (by omega) hys false) m_X2_agreesWholly a_l_X3_153 rfl rfl ⟨Nat.le_of_ble_eq_true rfl, Nat.le_of_ble_eq_true rfl⟩ (ci := 2) rfl (by omega) (rcT (by omega)) rfl rfl (Nat.le_of_ble_eq_true rfl) dX3_alike_17 ?_
  exact j_zret h hq rfl (by first | exact nzb true | exact nzb false | exact nzb _) dX3_alike_20
set_option maxHeartbeats 400000 in
set_option maxRecDepth 20000 in
theorem c_X3_compare {E : EV} (hE : EOK E) {S : SC} {g0 : GH} {a : Int} (ha : okI a) {xs : List Int32} (hxs : S.1 (sh S a) = xs) {b : Int} (hb : okI b) {ys : List Int32} (hys : S.1 (sh S b) = ys)  : Ct E (RC E g0) yX3_compare wsX3_compare rX3_compare [eA E 74, .int (iI a), .int (iI b)] S (some (.int (orI true xs ys))) S := by
  refine ct_of [(0, _), (1, _), (2, _)] hE (by decide) rfl (Nat.le_of_ble_eq_true rfl) rfl (fun X h hq => ?_)
  refine j_of (fun G hG => RC_okS hG) (fun hS0 => ?_)
  refine j_of (fun G hG => RC_lens hG) (fun hLL => ?_)
  have hsa := sh_lt hS0 a
  have hlxs := hLL (sh S a) (by omega)
  rw [hxs, cap_lo (by omega)] at hlxs
  have hsb := sh_lt hS0 b
  have hlys := hLL (sh S b) (by omega)
  rw [hys, cap_lo (by omega)] at hlys
  refine j_aload_n h 0 dX3_compare_0 rfl rfl ?_
  refine jg_Snow h a_f_X3_10 dX3_compare_1 ?_
  refine j_iload_n h 1 dX3_compare_4 rfl rfl ?_
  refine j_callV h (c_X0_text hE ha) m_X0_text a_l_X3_39 rfl rfl ⟨Nat.le_of_ble_eq_true rfl, Nat.le_of_ble_eq_true rfl⟩ (ci := 0) rfl (by omega) (rcI (i := 0) (by omega)) rfl rfl (Nat.le_of_ble_eq_true rfl) dX3_compare_5 ?_
  refine j_aload_n h 0 dX3_compare_8 rfl rfl ?_
  refine jg_Snow h a_f_X3_10 dX3_compare_9 ?_
  refine j_iload_n h 2 dX3_compare_12 rfl rfl ?_
  refine j_callV h (c_X0_text hE hb) m_X0_text a_l_X3_39 rfl rfl ⟨Nat.le_of_ble_eq_true rfl, Nat.le_of_ble_eq_true rfl⟩ (ci := 0) rfl (by omega) (rcI (i := 0) (by omega)) rfl rfl (Nat.le_of_ble_eq_true rfl) dX3_compare_13 ?_
  refine j_iconst h dX3_compare_16 ?_
  refine j_callV h (c_X2_order hE (by omega) hxs (by omega) hys true) m_X2_order a_l_X3_157 rfl rfl ⟨Nat.le_of_ble_eq_true rfl, Nat.le_of_ble_eq_true rfl⟩ (ci := 2) rfl (by omega) (rcT (by omega)) rfl rfl (Nat.le_of_ble_eq_true rfl) dX3_compare_17 ?_
  exact j_iret h hq rfl dX3_compare_20
set_option maxHeartbeats 400000 in
set_option maxRecDepth 20000 in
theorem c_X3_compareAlike {E : EV} (hE : EOK E) {S : SC} {g0 : GH} {a : Int} (ha : okI a) {xs : List Int32} (hxs : S.1 (sh S a) = xs) {b : Int} (hb : okI b) {ys : List Int32} (hys : S.1 (sh S b) = ys)  : Ct E (RC E g0) yX3_compareAlike wsX3_compareAlike rX3_compareAlike [eA E 74, .int (iI a), .int (iI b)] S (some (.int (iI (cmpI (orI false xs ys).toInt 0)))) S := by
  refine ct_of [(0, _), (1, _), (2, _)] hE (by decide) rfl (Nat.le_of_ble_eq_true rfl) rfl (fun X h hq => ?_)
  refine j_of (fun G hG => RC_okS hG) (fun hS0 => ?_)
  refine j_of (fun G hG => RC_lens hG) (fun hLL => ?_)
  have hsa := sh_lt hS0 a
  have hlxs := hLL (sh S a) (by omega)
  rw [hxs, cap_lo (by omega)] at hlxs
  have hsb := sh_lt hS0 b
  have hlys := hLL (sh S b) (by omega)
  rw [hys, cap_lo (by omega)] at hlys
  refine j_aload_n h 0 dX3_compareAlike_0 rfl rfl ?_
  refine jg_Snow h a_f_X3_10 dX3_compareAlike_1 ?_
  refine j_iload_n h 1 dX3_compareAlike_4 rfl rfl ?_
  refine j_callV h (c_X0_text hE ha) m_X0_text a_l_X3_39 rfl rfl ⟨Nat.le_of_ble_eq_true rfl, Nat.le_of_ble_eq_true rfl⟩ (ci := 0) rfl (by omega) (rcI (i := 0) (by omega)) rfl rfl (Nat.le_of_ble_eq_true rfl) dX3_compareAlike_5 ?_
  refine j_aload_n h 0 dX3_compareAlike_8 rfl rfl ?_
  refine jg_Snow h a_f_X3_10 dX3_compareAlike_9 ?_
  refine j_iload_n h 2 dX3_compareAlike_12 rfl rfl ?_
  refine j_callV h (c_X0_text hE hb) m_X0_text a_l_X3_39 rfl rfl ⟨Nat.le_of_ble_eq_true rfl, Nat.le_of_ble_eq_true rfl⟩ (ci := 0) rfl (by omega) (rcI (i := 0) (by omega)) rfl rfl (Nat.le_of_ble_eq_true rfl) dX3_compareAlike_13 ?_
  refine j_iconst h dX3_compareAlike_16 ?_
  refine j_callV h (c_X2_order hE (by omega) hxs (by omega) hys false) m_X2_order a_l_X3_157 rfl rfl ⟨Nat.le_of_ble_eq_true rfl, Nat.le_of_ble_eq_true rfl⟩ (ci := 2) rfl (by omega) (rcT (by omega)) rfl rfl (Nat.le_of_ble_eq_true rfl) dX3_compareAlike_17 ?_
  refine j_top (iI_of _).symm ?_
  refine j_iconst h dX3_compareAlike_20 ?_
  refine j_callS h (c_J6_compare_7cf53 hE (okI_of _) ⟨by decide, by decide⟩) m_J6_compare_7cf53 a_l_X3_161 rfl rfl ⟨Nat.le_of_ble_eq_true rfl, Nat.le_of_ble_eq_true rfl⟩ rfl rfl (Nat.le_of_ble_eq_true rfl) dX3_compareAlike_21 ?_
  exact j_iret h hq rfl dX3_compareAlike_24
set_option maxHeartbeats 400000 in
set_option maxRecDepth 20000 in
theorem c_X3_count {E : EV} (hE : EOK E) {S : SC} {g0 : GH} {a : Int} (ha : okI a) {xs : List Int32} (hxs : S.1 (sh S a) = xs) {b : Int} (hb : okI b) {ys : List Int32} (hys : S.1 (sh S b) = ys) : Ct E (RC E g0) yX3_count wsX3_count rX3_count [eA E 74, .int (iI a), .int (iI b)] S (some (.int (iI (cnI xs ys)))) S := by
  refine ct_of [(0, _), (1, _), (2, _)] hE (by decide) rfl (Nat.le_of_ble_eq_true rfl) rfl (fun X h hq => ?_)
  refine j_of (fun G hG => RC_okS hG) (fun hS0 => ?_)
  refine j_of (fun G hG => RC_lens hG) (fun hLL => ?_)
  have hsa := sh_lt hS0 a
  have hlxs := hLL (sh S a) (by omega)
  rw [hxs, cap_lo (by omega)] at hlxs
  have hsb := sh_lt hS0 b
  have hlys := hLL (sh S b) (by omega)
  rw [hys, cap_lo (by omega)] at hlys
  refine j_aload_n h 0 dX3_count_0 rfl rfl ?_
  refine jg_Snow h a_f_X3_10 dX3_count_1 ?_
  refine j_iload_n h 2 dX3_count_4 rfl rfl ?_
  refine j_callV h (c_X0_text hE hb) m_X0_text a_l_X3_39 rfl rfl ⟨Nat.le_of_ble_eq_true rfl, Nat.le_of_ble_eq_true rfl⟩ (ci := 0) rfl (by omega) (rcI (i := 0) (by omega)) rfl rfl (Nat.le_of_ble_eq_true rfl) dX3_count_5 ?_
  refine j_astore_n h [(3, _), (0, _), (1, _), (2, _)] dX3_count_8 rfl (by decide) rfl ?_
  refine j_aload_n h 0 dX3_count_9 rfl rfl ?_
  refine j_callV h (c_X2_size hE (by omega) hys) m_X2_size a_l_X3_43 rfl rfl ⟨Nat.le_of_ble_eq_true rfl, Nat.le_of_ble_eq_true rfl⟩ (ci := 2) rfl (by omega) (rcT (by omega)) rfl rfl (Nat.le_of_ble_eq_true rfl) dX3_count_10 ?_
  refine j_if_ne h 19 dX3_count_13 (by decide) (by first | exact okI_of _ | exact okI_b _ | exact okI_sgz _ _ | assumption | (unfold okI; omega)) (fun c13 => ?_) (fun c13 => ?_)
  · refine j_aload_n h 1 dX3_count_19 rfl rfl ?_
    refine jg_Snow h a_f_X3_10 dX3_count_20 ?_
    refine j_iload_n h 2 dX3_count_23 rfl rfl ?_
    refine j_callV h (c_X0_text hE ha) m_X0_text a_l_X3_39 rfl rfl ⟨Nat.le_of_ble_eq_true rfl, Nat.le_of_ble_eq_true rfl⟩ (ci := 0) rfl (by omega) (rcI (i := 0) (by omega)) rfl rfl (Nat.le_of_ble_eq_true rfl) dX3_count_24 ?_
    refine j_aload_n h 0 dX3_count_27 rfl rfl ?_
    refine j_callV h (c_X2_finds hE (by omega) hxs (by omega) hys) m_X2_finds a_l_X3_169 rfl rfl ⟨Nat.le_of_ble_eq_true rfl, Nat.le_of_ble_eq_true rfl⟩ (ci := 2) rfl (by omega) (rcT (by omega)) rfl rfl (Nat.le_of_ble_eq_true rfl) dX3_count_28 ?_
    exact j_iret h hq (by unfold cnI; rw [if_neg (by omega)]) dX3_count_31
  · refine j_ldc h (-1000001) a_k_X3_54 (by decide) dX3_count_16 ?_
    exact j_iret h hq (by unfold cnI; rw [if_pos (by omega)]) dX3_count_18
set_option maxHeartbeats 400000 in
set_option maxRecDepth 20000 in
theorem c_X3_head {E : EV} (hE : EOK E) {S : SC} {g0 : GH} {a : Int} (ha : okI a) {xs : List Int32} (hxs : S.1 (sh S a) = xs) {b : Int} (hb : okI b) {ys : List Int32} (hys : S.1 (sh S b) = ys)  : Ct E (RC E g0) yX3_head wsX3_head rX3_head [eA E 74, .int (iI a), .int (iI b)] S (some (.int (iI (sfr xs ys 0 (min xs.length ys.length) : Nat)))) S := by
  refine ct_of [(0, _), (1, _), (2, _)] hE (by decide) rfl (Nat.le_of_ble_eq_true rfl) rfl (fun X h hq => ?_)
  refine j_of (fun G hG => RC_okS hG) (fun hS0 => ?_)
  refine j_of (fun G hG => RC_lens hG) (fun hLL => ?_)
  have hsa := sh_lt hS0 a
  have hlxs := hLL (sh S a) (by omega)
  rw [hxs, cap_lo (by omega)] at hlxs
  have hsb := sh_lt hS0 b
  have hlys := hLL (sh S b) (by omega)
  rw [hys, cap_lo (by omega)] at hlys
  refine j_aload_n h 0 dX3_head_0 rfl rfl ?_
  refine jg_Snow h a_f_X3_10 dX3_head_1 ?_
  refine j_iload_n h 1 dX3_head_4 rfl rfl ?_
  refine j_callV h (c_X0_text hE ha) m_X0_text a_l_X3_39 rfl rfl ⟨Nat.le_of_ble_eq_true rfl, Nat.le_of_ble_eq_true rfl⟩ (ci := 0) rfl (by omega) (rcI (i := 0) (by omega)) rfl rfl (Nat.le_of_ble_eq_true rfl) dX3_head_5 ?_
  refine j_aload_n h 0 dX3_head_8 rfl rfl ?_
  refine jg_Snow h a_f_X3_10 dX3_head_9 ?_
  refine j_iload_n h 2 dX3_head_12 rfl rfl ?_
  refine j_callV h (c_X0_text hE hb) m_X0_text a_l_X3_39 rfl rfl ⟨Nat.le_of_ble_eq_true rfl, Nat.le_of_ble_eq_true rfl⟩ (ci := 0) rfl (by omega) (rcI (i := 0) (by omega)) rfl rfl (Nat.le_of_ble_eq_true rfl) dX3_head_13 ?_
  refine j_callV h (c_X2_sharedFront hE (by omega) hxs (by omega) hys) m_X2_sharedFront a_l_X3_208 rfl rfl ⟨Nat.le_of_ble_eq_true rfl, Nat.le_of_ble_eq_true rfl⟩ (ci := 2) rfl (by omega) (rcT (by omega)) rfl rfl (Nat.le_of_ble_eq_true rfl) dX3_head_16 ?_
  exact j_iret h hq rfl dX3_head_19
set_option maxHeartbeats 400000 in
set_option maxRecDepth 20000 in
theorem c_X3_foot {E : EV} (hE : EOK E) {S : SC} {g0 : GH} {a : Int} (ha : okI a) {xs : List Int32} (hxs : S.1 (sh S a) = xs) {b : Int} (hb : okI b) {ys : List Int32} (hys : S.1 (sh S b) = ys)  : Ct E (RC E g0) yX3_foot wsX3_foot rX3_foot [eA E 74, .int (iI a), .int (iI b)] S (some (.int (iI (srr xs ys 0 (min xs.length ys.length) : Nat)))) S := by
  refine ct_of [(0, _), (1, _), (2, _)] hE (by decide) rfl (Nat.le_of_ble_eq_true rfl) rfl (fun X h hq => ?_)
  refine j_of (fun G hG => RC_okS hG) (fun hS0 => ?_)
  refine j_of (fun G hG => RC_lens hG) (fun hLL => ?_)
  have hsa := sh_lt hS0 a
  have hlxs := hLL (sh S a) (by omega)
  rw [hxs, cap_lo (by omega)] at hlxs
  have hsb := sh_lt hS0 b
  have hlys := hLL (sh S b) (by omega)
  rw [hys, cap_lo (by omega)] at hlys
  refine j_aload_n h 0 dX3_foot_0 rfl rfl ?_
  refine jg_Snow h a_f_X3_10 dX3_foot_1 ?_
  refine j_iload_n h 1 dX3_foot_4 rfl rfl ?_
  refine j_callV h (c_X0_text hE ha) m_X0_text a_l_X3_39 rfl rfl ⟨Nat.le_of_ble_eq_true rfl, Nat.le_of_ble_eq_true rfl⟩ (ci := 0) rfl (by omega) (rcI (i := 0) (by omega)) rfl rfl (Nat.le_of_ble_eq_true rfl) dX3_foot_5 ?_
  refine j_aload_n h 0 dX3_foot_8 rfl rfl ?_
  refine jg_Snow h a_f_X3_10 dX3_foot_9 ?_
  refine j_iload_n h 2 dX3_foot_12 rfl rfl ?_
  refine j_callV h (c_X0_text hE hb) m_X0_text a_l_X3_39 rfl rfl ⟨Nat.le_of_ble_eq_true rfl, Nat.le_of_ble_eq_true rfl⟩ (ci := 0) rfl (by omega) (rcI (i := 0) (by omega)) rfl rfl (Nat.le_of_ble_eq_true rfl) dX3_foot_13 ?_
  refine j_callV h (c_X2_sharedRear hE (by omega) hxs (by omega) hys) m_X2_sharedRear a_l_X3_211 rfl rfl ⟨Nat.le_of_ble_eq_true rfl, Nat.le_of_ble_eq_true rfl⟩ (ci := 2) rfl (by omega) (rcT (by omega)) rfl rfl (Nat.le_of_ble_eq_true rfl) dX3_foot_16 ?_
  exact j_iret h hq rfl dX3_foot_19
set_option maxHeartbeats 400000 in
set_option maxRecDepth 20000 in
theorem c_X3_pieces {E : EV} (hE : EOK E) {S : SC} {g0 : GH} {es : List Nat} (hs : S.2.2 0 = es) : Ct E (RC E g0) yX3_pieces wsX3_pieces rX3_pieces [eA E 74] S (some (.int (iI es.length))) S := by
  refine ct_of [(0, _)] hE (by decide) rfl (Nat.le_of_ble_eq_true rfl) rfl (fun X h hq => ?_)
  refine j_aload_n h 0 dX3_pieces_0 rfl rfl ?_
  refine jg_Snow h a_f_X3_10 dX3_pieces_1 ?_
  refine jgN_Iparts h (by decide) (i := 0) (by omega) dX3_pieces_4 ?_
  refine j_callV h (c_X1_size hE (p := 0) (by omega) hs) m_X1_size a_l_X3_197 rfl rfl ⟨Nat.le_of_ble_eq_true rfl, Nat.le_of_ble_eq_true rfl⟩ (ci := 1) rfl (by omega) (rcP (by omega)) rfl rfl (Nat.le_of_ble_eq_true rfl) dX3_pieces_7 ?_
  exact j_iret h hq rfl dX3_pieces_10
