/-! Image -/
theorem RC_setX {E : EV} {g0 : GH} {S : SC} {G G' : GH} {x : Nat → Nat} {f : Nat → Option Nat} (h : RC E g0 S G) (hx : (∀ j, j < 8 → x j < 8) ∧ ∀ i j, i < 8 → j < 8 → x i = x j → i = j) (hf : G' 63 = .inl (eT E, 8, .inr (.inr (.inr (.inr f))))) (hv : ∀ j, j < 8 → f j = some (E.2.2.1 (txi (setX S x) 0 j))) (hk : ∀ i, i ≠ 63 → G' i = G i) : RC E g0 (setX S x) G' := by
  obtain ⟨h1, h2, h3, h4, h5, h6, h7, h8⟩ := h
  refine ⟨fun u hu => ?_, fun q hq => ?_, fun i hi => ?_, fun i hi => ?_, hx, ?_, ?_, fun i hi => ?_⟩
  · obtain ⟨a, b, f, c, d⟩ := h1 u hu
    exact ⟨by rw [hk u (by omega)]; exact a, b, f, by rw [hk (30 + u) (by omega)]; exact c, d⟩
  · obtain ⟨a, b, f, c, d⟩ := h2 q hq
    exact ⟨by rw [hk _ (by omega)]; exact a, b, f, by rw [hk _ (by omega)]; exact c, d⟩
  · rw [hk _ (by omega)]
    exact h3 i hi
  · by_cases e : i = 0
    · subst e
      exact ⟨f, hf, hv⟩
    · obtain ⟨f2, a, b⟩ := h4 i hi
      refine ⟨f2, by rw [hk _ (by omega)]; exact a, fun j hj => ?_⟩
      rw [b j hj]
      unfold txi
      rw [if_neg e, if_neg e]
  · rw [hk _ (by omega)]
    exact h6
  · rw [hk _ (by omega)]
    exact h7
  · rw [hk _ (by omega)]
    exact h8 i hi
set_option maxHeartbeats 400000 in
set_option maxRecDepth 20000 in
theorem c_X0_text {E : EV} (hE : EOK E) {S : SC} {g0 : GH} {z : Int} (hz : okI z) : Ct E (RC E g0) yX0_text wsX0_text rX0_text [eA E 60, .int (iI z)] S (some (eA E (sh S z))) S := by
  refine ct_of [(0, _), (1, _)] hE (by decide) rfl (Nat.le_of_ble_eq_true rfl) rfl (fun X h hq => ?_)
  refine j_of (fun G hG => RC_okS hG) (fun hS0 => ?_)
  have hw := sw_lt z
  refine j_aload_n h 0 dX0_text_0 rfl rfl ?_
  refine jg_Itexts h a_f_X0_11 (i := 0) (by omega) dX0_text_1 ?_
  refine j_iload_n h 1 dX0_text_4 rfl rfl ?_
  refine j_bipush h dX0_text_5 (by decide) ?_
  refine j_fm h (by first | exact okI_of _ | exact okI_b _ | exact okI_sgz _ _ | assumption | (unfold okI; omega)) (by decide) a_l_X0_27 ⟨Nat.le_of_ble_eq_true rfl, Nat.le_of_ble_eq_true rfl⟩ (Nat.le_of_ble_eq_true rfl) dX0_text_7 ?_
  have hfm : 0 ≤ fmo z 8 ∧ fmo z 8 < 8 := by unfold fmo; omega
  refine j_aald h (sh S z) 1 (i := 63) (by omega) ⟨by omega, by omega⟩ rfl (fun G hG => by obtain ⟨f, e1, e2⟩ := hG.2.2.2.1 0 (by omega); exact ⟨8, f, e1, by omega, e2 _ (by omega)⟩) dX0_text_10 ?_
  exact j_aret h hq rfl dX0_text_11
set_option maxHeartbeats 400000 in
set_option maxRecDepth 20000 in
theorem c_X0_exchange {E : EV} (hE : EOK E) {S : SC} {g0 : GH} {a b : Int} (ha : okI a) (hb : okI b) : Ct E (RC E g0) yX0_exchange wsX0_exchange rX0_exchange [eA E 60, .int (iI a), .int (iI b)] S none (setX S (exX S.2.1 (sw a) (sw b))) := by
  refine ct_of [(0, _), (1, _), (2, _)] hE (by decide) rfl (Nat.le_of_ble_eq_true rfl) rfl (fun X h hq => ?_)
  refine j_of (fun G hG => RC_okS hG) (fun hS0 => ?_)
  have hwa := sw_lt a
  have hwb := sw_lt b
  have hsa := sh_lt hS0 a
  have hsb := sh_lt hS0 b
  have hfa : 0 ≤ fmo a 8 ∧ fmo a 8 < 8 := by unfold fmo; omega
  have hfb : 0 ≤ fmo b 8 ∧ fmo b 8 < 8 := by unfold fmo; omega
  refine j_aload_n h 0 dX0_exchange_0 rfl rfl ?_
  refine j_iload_n h 1 dX0_exchange_1 rfl rfl ?_
  refine j_callV h (c_X0_text hE ha) m_X0_text a_l_X0_33 rfl rfl ⟨Nat.le_of_ble_eq_true rfl, Nat.le_of_ble_eq_true rfl⟩ (ci := 0) rfl (by omega) (rcI (i := 0) (by omega)) rfl rfl (Nat.le_of_ble_eq_true rfl) dX0_exchange_2 ?_
  refine j_astore_n h [(3, _), (0, _), (1, _), (2, _)] dX0_exchange_5 rfl (by decide) rfl ?_
  refine j_aload_n h 1 dX0_exchange_6 rfl rfl ?_
  refine jg_Itexts h a_f_X0_11 (i := 0) (by omega) dX0_exchange_7 ?_
  refine j_iload_n h 2 dX0_exchange_10 rfl rfl ?_
  refine j_bipush h dX0_exchange_11 (by decide) ?_
  refine j_fm h (by first | exact okI_of _ | exact okI_b _ | exact okI_sgz _ _ | assumption | (unfold okI; omega)) (by decide) a_l_X0_27 ⟨Nat.le_of_ble_eq_true rfl, Nat.le_of_ble_eq_true rfl⟩ (Nat.le_of_ble_eq_true rfl) dX0_exchange_13 ?_
  refine j_aload_n h 1 dX0_exchange_16 rfl rfl ?_
  refine j_iload_n h 3 dX0_exchange_17 rfl rfl ?_
  refine j_callV h (c_X0_text hE hb) m_X0_text a_l_X0_33 rfl rfl ⟨Nat.le_of_ble_eq_true rfl, Nat.le_of_ble_eq_true rfl⟩ (ci := 0) rfl (by omega) (rcI (i := 0) (by omega)) rfl rfl (Nat.le_of_ble_eq_true rfl) dX0_exchange_18 ?_
  refine j_eq (fun G0 hG0 => ?_)
  obtain ⟨f0, e0, v0⟩ := hG0.2.2.2.1 0 (by omega)
  refine j_aast h (S' := va_up G0 63 (.inl (eT E, 8, .inr (.inr (.inr (.inr (va_up f0 (sw a) (some (E.2.2.1 (sh S b)))))))))) (i := 63) (q := (RX2, TX2, 2)) 1 2 (by omega) (by omega) ⟨hfa.1, by omega⟩ rfl rfl (fun G hG => by subst hG; exact ⟨8, f0, _, e0, by omega, (hG0.1 (sh S b) (by omega)).1, rfl⟩) dX0_exchange_21 ?_
  refine j_aload_n h 1 dX0_exchange_22 rfl rfl ?_
  refine j_get h (T := TX0) 0 inX0 (ci := 0) (i := 60) rfl (by decide) a_f_X0_11 rfl (by omega) (fun G hG => by rw [← hG, va_up_ne _ _ (by omega)]; exact hG0.2.2.1 0 (by omega)) rfl dX0_exchange_23 ?_
  refine j_iload_n h 3 dX0_exchange_26 rfl rfl ?_
  refine j_bipush h dX0_exchange_27 (by decide) ?_
  refine j_fm h (by first | exact okI_of _ | exact okI_b _ | exact okI_sgz _ _ | assumption | (unfold okI; omega)) (by decide) a_l_X0_27 ⟨Nat.le_of_ble_eq_true rfl, Nat.le_of_ble_eq_true rfl⟩ (Nat.le_of_ble_eq_true rfl) dX0_exchange_29 ?_
  refine j_aload_n h 0 dX0_exchange_32 rfl rfl ?_
  refine j_aast h (S' := va_up (va_up G0 63 (.inl (eT E, 8, .inr (.inr (.inr (.inr (va_up f0 (sw a) (some (E.2.2.1 (sh S b)))))))))) 63 (.inl (eT E, 8, .inr (.inr (.inr (.inr (va_up (va_up f0 (sw a) (some (E.2.2.1 (sh S b)))) (sw b) (some (E.2.2.1 (sh S a)))))))))) (i := 63) (q := (RX2, TX2, 2)) 1 2 (by omega) (by omega) ⟨hfb.1, by omega⟩ rfl rfl (fun G hG => by subst hG; exact ⟨8, _, _, va_up_self _ _ _, by omega, by rw [va_up_ne _ _ (by omega)]; exact (hG0.1 (sh S a) (by omega)).1, rfl⟩) dX0_exchange_33 ?_
  refine j_re (Rp2 := RC E g0) (S2 := setX S (exX S.2.1 (sw a) (sw b))) (fun G hG => ?_) ?_
  · subst hG
    rw [up_up]
    exact RC_setX hG0 (exX_ok hwa hwb hS0.1 hS0.2) (va_up_self _ _ _) (fun j hj => by show (if j = sw b then _ else if j = sw a then _ else _) = _; show _ = some (E.2.2.1 (txi (setX S (exX S.2.1 (sw a) (sw b))) 0 j)); show _ = some (E.2.2.1 (if j = sw b then S.2.1 (sw a) else if j = sw a then S.2.1 (sw b) else S.2.1 j)); split; rfl; split; rfl; exact v0 j hj) (fun i hi => va_up_ne _ _ hi)
  exact j_vret h hq rfl dX0_exchange_34
set_option maxHeartbeats 400000 in
set_option maxRecDepth 20000 in
theorem c_X0_become {E : EV} (hE : EOK E) {S : SC} {g0 : GH} {a b : Nat} (ha : a < 3) (hb : b < 3) (hab : b ≠ a) {n : Nat} (hok : eOK (S.2.2 b) n) (hn : n ≤ 300) : Ct E (RC E g0) yX0_become wsX0_become rX0_become [eA E (60 + a), eA E (60 + b)] S none (becP S a b) := by
  refine ct_of [(0, _), (1, _)] hE (by decide) rfl (Nat.le_of_ble_eq_true rfl) rfl (fun X h hq => ?_)
  refine j_of (fun G hG => RC_okS hG) (fun hS0 => ?_)
  refine j_of (fun G hG => RC_lens hG) (fun hLL => ?_)
  refine j_iconst h dX0_become_0 ?_
  refine j_istore_n h [(2, _), (0, _), (1, _)] dX0_become_1 rfl (by decide) rfl ?_
  refine j_sub [0, 1, 2] rfl ?_
  refine lpA1 (fun z : Int => (8 - z).toNat) (fun z : Int => 0 ≤ z → z ≤ 8 → JL E (RC E g0) X 2 [(2, .int (iI z)), (0, eA E (60 + a)), (1, eA E (60 + b))] [] (bec S a b z.toNat)) (fun z ih h0 hb8 => ?_) 0 (Int.le_refl 0) (by omega)
  have e2 := bec_2 S a b z.toNat
  have etx : ∀ i j, txi (bec S a b z.toNat) i j = txi S i j := fun i j => by unfold txi; rw [e2]
  refine j_iload_n h 0 dX0_become_2 rfl rfl ?_
  refine j_bipush h dX0_become_3 (by decide) ?_
  refine j_icmp_ge h 29 dX0_become_5 (by decide) (by first | exact okI_of _ | exact okI_b _ | exact okI_sgz _ _ | assumption | (unfold okI; omega)) (by first | exact okI_of _ | exact okI_b _ | exact okI_sgz _ _ | assumption | (unfold okI; omega)) (fun c5 => ?_) (fun c5 => ?_)
  · have hz8 : z.toNat = 8 := by omega
    rw [hz8]
    refine j_aload_n h 1 dX0_become_29 rfl rfl ?_
    refine jg_Iparts h a_f_X0_23 (by omega) dX0_become_30 ?_
    refine j_aload_n h 2 dX0_become_33 rfl rfl ?_
    refine jg_Iparts h a_f_X0_23 (by omega) dX0_become_34 ?_
    refine j_callVv h (c_X1_become hE (show a < 4 by omega) rfl (show b < 4 by omega) (S := bec S a b 8) (fs := S.2.2 b) (by rw [bec_2]) hab (bs := S.1 (26 + b)) (bec_1 hS0 ha (by omega) _ (by omega)) hok hn) m_X1_become a_l_X0_41 rfl rfl ⟨Nat.le_of_ble_eq_true rfl, Nat.le_of_ble_eq_true rfl⟩ (ci := 1) rfl (by omega) (rcP (by omega)) rfl rfl (Nat.le_of_ble_eq_true rfl) dX0_become_37 ?_
    exact j_vret h hq rfl dX0_become_40
  · have hta := txi_in hS0 ha (j := z.toNat) (by omega)
    have htb := txi_in hS0 hb (j := z.toNat) (by omega)
    have hle : (S.1 (txi S b z.toNat)).length ≤ 300 := by have := hLL (txi S b z.toNat) (by omega); rw [cap_lo (by omega)] at this; exact this
    refine j_aload_n h 1 dX0_become_8 rfl rfl ?_
    refine jg_Itexts h a_f_X0_11 (by omega) dX0_become_9 ?_
    refine j_iload_n h 0 dX0_become_12 rfl rfl ?_
    refine j_aald h (txi S a z.toNat) 1 (by omega) ⟨by omega, by omega⟩ rfl (fun G hG => by obtain ⟨f, e1, e3⟩ := hG.2.2.2.1 a (by omega); exact ⟨8, f, e1, by omega, by rw [e3 _ (by omega), etx]⟩) dX0_become_13 ?_
    refine j_aload_n h 2 dX0_become_14 rfl rfl ?_
    refine jg_Itexts h a_f_X0_11 (by omega) dX0_become_15 ?_
    refine j_iload_n h 0 dX0_become_18 rfl rfl ?_
    refine j_aald h (txi S b z.toNat) 1 (by omega) ⟨by omega, by omega⟩ rfl (fun G hG => by obtain ⟨f, e1, e3⟩ := hG.2.2.2.1 b (by omega); exact ⟨8, f, e1, by omega, by rw [e3 _ (by omega), etx]⟩) dX0_become_19 ?_
    refine j_callVv h (c_X2_become hE (by omega) (by omega) (ys := S.1 (txi S b z.toNat)) (bec_1 hS0 ha (by omega) _ (by omega)) (by omega) (by have := cap_ge (txi S a z.toNat); omega)) m_X2_become a_l_X0_37 rfl rfl ⟨Nat.le_of_ble_eq_true rfl, Nat.le_of_ble_eq_true rfl⟩ (ci := 2) rfl (by omega) (rcT (by omega)) rfl rfl (Nat.le_of_ble_eq_true rfl) dX0_become_20 ?_
    refine j_iinc h 0 [(2, _), (0, _), (1, _)] dX0_become_23 rfl (by decide) rfl ?_
    refine j_goto h 2 dX0_become_26 (by decide) ?_
    refine j_S (S2 := bec S a b (z + 1).toNat) (by rw [show (z + 1).toNat = z.toNat + 1 by omega, bec]) ?_
    exact ih (z + 1) (by omega) (by omega) (by omega)

set_option maxHeartbeats 400000 in
set_option maxRecDepth 20000 in
theorem c_X0_sizeOfTexts {E : EV} (hE : EOK E) {S : SC} {g0 : GH}  : Ct E (RC E g0) yX0_sizeOfTexts wsX0_sizeOfTexts rX0_sizeOfTexts [eA E 60] S (some (.int (iI (sst S 8 : Nat)))) S := by
  refine ct_of [(0, _)] hE (by decide) rfl (Nat.le_of_ble_eq_true rfl) rfl (fun X h hq => ?_)
  refine j_of (fun G hG => RC_okS hG) (fun hS0 => ?_)
  refine j_of (fun G hG => sst_le hG) (fun hsl => ?_)
  refine j_iconst h dX0_sizeOfTexts_0 ?_
  refine j_istore_n h [(1, _), (0, _)] dX0_sizeOfTexts_1 rfl (by decide) rfl ?_
  refine j_iconst h dX0_sizeOfTexts_2 ?_
  refine j_istore_n h [(2, _), (1, _), (0, _)] dX0_sizeOfTexts_3 rfl (by decide) rfl ?_
  refine j_sub [0, 1, 2] rfl ?_
  refine lpA2 (fun (z a : Int) => (8 - z).toNat) (fun (z a : Int) => 0 ≤ z → z ≤ 8 → a = (sst S z.toNat : Nat) → JL E (RC E g0) X 4 [(2, .int (iI z)), (1, .int (iI a)), (0, eA E 60)] [] S) (fun z a ih h0 hb8 hv => ?_) 0 0 (Int.le_refl 0) (by omega) rfl
  refine j_iload_n h 0 dX0_sizeOfTexts_4 rfl rfl ?_
  refine j_bipush h dX0_sizeOfTexts_5 (by decide) ?_
  refine j_icmp_ge h 28 dX0_sizeOfTexts_7 (by decide) (by first | exact okI_of _ | exact okI_b _ | exact okI_sgz _ _ | assumption | (unfold okI; omega)) (by first | exact okI_of _ | exact okI_b _ | exact okI_sgz _ _ | assumption | (unfold okI; omega)) (fun c7 => ?_) (fun c7 => ?_)
  · refine j_iload_n h 1 dX0_sizeOfTexts_28 rfl rfl ?_
    exact j_iret h hq (by rw [hv, show z.toNat = 8 by omega]) dX0_sizeOfTexts_29
  · refine j_iload_n h 1 dX0_sizeOfTexts_10 rfl rfl ?_
    refine j_aload_n h 2 dX0_sizeOfTexts_11 rfl rfl ?_
    refine jg_Itexts h a_f_X0_11 (i := 0) (by omega) dX0_sizeOfTexts_12 ?_
    refine j_iload_n h 0 dX0_sizeOfTexts_15 rfl rfl ?_
    have hxx := hS0.1 z.toNat (by omega)
    refine j_aald h (S.2.1 z.toNat) 1 (i := 63) (by omega) ⟨by omega, by omega⟩ rfl (fun G hG => by obtain ⟨f, e1, e2⟩ := hG.2.2.2.1 0 (by omega); exact ⟨8, f, e1, by omega, e2 _ (by omega)⟩) dX0_sizeOfTexts_16 ?_
    refine j_callV h (c_X2_size hE (by omega) rfl) m_X2_size a_l_X0_44 rfl rfl ⟨Nat.le_of_ble_eq_true rfl, Nat.le_of_ble_eq_true rfl⟩ (ci := 2) rfl (by omega) (rcT (by omega)) rfl rfl (Nat.le_of_ble_eq_true rfl) dX0_sizeOfTexts_17 ?_
    refine j_iadd h dX0_sizeOfTexts_20 ?_
    refine j_istore_n h [(1, _), (2, _), (0, _)] dX0_sizeOfTexts_21 rfl (by decide) rfl ?_
    refine j_iinc h 1 [(2, _), (1, _), (0, _)] dX0_sizeOfTexts_22 rfl (by decide) rfl ?_
    refine j_goto h 4 dX0_sizeOfTexts_25 (by decide) ?_
    exact ih (z + 1) _ (by omega) (by omega) (by omega) (by rw [hv, show (z + 1).toNat = z.toNat + 1 by omega, sst]; omega)
