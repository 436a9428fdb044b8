/-! the reference: swap, digest -/
def swF (f : Nat → Int32) (a b z : Nat) : Nat → Int32 := fun j => if 300 * a ≤ j ∧ j < 300 * a + z then f (300 * b + (j - 300 * a)) else if 300 * b ≤ j ∧ j < 300 * b + z then f (300 * a + (j - 300 * b)) else f j
theorem sw_step (f : Nat → Int32) {a b z : Nat} (hz : z < 300) : upd (upd (swF f a b z) (300 * a + z) (swF f a b z (300 * b + z))) (300 * b + z) (swF f a b z (300 * a + z)) = swF f a b (z + 1) := by
  have ea : swF f a b z (300 * a + z) = f (300 * a + z) := by
    unfold swF
    rw [if_neg (by omega)]
    split
    · congr 1; omega
    · rfl
  have eb : swF f a b z (300 * b + z) = f (300 * b + z) := by
    unfold swF
    split
    · congr 1; omega
    · rw [if_neg (by omega)]
  rw [ea, eb]
  funext j
  unfold upd swF
  by_cases h1 : j = 300 * b + z
  · rw [if_pos h1]
    subst h1
    by_cases h2 : a = b
    · subst h2; rw [if_pos (by omega)]; congr 1; omega
    · rw [if_neg (by omega), if_pos (by omega)]; congr 1; omega
  · rw [if_neg h1]
    by_cases h2 : j = 300 * a + z
    · rw [if_pos h2, if_pos (by omega)]; congr 1; omega
    · rw [if_neg h2]
      by_cases h3 : 300 * a ≤ j ∧ j < 300 * a + z
      · rw [if_pos h3, if_pos (by omega)]
      · rw [if_neg h3, if_neg (show ¬ (300 * a ≤ j ∧ j < 300 * a + (z + 1)) by omega)]
        by_cases h4 : 300 * b ≤ j ∧ j < 300 * b + z
        · rw [if_pos h4, if_pos (by omega)]
        · rw [if_neg h4, if_neg (by omega)]
theorem sw_0 (f : Nat → Int32) (a b : Nat) : swF f a b 0 = f := by
  funext j
  unfold swF
  rw [if_neg (by omega), if_neg (by omega)]
theorem sw_a (f : Nat → Int32) {a b l : Nat} (hl : l < 300) : swF f a b 300 (300 * a + l) = f (300 * b + l) := by
  unfold swF
  rw [if_pos (by omega)]; congr 1; omega
theorem sw_b (f : Nat → Int32) {a b l : Nat} (hl : l < 300) : swF f a b 300 (300 * b + l) = f (300 * a + l) := by
  unfold swF
  split
  · congr 1; omega
  · rw [if_pos (by omega)]; congr 1; omega
theorem sw_n (f : Nat → Int32) {a b j l : Nat} (hl : l < 300) (h1 : j ≠ a) (h2 : j ≠ b) : swF f a b 300 (300 * j + l) = f (300 * j + l) := by
  unfold swF
  rw [if_neg (by omega), if_neg (by omega)]
set_option maxHeartbeats 400000 in
set_option maxRecDepth 20000 in
theorem q_swap {E : EV} (hE : EOK E) {A : AS} {g0 : GH} {a : Int} (ha : okI a) {b : Int} (hb : okI b) : Ct E (RMP E g0) yX4_swap wsX4_swap rX4_swap [eA E 76, .int (iI a), .int (iI b)] A (some (.int (iI (((((va_up (va_up A.1 (sw a) (A.1 (sw b))) (sw b) (A.1 (sw a))) (sw a)).length : Int), (((va_up (va_up A.1 (sw a) (A.1 (sw b))) (sw b) (A.1 (sw a))), A.2) : AS))).1))) (((((va_up (va_up A.1 (sw a) (A.1 (sw b))) (sw b) (A.1 (sw a))) (sw a)).length : Int), (((va_up (va_up A.1 (sw a) (A.1 (sw b))) (sw b) (A.1 (sw a))), A.2) : AS))).2 := by
  refine ct_of [(0, _), (1, _), (2, _)] hE (by decide) rfl (Nat.le_of_ble_eq_true rfl) rfl (fun X h hq => ?_)
  refine j_exM (fun mk => ?_)
  refine j_of (fun G hG => RM_len hG) (fun hLM => ?_)
  refine j_xM (fun F hF => ?_)
  have hL0 : LN 0 = 2400 := rfl
  have hL1 : LN 1 = 8 := rfl
  have hL2 : LN 2 = 300 := rfl
  have hL3 : LN 3 = 301 := rfl
  have hL4 : LN 4 = 301 := rfl
  have hL5 : LN 5 = 4800 := rfl
  have hL6 : LN 6 = 16 := rfl
  have hL7 : LN 7 = 2 := rfl
  have hL8 : LN 8 = 600 := rfl
  have hL9 : LN 9 = 602 := rfl
  have hL10 : LN 10 = 602 := rfl
  have hL11 : LN 11 = 300 := rfl
  have hwa := sw_lt a
  have hfma : 0 ≤ fmo a 8 ∧ fmo a 8 < 8 := by unfold fmo; omega
  have hsa : (fmo a 8).toNat = sw a := rfl
  have hwb := sw_lt b
  have hfmb : 0 ≤ fmo b 8 ∧ fmo b 8 < 8 := by unfold fmo; omega
  have hsb : (fmo b 8).toNat = sw b := rfl
  have hx : xR (F 0) (F 1) 0 0 A.1 := hF.1
  refine j_iload_n h 1 dX4_swap_0 rfl rfl ?_
  refine j_callS h (c_X4_meant hE ha) m_X4_meant a_l_X4_50 rfl rfl ⟨Nat.le_of_ble_eq_true rfl, Nat.le_of_ble_eq_true rfl⟩ rfl rfl (Nat.le_of_ble_eq_true rfl) dX4_swap_1 ?_
  refine j_istore_n h [(3, _), (0, _), (1, _), (2, _)] dX4_swap_4 rfl (by decide) rfl ?_
  refine j_iload_n h 3 dX4_swap_5 rfl rfl ?_
  refine j_callS h (c_X4_meant hE hb) m_X4_meant a_l_X4_50 rfl rfl ⟨Nat.le_of_ble_eq_true rfl, Nat.le_of_ble_eq_true rfl⟩ rfl rfl (Nat.le_of_ble_eq_true rfl) dX4_swap_6 ?_
  refine j_istore h [(4, _), (3, _), (0, _), (1, _), (2, _)] dX4_swap_9 (by decide) rfl ?_
  refine j_iconst h dX4_swap_11 ?_
  refine j_istore h [(5, _), (4, _), (3, _), (0, _), (1, _), (2, _)] dX4_swap_12 (by decide) rfl ?_
  refine j_sub [0, 2, 1, 3] rfl ?_
  refine j_S (S2 := (va_up F 0 (swF (F 0) (sw a) (sw b) (0 : Int).toNat), iI A.2.1.2.length, iI mk.length)) (by rw [show (0 : Int).toNat = 0 from rfl, sw_0, up_id]) ?_
  refine lpA1 (fun z : Int => (300 - z).toNat) (fun z : Int => 0 ≤ z → z ≤ 300 → JL E (RX E g0) X 14 [(5, .int (iI z)), (3, .int (iI (fmo a 8))), (4, .int (iI (fmo b 8))), (0, eA E 76)] [] (va_up F 0 (swF (F 0) (sw a) (sw b) z.toNat), iI A.2.1.2.length, iI mk.length)) (fun z ih h0 hzb => ?_) 0 (Int.le_refl 0) (by omega)
  refine j_iload h 0 dX4_swap_14 rfl ?_
  refine j_sipush h dX4_swap_16 (by decide) ?_
  refine j_icmp_ge h 86 dX4_swap_19 (by decide) (by first | exact okI_of _ | exact okI_b _ | exact okI_sgz _ _ | assumption | (unfold okI; omega)) (by first | exact okI_of _ | exact okI_b _ | exact okI_sgz _ _ | assumption | (unfold okI; omega)) (fun c19 => ?_) (fun c19 => ?_)
  · refine j_aload_n h 3 dX4_swap_86 rfl rfl ?_
    refine jy_Msizes h a_f_X4_13 dX4_swap_87 ?_
    refine j_iload_n h 1 dX4_swap_90 rfl rfl ?_
    refine jy_ld h (by omega) (by omega) (by omega) dX4_swap_91 ?_
    refine j_istore h [(5, _), (3, _), (4, _), (0, _)] dX4_swap_92 (by decide) rfl ?_
    refine j_aload_n h 3 dX4_swap_94 rfl rfl ?_
    refine jy_Msizes h a_f_X4_13 dX4_swap_95 ?_
    refine j_iload_n h 1 dX4_swap_98 rfl rfl ?_
    refine j_aload_n h 3 dX4_swap_99 rfl rfl ?_
    refine jy_Msizes h a_f_X4_13 dX4_swap_100 ?_
    refine j_iload h 2 dX4_swap_103 rfl ?_
    refine jy_ld h (by omega) (by omega) (by omega) dX4_swap_105 ?_
    refine jy_st h (by omega) (by omega) (by omega) dX4_swap_106 ?_
    refine j_aload_n h 3 dX4_swap_107 rfl rfl ?_
    refine jy_Msizes h a_f_X4_13 dX4_swap_108 ?_
    refine j_iload h 2 dX4_swap_111 rfl ?_
    refine j_iload h 0 dX4_swap_113 rfl ?_
    refine jy_st h (by omega) (by omega) (by omega) dX4_swap_115 ?_
    refine j_aload_n h 3 dX4_swap_116 rfl rfl ?_
    refine jy_Msizes h a_f_X4_13 dX4_swap_117 ?_
    refine j_iload_n h 1 dX4_swap_120 rfl rfl ?_
    refine jy_ld h (by omega) (by omega) (by omega) dX4_swap_121 ?_
    have hxa := hx (sw a) hwa
    have hxb := hx (sw b) hwb
    rw [Nat.zero_add, Nat.zero_add] at hxa hxb
    have hn : ∀ j, j < 8 → (upd (upd (F 1) (sw a) (F 1 (sw b))) (sw b) (F 1 (sw a))) j = iI ((va_up (va_up A.1 (sw a) (A.1 (sw b))) (sw b) (A.1 (sw a))) j).length := fun j hj => by
      have hj3 := (hx j hj).1
      rw [Nat.zero_add] at hj3
      by_cases q : j = sw b
      · rw [q, va_up_self]; exact (if_pos rfl).trans hxa.1
      · rw [va_up_ne _ _ q, show (upd (upd (F 1) (sw a) (F 1 (sw b))) (sw b) (F 1 (sw a))) j = upd (F 1) (sw a) (F 1 (sw b)) j from if_neg q]
        by_cases w : j = sw a
        · rw [w, va_up_self]; exact (if_pos rfl).trans hxb.1
        · rw [va_up_ne _ _ w]; exact (if_neg w).trans hj3
    refine j_top (y := iI ((va_up (va_up A.1 (sw a) (A.1 (sw b))) (sw b) (A.1 (sw a))) (sw a)).length) (hn (sw a) hwa) ?_
    refine j_xB (((va_up (va_up A.1 (sw a) (A.1 (sw b))) (sw b) (A.1 (sw a))), A.2), mk) rfl rfl ⟨?_, hF.2.1, hF.2.2.1, hF.2.2.2⟩ ?_
    · show xR (swF (F 0) (sw a) (sw b) z.toNat) (upd (upd (F 1) (sw a) (F 1 (sw b))) (sw b) (F 1 (sw a))) 0 0 (va_up (va_up A.1 (sw a) (A.1 (sw b))) (sw b) (A.1 (sw a)))
      rw [show z.toNat = 300 by omega]
      intro j hj
      refine ⟨by rw [Nat.zero_add]; exact hn j hj, ?_⟩
      have hj3 := (hx j hj).2
      simp only [Nat.zero_add] at hj3 ⊢
      by_cases q : j = sw b
      · rw [q, va_up_self]; exact ⟨hxa.2.1, fun l hl => by rw [sw_b _ (by omega)]; exact hxa.2.2 l hl⟩
      · rw [va_up_ne _ _ q]
        by_cases w : j = sw a
        · rw [w, va_up_self]; exact ⟨hxb.2.1, fun l hl => by rw [sw_a _ (by omega)]; exact hxb.2.2 l hl⟩
        · rw [va_up_ne _ _ w]; exact ⟨hj3.1, fun l hl => by rw [sw_n _ (by omega) w q]; exact hj3.2 l hl⟩
    have hq := fnM mk hq
    exact j_iret h hq rfl dX4_swap_122
  · refine j_aload_n h 3 dX4_swap_22 rfl rfl ?_
    refine jy_Msigns h a_f_X4_7 dX4_swap_23 ?_
    refine j_sipush h dX4_swap_26 (by decide) ?_
    refine j_iload_n h 1 dX4_swap_29 rfl rfl ?_
    refine j_imul h dX4_swap_30 ?_
    refine j_iload h 0 dX4_swap_31 rfl ?_
    refine j_iadd h dX4_swap_33 ?_
    refine jy_ld h (by omega) (by omega) (by omega) dX4_swap_34 ?_
    refine j_istore h [(6, _), (5, _), (3, _), (4, _), (0, _)] dX4_swap_35 (by decide) rfl ?_
    refine j_aload_n h 4 dX4_swap_37 rfl rfl ?_
    refine jy_Msigns h a_f_X4_7 dX4_swap_38 ?_
    refine j_sipush h dX4_swap_41 (by decide) ?_
    refine j_iload_n h 2 dX4_swap_44 rfl rfl ?_
    refine j_imul h dX4_swap_45 ?_
    refine j_iload h 1 dX4_swap_46 rfl ?_
    refine j_iadd h dX4_swap_48 ?_
    refine j_aload_n h 4 dX4_swap_49 rfl rfl ?_
    refine jy_Msigns h a_f_X4_7 dX4_swap_50 ?_
    refine j_sipush h dX4_swap_53 (by decide) ?_
    refine j_iload h 3 dX4_swap_56 rfl ?_
    refine j_imul h dX4_swap_58 ?_
    refine j_iload h 1 dX4_swap_59 rfl ?_
    refine j_iadd h dX4_swap_61 ?_
    refine jy_ld h (by omega) (by omega) (by omega) dX4_swap_62 ?_
    refine jy_st h (by omega) (by omega) (by omega) dX4_swap_63 ?_
    refine j_aload_n h 4 dX4_swap_64 rfl rfl ?_
    refine jy_Msigns h a_f_X4_7 dX4_swap_65 ?_
    refine j_sipush h dX4_swap_68 (by decide) ?_
    refine j_iload h 3 dX4_swap_71 rfl ?_
    refine j_imul h dX4_swap_73 ?_
    refine j_iload h 1 dX4_swap_74 rfl ?_
    refine j_iadd h dX4_swap_76 ?_
    refine j_iload h 0 dX4_swap_77 rfl ?_
    refine jy_st h (by omega) (by omega) (by omega) dX4_swap_79 ?_
    refine j_iinc h 1 [(5, _), (6, _), (3, _), (4, _), (0, _)] dX4_swap_80 rfl (by decide) rfl ?_
    refine j_goto h 14 dX4_swap_83 (by decide) ?_
    refine j_sub [0, 2, 3, 4] rfl ?_
    refine j_S (S2 := (va_up F 0 (swF (F 0) (sw a) (sw b) (z + 1).toNat), iI A.2.1.2.length, iI mk.length)) (by simp only [up_up, va_up_self]; rw [show (300 * fmo a 8 + z).toNat = 300 * sw a + z.toNat by omega, show (300 * fmo b 8 + z).toNat = 300 * sw b + z.toNat by omega, show (z + 1).toNat = z.toNat + 1 by omega, sw_step _ (by omega)]) ?_
    exact ih (z + 1) (by omega) (by omega) (by omega)
set_option maxHeartbeats 400000 in
set_option maxRecDepth 20000 in
theorem q_digest {E : EV} (hE : EOK E) {A : AS} {g0 : GH}  : Ct E (RMP E g0) yX4_digest wsX4_digest rX4_digest [eA E 76] A (some (.long (lI (diA A)))) (((diA A), A)).2 := by
  refine ct_of [(0, _)] hE (by decide) rfl (Nat.le_of_ble_eq_true rfl) rfl (fun X h hq => ?_)
  refine j_exM (fun mk => ?_)
  refine j_of (fun G hG => RM_len hG) (fun hLM => ?_)
  refine j_xM (fun F hF => ?_)
  have hL0 : LN 0 = 2400 := rfl
  have hL1 : LN 1 = 8 := rfl
  have hL2 : LN 2 = 300 := rfl
  have hL3 : LN 3 = 301 := rfl
  have hL4 : LN 4 = 301 := rfl
  have hL5 : LN 5 = 4800 := rfl
  have hL6 : LN 6 = 16 := rfl
  have hL7 : LN 7 = 2 := rfl
  have hL8 : LN 8 = 600 := rfl
  have hL9 : LN 9 = 602 := rfl
  have hL10 : LN 10 = 602 := rfl
  have hL11 : LN 11 = 300 := rfl
  have hx : xR (F 0) (F 1) 0 0 A.1 := hF.1
  have hp : pR (F 2) (F 3) (F 4) 0 0 A.2.1 := hF.2.1
  have hok : okP A.2.1 := hF.2.2.2.2.1
  have hokl := hok.2.2.1
  have hq := fnX (A, mk) rfl rfl hF (fnM mk hq)
  refine j_ldc2 h (17) a_k_X4_184 (by decide) dX4_digest_0 ?_
  refine j_lstore_n h [(1, _), (0, _)] dX4_digest_3 rfl (by decide) rfl ?_
  refine j_iconst h dX4_digest_4 ?_
  refine j_istore_n h [(3, _), (1, _), (0, _)] dX4_digest_5 rfl (by decide) rfl ?_
  refine j_sub [0, 1, 2] rfl ?_
  refine lpA2 (fun (z k : Int) => (8 - z).toNat) (fun (z k : Int) => 0 ≤ z → z ≤ 8 → dgX A.1 k z.toNat (8 - z).toNat = dgX A.1 17 0 8 → JL E (RX E g0) X 6 [(3, .int (iI z)), (1, .long (lI k)), (0, eA E 76)] [] (F, iI A.2.1.2.length, iI mk.length)) (fun z k ih h0 hzb hv => ?_) 0 17 (Int.le_refl 0) (by omega) rfl
  refine j_iload_n h 0 dX4_digest_6 rfl rfl ?_
  refine j_bipush h dX4_digest_7 (by decide) ?_
  refine j_icmp_ge h 73 dX4_digest_9 (by decide) (by first | exact okI_of _ | exact okI_b _ | exact okI_sgz _ _ | assumption | (unfold okI; omega)) (by first | exact okI_of _ | exact okI_b _ | exact okI_sgz _ _ | assumption | (unfold okI; omega)) (fun c9 => ?_) (fun c9 => ?_)
  · refine j_iconst h dX4_digest_73 ?_
    refine j_istore_n h [(3, _), (1, _), (0, _)] dX4_digest_74 rfl (by decide) rfl ?_
    refine j_sub [0, 1, 2] rfl ?_
    rw [show (8 - z).toNat = 0 by omega, dgX] at hv
    refine lpA2 (fun (z k : Int) => (A.2.1.2.length - z).toNat) (fun (z k : Int) => 0 ≤ z → z ≤ A.2.1.2.length → pfd A.2.1.1 A.2.1.2 k z.toNat ((A.2.1.2.length : Int) - z).toNat = diA A → JL E (RX E g0) X 75 [(3, .int (iI z)), (1, .long (lI k)), (0, eA E 76)] [] (F, iI A.2.1.2.length, iI mk.length)) (fun z k ih h0 hzb hv => ?_) 0 k (Int.le_refl 0) (by omega) (by rw [hv, Int.sub_zero, Int.toNat_natCast]; rfl)
    refine j_iload_n h 0 dX4_digest_75 rfl rfl ?_
    refine j_aload_n h 2 dX4_digest_76 rfl rfl ?_
    refine jy_MpieceMany h a_f_X4_138 dX4_digest_77 ?_
    refine j_icmp_ge h 145 dX4_digest_80 (by decide) (by first | exact okI_of _ | exact okI_b _ | exact okI_sgz _ _ | assumption | (unfold okI; omega)) (by first | exact okI_of _ | exact okI_b _ | exact okI_sgz _ _ | assumption | (unfold okI; omega)) (fun c80 => ?_) (fun c80 => ?_)
    · refine j_lload_n h 1 dX4_digest_145 rfl rfl ?_
      exact j_lret h hq (by rw [← hv, show ((A.2.1.2.length : Int) - z).toNat = 0 by omega, pfd]) dX4_digest_146
    · obtain ⟨r, hr1, hs1, hr2, hg1⟩ := hp z.toNat (by omega)
      have hek := hok.1 z.toNat (by omega)
      simp only [Nat.zero_add] at hr1 hs1 hg1
      refine j_ldc2 h (31) a_k_X4_186 (by decide) dX4_digest_83 ?_
      refine j_lload_n h 1 dX4_digest_86 rfl rfl ?_
      refine j_lmul h dX4_digest_87 ?_
      refine j_aload_n h 2 dX4_digest_88 rfl rfl ?_
      refine jy_MpieceSizes h a_f_X4_22 dX4_digest_89 ?_
      refine j_iload_n h 0 dX4_digest_92 rfl rfl ?_
      refine jy_ld h (by omega) (by omega) (by omega) dX4_digest_93 ?_
      refine j_top hs1 ?_
      refine j_i2l h (lI ((eg A.2.1.2 z.toNat - stN A.2.1.2 z.toNat) : Nat)) dX4_digest_94 (iI_i2l (by unfold okI; omega)) ?_
      refine j_ladd h dX4_digest_95 ?_
      refine j_lstore_n h [(1, _), (3, _), (0, _)] dX4_digest_96 rfl (by decide) rfl ?_
      refine j_iconst h dX4_digest_97 ?_
      refine j_istore h [(4, _), (1, _), (3, _), (0, _)] dX4_digest_98 (by decide) rfl ?_
      refine j_sub [0, 2, 1, 3] rfl ?_
      refine lpA2 (fun (y k2 : Int) => (((eg A.2.1.2 z.toNat - stN A.2.1.2 z.toNat) : Nat) - y).toNat) (fun (y k2 : Int) => 0 ≤ y → y ≤ ((eg A.2.1.2 z.toNat - stN A.2.1.2 z.toNat) : Nat) → fld A.2.1.1 k2 (stN A.2.1.2 z.toNat + y.toNat) (((eg A.2.1.2 z.toNat - stN A.2.1.2 z.toNat) : Nat) - y).toNat = fld A.2.1.1 (31 * k + ((eg A.2.1.2 z.toNat : Int) - stN A.2.1.2 z.toNat)) (stN A.2.1.2 z.toNat) (eg A.2.1.2 z.toNat - stN A.2.1.2 z.toNat) → JL E (RX E g0) X 100 [(4, .int (iI y)), (3, .int (iI z)), (1, .long (lI k2)), (0, eA E 76)] [] (F, iI A.2.1.2.length, iI mk.length)) (fun y k2 ih2 hy hyb hv2 => ?_) 0 _ (Int.le_refl 0) (by omega) (by rw [Int.sub_zero, Int.toNat_natCast, show (((eg A.2.1.2 z.toNat - stN A.2.1.2 z.toNat) : Nat) : Int) = (eg A.2.1.2 z.toNat : Int) - stN A.2.1.2 z.toNat by omega]; rfl)
      refine j_iload h 0 dX4_digest_100 rfl ?_
      refine j_aload_n h 3 dX4_digest_102 rfl rfl ?_
      refine jy_MpieceSizes h a_f_X4_22 dX4_digest_103 ?_
      refine j_iload_n h 1 dX4_digest_106 rfl rfl ?_
      refine jy_ld h (by omega) (by omega) (by omega) dX4_digest_107 ?_
      refine j_top hs1 ?_
      refine j_icmp_ge h 139 dX4_digest_108 (by decide) (by first | exact okI_of _ | exact okI_b _ | exact okI_sgz _ _ | assumption | (unfold okI; omega)) (by first | exact okI_of _ | exact okI_b _ | exact okI_sgz _ _ | assumption | (unfold okI; omega)) (fun c108 => ?_) (fun c108 => ?_)
      · refine j_iinc h 1 [(3, _), (4, _), (1, _), (0, _)] dX4_digest_139 rfl (by decide) rfl ?_
        refine j_goto h 75 dX4_digest_142 (by decide) ?_
        refine j_sub [0, 2, 3] rfl ?_
        rw [show (((eg A.2.1.2 z.toNat - stN A.2.1.2 z.toNat) : Nat) - y).toNat = 0 by omega, fld] at hv2
        rw [show ((A.2.1.2.length : Int) - z).toNat = ((A.2.1.2.length : Int) - (z + 1)).toNat + 1 by omega, pfd, ← hv2, show z.toNat + 1 = (z + 1).toNat by omega] at hv
        exact ih (z + 1) k2 (by omega) (by omega) (by omega) hv
      · refine j_ldc2 h (31) a_k_X4_186 (by decide) dX4_digest_111 ?_
        refine j_lload_n h 2 dX4_digest_114 rfl rfl ?_
        refine j_lmul h dX4_digest_115 ?_
        refine j_aload_n h 3 dX4_digest_116 rfl rfl ?_
        refine jy_Mparted h a_f_X4_16 dX4_digest_117 ?_
        refine j_aload_n h 3 dX4_digest_120 rfl rfl ?_
        refine jy_MpieceFroms h a_f_X4_19 dX4_digest_121 ?_
        refine j_iload_n h 1 dX4_digest_124 rfl rfl ?_
        refine jy_ld h (by omega) (by omega) (by omega) dX4_digest_125 ?_
        refine j_top hr1 ?_
        refine j_iload h 0 dX4_digest_126 rfl ?_
        refine j_iadd h dX4_digest_128 ?_
        refine jy_ld h (by omega) (by omega) (by omega) dX4_digest_129 ?_
        refine j_top (y := gz A.2.1.1 (stN A.2.1.2 z.toNat + y.toNat)) (by have := hg1 y.toNat (by omega); rw [show ((r : Int) + y).toNat = r + y.toNat by omega]; exact this) ?_
        refine j_i2l h _ dX4_digest_130 (i2l_raw _) ?_
        refine j_ladd h dX4_digest_131 ?_
        refine j_lstore_n h [(1, _), (4, _), (3, _), (0, _)] dX4_digest_132 rfl (by decide) rfl ?_
        refine j_iinc h 1 [(4, _), (1, _), (3, _), (0, _)] dX4_digest_133 rfl (by decide) rfl ?_
        refine j_goto h 100 dX4_digest_136 (by decide) ?_
        refine j_sub [0, 2, 1, 3] rfl ?_
        rw [show (((eg A.2.1.2 z.toNat - stN A.2.1.2 z.toNat) : Nat) - y).toNat = (((eg A.2.1.2 z.toNat - stN A.2.1.2 z.toNat) : Nat) - (y + 1)).toNat + 1 by omega, fld, show stN A.2.1.2 z.toNat + y.toNat + 1 = stN A.2.1.2 z.toNat + (y + 1).toNat by omega] at hv2
        exact ih2 (y + 1) _ (by omega) (by omega) (by omega) hv2
  · have hxz := hx z.toNat (by omega)
    simp only [Nat.zero_add] at hxz
    refine j_ldc2 h (31) a_k_X4_186 (by decide) dX4_digest_12 ?_
    refine j_lload_n h 1 dX4_digest_15 rfl rfl ?_
    refine j_lmul h dX4_digest_16 ?_
    refine j_aload_n h 2 dX4_digest_17 rfl rfl ?_
    refine jy_Msizes h a_f_X4_13 dX4_digest_18 ?_
    refine j_iload_n h 0 dX4_digest_21 rfl rfl ?_
    refine jy_ld h (by omega) (by omega) (by omega) dX4_digest_22 ?_
    refine j_top hxz.1 ?_
    refine j_i2l h (lI (A.1 z.toNat).length) dX4_digest_23 (iI_i2l (by unfold okI; omega)) ?_
    refine j_ladd h dX4_digest_24 ?_
    refine j_lstore_n h [(1, _), (3, _), (0, _)] dX4_digest_25 rfl (by decide) rfl ?_
    refine j_iconst h dX4_digest_26 ?_
    refine j_istore h [(4, _), (1, _), (3, _), (0, _)] dX4_digest_27 (by decide) rfl ?_
    refine j_sub [0, 2, 1, 3] rfl ?_
    refine lpA2 (fun (y k2 : Int) => ((A.1 z.toNat).length - y).toNat) (fun (y k2 : Int) => 0 ≤ y → y ≤ (A.1 z.toNat).length → fld (A.1 z.toNat) k2 y.toNat (((A.1 z.toNat).length : Int) - y).toNat = fld (A.1 z.toNat) (31 * k + (A.1 z.toNat).length) 0 (A.1 z.toNat).length → JL E (RX E g0) X 29 [(4, .int (iI y)), (3, .int (iI z)), (1, .long (lI k2)), (0, eA E 76)] [] (F, iI A.2.1.2.length, iI mk.length)) (fun y k2 ih2 hy hyb hv2 => ?_) 0 _ (Int.le_refl 0) (by omega) (by rw [Int.sub_zero, Int.toNat_natCast]; rfl)
    refine j_iload h 0 dX4_digest_29 rfl ?_
    refine j_aload_n h 3 dX4_digest_31 rfl rfl ?_
    refine jy_Msizes h a_f_X4_13 dX4_digest_32 ?_
    refine j_iload_n h 1 dX4_digest_35 rfl rfl ?_
    refine jy_ld h (by omega) (by omega) (by omega) dX4_digest_36 ?_
    refine j_top hxz.1 ?_
    refine j_icmp_ge h 67 dX4_digest_37 (by decide) (by first | exact okI_of _ | exact okI_b _ | exact okI_sgz _ _ | assumption | (unfold okI; omega)) (by first | exact okI_of _ | exact okI_b _ | exact okI_sgz _ _ | assumption | (unfold okI; omega)) (fun c37 => ?_) (fun c37 => ?_)
    · refine j_iinc h 1 [(3, _), (4, _), (1, _), (0, _)] dX4_digest_67 rfl (by decide) rfl ?_
      refine j_goto h 6 dX4_digest_70 (by decide) ?_
      refine j_sub [0, 2, 3] rfl ?_
      rw [show (((A.1 z.toNat).length : Int) - y).toNat = 0 by omega, fld] at hv2
      rw [show (8 - z).toNat = (8 - (z + 1)).toNat + 1 by omega, dgX, ← hv2, show z.toNat + 1 = (z + 1).toNat by omega] at hv
      exact ih (z + 1) k2 (by omega) (by omega) (by omega) hv
    · refine j_ldc2 h (31) a_k_X4_186 (by decide) dX4_digest_40 ?_
      refine j_lload_n h 2 dX4_digest_43 rfl rfl ?_
      refine j_lmul h dX4_digest_44 ?_
      refine j_aload_n h 3 dX4_digest_45 rfl rfl ?_
      refine jy_Msigns h a_f_X4_7 dX4_digest_46 ?_
      refine j_sipush h dX4_digest_49 (by decide) ?_
      refine j_iload_n h 1 dX4_digest_52 rfl rfl ?_
      refine j_imul h dX4_digest_53 ?_
      refine j_iload h 0 dX4_digest_54 rfl ?_
      refine j_iadd h dX4_digest_56 ?_
      refine jy_ld h (by omega) (by omega) (by omega) dX4_digest_57 ?_
      refine j_top (y := gz (A.1 z.toNat) y.toNat) (by have := hxz.2.2 y.toNat (by omega); rw [show (300 * z + y).toNat = 300 * z.toNat + y.toNat by omega]; exact this) ?_
      refine j_i2l h _ dX4_digest_58 (i2l_raw _) ?_
      refine j_ladd h dX4_digest_59 ?_
      refine j_lstore_n h [(1, _), (4, _), (3, _), (0, _)] dX4_digest_60 rfl (by decide) rfl ?_
      refine j_iinc h 1 [(4, _), (1, _), (3, _), (0, _)] dX4_digest_61 rfl (by decide) rfl ?_
      refine j_goto h 29 dX4_digest_64 (by decide) ?_
      refine j_sub [0, 2, 1, 3] rfl ?_
      rw [show (((A.1 z.toNat).length : Int) - y).toNat = (((A.1 z.toNat).length : Int) - (y + 1)).toNat + 1 by omega, fld, show y.toNat + 1 = (y + 1).toNat by omega] at hv2
      exact ih2 (y + 1) _ (by omega) (by omega) (by omega) hv2
