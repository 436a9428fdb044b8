/-! the reference: its images -/
theorem cpy_in (f g : Nat → Int32) (sp dp n j : Nat) (h : j < n) : va_cpy f g sp dp n (dp + j) = f (sp + j) := by
  unfold va_cpy
  rw [if_pos (by omega), Nat.add_sub_cancel_left]
theorem cpy_out (f g : Nat → Int32) (sp dp n j : Nat) (h : j < dp ∨ dp + n ≤ j) : va_cpy f g sp dp n j = g j := by
  unfold va_cpy
  rw [if_neg (by omega)]
theorem xR_c {f n f' n' : Nat → Int32} {o1 o2 p1 p2 : Nat} {X : Nat → List Int32} (h : xR f n o1 o2 X) (h1 : ∀ j, j < 2400 → f' (p1 + j) = f (o1 + j)) (h2 : ∀ j, j < 8 → n' (p2 + j) = n (o2 + j)) : xR f' n' p1 p2 X := by
  intro j hj
  obtain ⟨a, b, c⟩ := h j hj
  refine ⟨by rw [h2 j hj]; exact a, b, fun l hl => ?_⟩
  rw [Nat.add_assoc, h1 _ (by omega), ← Nat.add_assoc]
  exact c l hl
theorem pR_c {fp ff fs fp' ff' fs' : Nat → Int32} {o1 o2 p1 p2 : Nat} {q : AP} (h : pR fp ff fs o1 o2 q) (hq : q.2.length ≤ 301) (h1 : ∀ j, j < 300 → fp' (p1 + j) = fp (o1 + j)) (h2 : ∀ j, j < 301 → ff' (p2 + j) = ff (o2 + j)) (h3 : ∀ j, j < 301 → fs' (p2 + j) = fs (o2 + j)) : pR fp' ff' fs' p1 p2 q := by
  intro k hk
  obtain ⟨r, a, b, c, d⟩ := h k hk
  refine ⟨r, by rw [h2 k (by omega)]; exact a, by rw [h3 k (by omega)]; exact b, c, fun j hj => ?_⟩
  rw [Nat.add_assoc, h1 _ (by omega), ← Nat.add_assoc]
  exact d j hj
set_option maxHeartbeats 400000 in
set_option maxRecDepth 20000 in
theorem c_X4_moves {E : EV} (hE : EOK E) {g0 : GH} {F : Nat → Nat → Int32} {pm mm : Int32} {k l : Nat} (hk : k < 12) (hl : l < 12) (hkl : k ≠ l) {p q n : Int} (hp : 0 ≤ p) (hq0 : 0 ≤ q) (hn : 0 ≤ n) (hpn : p + n ≤ LN k) (hqn : q + n ≤ LN l) : Ct E (RX E g0) yX4_moves wsX4_moves rX4_moves [eA E (k + 77), .int (iI p), eA E (l + 77), .int (iI q), .int (iI n)] (F, pm, mm) none (va_up F l (va_cpy (F k) (F l) p.toNat q.toNat n.toNat), pm, mm) := by
  refine ct_of [(0, _), (1, _), (2, _), (3, _), (4, _)] hE (by decide) rfl (Nat.le_of_ble_eq_true rfl) rfl (fun X h hq => ?_)
  have hlk := LN_le k
  have hll := LN_le l
  refine j_iconst h dX4_moves_0 ?_
  refine j_istore h [(5, _), (0, _), (1, _), (2, _), (3, _), (4, _)] dX4_moves_1 (by decide) rfl ?_
  refine j_sub [0, 1, 2, 3, 4, 5] rfl ?_
  refine j_S (S2 := (va_up F l (va_cpy (F k) (F l) p.toNat q.toNat (0 : Int).toNat), pm, mm)) (by rw [show (0 : Int).toNat = 0 from rfl, cpy_0, up_id]) ?_
  refine lpA1 (fun z : Int => (n - z).toNat) (fun z : Int => 0 ≤ z → z ≤ n → JL E (RX E g0) X 3 [(5, .int (iI z)), (0, eA E (k + 77)), (1, .int (iI p)), (2, eA E (l + 77)), (3, .int (iI q)), (4, .int (iI n))] [] (va_up F l (va_cpy (F k) (F l) p.toNat q.toNat z.toNat), pm, mm)) (fun z ih h0 hzb => ?_) 0 (Int.le_refl 0) hn
  refine j_iload h 0 dX4_moves_3 rfl ?_
  refine j_iload h 5 dX4_moves_5 rfl ?_
  refine j_icmp_ge h 28 dX4_moves_7 (by decide) (by first | exact okI_of _ | exact okI_b _ | exact okI_sgz _ _ | assumption | (unfold okI; omega)) (by first | exact okI_of _ | exact okI_b _ | exact okI_sgz _ _ | assumption | (unfold okI; omega)) (fun c7 => ?_) (fun c7 => ?_)
  · rw [show n.toNat = z.toNat by omega] at hq
    exact j_vret h hq rfl dX4_moves_28
  · refine j_aload_n h 3 dX4_moves_10 rfl rfl ?_
    refine j_iload_n h 4 dX4_moves_11 rfl rfl ?_
    refine j_iload h 0 dX4_moves_12 rfl ?_
    refine j_iadd h dX4_moves_14 ?_
    refine j_aload_n h 1 dX4_moves_15 rfl rfl ?_
    refine j_iload_n h 2 dX4_moves_16 rfl rfl ?_
    refine j_iload h 0 dX4_moves_17 rfl ?_
    refine j_iadd h dX4_moves_19 ?_
    refine jy_ld h (by omega) (by omega) (by omega) dX4_moves_20 ?_
    refine jy_st h (by omega) (by omega) (by omega) dX4_moves_21 ?_
    refine j_iinc h 0 [(5, _), (0, _), (1, _), (2, _), (3, _), (4, _)] dX4_moves_22 rfl (by decide) rfl ?_
    refine j_goto h 3 dX4_moves_25 (by decide) ?_
    refine j_S (S2 := (va_up F l (va_cpy (F k) (F l) p.toNat q.toNat (z + 1).toNat), pm, mm)) (by rw [up_up, va_up_self, va_up_ne _ _ hkl, show (z + 1).toNat = z.toNat + 1 by omega, ← cpy_step (α := Nat), show (q + z).toNat = q.toNat + z.toNat by omega, show (p + z).toNat = p.toNat + z.toNat by omega]) ?_
    exact ih (z + 1) (by omega) (by omega) (by omega)
set_option maxHeartbeats 400000 in
set_option maxRecDepth 20000 in
theorem c_X4_allSigns {E : EV} (hE : EOK E) {A : AS} {mk : List Int32} {g0 : GH}  : Ct E (RM E g0) yX4_allSigns wsX4_allSigns rX4_allSigns [eA E 76] (A, mk) (some (.int (iI (sumX A.1 8 : Nat)))) (A, mk) := by
  refine ct_of [(0, _)] hE (by decide) rfl (Nat.le_of_ble_eq_true rfl) rfl (fun X h hq => ?_)
  refine j_xM (fun F hF => ?_)
  have hL0 : LN 0 = 2400 := rfl
  have hL1 : LN 1 = 8 := rfl
  have hL2 : LN 2 = 300 := rfl
  have hL3 : LN 3 = 301 := rfl
  have hL4 : LN 4 = 301 := rfl
  have hL5 : LN 5 = 4800 := rfl
  have hL6 : LN 6 = 16 := rfl
  have hL7 : LN 7 = 2 := rfl
  have hL8 : LN 8 = 600 := rfl
  have hL9 : LN 9 = 602 := rfl
  have hL10 : LN 10 = 602 := rfl
  have hL11 : LN 11 = 300 := rfl
  have hq := fnX (A, mk) rfl rfl hF hq
  have hx := hF.1
  refine j_iconst h dX4_allSigns_0 ?_
  refine j_istore_n h [(1, _), (0, _)] dX4_allSigns_1 rfl (by decide) rfl ?_
  refine j_iconst h dX4_allSigns_2 ?_
  refine j_istore_n h [(2, _), (1, _), (0, _)] dX4_allSigns_3 rfl (by decide) rfl ?_
  refine j_sub [0, 1, 2] rfl ?_
  refine lpA1 (fun z : Int => (8 - z).toNat) (fun z : Int => 0 ≤ z → z ≤ 8 → JL E (RX E g0) X 4 [(2, .int (iI z)), (1, .int (iI (sumX A.1 z.toNat : Nat))), (0, eA E 76)] [] (F, iI A.2.1.2.length, iI mk.length)) (fun z ih h0 hzb => ?_) 0 (Int.le_refl 0) (by omega)
  refine j_iload_n h 0 dX4_allSigns_4 rfl rfl ?_
  refine j_bipush h dX4_allSigns_5 (by decide) ?_
  refine j_icmp_ge h 25 dX4_allSigns_7 (by decide) (by first | exact okI_of _ | exact okI_b _ | exact okI_sgz _ _ | assumption | (unfold okI; omega)) (by first | exact okI_of _ | exact okI_b _ | exact okI_sgz _ _ | assumption | (unfold okI; omega)) (fun c7 => ?_) (fun c7 => ?_)
  · refine j_iload_n h 1 dX4_allSigns_25 rfl rfl ?_
    exact j_iret h hq (by rw [show z.toNat = 8 by omega]) dX4_allSigns_26
  · refine j_iload_n h 1 dX4_allSigns_10 rfl rfl ?_
    refine j_aload_n h 2 dX4_allSigns_11 rfl rfl ?_
    refine jy_Msizes h a_f_X4_13 dX4_allSigns_12 ?_
    refine j_iload_n h 0 dX4_allSigns_15 rfl rfl ?_
    refine jy_ld h (by omega) (by omega) (by omega) dX4_allSigns_16 ?_
    refine j_top (show F 1 z.toNat = iI (A.1 z.toNat).length from by have := (hx z.toNat (by omega)).1; rwa [Nat.zero_add] at this) ?_
    refine j_iadd h dX4_allSigns_17 ?_
    refine j_istore_n h [(1, _), (2, _), (0, _)] dX4_allSigns_18 rfl (by decide) rfl ?_
    refine j_iinc h 1 [(2, _), (1, _), (0, _)] dX4_allSigns_19 rfl (by decide) rfl ?_
    refine j_goto h 4 dX4_allSigns_22 (by decide) ?_
    refine j_lv (lv2 := [(2, .int (iI (z + 1))), (1, .int (iI (sumX A.1 (z + 1).toNat : Nat))), (0, eA E 76)]) (by rw [show (z + 1).toNat = z.toNat + 1 by omega, sumX]; push_cast; rfl) ?_
    exact ih (z + 1) (by omega) (by omega) (by omega)
set_option maxHeartbeats 400000 in
set_option maxRecDepth 20000 in
theorem q_keep {E : EV} (hE : EOK E) {A : AS} {g0 : GH} {a : Int} (ha : okI a) : Ct E (RMP E g0) yX4_keep wsX4_keep rX4_keep [eA E 76, .int (iI a)] A (some (.int (iI ((((sumX A.1 8 : Nat) : Int), aKeep A (si a))).1))) ((((sumX A.1 8 : Nat) : Int), aKeep A (si a))).2 := by
  refine ct_of [(0, _), (1, _)] hE (by decide) rfl (Nat.le_of_ble_eq_true rfl) rfl (fun X h hq => ?_)
  refine j_exM (fun mk => ?_)
  refine j_of (fun G hG => RM_len hG) (fun hLM => ?_)
  refine j_xM (fun F hF => ?_)
  have hL0 : LN 0 = 2400 := rfl
  have hL1 : LN 1 = 8 := rfl
  have hL2 : LN 2 = 300 := rfl
  have hL3 : LN 3 = 301 := rfl
  have hL4 : LN 4 = 301 := rfl
  have hL5 : LN 5 = 4800 := rfl
  have hL6 : LN 6 = 16 := rfl
  have hL7 : LN 7 = 2 := rfl
  have hL8 : LN 8 = 600 := rfl
  have hL9 : LN 9 = 602 := rfl
  have hL10 : LN 10 = 602 := rfl
  have hL11 : LN 11 = 300 := rfl
  have hsi : si a < 2 := by unfold si fmo; omega
  have hfm : 0 ≤ fmo a 2 ∧ fmo a 2 < 2 := by unfold fmo; omega
  have hsf : (fmo a 2).toNat = si a := rfl
  refine j_iload_n h 1 dX4_keep_0 rfl rfl ?_
  refine j_iconst h dX4_keep_1 ?_
  refine j_iand h (iI (fmo a 2)) dX4_keep_2 (and1 ha) ?_
  refine j_istore_n h [(2, _), (0, _), (1, _)] dX4_keep_3 rfl (by decide) rfl ?_
  refine j_aload_n h 1 dX4_keep_4 rfl rfl ?_
  refine jy_Msigns h a_f_X4_7 dX4_keep_5 ?_
  refine j_iconst h dX4_keep_8 ?_
  refine j_aload_n h 1 dX4_keep_9 rfl rfl ?_
  refine jy_MkeptSigns h a_f_X4_25 dX4_keep_10 ?_
  refine j_sipush h dX4_keep_13 (by decide) ?_
  refine j_iload_n h 0 dX4_keep_16 rfl rfl ?_
  refine j_imul h dX4_keep_17 ?_
  refine j_sipush h dX4_keep_18 (by decide) ?_
  refine j_callSv h (c_X4_moves hE (k := 0) (l := 5) (by omega) (by omega) (by omega) (by omega) (by omega) (by omega) (by omega) (by omega)) m_X4_moves a_l_X4_176 rfl rfl ⟨Nat.le_of_ble_eq_true rfl, Nat.le_of_ble_eq_true rfl⟩ rfl rfl (Nat.le_of_ble_eq_true rfl) dX4_keep_21 ?_
  refine j_aload_n h 1 dX4_keep_24 rfl rfl ?_
  refine jy_Msizes h a_f_X4_13 dX4_keep_25 ?_
  refine j_iconst h dX4_keep_28 ?_
  refine j_aload_n h 1 dX4_keep_29 rfl rfl ?_
  refine jy_MkeptSizes h a_f_X4_28 dX4_keep_30 ?_
  refine j_bipush h dX4_keep_33 (by decide) ?_
  refine j_iload_n h 0 dX4_keep_35 rfl rfl ?_
  refine j_imul h dX4_keep_36 ?_
  refine j_bipush h dX4_keep_37 (by decide) ?_
  refine j_callSv h (c_X4_moves hE (k := 1) (l := 6) (by omega) (by omega) (by omega) (by omega) (by omega) (by omega) (by omega) (by omega)) m_X4_moves a_l_X4_176 rfl rfl ⟨Nat.le_of_ble_eq_true rfl, Nat.le_of_ble_eq_true rfl⟩ rfl rfl (Nat.le_of_ble_eq_true rfl) dX4_keep_39 ?_
  refine j_aload_n h 1 dX4_keep_42 rfl rfl ?_
  refine jy_MkeptMany h a_f_X4_31 dX4_keep_43 ?_
  refine j_iload_n h 0 dX4_keep_46 rfl rfl ?_
  refine j_aload_n h 1 dX4_keep_47 rfl rfl ?_
  refine jy_MpieceMany h a_f_X4_138 dX4_keep_48 ?_
  refine jy_st h (by omega) (by omega) (by omega) dX4_keep_51 ?_
  refine j_aload_n h 1 dX4_keep_52 rfl rfl ?_
  refine jy_Mparted h a_f_X4_16 dX4_keep_53 ?_
  refine j_iconst h dX4_keep_56 ?_
  refine j_aload_n h 1 dX4_keep_57 rfl rfl ?_
  refine jy_MkeptParted h a_f_X4_34 dX4_keep_58 ?_
  refine j_sipush h dX4_keep_61 (by decide) ?_
  refine j_iload_n h 0 dX4_keep_64 rfl rfl ?_
  refine j_imul h dX4_keep_65 ?_
  refine j_sipush h dX4_keep_66 (by decide) ?_
  refine j_callSv h (c_X4_moves hE (k := 2) (l := 8) (by omega) (by omega) (by omega) (by omega) (by omega) (by omega) (by omega) (by omega)) m_X4_moves a_l_X4_176 rfl rfl ⟨Nat.le_of_ble_eq_true rfl, Nat.le_of_ble_eq_true rfl⟩ rfl rfl (Nat.le_of_ble_eq_true rfl) dX4_keep_69 ?_
  refine j_aload_n h 1 dX4_keep_72 rfl rfl ?_
  refine jy_MpieceFroms h a_f_X4_19 dX4_keep_73 ?_
  refine j_iconst h dX4_keep_76 ?_
  refine j_aload_n h 1 dX4_keep_77 rfl rfl ?_
  refine jy_MkeptFroms h a_f_X4_37 dX4_keep_78 ?_
  refine j_sipush h dX4_keep_81 (by decide) ?_
  refine j_iload_n h 0 dX4_keep_84 rfl rfl ?_
  refine j_imul h dX4_keep_85 ?_
  refine j_sipush h dX4_keep_86 (by decide) ?_
  refine j_callSv h (c_X4_moves hE (k := 3) (l := 9) (by omega) (by omega) (by omega) (by omega) (by omega) (by omega) (by omega) (by omega)) m_X4_moves a_l_X4_176 rfl rfl ⟨Nat.le_of_ble_eq_true rfl, Nat.le_of_ble_eq_true rfl⟩ rfl rfl (Nat.le_of_ble_eq_true rfl) dX4_keep_89 ?_
  refine j_aload_n h 1 dX4_keep_92 rfl rfl ?_
  refine jy_MpieceSizes h a_f_X4_22 dX4_keep_93 ?_
  refine j_iconst h dX4_keep_96 ?_
  refine j_aload_n h 1 dX4_keep_97 rfl rfl ?_
  refine jy_MkeptPieceSizes h a_f_X4_40 dX4_keep_98 ?_
  refine j_sipush h dX4_keep_101 (by decide) ?_
  refine j_iload_n h 0 dX4_keep_104 rfl rfl ?_
  refine j_imul h dX4_keep_105 ?_
  refine j_sipush h dX4_keep_106 (by decide) ?_
  refine j_callSv h (c_X4_moves hE (k := 4) (l := 10) (by omega) (by omega) (by omega) (by omega) (by omega) (by omega) (by omega) (by omega)) m_X4_moves a_l_X4_176 rfl rfl ⟨Nat.le_of_ble_eq_true rfl, Nat.le_of_ble_eq_true rfl⟩ rfl rfl (Nat.le_of_ble_eq_true rfl) dX4_keep_109 ?_
  refine j_xB (aKeep A (si a), mk) rfl rfl ?_ ?_
  · obtain ⟨hx, hp, hk, hm, ho⟩ := hF
    have hok := ho.1
    refine ⟨hx, hp, fun i hi => ?_, hm, ⟨ho.1, fun i hi => ?_⟩⟩
    · show xR (va_cpy (F 0) (F 5) (0 : Int).toNat (2400 * fmo a 2).toNat (2400 : Int).toNat) (va_cpy (F 1) (F 6) (0 : Int).toNat (8 * fmo a 2).toNat (8 : Int).toNat) (2400 * i) (8 * i) (va_up A.2.2.1 (si a) A.1 i) ∧ upd (F 7) (fmo a 2).toNat (iI A.2.1.2.length) i = iI (va_up A.2.2.2 (si a) A.2.1 i).2.length ∧ pR (va_cpy (F 2) (F 8) (0 : Int).toNat (300 * fmo a 2).toNat (300 : Int).toNat) (va_cpy (F 3) (F 9) (0 : Int).toNat (301 * fmo a 2).toNat (301 : Int).toNat) (va_cpy (F 4) (F 10) (0 : Int).toNat (301 * fmo a 2).toNat (301 : Int).toNat) (300 * i) (301 * i) (va_up A.2.2.2 (si a) A.2.1 i)
      rw [show (2400 * fmo a 2).toNat = 2400 * si a by omega, show (8 * fmo a 2).toNat = 8 * si a by omega, show (300 * fmo a 2).toNat = 300 * si a by omega, show (301 * fmo a 2).toNat = 301 * si a by omega, show (2400 : Int).toNat = 2400 from rfl, show (8 : Int).toNat = 8 from rfl, show (300 : Int).toNat = 300 from rfl, show (301 : Int).toNat = 301 from rfl, show (0 : Int).toNat = 0 from rfl, hsf]
      by_cases q : i = si a
      · rw [q, va_up_self, va_up_self]
        exact ⟨xR_c hx (fun j hj => cpy_in _ _ _ _ _ _ hj) (fun j hj => cpy_in _ _ _ _ _ _ hj), if_pos rfl, pR_c hp hok.2.2.1 (fun j hj => cpy_in _ _ _ _ _ _ hj) (fun j hj => cpy_in _ _ _ _ _ _ hj) (fun j hj => cpy_in _ _ _ _ _ _ hj)⟩
      · rw [va_up_ne _ _ q, va_up_ne _ _ q]
        obtain ⟨k1, k2, k3⟩ := hk i hi
        refine ⟨xR_c k1 (fun j hj => cpy_out _ _ _ _ _ _ (by omega)) (fun j hj => cpy_out _ _ _ _ _ _ (by omega)), (if_neg q).trans k2, pR_c k3 (ho.2 i hi).2.2.1 (fun j hj => cpy_out _ _ _ _ _ _ (by omega)) (fun j hj => cpy_out _ _ _ _ _ _ (by omega)) (fun j hj => cpy_out _ _ _ _ _ _ (by omega))⟩
    · show okP (va_up A.2.2.2 (si a) A.2.1 i)
      by_cases q : i = si a
      · rw [q, va_up_self]; exact ho.1
      · rw [va_up_ne _ _ q]; exact ho.2 i hi
  refine j_aload_n h 1 dX4_keep_112 rfl rfl ?_
  refine j_callV h (c_X4_allSigns hE) m_X4_allSigns a_l_X4_180 rfl rfl ⟨Nat.le_of_ble_eq_true rfl, Nat.le_of_ble_eq_true rfl⟩ (ci := 4) rfl (by omega) (rcM) rfl rfl (Nat.le_of_ble_eq_true rfl) dX4_keep_113 ?_
  have hq := fnM mk hq
  exact j_iret h hq rfl dX4_keep_116
set_option maxHeartbeats 400000 in
set_option maxRecDepth 20000 in
theorem q_back {E : EV} (hE : EOK E) {A : AS} {g0 : GH} {a : Int} (ha : okI a) : Ct E (RMP E g0) yX4_back wsX4_back rX4_back [eA E 76, .int (iI a)] A (some (.int (iI ((((sumX (aBack A (si a)).1 8 : Nat) : Int), aBack A (si a))).1))) ((((sumX (aBack A (si a)).1 8 : Nat) : Int), aBack A (si a))).2 := by
  refine ct_of [(0, _), (1, _)] hE (by decide) rfl (Nat.le_of_ble_eq_true rfl) rfl (fun X h hq => ?_)
  refine j_exM (fun mk => ?_)
  refine j_of (fun G hG => RM_len hG) (fun hLM => ?_)
  refine j_xM (fun F hF => ?_)
  have hL0 : LN 0 = 2400 := rfl
  have hL1 : LN 1 = 8 := rfl
  have hL2 : LN 2 = 300 := rfl
  have hL3 : LN 3 = 301 := rfl
  have hL4 : LN 4 = 301 := rfl
  have hL5 : LN 5 = 4800 := rfl
  have hL6 : LN 6 = 16 := rfl
  have hL7 : LN 7 = 2 := rfl
  have hL8 : LN 8 = 600 := rfl
  have hL9 : LN 9 = 602 := rfl
  have hL10 : LN 10 = 602 := rfl
  have hL11 : LN 11 = 300 := rfl
  have hsi : si a < 2 := by unfold si fmo; omega
  have hfm : 0 ≤ fmo a 2 ∧ fmo a 2 < 2 := by unfold fmo; omega
  have hsf : (fmo a 2).toNat = si a := rfl
  refine j_iload_n h 1 dX4_back_0 rfl rfl ?_
  refine j_iconst h dX4_back_1 ?_
  refine j_iand h (iI (fmo a 2)) dX4_back_2 (and1 ha) ?_
  refine j_istore_n h [(2, _), (0, _), (1, _)] dX4_back_3 rfl (by decide) rfl ?_
  refine j_aload_n h 1 dX4_back_4 rfl rfl ?_
  refine jy_MkeptSigns h a_f_X4_25 dX4_back_5 ?_
  refine j_sipush h dX4_back_8 (by decide) ?_
  refine j_iload_n h 0 dX4_back_11 rfl rfl ?_
  refine j_imul h dX4_back_12 ?_
  refine j_aload_n h 1 dX4_back_13 rfl rfl ?_
  refine jy_Msigns h a_f_X4_7 dX4_back_14 ?_
  refine j_iconst h dX4_back_17 ?_
  refine j_sipush h dX4_back_18 (by decide) ?_
  refine j_callSv h (c_X4_moves hE (k := 5) (l := 0) (by omega) (by omega) (by omega) (by omega) (by omega) (by omega) (by omega) (by omega)) m_X4_moves a_l_X4_176 rfl rfl ⟨Nat.le_of_ble_eq_true rfl, Nat.le_of_ble_eq_true rfl⟩ rfl rfl (Nat.le_of_ble_eq_true rfl) dX4_back_21 ?_
  refine j_aload_n h 1 dX4_back_24 rfl rfl ?_
  refine jy_MkeptSizes h a_f_X4_28 dX4_back_25 ?_
  refine j_bipush h dX4_back_28 (by decide) ?_
  refine j_iload_n h 0 dX4_back_30 rfl rfl ?_
  refine j_imul h dX4_back_31 ?_
  refine j_aload_n h 1 dX4_back_32 rfl rfl ?_
  refine jy_Msizes h a_f_X4_13 dX4_back_33 ?_
  refine j_iconst h dX4_back_36 ?_
  refine j_bipush h dX4_back_37 (by decide) ?_
  refine j_callSv h (c_X4_moves hE (k := 6) (l := 1) (by omega) (by omega) (by omega) (by omega) (by omega) (by omega) (by omega) (by omega)) m_X4_moves a_l_X4_176 rfl rfl ⟨Nat.le_of_ble_eq_true rfl, Nat.le_of_ble_eq_true rfl⟩ rfl rfl (Nat.le_of_ble_eq_true rfl) dX4_back_39 ?_
  refine j_aload_n h 1 dX4_back_42 rfl rfl ?_
  refine j_aload_n h 1 dX4_back_43 rfl rfl ?_
  refine jy_MkeptMany h a_f_X4_31 dX4_back_44 ?_
  refine j_iload_n h 0 dX4_back_47 rfl rfl ?_
  refine jy_ld h (by omega) (by omega) (by omega) dX4_back_48 ?_
  refine jy_put_pieceMany h a_f_X4_138 dX4_back_49 ?_
  refine j_aload_n h 1 dX4_back_52 rfl rfl ?_
  refine jy_MkeptParted h a_f_X4_34 dX4_back_53 ?_
  refine j_sipush h dX4_back_56 (by decide) ?_
  refine j_iload_n h 0 dX4_back_59 rfl rfl ?_
  refine j_imul h dX4_back_60 ?_
  refine j_aload_n h 1 dX4_back_61 rfl rfl ?_
  refine jy_Mparted h a_f_X4_16 dX4_back_62 ?_
  refine j_iconst h dX4_back_65 ?_
  refine j_sipush h dX4_back_66 (by decide) ?_
  refine j_callSv h (c_X4_moves hE (k := 8) (l := 2) (by omega) (by omega) (by omega) (by omega) (by omega) (by omega) (by omega) (by omega)) m_X4_moves a_l_X4_176 rfl rfl ⟨Nat.le_of_ble_eq_true rfl, Nat.le_of_ble_eq_true rfl⟩ rfl rfl (Nat.le_of_ble_eq_true rfl) dX4_back_69 ?_
  refine j_aload_n h 1 dX4_back_72 rfl rfl ?_
  refine jy_MkeptFroms h a_f_X4_37 dX4_back_73 ?_
  refine j_sipush h dX4_back_76 (by decide) ?_
  refine j_iload_n h 0 dX4_back_79 rfl rfl ?_
  refine j_imul h dX4_back_80 ?_
  refine j_aload_n h 1 dX4_back_81 rfl rfl ?_
  refine jy_MpieceFroms h a_f_X4_19 dX4_back_82 ?_
  refine j_iconst h dX4_back_85 ?_
  refine j_sipush h dX4_back_86 (by decide) ?_
  refine j_callSv h (c_X4_moves hE (k := 9) (l := 3) (by omega) (by omega) (by omega) (by omega) (by omega) (by omega) (by omega) (by omega)) m_X4_moves a_l_X4_176 rfl rfl ⟨Nat.le_of_ble_eq_true rfl, Nat.le_of_ble_eq_true rfl⟩ rfl rfl (Nat.le_of_ble_eq_true rfl) dX4_back_89 ?_
  refine j_aload_n h 1 dX4_back_92 rfl rfl ?_
  refine jy_MkeptPieceSizes h a_f_X4_40 dX4_back_93 ?_
  refine j_sipush h dX4_back_96 (by decide) ?_
  refine j_iload_n h 0 dX4_back_99 rfl rfl ?_
  refine j_imul h dX4_back_100 ?_
  refine j_aload_n h 1 dX4_back_101 rfl rfl ?_
  refine jy_MpieceSizes h a_f_X4_22 dX4_back_102 ?_
  refine j_iconst h dX4_back_105 ?_
  refine j_sipush h dX4_back_106 (by decide) ?_
  refine j_callSv h (c_X4_moves hE (k := 10) (l := 4) (by omega) (by omega) (by omega) (by omega) (by omega) (by omega) (by omega) (by omega)) m_X4_moves a_l_X4_176 rfl rfl ⟨Nat.le_of_ble_eq_true rfl, Nat.le_of_ble_eq_true rfl⟩ rfl rfl (Nat.le_of_ble_eq_true rfl) dX4_back_109 ?_
  refine j_xB (aBack A (si a), mk) (hF.2.2.1 (si a) hsi).2.1 rfl ?_ ?_
  · obtain ⟨hx, hp, hk, hm, ho⟩ := hF
    obtain ⟨k1, k2, k3⟩ := hk (si a) hsi
    refine ⟨?_, ?_, hk, hm, ⟨ho.2 _ hsi, ho.2⟩⟩
    · show xR (va_cpy (F 5) (F 0) (2400 * fmo a 2).toNat (0 : Int).toNat (2400 : Int).toNat) (va_cpy (F 6) (F 1) (8 * fmo a 2).toNat (0 : Int).toNat (8 : Int).toNat) 0 0 (A.2.2.1 (si a))
      rw [show (2400 * fmo a 2).toNat = 2400 * si a by omega, show (8 * fmo a 2).toNat = 8 * si a by omega]
      exact xR_c k1 (fun j hj => cpy_in _ _ _ _ _ _ hj) (fun j hj => cpy_in _ _ _ _ _ _ hj)
    · show pR (va_cpy (F 8) (F 2) (300 * fmo a 2).toNat (0 : Int).toNat (300 : Int).toNat) (va_cpy (F 9) (F 3) (301 * fmo a 2).toNat (0 : Int).toNat (301 : Int).toNat) (va_cpy (F 10) (F 4) (301 * fmo a 2).toNat (0 : Int).toNat (301 : Int).toNat) 0 0 (A.2.2.2 (si a))
      rw [show (300 * fmo a 2).toNat = 300 * si a by omega, show (301 * fmo a 2).toNat = 301 * si a by omega]
      exact pR_c k3 (ho.2 _ hsi).2.2.1 (fun j hj => cpy_in _ _ _ _ _ _ hj) (fun j hj => cpy_in _ _ _ _ _ _ hj) (fun j hj => cpy_in _ _ _ _ _ _ hj)
  refine j_aload_n h 1 dX4_back_112 rfl rfl ?_
  refine j_callV h (c_X4_allSigns hE) m_X4_allSigns a_l_X4_180 rfl rfl ⟨Nat.le_of_ble_eq_true rfl, Nat.le_of_ble_eq_true rfl⟩ (ci := 4) rfl (by omega) (rcM) rfl rfl (Nat.le_of_ble_eq_true rfl) dX4_back_113 ?_
  have hq := fnM mk hq
  exact j_iret h hq rfl dX4_back_116
