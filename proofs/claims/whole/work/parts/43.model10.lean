/-! the reference: asked while it parts -/
set_option maxHeartbeats 400000 in
set_option maxRecDepth 20000 in
theorem x_sizeOf {E : EV} (hE : EOK E) {A : AS} {g0 : GH} {F : Nat → Nat → Int32} {pm mm : Int32} (hx : xR (F 0) (F 1) 0 0 A.1) {a : Int} (ha : okI a) : Ct E (RX E g0) yX4_sizeOf wsX4_sizeOf rX4_sizeOf [eA E 76, .int (iI a)] (F, pm, mm) (some (.int (iI (A.1 (sw a)).length))) (F, pm, mm) := by
  refine ct_of [(0, _), (1, _)] hE (by decide) rfl (Nat.le_of_ble_eq_true rfl) rfl (fun X h hq => ?_)
  have hL0 : LN 0 = 2400 := rfl
  have hL1 : LN 1 = 8 := rfl
  have hL2 : LN 2 = 300 := rfl
  have hL3 : LN 3 = 301 := rfl
  have hL4 : LN 4 = 301 := rfl
  have hL5 : LN 5 = 4800 := rfl
  have hL6 : LN 6 = 16 := rfl
  have hL7 : LN 7 = 2 := rfl
  have hL8 : LN 8 = 600 := rfl
  have hL9 : LN 9 = 602 := rfl
  have hL10 : LN 10 = 602 := rfl
  have hL11 : LN 11 = 300 := rfl
  have hw := sw_lt a
  have hfm : 0 ≤ fmo a 8 ∧ fmo a 8 < 8 := by unfold fmo; omega
  have hs : (fmo a 8).toNat = sw a := rfl
  have hxa := hx (sw a) hw
  simp only [Nat.zero_add] at hxa
  refine j_aload_n h 0 dX4_sizeOf_0 rfl rfl ?_
  refine jy_Msizes h a_f_X4_13 dX4_sizeOf_1 ?_
  refine j_iload_n h 1 dX4_sizeOf_4 rfl rfl ?_
  refine j_callS h (c_X4_meant hE ha) m_X4_meant a_l_X4_50 rfl rfl ⟨Nat.le_of_ble_eq_true rfl, Nat.le_of_ble_eq_true rfl⟩ rfl rfl (Nat.le_of_ble_eq_true rfl) dX4_sizeOf_5 ?_
  refine jy_ld h (by omega) (by omega) (by omega) dX4_sizeOf_8 ?_
  refine j_top hxa.1 ?_
  exact j_iret h hq rfl dX4_sizeOf_9
set_option maxHeartbeats 400000 in
set_option maxRecDepth 20000 in
theorem x_signAt {E : EV} (hE : EOK E) {A : AS} {g0 : GH} {F : Nat → Nat → Int32} {pm mm : Int32} (hx : xR (F 0) (F 1) 0 0 A.1) {a : Int} (ha : okI a) {p : Int} (h0 : 0 ≤ p) (h1 : p < (A.1 (sw a)).length) : Ct E (RX E g0) yX4_signAt wsX4_signAt rX4_signAt [eA E 76, .int (iI a), .int (iI p)] (F, pm, mm) (some (.int (gz (A.1 (sw a)) p.toNat))) (F, pm, mm) := by
  refine ct_of [(0, _), (1, _), (2, _)] hE (by decide) rfl (Nat.le_of_ble_eq_true rfl) rfl (fun X h hq => ?_)
  have hL0 : LN 0 = 2400 := rfl
  have hL1 : LN 1 = 8 := rfl
  have hL2 : LN 2 = 300 := rfl
  have hL3 : LN 3 = 301 := rfl
  have hL4 : LN 4 = 301 := rfl
  have hL5 : LN 5 = 4800 := rfl
  have hL6 : LN 6 = 16 := rfl
  have hL7 : LN 7 = 2 := rfl
  have hL8 : LN 8 = 600 := rfl
  have hL9 : LN 9 = 602 := rfl
  have hL10 : LN 10 = 602 := rfl
  have hL11 : LN 11 = 300 := rfl
  have hw := sw_lt a
  have hfm : 0 ≤ fmo a 8 ∧ fmo a 8 < 8 := by unfold fmo; omega
  have hs : (fmo a 8).toNat = sw a := rfl
  have hxa := hx (sw a) hw
  simp only [Nat.zero_add] at hxa
  refine j_aload_n h 0 dX4_signAt_0 rfl rfl ?_
  refine jy_Msigns h a_f_X4_7 dX4_signAt_1 ?_
  refine j_sipush h dX4_signAt_4 (by decide) ?_
  refine j_iload_n h 1 dX4_signAt_7 rfl rfl ?_
  refine j_callS h (c_X4_meant hE ha) m_X4_meant a_l_X4_50 rfl rfl ⟨Nat.le_of_ble_eq_true rfl, Nat.le_of_ble_eq_true rfl⟩ rfl rfl (Nat.le_of_ble_eq_true rfl) dX4_signAt_8 ?_
  refine j_imul h dX4_signAt_11 ?_
  refine j_iload_n h 2 dX4_signAt_12 rfl rfl ?_
  refine j_iadd h dX4_signAt_13 ?_
  refine jy_ld h (by omega) (by omega) (by omega) dX4_signAt_14 ?_
  refine j_top (y := gz (A.1 (sw a)) p.toNat) (by have := hxa.2.2 p.toNat (by omega); rw [show (300 * fmo a 8 + p).toNat = 300 * sw a + p.toNat by omega]; exact this) ?_
  exact j_iret h hq rfl dX4_signAt_15
