/-! the class's constructor, the reference's -/
def sS1 (E : EV) (h0 N k : Nat) (G : GH) : GH := va_up (gI E h0 (N + 1) N (va_up G N (.inr (0, fsI)))) k (.inr (3, [.ref (h0 + N), .null, .null, .null, .null]))
def sS2 (E : EV) (h0 N k : Nat) (G : GH) : GH := va_up (va_up (sS1 E h0 N k G) (N + 22) (.inl (eM E, 2, (.inr (.inr (.inr (.inr (fun _ => none)))))))) k (.inr (3, [.ref (h0 + N), .ref (h0 + (N + 22)), .null, .null, .null]))
def sS3 (E : EV) (h0 N k : Nat) (G : GH) : GH := va_up (gI E h0 (N + 24) (N + 23) (va_up (sS2 E h0 N k G) (N + 23) (.inr (0, fsI)))) (N + 22) (.inl (eM E, 2, (.inr (.inr (.inr (.inr (va_up (fun _ => none) 0 (some (h0 + (N + 23))))))))))
def sS4 (E : EV) (h0 N k : Nat) (G : GH) : GH := va_up (gI E h0 (N + 46) (N + 45) (va_up (sS3 E h0 N k G) (N + 45) (.inr (0, fsI)))) (N + 22) (.inl (eM E, 2, (.inr (.inr (.inr (.inr (va_up (va_up (fun _ => none) 0 (some (h0 + (N + 23)))) 1 (some (h0 + (N + 45))))))))))
def sS5 (E : EV) (h0 N k : Nat) (G : GH) : GH := va_up (gT E h0 (N + 68) (N + 67) 600 (va_up (sS4 E h0 N k G) (N + 67) (.inr (2, fsT)))) k (.inr (3, [.ref (h0 + N), .ref (h0 + (N + 22)), .ref (h0 + (N + 67)), .null, .null]))
def sS6 (E : EV) (h0 N k : Nat) (G : GH) : GH := va_up (gT E h0 (N + 70) (N + 69) 600 (va_up (sS5 E h0 N k G) (N + 69) (.inr (2, fsT)))) k (.inr (3, [.ref (h0 + N), .ref (h0 + (N + 22)), .ref (h0 + (N + 67)), .ref (h0 + (N + 69)), .null]))
def gS (E : EV) (h0 N k : Nat) (G : GH) : GH := va_up (gP E h0 (N + 72) (N + 71) (va_up (sS6 E h0 N k G) (N + 71) (.inr (1, fsP)))) k (.inr (3, [.ref (h0 + N), .ref (h0 + (N + 22)), .ref (h0 + (N + 67)), .ref (h0 + (N + 69)), .ref (h0 + (N + 71))]))
theorem sS2_k {E : EV} {h0 N k : Nat} {G : GH} : sS2 E h0 N k G k = .inr (3, [.ref (h0 + N), .ref (h0 + (N + 22)), .null, .null, .null]) := va_up_self _ _ _
theorem sS3_k {E : EV} {h0 N k : Nat} {G : GH} (hk : k < N) : sS3 E h0 N k G k = .inr (3, [.ref (h0 + N), .ref (h0 + (N + 22)), .null, .null, .null]) := by
  unfold sS3
  rw [va_up_ne _ _ (by omega), gI_ne (Or.inl (by omega)) (by omega) (by omega), va_up_ne _ _ (by omega), sS2_k]
theorem sS4_k {E : EV} {h0 N k : Nat} {G : GH} (hk : k < N) : sS4 E h0 N k G k = .inr (3, [.ref (h0 + N), .ref (h0 + (N + 22)), .null, .null, .null]) := by
  unfold sS4
  rw [va_up_ne _ _ (by omega), gI_ne (Or.inl (by omega)) (by omega) (by omega), va_up_ne _ _ (by omega), sS3_k hk]
set_option maxRecDepth 20000 in
theorem i_X3 {E : EV} {h0 N k : Nat} {G : GH} (hk : k < N) (hg : G k = .inr (3, fsS)) : CtG E h0 yX3_init wsX3_init rGS [.ref (h0 + k)] N G 75 10908 (gS E h0 N k G) := by
  refine ctg_of [(0, _)] (by decide) rfl rfl (Nat.le_of_ble_eq_true rfl) rfl (fun X h hq => ?_)
  refine g_aload_n h 0 dX3_init_0 rfl rfl ?_
  refine g_obj h a_l_X3_1 ⟨Nat.le_of_ble_eq_true rfl, Nat.le_of_ble_eq_true rfl⟩ dX3_init_1 ?_
  refine g_aload_n h 0 dX3_init_4 rfl rfl ?_
  refine g_new h tyX0 tyX0_ok inX0 a_x_X3_7 a_m_X0 a_n_X0 (ci := 0) rfl fsI (fun j hj => by rcases (show j = 0 ∨ j = 1 by omega) with rfl | rfl <;> rfl) (Nat.le_of_ble_eq_true rfl) (Nat.le_of_ble_eq_true rfl) dX3_init_5 ?_
  refine g_n (kc2 := 1) (sc2 := 2) rfl rfl ?_
  refine g_dup h dX3_init_8 rfl ?_
  refine g_call h (i := N) (i_X0 (N := N + 1) (k := N) (by omega) (va_up_self _ _ _)) m_X0_init a_l_X3_9 rfl rfl ⟨Nat.le_of_ble_eq_true rfl, Nat.le_of_ble_eq_true rfl⟩ (As := []) rfl rfl (Nat.le_of_ble_eq_true rfl) (Nat.le_of_ble_eq_true rfl) (Nat.le_of_ble_eq_true rfl) dX3_init_9 ?_
  refine g_n (kc2 := 22) (sc2 := 3032) rfl rfl ?_
  refine g_put h fsS 0 inX3 tyX3 tyX3_ok nmX3 (ci := 3) rfl (by decide) a_f_X3_10 rfl rfl rfl rfl (by omega) ((gI_ne (Or.inl (by omega)) (by omega) (by omega)).trans ((va_up_ne _ _ (by omega)).trans hg)) (Nat.le_of_ble_eq_true rfl) dX3_init_12 ?_
  refine g_aload_n h 0 dX3_init_15 rfl rfl ?_
  refine g_iconst h dX3_init_16 ?_
  refine g_newA h 2 (cA0 := eM E) (fun U q => q.2) rfl a_x_X3_7 (by decide) (by decide) (Nat.le_of_ble_eq_true rfl) (Nat.le_of_ble_eq_true rfl) dX3_init_17 ?_
  refine g_n (kc2 := 23) (sc2 := 3034) rfl rfl ?_
  refine g_put h [.ref (h0 + N), .null, .null, .null, .null] 1 inX3 tyX3 tyX3_ok nmX3 (ci := 3) rfl (by decide) a_f_X3_16 rfl rfl rfl rfl (by omega) ((va_up_ne _ _ (by omega)).trans (va_up_self _ _ _)) (Nat.le_of_ble_eq_true rfl) dX3_init_20 ?_
  refine g_G (G2 := sS2 E h0 N k G) rfl ?_
  refine g_iconst h dX3_init_23 ?_
  refine g_istore_n h [(1, _), (0, _)] dX3_init_24 rfl (by decide) rfl ?_
  refine g_iload_n h 0 dX3_init_25 rfl rfl ?_
  refine g_iconst h dX3_init_26 ?_
  refine g_icmp_ge h 49 dX3_init_27 (by decide) ⟨by decide, by decide⟩ ⟨by decide, by decide⟩ (fun c => absurd c (by decide)) (fun c => ?_)
  refine g_aload_n h 1 dX3_init_30 rfl rfl ?_
  refine g_get h 1 inX3 (ci := 3) rfl (by decide) a_f_X3_16 (by omega) (sS2_k) rfl dX3_init_31 ?_
  refine g_iload_n h 0 dX3_init_34 rfl rfl ?_
  refine g_new h tyX0 tyX0_ok inX0 a_x_X3_7 a_m_X0 a_n_X0 (ci := 0) rfl fsI (fun j hj => by rcases (show j = 0 ∨ j = 1 by omega) with rfl | rfl <;> rfl) (Nat.le_of_ble_eq_true rfl) (Nat.le_of_ble_eq_true rfl) dX3_init_35 ?_
  refine g_n (kc2 := 24) (sc2 := 3036) rfl rfl ?_
  refine g_dup h dX3_init_38 rfl ?_
  refine g_call h (i := N + 23) (i_X0 (N := N + 24) (k := N + 23) (by omega) (va_up_self _ _ _)) m_X0_init a_l_X3_9 rfl rfl ⟨Nat.le_of_ble_eq_true rfl, Nat.le_of_ble_eq_true rfl⟩ (As := []) rfl rfl (Nat.le_of_ble_eq_true rfl) (Nat.le_of_ble_eq_true rfl) (Nat.le_of_ble_eq_true rfl) dX3_init_39 ?_
  refine g_n (kc2 := 45) (sc2 := 6066) rfl rfl ?_
  refine g_ast h (i := N + 22) (j := N + 23) 2 0 (cA := eM E) (q := (RX0, TX0, 2)) (len := 2) (f := fun _ => none) (vs := [.ref (h0 + (N + 24)), .ref (h0 + (N + 41))]) (by omega) (by omega) rfl rfl (by omega) ((gI_ne (Or.inl (by omega)) (by omega) (by omega)).trans ((va_up_ne _ _ (by omega)).trans ((va_up_ne _ _ (by omega)).trans (va_up_self _ _ _)))) (by omega) (va_up_self _ _ _) dX3_init_42 ?_
  refine g_G (G2 := sS3 E h0 N k G) rfl ?_
  refine g_iinc h 0 [(1, _), (0, _)] dX3_init_43 rfl (by decide) rfl ?_
  refine g_goto h 25 dX3_init_46 (by decide) ?_
  refine g_iload_n h 0 dX3_init_25 rfl rfl ?_
  refine g_iconst h dX3_init_26 ?_
  refine g_icmp_ge h 49 dX3_init_27 (by decide) ⟨by decide, by decide⟩ ⟨by decide, by decide⟩ (fun c => absurd c (by decide)) (fun c => ?_)
  refine g_aload_n h 1 dX3_init_30 rfl rfl ?_
  refine g_get h 1 inX3 (ci := 3) rfl (by decide) a_f_X3_16 (by omega) (sS3_k hk) rfl dX3_init_31 ?_
  refine g_iload_n h 0 dX3_init_34 rfl rfl ?_
  refine g_new h tyX0 tyX0_ok inX0 a_x_X3_7 a_m_X0 a_n_X0 (ci := 0) rfl fsI (fun j hj => by rcases (show j = 0 ∨ j = 1 by omega) with rfl | rfl <;> rfl) (Nat.le_of_ble_eq_true rfl) (Nat.le_of_ble_eq_true rfl) dX3_init_35 ?_
  refine g_n (kc2 := 46) (sc2 := 6068) rfl rfl ?_
  refine g_dup h dX3_init_38 rfl ?_
  refine g_call h (i := N + 45) (i_X0 (N := N + 46) (k := N + 45) (by omega) (va_up_self _ _ _)) m_X0_init a_l_X3_9 rfl rfl ⟨Nat.le_of_ble_eq_true rfl, Nat.le_of_ble_eq_true rfl⟩ (As := []) rfl rfl (Nat.le_of_ble_eq_true rfl) (Nat.le_of_ble_eq_true rfl) (Nat.le_of_ble_eq_true rfl) dX3_init_39 ?_
  refine g_n (kc2 := 67) (sc2 := 9098) rfl rfl ?_
  refine g_ast h (i := N + 22) (j := N + 45) 2 0 (cA := eM E) (q := (RX0, TX0, 2)) (len := 2) (f := va_up (fun _ => none) 0 (some (h0 + (N + 23)))) (vs := [.ref (h0 + (N + 46)), .ref (h0 + (N + 63))]) (by omega) (by omega) rfl rfl (by omega) ((gI_ne (Or.inl (by omega)) (by omega) (by omega)).trans ((va_up_ne _ _ (by omega)).trans (va_up_self _ _ _))) (by omega) (va_up_self _ _ _) dX3_init_42 ?_
  refine g_G (G2 := sS4 E h0 N k G) rfl ?_
  refine g_iinc h 0 [(1, _), (0, _)] dX3_init_43 rfl (by decide) rfl ?_
  refine g_goto h 25 dX3_init_46 (by decide) ?_
  refine g_iload_n h 0 dX3_init_25 rfl rfl ?_
  refine g_iconst h dX3_init_26 ?_
  refine g_icmp_ge h 49 dX3_init_27 (by decide) ⟨by decide, by decide⟩ ⟨by decide, by decide⟩ (fun c => ?_) (fun c => absurd c (by decide))
  refine g_aload_n h 1 dX3_init_49 rfl rfl ?_
  refine g_new h tyX2 tyX2_ok inX2 a_x_X3_20 a_m_X2 a_n_X2 (ci := 2) rfl fsT (fun j hj => by rcases (show j = 0 ∨ j = 1 by omega) with rfl | rfl <;> rfl) (Nat.le_of_ble_eq_true rfl) (Nat.le_of_ble_eq_true rfl) dX3_init_50 ?_
  refine g_n (kc2 := 68) (sc2 := 9100) rfl rfl ?_
  refine g_dup h dX3_init_53 rfl ?_
  refine g_sipush h dX3_init_54 (by decide) ?_
  refine g_call h (i := N + 67) (i_X2 (N := N + 68) (k := N + 67) (n := 600) (by omega) (va_up_self _ _ _) (by omega)) m_X2_init a_l_X3_22 rfl rfl ⟨Nat.le_of_ble_eq_true rfl, Nat.le_of_ble_eq_true rfl⟩ (As := [.int (iI 600)]) rfl rfl (Nat.le_of_ble_eq_true rfl) (Nat.le_of_ble_eq_true rfl) (Nat.le_of_ble_eq_true rfl) dX3_init_57 ?_
  refine g_n (kc2 := 69) (sc2 := 9700) rfl rfl ?_
  refine g_put h [.ref (h0 + N), .ref (h0 + (N + 22)), .null, .null, .null] 2 inX3 tyX3 tyX3_ok nmX3 (ci := 3) rfl (by decide) a_f_X3_25 rfl rfl rfl rfl (by omega) ((gT_ne (by omega) (by omega)).trans ((va_up_ne _ _ (by omega)).trans (sS4_k hk))) (Nat.le_of_ble_eq_true rfl) dX3_init_60 ?_
  refine g_G (G2 := sS5 E h0 N k G) rfl ?_
  refine g_aload_n h 1 dX3_init_63 rfl rfl ?_
  refine g_new h tyX2 tyX2_ok inX2 a_x_X3_20 a_m_X2 a_n_X2 (ci := 2) rfl fsT (fun j hj => by rcases (show j = 0 ∨ j = 1 by omega) with rfl | rfl <;> rfl) (Nat.le_of_ble_eq_true rfl) (Nat.le_of_ble_eq_true rfl) dX3_init_64 ?_
  refine g_n (kc2 := 70) (sc2 := 9702) rfl rfl ?_
  refine g_dup h dX3_init_67 rfl ?_
  refine g_sipush h dX3_init_68 (by decide) ?_
  refine g_call h (i := N + 69) (i_X2 (N := N + 70) (k := N + 69) (n := 600) (by omega) (va_up_self _ _ _) (by omega)) m_X2_init a_l_X3_22 rfl rfl ⟨Nat.le_of_ble_eq_true rfl, Nat.le_of_ble_eq_true rfl⟩ (As := [.int (iI 600)]) rfl rfl (Nat.le_of_ble_eq_true rfl) (Nat.le_of_ble_eq_true rfl) (Nat.le_of_ble_eq_true rfl) dX3_init_71 ?_
  refine g_n (kc2 := 71) (sc2 := 10302) rfl rfl ?_
  refine g_put h [.ref (h0 + N), .ref (h0 + (N + 22)), .ref (h0 + (N + 67)), .null, .null] 3 inX3 tyX3 tyX3_ok nmX3 (ci := 3) rfl (by decide) a_f_X3_29 rfl rfl rfl rfl (by omega) ((gT_ne (by omega) (by omega)).trans ((va_up_ne _ _ (by omega)).trans (va_up_self _ _ _))) (Nat.le_of_ble_eq_true rfl) dX3_init_74 ?_
  refine g_G (G2 := sS6 E h0 N k G) rfl ?_
  refine g_aload_n h 1 dX3_init_77 rfl rfl ?_
  refine g_new h tyX1 tyX1_ok inX1 a_x_X3_32 a_m_X1 a_n_X1 (ci := 1) rfl fsP (fun j hj => by rcases (show j = 0 ∨ j = 1 ∨ j = 2 by omega) with rfl | rfl | rfl <;> rfl) (Nat.le_of_ble_eq_true rfl) (Nat.le_of_ble_eq_true rfl) dX3_init_78 ?_
  refine g_n (kc2 := 72) (sc2 := 10305) rfl rfl ?_
  refine g_dup h dX3_init_81 rfl ?_
  refine g_call h (i := N + 71) (i_X1 (N := N + 72) (k := N + 71) (by omega) (va_up_self _ _ _)) m_X1_init a_l_X3_34 rfl rfl ⟨Nat.le_of_ble_eq_true rfl, Nat.le_of_ble_eq_true rfl⟩ (As := []) rfl rfl (Nat.le_of_ble_eq_true rfl) (Nat.le_of_ble_eq_true rfl) (Nat.le_of_ble_eq_true rfl) dX3_init_82 ?_
  refine g_n (kc2 := 75) (sc2 := 10908) rfl rfl ?_
  refine g_put h [.ref (h0 + N), .ref (h0 + (N + 22)), .ref (h0 + (N + 67)), .ref (h0 + (N + 69)), .null] 4 inX3 tyX3 tyX3_ok nmX3 (ci := 3) rfl (by decide) a_f_X3_35 rfl rfl rfl rfl (by omega) ((gP_ne (by omega) (by omega) (by omega) (by omega)).trans ((va_up_ne _ _ (by omega)).trans (va_up_self _ _ _))) (Nat.le_of_ble_eq_true rfl) dX3_init_85 ?_
  exact g_vret h hq dX3_init_88
def sM1 (E : EV) (h0 N k : Nat) (G : GH) : GH := va_up (va_up (G) N (iA E 2400 (fun _ => 0))) k (.inr (4, [.ref (h0 + N), .null, .int 0, .null, .null, .null, .null, .null, .null, .null, .null, .null, .null, .int 0]))
def sM2 (E : EV) (h0 N k : Nat) (G : GH) : GH := va_up (va_up (sM1 E h0 N k G) (N + 1) (iA E 8 (fun _ => 0))) k (.inr (4, [.ref (h0 + N), .ref (h0 + (N + 1)), .int 0, .null, .null, .null, .null, .null, .null, .null, .null, .null, .null, .int 0]))
def sM3 (E : EV) (h0 N k : Nat) (G : GH) : GH := va_up (va_up (sM2 E h0 N k G) (N + 2) (iA E 300 (fun _ => 0))) k (.inr (4, [.ref (h0 + N), .ref (h0 + (N + 1)), .int 0, .ref (h0 + (N + 2)), .null, .null, .null, .null, .null, .null, .null, .null, .null, .int 0]))
def sM4 (E : EV) (h0 N k : Nat) (G : GH) : GH := va_up (va_up (sM3 E h0 N k G) (N + 3) (iA E 301 (fun _ => 0))) k (.inr (4, [.ref (h0 + N), .ref (h0 + (N + 1)), .int 0, .ref (h0 + (N + 2)), .ref (h0 + (N + 3)), .null, .null, .null, .null, .null, .null, .null, .null, .int 0]))
def sM5 (E : EV) (h0 N k : Nat) (G : GH) : GH := va_up (va_up (sM4 E h0 N k G) (N + 4) (iA E 301 (fun _ => 0))) k (.inr (4, [.ref (h0 + N), .ref (h0 + (N + 1)), .int 0, .ref (h0 + (N + 2)), .ref (h0 + (N + 3)), .ref (h0 + (N + 4)), .null, .null, .null, .null, .null, .null, .null, .int 0]))
def sM6 (E : EV) (h0 N k : Nat) (G : GH) : GH := va_up (va_up (sM5 E h0 N k G) (N + 5) (iA E 4800 (fun _ => 0))) k (.inr (4, [.ref (h0 + N), .ref (h0 + (N + 1)), .int 0, .ref (h0 + (N + 2)), .ref (h0 + (N + 3)), .ref (h0 + (N + 4)), .ref (h0 + (N + 5)), .null, .null, .null, .null, .null, .null, .int 0]))
def sM7 (E : EV) (h0 N k : Nat) (G : GH) : GH := va_up (va_up (sM6 E h0 N k G) (N + 6) (iA E 16 (fun _ => 0))) k (.inr (4, [.ref (h0 + N), .ref (h0 + (N + 1)), .int 0, .ref (h0 + (N + 2)), .ref (h0 + (N + 3)), .ref (h0 + (N + 4)), .ref (h0 + (N + 5)), .ref (h0 + (N + 6)), .null, .null, .null, .null, .null, .int 0]))
def sM8 (E : EV) (h0 N k : Nat) (G : GH) : GH := va_up (va_up (sM7 E h0 N k G) (N + 7) (iA E 2 (fun _ => 0))) k (.inr (4, [.ref (h0 + N), .ref (h0 + (N + 1)), .int 0, .ref (h0 + (N + 2)), .ref (h0 + (N + 3)), .ref (h0 + (N + 4)), .ref (h0 + (N + 5)), .ref (h0 + (N + 6)), .ref (h0 + (N + 7)), .null, .null, .null, .null, .int 0]))
def sM9 (E : EV) (h0 N k : Nat) (G : GH) : GH := va_up (va_up (sM8 E h0 N k G) (N + 8) (iA E 600 (fun _ => 0))) k (.inr (4, [.ref (h0 + N), .ref (h0 + (N + 1)), .int 0, .ref (h0 + (N + 2)), .ref (h0 + (N + 3)), .ref (h0 + (N + 4)), .ref (h0 + (N + 5)), .ref (h0 + (N + 6)), .ref (h0 + (N + 7)), .ref (h0 + (N + 8)), .null, .null, .null, .int 0]))
def sM10 (E : EV) (h0 N k : Nat) (G : GH) : GH := va_up (va_up (sM9 E h0 N k G) (N + 9) (iA E 602 (fun _ => 0))) k (.inr (4, [.ref (h0 + N), .ref (h0 + (N + 1)), .int 0, .ref (h0 + (N + 2)), .ref (h0 + (N + 3)), .ref (h0 + (N + 4)), .ref (h0 + (N + 5)), .ref (h0 + (N + 6)), .ref (h0 + (N + 7)), .ref (h0 + (N + 8)), .ref (h0 + (N + 9)), .null, .null, .int 0]))
def sM11 (E : EV) (h0 N k : Nat) (G : GH) : GH := va_up (va_up (sM10 E h0 N k G) (N + 10) (iA E 602 (fun _ => 0))) k (.inr (4, [.ref (h0 + N), .ref (h0 + (N + 1)), .int 0, .ref (h0 + (N + 2)), .ref (h0 + (N + 3)), .ref (h0 + (N + 4)), .ref (h0 + (N + 5)), .ref (h0 + (N + 6)), .ref (h0 + (N + 7)), .ref (h0 + (N + 8)), .ref (h0 + (N + 9)), .ref (h0 + (N + 10)), .null, .int 0]))
def sM12 (E : EV) (h0 N k : Nat) (G : GH) : GH := va_up (va_up (sM11 E h0 N k G) (N + 11) (iA E 300 (fun _ => 0))) k (.inr (4, [.ref (h0 + N), .ref (h0 + (N + 1)), .int 0, .ref (h0 + (N + 2)), .ref (h0 + (N + 3)), .ref (h0 + (N + 4)), .ref (h0 + (N + 5)), .ref (h0 + (N + 6)), .ref (h0 + (N + 7)), .ref (h0 + (N + 8)), .ref (h0 + (N + 9)), .ref (h0 + (N + 10)), .ref (h0 + (N + 11)), .int 0]))
def gM (E : EV) (h0 N k : Nat) (G : GH) : GH := sM12 E h0 N k G
set_option maxRecDepth 20000 in
theorem i_X4 {E : EV} {h0 N k : Nat} {G : GH} (hk : k < N) (hg : G k = .inr (4, fsM)) : CtG E h0 yX4_init wsX4_init rGM [.ref (h0 + k)] N G 12 10232 (gM E h0 N k G) := by
  refine ctg_of [(0, _)] (by decide) rfl rfl (Nat.le_of_ble_eq_true rfl) rfl (fun X h hq => ?_)
  refine g_aload_n h 0 dX4_init_0 rfl rfl ?_
  refine g_obj h a_l_X4_1 ⟨Nat.le_of_ble_eq_true rfl, Nat.le_of_ble_eq_true rfl⟩ dX4_init_1 ?_
  refine g_aload_n h 0 dX4_init_4 rfl rfl ?_
  refine g_sipush h dX4_init_5 (by decide) ?_
  refine g_newI h (by decide) (by decide) (Nat.le_of_ble_eq_true rfl) (Nat.le_of_ble_eq_true rfl) dX4_init_8 ?_
  refine g_n (kc2 := 1) (sc2 := 2400) rfl rfl ?_
  refine g_put h [.null, .null, .int 0, .null, .null, .null, .null, .null, .null, .null, .null, .null, .null, .int 0] 0 inX4 tyX4 tyX4_ok nmX4 (ci := 4) rfl (by decide) a_f_X4_7 rfl rfl rfl rfl (by omega) ((va_up_ne _ _ (by omega)).trans hg) (Nat.le_of_ble_eq_true rfl) dX4_init_10 ?_
  refine g_G (G2 := sM1 E h0 N k G) rfl ?_
  refine g_aload_n h 0 dX4_init_13 rfl rfl ?_
  refine g_bipush h dX4_init_14 (by decide) ?_
  refine g_newI h (by decide) (by decide) (Nat.le_of_ble_eq_true rfl) (Nat.le_of_ble_eq_true rfl) dX4_init_16 ?_
  refine g_n (kc2 := 2) (sc2 := 2408) rfl rfl ?_
  refine g_put h [.ref (h0 + N), .null, .int 0, .null, .null, .null, .null, .null, .null, .null, .null, .null, .null, .int 0] 1 inX4 tyX4 tyX4_ok nmX4 (ci := 4) rfl (by decide) a_f_X4_13 rfl rfl rfl rfl (by omega) ((va_up_ne _ _ (by omega)).trans (va_up_self _ _ _)) (Nat.le_of_ble_eq_true rfl) dX4_init_18 ?_
  refine g_G (G2 := sM2 E h0 N k G) rfl ?_
  refine g_aload_n h 0 dX4_init_21 rfl rfl ?_
  refine g_sipush h dX4_init_22 (by decide) ?_
  refine g_newI h (by decide) (by decide) (Nat.le_of_ble_eq_true rfl) (Nat.le_of_ble_eq_true rfl) dX4_init_25 ?_
  refine g_n (kc2 := 3) (sc2 := 2708) rfl rfl ?_
  refine g_put h [.ref (h0 + N), .ref (h0 + (N + 1)), .int 0, .null, .null, .null, .null, .null, .null, .null, .null, .null, .null, .int 0] 3 inX4 tyX4 tyX4_ok nmX4 (ci := 4) rfl (by decide) a_f_X4_16 rfl rfl rfl rfl (by omega) ((va_up_ne _ _ (by omega)).trans (va_up_self _ _ _)) (Nat.le_of_ble_eq_true rfl) dX4_init_27 ?_
  refine g_G (G2 := sM3 E h0 N k G) rfl ?_
  refine g_aload_n h 0 dX4_init_30 rfl rfl ?_
  refine g_sipush h dX4_init_31 (by decide) ?_
  refine g_newI h (by decide) (by decide) (Nat.le_of_ble_eq_true rfl) (Nat.le_of_ble_eq_true rfl) dX4_init_34 ?_
  refine g_n (kc2 := 4) (sc2 := 3009) rfl rfl ?_
  refine g_put h [.ref (h0 + N), .ref (h0 + (N + 1)), .int 0, .ref (h0 + (N + 2)), .null, .null, .null, .null, .null, .null, .null, .null, .null, .int 0] 4 inX4 tyX4 tyX4_ok nmX4 (ci := 4) rfl (by decide) a_f_X4_19 rfl rfl rfl rfl (by omega) ((va_up_ne _ _ (by omega)).trans (va_up_self _ _ _)) (Nat.le_of_ble_eq_true rfl) dX4_init_36 ?_
  refine g_G (G2 := sM4 E h0 N k G) rfl ?_
  refine g_aload_n h 0 dX4_init_39 rfl rfl ?_
  refine g_sipush h dX4_init_40 (by decide) ?_
  refine g_newI h (by decide) (by decide) (Nat.le_of_ble_eq_true rfl) (Nat.le_of_ble_eq_true rfl) dX4_init_43 ?_
  refine g_n (kc2 := 5) (sc2 := 3310) rfl rfl ?_
  refine g_put h [.ref (h0 + N), .ref (h0 + (N + 1)), .int 0, .ref (h0 + (N + 2)), .ref (h0 + (N + 3)), .null, .null, .null, .null, .null, .null, .null, .null, .int 0] 5 inX4 tyX4 tyX4_ok nmX4 (ci := 4) rfl (by decide) a_f_X4_22 rfl rfl rfl rfl (by omega) ((va_up_ne _ _ (by omega)).trans (va_up_self _ _ _)) (Nat.le_of_ble_eq_true rfl) dX4_init_45 ?_
  refine g_G (G2 := sM5 E h0 N k G) rfl ?_
  refine g_aload_n h 0 dX4_init_48 rfl rfl ?_
  refine g_sipush h dX4_init_49 (by decide) ?_
  refine g_newI h (by decide) (by decide) (Nat.le_of_ble_eq_true rfl) (Nat.le_of_ble_eq_true rfl) dX4_init_52 ?_
  refine g_n (kc2 := 6) (sc2 := 8110) rfl rfl ?_
  refine g_put h [.ref (h0 + N), .ref (h0 + (N + 1)), .int 0, .ref (h0 + (N + 2)), .ref (h0 + (N + 3)), .ref (h0 + (N + 4)), .null, .null, .null, .null, .null, .null, .null, .int 0] 6 inX4 tyX4 tyX4_ok nmX4 (ci := 4) rfl (by decide) a_f_X4_25 rfl rfl rfl rfl (by omega) ((va_up_ne _ _ (by omega)).trans (va_up_self _ _ _)) (Nat.le_of_ble_eq_true rfl) dX4_init_54 ?_
  refine g_G (G2 := sM6 E h0 N k G) rfl ?_
  refine g_aload_n h 0 dX4_init_57 rfl rfl ?_
  refine g_bipush h dX4_init_58 (by decide) ?_
  refine g_newI h (by decide) (by decide) (Nat.le_of_ble_eq_true rfl) (Nat.le_of_ble_eq_true rfl) dX4_init_60 ?_
  refine g_n (kc2 := 7) (sc2 := 8126) rfl rfl ?_
  refine g_put h [.ref (h0 + N), .ref (h0 + (N + 1)), .int 0, .ref (h0 + (N + 2)), .ref (h0 + (N + 3)), .ref (h0 + (N + 4)), .ref (h0 + (N + 5)), .null, .null, .null, .null, .null, .null, .int 0] 7 inX4 tyX4 tyX4_ok nmX4 (ci := 4) rfl (by decide) a_f_X4_28 rfl rfl rfl rfl (by omega) ((va_up_ne _ _ (by omega)).trans (va_up_self _ _ _)) (Nat.le_of_ble_eq_true rfl) dX4_init_62 ?_
  refine g_G (G2 := sM7 E h0 N k G) rfl ?_
  refine g_aload_n h 0 dX4_init_65 rfl rfl ?_
  refine g_iconst h dX4_init_66 ?_
  refine g_newI h (by decide) (by decide) (Nat.le_of_ble_eq_true rfl) (Nat.le_of_ble_eq_true rfl) dX4_init_67 ?_
  refine g_n (kc2 := 8) (sc2 := 8128) rfl rfl ?_
  refine g_put h [.ref (h0 + N), .ref (h0 + (N + 1)), .int 0, .ref (h0 + (N + 2)), .ref (h0 + (N + 3)), .ref (h0 + (N + 4)), .ref (h0 + (N + 5)), .ref (h0 + (N + 6)), .null, .null, .null, .null, .null, .int 0] 8 inX4 tyX4 tyX4_ok nmX4 (ci := 4) rfl (by decide) a_f_X4_31 rfl rfl rfl rfl (by omega) ((va_up_ne _ _ (by omega)).trans (va_up_self _ _ _)) (Nat.le_of_ble_eq_true rfl) dX4_init_69 ?_
  refine g_G (G2 := sM8 E h0 N k G) rfl ?_
  refine g_aload_n h 0 dX4_init_72 rfl rfl ?_
  refine g_sipush h dX4_init_73 (by decide) ?_
  refine g_newI h (by decide) (by decide) (Nat.le_of_ble_eq_true rfl) (Nat.le_of_ble_eq_true rfl) dX4_init_76 ?_
  refine g_n (kc2 := 9) (sc2 := 8728) rfl rfl ?_
  refine g_put h [.ref (h0 + N), .ref (h0 + (N + 1)), .int 0, .ref (h0 + (N + 2)), .ref (h0 + (N + 3)), .ref (h0 + (N + 4)), .ref (h0 + (N + 5)), .ref (h0 + (N + 6)), .ref (h0 + (N + 7)), .null, .null, .null, .null, .int 0] 9 inX4 tyX4 tyX4_ok nmX4 (ci := 4) rfl (by decide) a_f_X4_34 rfl rfl rfl rfl (by omega) ((va_up_ne _ _ (by omega)).trans (va_up_self _ _ _)) (Nat.le_of_ble_eq_true rfl) dX4_init_78 ?_
  refine g_G (G2 := sM9 E h0 N k G) rfl ?_
  refine g_aload_n h 0 dX4_init_81 rfl rfl ?_
  refine g_sipush h dX4_init_82 (by decide) ?_
  refine g_newI h (by decide) (by decide) (Nat.le_of_ble_eq_true rfl) (Nat.le_of_ble_eq_true rfl) dX4_init_85 ?_
  refine g_n (kc2 := 10) (sc2 := 9330) rfl rfl ?_
  refine g_put h [.ref (h0 + N), .ref (h0 + (N + 1)), .int 0, .ref (h0 + (N + 2)), .ref (h0 + (N + 3)), .ref (h0 + (N + 4)), .ref (h0 + (N + 5)), .ref (h0 + (N + 6)), .ref (h0 + (N + 7)), .ref (h0 + (N + 8)), .null, .null, .null, .int 0] 10 inX4 tyX4 tyX4_ok nmX4 (ci := 4) rfl (by decide) a_f_X4_37 rfl rfl rfl rfl (by omega) ((va_up_ne _ _ (by omega)).trans (va_up_self _ _ _)) (Nat.le_of_ble_eq_true rfl) dX4_init_87 ?_
  refine g_G (G2 := sM10 E h0 N k G) rfl ?_
  refine g_aload_n h 0 dX4_init_90 rfl rfl ?_
  refine g_sipush h dX4_init_91 (by decide) ?_
  refine g_newI h (by decide) (by decide) (Nat.le_of_ble_eq_true rfl) (Nat.le_of_ble_eq_true rfl) dX4_init_94 ?_
  refine g_n (kc2 := 11) (sc2 := 9932) rfl rfl ?_
  refine g_put h [.ref (h0 + N), .ref (h0 + (N + 1)), .int 0, .ref (h0 + (N + 2)), .ref (h0 + (N + 3)), .ref (h0 + (N + 4)), .ref (h0 + (N + 5)), .ref (h0 + (N + 6)), .ref (h0 + (N + 7)), .ref (h0 + (N + 8)), .ref (h0 + (N + 9)), .null, .null, .int 0] 11 inX4 tyX4 tyX4_ok nmX4 (ci := 4) rfl (by decide) a_f_X4_40 rfl rfl rfl rfl (by omega) ((va_up_ne _ _ (by omega)).trans (va_up_self _ _ _)) (Nat.le_of_ble_eq_true rfl) dX4_init_96 ?_
  refine g_G (G2 := sM11 E h0 N k G) rfl ?_
  refine g_aload_n h 0 dX4_init_99 rfl rfl ?_
  refine g_sipush h dX4_init_100 (by decide) ?_
  refine g_newI h (by decide) (by decide) (Nat.le_of_ble_eq_true rfl) (Nat.le_of_ble_eq_true rfl) dX4_init_103 ?_
  refine g_n (kc2 := 12) (sc2 := 10232) rfl rfl ?_
  refine g_put h [.ref (h0 + N), .ref (h0 + (N + 1)), .int 0, .ref (h0 + (N + 2)), .ref (h0 + (N + 3)), .ref (h0 + (N + 4)), .ref (h0 + (N + 5)), .ref (h0 + (N + 6)), .ref (h0 + (N + 7)), .ref (h0 + (N + 8)), .ref (h0 + (N + 9)), .ref (h0 + (N + 10)), .null, .int 0] 12 inX4 tyX4 tyX4_ok nmX4 (ci := 4) rfl (by decide) a_f_X4_43 rfl rfl rfl rfl (by omega) ((va_up_ne _ _ (by omega)).trans (va_up_self _ _ _)) (Nat.le_of_ble_eq_true rfl) dX4_init_105 ?_
  refine g_G (G2 := sM12 E h0 N k G) rfl ?_
  exact g_vret h hq dX4_init_108
