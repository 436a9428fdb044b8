/-! the constructors -/
abbrev rGT (n : Nat) : Room := { frames := 1, cells := 1, slots := n, locals := 21 }
abbrev rGP : Room := { frames := 2, cells := 3, slots := 603, locals := 42 }
abbrev rGI : Room := { frames := 3, cells := 21, slots := 3030, locals := 62 }
abbrev rGS : Room := { frames := 4, cells := 75, slots := 10908, locals := 83 }
abbrev rGM : Room := { frames := 1, cells := 12, slots := 10232, locals := 12 }
abbrev fsT : List Value := [.null, .int 0]
abbrev fsP : List Value := [.null, .null, .int 0]
abbrev fsI : List Value := [.null, .null]
abbrev fsS : List Value := [.null, .null, .null, .null, .null]
abbrev fsM : List Value := [.null, .null, .int 0, .null, .null, .null, .null, .null, .null, .null, .null, .null, .null, .int 0]
theorem g_n {E : EV} {h0 N0 : Nat} {X : TX} {pc : Nat} {lv : List (Nat × Value)} {st : List Value} {kc sc kc2 sc2 : Nat} {G : GH} (h1 : kc = kc2) (h2 : sc = sc2) (K : GL E h0 N0 X pc lv st kc2 sc2 G) : GL E h0 N0 X pc lv st kc sc G := by subst h1; subst h2; exact K
theorem g_G {E : EV} {h0 N0 : Nat} {X : TX} {pc : Nat} {lv : List (Nat × Value)} {st : List Value} {kc sc : Nat} {G G2 : GH} (h1 : G = G2) (K : GL E h0 N0 X pc lv st kc sc G2) : GL E h0 N0 X pc lv st kc sc G := by subst h1; exact K
/-- a text's row of n signs at N, its object at k -/
def gT (E : EV) (h0 N k : Nat) (n : Nat) (G : GH) : GH := va_up (va_up G N (iA E n (fun _ => 0))) k (.inr (2, [.ref (h0 + N), .int 0]))
theorem gT_ne {E : EV} {h0 N k n i : Nat} {G : GH} (h1 : i ≠ N) (h2 : i ≠ k) : gT E h0 N k n G i = G i := by unfold gT; rw [va_up_ne _ _ h2, va_up_ne _ _ h1]
set_option maxRecDepth 20000 in
theorem i_X2 {E : EV} {h0 N k n : Nat} {G : GH} (hk : k < N) (hg : G k = .inr (2, fsT)) (hn1 : n ≤ 600) : CtG E h0 yX2_init wsX2_init (rGT n) [.ref (h0 + k), .int (iI n)] N G 1 n (gT E h0 N k n G) := by
  refine ctg_of [(0, _), (1, _)] (by decide) rfl rfl (Nat.le_of_ble_eq_true rfl) rfl (fun X h hq => ?_)
  refine g_aload_n h 0 dX2_init_0 rfl rfl ?_
  refine g_obj h a_l_X2_3 ⟨Nat.le_of_ble_eq_true rfl, Nat.le_of_ble_eq_true rfl⟩ dX2_init_1 ?_
  refine g_aload_n h 0 dX2_init_4 rfl rfl ?_
  refine g_iconst h dX2_init_5 ?_
  refine g_iload_n h 1 dX2_init_6 rfl rfl ?_
  refine g_max h ⟨by decide, by decide⟩ (by unfold okI; omega) a_l_X2_9 ⟨Nat.le_of_ble_eq_true rfl, Nat.le_of_ble_eq_true rfl⟩ (Nat.le_of_ble_eq_true rfl) (Nat.zero_le _) (Nat.zero_le _) dX2_init_7 ?_
  refine g_top (y := iI n) (by unfold mxI; split; rfl; congr 1; omega) ?_
  refine g_newI h (by omega) (by omega) (Nat.le_refl 1) (by show 0 + (n : Int).toNat ≤ n; omega) dX2_init_10 ?_
  refine g_n (kc2 := 1) (sc2 := n) rfl (by omega) ?_
  rw [Int.toNat_natCast]
  refine g_put h fsT 0 inX2 tyX2 tyX2_ok nmX2 (ci := 2) rfl (by decide) a_f_X2_15 rfl rfl rfl rfl (by omega) (by rw [va_up_ne _ _ (by omega)]; exact hg) (by decide) dX2_init_12 ?_
  exact g_vret h hq dX2_init_15
/-- pieces at k: their text, its row, their row of ends from N on -/
def gP0 (E : EV) (h0 N : Nat) (G : GH) : GH := gT E h0 (N + 1) N 300 (va_up G N (.inr (2, fsT)))
theorem gP0_ne {E : EV} {h0 N i : Nat} {G : GH} (h1 : i ≠ N) (h2 : i ≠ N + 1) : gP0 E h0 N G i = G i := by unfold gP0; rw [gT_ne h2 h1, va_up_ne _ _ h1]
def gP1 (E : EV) (h0 N k : Nat) (G : GH) : GH := va_up (va_up (gP0 E h0 N G) k (.inr (1, [.ref (h0 + N), .null, .int 0]))) (N + 2) (iA E 301 (fun _ => 0))
def gP (E : EV) (h0 N k : Nat) (G : GH) : GH := va_up (gP1 E h0 N k G) k (.inr (1, [.ref (h0 + N), .ref (h0 + (N + 2)), .int 0]))
theorem gP_ne {E : EV} {h0 N k i : Nat} {G : GH} (h1 : i ≠ N) (h2 : i ≠ N + 1) (h3 : i ≠ N + 2) (h4 : i ≠ k) : gP E h0 N k G i = G i := by unfold gP gP1; rw [va_up_ne _ _ h4, va_up_ne _ _ h3, va_up_ne _ _ h4, gP0_ne h1 h2]
set_option maxRecDepth 20000 in
theorem i_X1 {E : EV} {h0 N k : Nat} {G : GH} (hk : k < N) (hg : G k = .inr (1, fsP)) : CtG E h0 yX1_init wsX1_init rGP [.ref (h0 + k)] N G 3 603 (gP E h0 N k G) := by
  refine ctg_of [(0, _)] (by decide) rfl rfl (Nat.le_of_ble_eq_true rfl) rfl (fun X h hq => ?_)
  refine g_aload_n h 0 dX1_init_0 rfl rfl ?_
  refine g_obj h a_l_X1_3 ⟨Nat.le_of_ble_eq_true rfl, Nat.le_of_ble_eq_true rfl⟩ dX1_init_1 ?_
  refine g_aload_n h 0 dX1_init_4 rfl rfl ?_
  refine g_new h tyX2 tyX2_ok inX2 a_x_X1_9 a_m_X2 a_n_X2 (ci := 2) rfl fsT (fun j hj => by rcases (show j = 0 ∨ j = 1 by omega) with rfl | rfl <;> rfl) (Nat.le_of_ble_eq_true rfl) (Nat.le_of_ble_eq_true rfl) dX1_init_5 ?_
  refine g_n (kc2 := 1) (sc2 := 2) rfl rfl ?_
  refine g_dup h dX1_init_8 rfl ?_
  refine g_sipush h dX1_init_9 (by decide) ?_
  refine g_call h (i := N) (i_X2 (N := N + 1) (k := N) (n := 300) (by omega) (va_up_self _ _ _) (by omega)) m_X2_init a_l_X1_11 rfl rfl ⟨Nat.le_of_ble_eq_true rfl, Nat.le_of_ble_eq_true rfl⟩ (As := [.int (iI 300)]) rfl rfl (Nat.le_of_ble_eq_true rfl) (Nat.le_of_ble_eq_true rfl) (Nat.le_of_ble_eq_true rfl) dX1_init_12 ?_
  refine g_n (kc2 := 2) (sc2 := 302) rfl rfl ?_
  refine g_put h fsP 0 inX1 tyX1 tyX1_ok nmX1 (ci := 1) rfl (by decide) a_f_X1_14 rfl rfl rfl rfl (by omega) ((gP0_ne (by omega) (by omega)).trans hg) (by decide) dX1_init_15 ?_
  refine g_aload_n h 0 dX1_init_18 rfl rfl ?_
  refine g_sipush h dX1_init_19 (by decide) ?_
  refine g_newI h (by decide) (by decide) (Nat.le_of_ble_eq_true rfl) (Nat.le_of_ble_eq_true rfl) dX1_init_22 ?_
  refine g_n (kc2 := 3) (sc2 := 603) rfl rfl ?_
  refine g_put h [.ref (h0 + N), .null, .int 0] 1 inX1 tyX1 tyX1_ok nmX1 (ci := 1) rfl (by decide) a_f_X1_20 rfl rfl rfl rfl (by omega) ((va_up_ne _ _ (by omega)).trans (va_up_self _ _ _)) (Nat.le_of_ble_eq_true rfl) dX1_init_24 ?_
  exact g_vret h hq dX1_init_27
/-- the row of texts after i texts -/
def gXf (h0 N : Nat) : Nat → Nat → Option Nat
  | 0 => fun _ => none
  | i + 1 => va_up (gXf h0 N i) i (some (h0 + (N + (1 + 2 * i))))
def gX1 (E : EV) (h0 N : Nat) (i : Nat) (G : GH) : GH := gT E h0 (N + (2 + 2 * i)) (N + (1 + 2 * i)) 300 (va_up G (N + (1 + 2 * i)) (.inr (2, fsT)))
def gX (E : EV) (h0 N : Nat) (G : GH) : Nat → GH
  | 0 => G
  | i + 1 => va_up (gX1 E h0 N i (gX E h0 N G i)) N (.inl (eT E, 8, .inr (.inr (.inr (.inr (gXf h0 N (i + 1)))))))
theorem gX1_ne {E : EV} {h0 N i j : Nat} {G : GH} (h : j ≤ N) : gX1 E h0 N i G j = G j := by unfold gX1; rw [gT_ne (by omega) (by omega), va_up_ne _ _ (by omega)]
theorem gX_k {E : EV} {h0 N k : Nat} {G : GH} (hk : k < N) : ∀ i, gX E h0 N G i k = G k := by
  intro i
  induction i with
  | zero => rfl
  | succ i ih => rw [gX, va_up_ne _ _ (by omega), gX1_ne (by omega), ih]
theorem gX_N {E : EV} {h0 N : Nat} {G : GH} (hG : G N = .inl (eT E, 8, .inr (.inr (.inr (.inr (fun _ => none)))))) : ∀ i, gX E h0 N G i N = .inl (eT E, 8, .inr (.inr (.inr (.inr (gXf h0 N i))))) := by
  intro i
  cases i with
  | zero => exact hG
  | succ i => rw [gX, va_up_self]
def gI0 (E : EV) (h0 N k : Nat) (G : GH) : GH := va_up (va_up G N (.inl (eT E, 8, .inr (.inr (.inr (.inr (fun _ => none))))))) k (.inr (0, [.ref (h0 + N), .null]))
def gI1 (E : EV) (h0 N k : Nat) (G : GH) : GH := gP E h0 (N + 18) (N + 17) (va_up (gX E h0 N (gI0 E h0 N k G) 8) (N + 17) (.inr (1, fsP)))
/-- an image at k: all that it is from N on -/
def gI (E : EV) (h0 N k : Nat) (G : GH) : GH := va_up (gI1 E h0 N k G) k (.inr (0, [.ref (h0 + N), .ref (h0 + (N + 17))]))
theorem gX_hi {E : EV} {h0 N j : Nat} {G : GH} (hj : N + 17 ≤ j) : ∀ i, i ≤ 8 → gX E h0 N G i j = G j := by
  intro i
  induction i with
  | zero => intro _; rfl
  | succ i ih => intro hi; rw [gX, va_up_ne _ _ (by omega)]; unfold gX1; rw [gT_ne (by omega) (by omega), va_up_ne _ _ (by omega), ih (by omega)]
theorem gI_ne {E : EV} {h0 N k j : Nat} {G : GH} (hj : j < N ∨ N + 21 ≤ j) (hk : k < N) (hjk : j ≠ k) : gI E h0 N k G j = G j := by
  unfold gI gI1
  rw [va_up_ne _ _ hjk, gP_ne (by omega) (by omega) (by omega) (by omega), va_up_ne _ _ (by omega)]
  rcases hj with h | h
  · rw [gX_k h]; unfold gI0; rw [va_up_ne _ _ hjk, va_up_ne _ _ (by omega)]
  · rw [gX_hi (by omega) 8 (Nat.le_refl _)]; unfold gI0; rw [va_up_ne _ _ hjk, va_up_ne _ _ (by omega)]
set_option maxRecDepth 20000 in
theorem i_X0 {E : EV} {h0 N k : Nat} {G : GH} (hk : k < N) (hg : G k = .inr (0, fsI)) : CtG E h0 yX0_init wsX0_init rGI [.ref (h0 + k)] N G 21 3030 (gI E h0 N k G) := by
  refine ctg_of [(0, _)] (by decide) rfl rfl (Nat.le_of_ble_eq_true rfl) rfl (fun X h hq => ?_)
  refine g_aload_n h 0 dX0_init_0 rfl rfl ?_
  refine g_obj h a_l_X0_3 ⟨Nat.le_of_ble_eq_true rfl, Nat.le_of_ble_eq_true rfl⟩ dX0_init_1 ?_
  refine g_aload_n h 0 dX0_init_4 rfl rfl ?_
  refine g_bipush h dX0_init_5 (by decide) ?_
  refine g_newA h 1 (cA0 := eT E) (fun U q => q.1) rfl a_x_X0_9 (by decide) (by decide) (Nat.le_of_ble_eq_true rfl) (Nat.le_of_ble_eq_true rfl) dX0_init_7 ?_
  refine g_n (kc2 := 1) (sc2 := 8) rfl rfl ?_
  refine g_put h fsI 0 inX0 tyX0 tyX0_ok nmX0 (ci := 0) rfl (by decide) a_f_X0_11 rfl rfl rfl rfl (by omega) ((va_up_ne _ _ (by omega)).trans hg) (by decide) dX0_init_10 ?_
  refine g_G (G2 := gI0 E h0 N k G) rfl ?_
  have hkk : gI0 E h0 N k G k = .inr (0, [.ref (h0 + N), .null]) := va_up_self _ _ _
  have hNN : gI0 E h0 N k G N = .inl (eT E, 8, .inr (.inr (.inr (.inr (fun _ => none))))) := (va_up_ne _ _ (by omega)).trans (va_up_self _ _ _)
  refine g_iconst h dX0_init_13 ?_
  refine g_istore_n h [(1, _), (0, _)] dX0_init_14 rfl (by decide) rfl ?_
  suffices lp : ∀ d i : Nat, i + d = 8 → GL E h0 N X 15 [(1, .int (iI i)), (0, .ref (h0 + k))] [] (1 + 2 * i) (8 + 302 * i) (gX E h0 N (gI0 E h0 N k G) i) from lp 8 0 rfl
  intro d
  induction d with
  | zero =>
    intro i hi
    obtain rfl : i = 8 := by omega
    refine g_iload_n h 0 dX0_init_15 rfl rfl ?_
    refine g_bipush h dX0_init_16 (by decide) ?_
    refine g_icmp_ge h 43 dX0_init_18 (by decide) ⟨by decide, by decide⟩ ⟨by decide, by decide⟩ (fun c => ?_) (fun c => absurd c (by decide))
    refine g_aload_n h 1 dX0_init_43 rfl rfl ?_
    refine g_new h tyX1 tyX1_ok inX1 a_x_X0_20 a_m_X1 a_n_X1 (ci := 1) rfl fsP (fun j hj => by rcases (show j = 0 ∨ j = 1 ∨ j = 2 by omega) with rfl | rfl | rfl <;> rfl) (Nat.le_of_ble_eq_true rfl) (Nat.le_of_ble_eq_true rfl) dX0_init_44 ?_
    refine g_n (kc2 := 18) (sc2 := 2427) rfl rfl ?_
    refine g_dup h dX0_init_47 rfl ?_
    refine g_call h (i := N + 17) (i_X1 (N := N + 18) (k := N + 17) (by omega) (va_up_self _ _ _)) m_X1_init a_l_X0_22 rfl rfl ⟨Nat.le_of_ble_eq_true rfl, Nat.le_of_ble_eq_true rfl⟩ (As := []) rfl rfl (Nat.le_of_ble_eq_true rfl) (Nat.le_of_ble_eq_true rfl) (Nat.le_of_ble_eq_true rfl) dX0_init_48 ?_
    refine g_n (kc2 := 21) (sc2 := 3030) rfl rfl ?_
    refine g_put h [.ref (h0 + N), .null] 1 inX0 tyX0 tyX0_ok nmX0 (ci := 0) rfl (by decide) a_f_X0_23 rfl rfl rfl rfl (by omega) ((gP_ne (by omega) (by omega) (by omega) (by omega)).trans ((va_up_ne _ _ (by omega)).trans ((gX_k hk 8).trans hkk))) (Nat.le_of_ble_eq_true rfl) dX0_init_51 ?_
    exact g_vret h hq dX0_init_54
  | succ d ih =>
    intro i hi
    refine g_iload_n h 0 dX0_init_15 rfl rfl ?_
    refine g_bipush h dX0_init_16 (by decide) ?_
    refine g_icmp_ge h 43 dX0_init_18 (by decide) (by unfold okI; omega) ⟨by decide, by decide⟩ (fun c => absurd c (by omega)) (fun c => ?_)
    refine g_aload_n h 1 dX0_init_21 rfl rfl ?_
    refine g_get h 0 inX0 (ci := 0) rfl (by decide) a_f_X0_11 (by omega) ((gX_k hk i).trans hkk) rfl dX0_init_22 ?_
    refine g_iload_n h 0 dX0_init_25 rfl rfl ?_
    refine g_new h tyX2 tyX2_ok inX2 a_x_X0_9 a_m_X2 a_n_X2 (ci := 2) rfl fsT (fun j hj => by rcases (show j = 0 ∨ j = 1 by omega) with rfl | rfl <;> rfl) (by show 1 + 2 * i + 1 ≤ 21; omega) (by show 8 + 302 * i + 2 ≤ 3030; omega) dX0_init_26 ?_
    refine g_n (kc2 := 2 + 2 * i) (sc2 := 10 + 302 * i) (by omega) (by omega) ?_
    refine g_dup h dX0_init_29 rfl ?_
    refine g_sipush h dX0_init_30 (by decide) ?_
    refine g_call h (i := N + (1 + 2 * i)) (i_X2 (N := N + (2 + 2 * i)) (k := N + (1 + 2 * i)) (n := 300) (by omega) (va_up_self _ _ _) (by omega)) m_X2_init a_l_X0_17 rfl rfl ⟨Nat.le_of_ble_eq_true rfl, Nat.le_of_ble_eq_true rfl⟩ (As := [.int (iI 300)]) rfl rfl (Nat.le_of_ble_eq_true rfl) (by show 2 + 2 * i + 1 ≤ 21; omega) (by show 10 + 302 * i + 300 ≤ 3030; omega) dX0_init_33 ?_
    refine g_n (kc2 := 1 + 2 * (i + 1)) (sc2 := 8 + 302 * (i + 1)) (by omega) (by omega) ?_
    refine g_G (G2 := gX1 E h0 N i (gX E h0 N (gI0 E h0 N k G) i)) rfl ?_
    refine g_ast h (i := N) (j := N + (1 + 2 * i)) 1 2 (cA := eT E) (q := (RX2, TX2, 2)) (len := 8) (f := gXf h0 N i) (vs := [.ref (h0 + (N + (2 + 2 * i))), .int 0]) (by omega) (by omega) rfl rfl (by omega) ((gX1_ne (Nat.le_refl _)).trans (gX_N hNN i)) (by omega) (va_up_self _ _ _) dX0_init_36 ?_
    rw [Int.toNat_natCast]
    refine g_iinc h 0 [(1, _), (0, _)] dX0_init_37 rfl (by decide) rfl ?_
    refine g_goto h 15 dX0_init_40 (by decide) ?_
    exact ih (i + 1) (by omega)
