/-! TextShelves: pieces, images, the digest; what only asks, by the abstract state -/
theorem stN_succ (es : List Nat) (k : Nat) : stN es (k + 1) = eg es k := by
  unfold stN
  rw [if_neg (by omega), Nat.add_sub_cancel]
theorem jn_len (as : List Int32) (es : List Nat) (x : Int32) {n : Nat} (hok : eOK es n) : ∀ d i, i + d ≤ es.length → ((jn as es x i d).length : Int) = (stN es (i + d) : Int) - stN es i + d - (if i = 0 ∧ 0 < d then 1 else 0) := by
  intro d
  induction d with
  | zero => intro i h; simp [jn]
  | succ d ih =>
    intro i h
    have h1 := hok i (by omega)
    have h2 := ih (i + 1) (by omega)
    rw [if_neg (by omega), show i + 1 + d = i + (d + 1) by omega, stN_succ] at h2
    have h3 : ((jn as es x i (d + 1)).length : Int) = (if i = 0 then 0 else 1) + ((eg es i - stN es i : Nat) : Int) + (jn as es x (i + 1) d).length := by
      rw [jn]
      simp only [List.length_append, pce, sl_len]
      split <;> simp <;> omega
    rw [h3, h2]
    split <;> split <;> omega
theorem jnQ_len (q : AP) (x : Int32) (h : okP q) : ((jnQ q x).length : Int) = (q.1.length : Int) + mxI 0 (q.2.length - 1) := by
  unfold jnQ
  rw [jn_len q.1 q.2 x h.1 q.2.length 0 (by omega), Nat.zero_add, h.2.2.2]
  have e0 : stN q.2 0 = 0 := rfl
  rw [e0]
  unfold mxI
  split <;> split <;> omega
theorem si_lt (z : Int) : si z < 2 := by unfold si fmo; omega
theorem sw_z {z : Int} (h0 : 0 ≤ z) (h : z < 8) : sw z = z.toNat := by unfold sw fmo; omega
set_option maxHeartbeats 400000 in
set_option maxRecDepth 20000 in
theorem p_piece {E : EV} (hE : EOK E) {A : AS} {g0 : GH} {k : Int} (hk : okI k) {to : Int} (hto : okI to) : Ct E (RP E g0) yX3_piece wsX3_piece rX3_piece [eA E 74, .int (iI k), .int (iI to)] A (some (.int (iI (piA A k to).1))) (piA A k to).2 := by
  refine ct_of [(0, _), (1, _), (2, _)] hE (by decide) rfl (Nat.le_of_ble_eq_true rfl) rfl (fun X h hq => ?_)
  refine j_ex (fun S hAb => ?_)
  refine j_of (fun G hG => RC_okS hG) (fun hS0 => ?_)
  refine j_of (fun G hG => RC_lens hG) (fun hLL => ?_)
  have hcap24 : cap 24 = 600 := rfl
  have hcap25 : cap 25 = 600 := rfl
  have hsto := sh_lt hS0 to
  have hxto := ab_x hAb to
  have hlto := hLL (sh S to) (by omega)
  rw [hxto, cap_lo (by omega)] at hlto
  have hcto := cap_lo (t := sh S to) (by omega)
  have hok := hAb.2.2.2.2.2.1
  have has : S.1 (26 + 0) = A.2.1.1 := hAb.2.2.1.1
  have hes : S.2.2 0 = A.2.1.2 := hAb.2.2.1.2
  have hokl := hok.2.1
  have hokm := hok.2.2.1
  refine j_iload_n h 1 dX3_piece_0 rfl rfl ?_
  refine j_if_lt h 18 dX3_piece_1 (by decide) (by first | exact okI_of _ | exact okI_b _ | exact okI_sgz _ _ | assumption | (unfold okI; omega)) (fun c1 => ?_) (fun c1 => ?_)
  · refine j_ldc h (-1000002) a_k_X3_82 (by decide) dX3_piece_18 ?_
    have e : piA A k to = (-1000002, A) := by unfold piA; rw [if_neg (by omega)]
    rw [e] at hq
    have hq := fnA hq (hAb)
    exact j_iret h hq rfl dX3_piece_20
  · refine j_iload_n h 1 dX3_piece_4 rfl rfl ?_
    refine j_aload_n h 0 dX3_piece_5 rfl rfl ?_
    refine jg_Snow h a_f_X3_10 dX3_piece_6 ?_
    refine jgN_Iparts h (by decide) (i := 0) (by omega) dX3_piece_9 ?_
    refine j_callV h (c_X1_size hE (p := 0) (by omega) hes) m_X1_size a_l_X3_197 rfl rfl ⟨Nat.le_of_ble_eq_true rfl, Nat.le_of_ble_eq_true rfl⟩ (ci := 1) rfl (by omega) (rcP (by omega)) rfl rfl (Nat.le_of_ble_eq_true rfl) dX3_piece_12 ?_
    refine j_icmp_lt h 21 dX3_piece_15 (by decide) (by first | exact okI_of _ | exact okI_b _ | exact okI_sgz _ _ | assumption | (unfold okI; omega)) (by first | exact okI_of _ | exact okI_b _ | exact okI_sgz _ _ | assumption | (unfold okI; omega)) (fun c15 => ?_) (fun c15 => ?_)
    · obtain ⟨m, rfl⟩ : ∃ m : Nat, k = m := ⟨k.toNat, by omega⟩
      have hmm := hok.1 m (by omega)
      refine j_aload_n h 0 dX3_piece_21 rfl rfl ?_
      refine jg_Smade h a_f_X3_25 dX3_piece_22 ?_
      refine j_callVv h (c_X2_clear hE (t := 24) (by omega)) m_X2_clear a_l_X3_47 rfl rfl ⟨Nat.le_of_ble_eq_true rfl, Nat.le_of_ble_eq_true rfl⟩ (ci := 2) rfl (by omega) (rcT (by omega)) rfl rfl (Nat.le_of_ble_eq_true rfl) dX3_piece_25 ?_
      refine j_aload_n h 0 dX3_piece_28 rfl rfl ?_
      refine jg_Snow h a_f_X3_10 dX3_piece_29 ?_
      refine jgN_Iparts h (by decide) (i := 0) (by omega) dX3_piece_32 ?_
      refine j_aload_n h 0 dX3_piece_35 rfl rfl ?_
      refine jg_Smade h a_f_X3_25 dX3_piece_36 ?_
      refine j_iload_n h 1 dX3_piece_39 rfl rfl ?_
      refine j_callVv h (c_X1_addPieceTo hE (p := 0) (by omega) (S := setT S 24 []) (es := A.2.1.2) hes (as := A.2.1.1) (by rw [setT_1n _ _ (by omega)]; exact has) (t := 24) (by omega) (xs := []) (setT_1s _ _ _) (by omega) (k := m) (by omega) hok.1 (by rw [List.length_nil]; omega)) m_X1_addPieceTo a_l_X3_198 rfl rfl ⟨Nat.le_of_ble_eq_true rfl, Nat.le_of_ble_eq_true rfl⟩ (ci := 1) rfl (by omega) (rcP (by omega)) rfl rfl (Nat.le_of_ble_eq_true rfl) dX3_piece_40 ?_
      rw [setT_T, List.nil_append]
      have hll : (pce A.2.1.1 A.2.1.2 m).length ≤ 300 := by unfold pce; rw [sl_len]; omega
      refine j_aload_n h 0 dX3_piece_43 rfl rfl ?_
      refine j_iload_n h 2 dX3_piece_44 rfl rfl ?_
      refine j_callV h (c_X3_lay hE hto (ms := (pce A.2.1.1 A.2.1.2 m)) (setT_1s _ _ _) (by omega)) m_X3_lay a_l_X3_71 rfl rfl ⟨Nat.le_of_ble_eq_true rfl, Nat.le_of_ble_eq_true rfl⟩ (ci := 3) rfl (by omega) (rcS) rfl rfl (Nat.le_of_ble_eq_true rfl) dX3_piece_45 ?_
      have e : piA A m to = layA A to (pce A.2.1.1 A.2.1.2 m) := by unfold piA; rw [if_pos (by omega), Int.toNat_natCast]
      rw [e] at hq
      have hq := fn_lay hq hAb
      exact j_iret h hq rfl dX3_piece_48
    · refine j_ldc h (-1000002) a_k_X3_82 (by decide) dX3_piece_18 ?_
      have e : piA A k to = (-1000002, A) := by unfold piA; rw [if_neg (by omega)]
      rw [e] at hq
      have hq := fnA hq (hAb)
      exact j_iret h hq rfl dX3_piece_20
set_option maxHeartbeats 400000 in
set_option maxRecDepth 20000 in
theorem p_join {E : EV} (hE : EOK E) {A : AS} {g0 : GH} {x : Int} (hx : okI x) {to : Int} (hto : okI to) : Ct E (RP E g0) yX3_join wsX3_join rX3_join [eA E 74, .int (iI x), .int (iI to)] A (some (.int (iI (joA A x to).1))) (joA A x to).2 := by
  refine ct_of [(0, _), (1, _), (2, _)] hE (by decide) rfl (Nat.le_of_ble_eq_true rfl) rfl (fun X h hq => ?_)
  refine j_ex (fun S hAb => ?_)
  refine j_of (fun G hG => RC_okS hG) (fun hS0 => ?_)
  refine j_of (fun G hG => RC_lens hG) (fun hLL => ?_)
  have hcap24 : cap 24 = 600 := rfl
  have hcap25 : cap 25 = 600 := rfl
  have hsto := sh_lt hS0 to
  have hxto := ab_x hAb to
  have hlto := hLL (sh S to) (by omega)
  rw [hxto, cap_lo (by omega)] at hlto
  have hcto := cap_lo (t := sh S to) (by omega)
  have hok := hAb.2.2.2.2.2.1
  have has : S.1 (26 + 0) = A.2.1.1 := hAb.2.2.1.1
  have hes : S.2.2 0 = A.2.1.2 := hAb.2.2.1.2
  have hokl := hok.2.1
  have hokm := hok.2.2.1
  refine j_iload_n h 1 dX3_join_0 rfl rfl ?_
  refine j_callS h (c_X3_isSign hE hx) m_X3_isSign a_l_X3_50 rfl rfl ⟨Nat.le_of_ble_eq_true rfl, Nat.le_of_ble_eq_true rfl⟩ rfl rfl (Nat.le_of_ble_eq_true rfl) dX3_join_1 ?_
  refine j_if_ne h 10 dX3_join_4 (by decide) (by first | exact okI_of _ | exact okI_b _ | exact okI_sgz _ _ | assumption | (unfold okI; omega)) (fun c4 => ?_) (fun c4 => ?_)
  · rw [bI_n0] at c4
    refine j_aload_n h 0 dX3_join_10 rfl rfl ?_
    refine jg_Snow h a_f_X3_10 dX3_join_11 ?_
    refine jgN_Iparts h (by decide) (i := 0) (by omega) dX3_join_14 ?_
    refine j_callV h (c_X1_sizeJoined hE (p := 0) (by omega) hes has) m_X1_sizeJoined a_l_X3_202 rfl rfl ⟨Nat.le_of_ble_eq_true rfl, Nat.le_of_ble_eq_true rfl⟩ (ci := 1) rfl (by omega) (rcP (by omega)) rfl rfl (Nat.le_of_ble_eq_true rfl) dX3_join_17 ?_
    have hjl := jnQ_len A.2.1 (iI x) hok
    have hmx : mxI 0 ((A.2.1.2.length : Int) - 1) ≤ 301 ∧ 0 ≤ mxI 0 ((A.2.1.2.length : Int) - 1) := by unfold mxI; split <;> omega
    refine j_sipush h dX3_join_20 (by decide) ?_
    refine j_icmp_le h 29 dX3_join_23 (by decide) (by first | exact okI_of _ | exact okI_b _ | exact okI_sgz _ _ | assumption | (unfold okI; omega)) (by first | exact okI_of _ | exact okI_b _ | exact okI_sgz _ _ | assumption | (unfold okI; omega)) (fun c23 => ?_) (fun c23 => ?_)
    · refine j_aload_n h 0 dX3_join_29 rfl rfl ?_
      refine jg_Smade h a_f_X3_25 dX3_join_30 ?_
      refine j_callVv h (c_X2_clear hE (t := 24) (by omega)) m_X2_clear a_l_X3_47 rfl rfl ⟨Nat.le_of_ble_eq_true rfl, Nat.le_of_ble_eq_true rfl⟩ (ci := 2) rfl (by omega) (rcT (by omega)) rfl rfl (Nat.le_of_ble_eq_true rfl) dX3_join_33 ?_
      refine j_aload_n h 0 dX3_join_36 rfl rfl ?_
      refine jg_Snow h a_f_X3_10 dX3_join_37 ?_
      refine jgN_Iparts h (by decide) (i := 0) (by omega) dX3_join_40 ?_
      refine j_aload_n h 0 dX3_join_43 rfl rfl ?_
      refine jg_Smade h a_f_X3_25 dX3_join_44 ?_
      refine j_iload_n h 1 dX3_join_47 rfl rfl ?_
      refine j_callVv h (c_X1_addJoinedTo hE (p := 0) (by omega) (S := setT S 24 []) (es := A.2.1.2) hes (as := A.2.1.1) (by rw [setT_1n _ _ (by omega)]; exact has) (t := 24) (by omega) (xs := []) (setT_1s _ _ _) (by omega) (x := iI x) hok.1 (by rw [List.length_nil]; unfold jnQ at hjl; omega)) m_X1_addJoinedTo a_l_X3_205 rfl rfl ⟨Nat.le_of_ble_eq_true rfl, Nat.le_of_ble_eq_true rfl⟩ (ci := 1) rfl (by omega) (rcP (by omega)) rfl rfl (Nat.le_of_ble_eq_true rfl) dX3_join_48 ?_
      rw [setT_T, List.nil_append]
      refine j_aload_n h 0 dX3_join_51 rfl rfl ?_
      refine j_iload_n h 2 dX3_join_52 rfl rfl ?_
      refine j_callV h (c_X3_lay hE hto (ms := (jnQ A.2.1 (iI x))) (setT_1s _ _ _) (by omega)) m_X3_lay a_l_X3_71 rfl rfl ⟨Nat.le_of_ble_eq_true rfl, Nat.le_of_ble_eq_true rfl⟩ (ci := 3) rfl (by omega) (rcS) rfl rfl (Nat.le_of_ble_eq_true rfl) dX3_join_53 ?_
      have e : joA A x to = layA A to (jnQ A.2.1 (iI x)) := by unfold joA; rw [if_pos c4, if_pos (by omega)]
      rw [e] at hq
      have hq := fn_lay hq hAb
      exact j_iret h hq rfl dX3_join_56
    · refine j_ldc h (-1000004) a_k_X3_55 (by decide) dX3_join_26 ?_
      have e : joA A x to = (-1000004, A) := by unfold joA; rw [if_pos c4, if_neg (by omega)]
      rw [e] at hq
      have hq := fnA hq (hAb)
      exact j_iret h hq rfl dX3_join_28
  · rw [bI_0] at c4
    refine j_ldc h (-1000001) a_k_X3_54 (by decide) dX3_join_7 ?_
    have e : joA A x to = (-1000001, A) := by unfold joA; exact if_neg (fun w => by simp_all)
    rw [e] at hq
    have hq := fnA hq (hAb)
    exact j_iret h hq rfl dX3_join_9
set_option maxHeartbeats 400000 in
set_option maxRecDepth 20000 in
theorem p_keep {E : EV} (hE : EOK E) {A : AS} {g0 : GH} {a : Int} (ha : okI a) : Ct E (RP E g0) yX3_keep wsX3_keep rX3_keep [eA E 74, .int (iI a)] A (some (.int (iI ((((sumX A.1 8 : Nat) : Int), aKeep A (si a))).1))) ((((sumX A.1 8 : Nat) : Int), aKeep A (si a))).2 := by
  refine ct_of [(0, _), (1, _)] hE (by decide) rfl (Nat.le_of_ble_eq_true rfl) rfl (fun X h hq => ?_)
  refine j_ex (fun S hAb => ?_)
  refine j_of (fun G hG => RC_okS hG) (fun hS0 => ?_)
  refine j_of (fun G hG => RC_lens hG) (fun hLL => ?_)
  have hcap24 : cap 24 = 600 := rfl
  have hcap25 : cap 25 = 600 := rfl
  have hsa := sh_lt hS0 a
  have hxa := ab_x hAb a
  have hla := hLL (sh S a) (by omega)
  rw [hxa, cap_lo (by omega)] at hla
  have hca := cap_lo (t := sh S a) (by omega)
  have hsi := si_lt a
  have hfm : 0 ≤ fmo a 2 ∧ fmo a 2 < 2 := by unfold fmo; omega
  have hokP : ∀ q : AP, okP q → eOK q.2 300 := fun q h => eOK_mono h.1 h.2.1
  refine j_aload_n h 0 dX3_keep_0 rfl rfl ?_
  refine jg_Skept h a_f_X3_16 dX3_keep_1 ?_
  refine j_iload_n h 1 dX3_keep_4 rfl rfl ?_
  refine j_iconst h dX3_keep_5 ?_
  refine j_fm h (by first | exact okI_of _ | exact okI_b _ | exact okI_sgz _ _ | assumption | (unfold okI; omega)) (by decide) a_l_X3_232 ⟨Nat.le_of_ble_eq_true rfl, Nat.le_of_ble_eq_true rfl⟩ (Nat.le_of_ble_eq_true rfl) dX3_keep_6 ?_
  refine j_aald h (60 + (1 + si a)) 2 (i := 75) (by omega) ⟨by omega, by omega⟩ rfl (fun G hG => by obtain ⟨f, e1, e2⟩ := hG.2.2.2.2.2.2.1; refine ⟨2, f, e1, by omega, ?_⟩; rw [show (fmo a 2).toNat = si a from rfl, e2 _ hsi, show 61 + si a = 60 + (1 + si a) by omega]) dX3_keep_9 ?_
  refine j_aload_n h 0 dX3_keep_10 rfl rfl ?_
  refine jg_Snow h a_f_X3_10 dX3_keep_11 ?_
  refine j_callVv h (c_X0_become hE (a := 1 + si a) (b := 0) (by omega) (by omega) (by omega) (n := 300) (by rw [hAb.2.2.1.2]; exact hokP _ hAb.2.2.2.2.2.1) (by omega)) m_X0_become a_l_X3_237 rfl rfl ⟨Nat.le_of_ble_eq_true rfl, Nat.le_of_ble_eq_true rfl⟩ (ci := 0) rfl (by omega) (rcI (by omega)) rfl rfl (Nat.le_of_ble_eq_true rfl) dX3_keep_14 ?_
  have hk := ab_keep hAb hsi
  refine j_aload_n h 0 dX3_keep_17 rfl rfl ?_
  refine jg_Snow h a_f_X3_10 dX3_keep_18 ?_
  refine j_callV h (c_X0_sizeOfTexts hE) m_X0_sizeOfTexts a_l_X3_240 rfl rfl ⟨Nat.le_of_ble_eq_true rfl, Nat.le_of_ble_eq_true rfl⟩ (ci := 0) rfl (by omega) (rcI (i := 0) (by omega)) rfl rfl (Nat.le_of_ble_eq_true rfl) dX3_keep_21 ?_
  have hq := fnA hq hk
  exact j_iret h hq (by rw [ab_sst hk 8 (Nat.le_refl _)]; rfl) dX3_keep_24
set_option maxHeartbeats 400000 in
set_option maxRecDepth 20000 in
theorem p_back {E : EV} (hE : EOK E) {A : AS} {g0 : GH} {a : Int} (ha : okI a) : Ct E (RP E g0) yX3_back wsX3_back rX3_back [eA E 74, .int (iI a)] A (some (.int (iI ((((sumX (aBack A (si a)).1 8 : Nat) : Int), aBack A (si a))).1))) ((((sumX (aBack A (si a)).1 8 : Nat) : Int), aBack A (si a))).2 := by
  refine ct_of [(0, _), (1, _)] hE (by decide) rfl (Nat.le_of_ble_eq_true rfl) rfl (fun X h hq => ?_)
  refine j_ex (fun S hAb => ?_)
  refine j_of (fun G hG => RC_okS hG) (fun hS0 => ?_)
  refine j_of (fun G hG => RC_lens hG) (fun hLL => ?_)
  have hcap24 : cap 24 = 600 := rfl
  have hcap25 : cap 25 = 600 := rfl
  have hsa := sh_lt hS0 a
  have hxa := ab_x hAb a
  have hla := hLL (sh S a) (by omega)
  rw [hxa, cap_lo (by omega)] at hla
  have hca := cap_lo (t := sh S a) (by omega)
  have hsi := si_lt a
  have hfm : 0 ≤ fmo a 2 ∧ fmo a 2 < 2 := by unfold fmo; omega
  have hokP : ∀ q : AP, okP q → eOK q.2 300 := fun q h => eOK_mono h.1 h.2.1
  refine j_aload_n h 0 dX3_back_0 rfl rfl ?_
  refine jg_Snow h a_f_X3_10 dX3_back_1 ?_
  refine j_aload_n h 0 dX3_back_4 rfl rfl ?_
  refine jg_Skept h a_f_X3_16 dX3_back_5 ?_
  refine j_iload_n h 1 dX3_back_8 rfl rfl ?_
  refine j_iconst h dX3_back_9 ?_
  refine j_fm h (by first | exact okI_of _ | exact okI_b _ | exact okI_sgz _ _ | assumption | (unfold okI; omega)) (by decide) a_l_X3_232 ⟨Nat.le_of_ble_eq_true rfl, Nat.le_of_ble_eq_true rfl⟩ (Nat.le_of_ble_eq_true rfl) dX3_back_10 ?_
  refine j_aald h (60 + (1 + si a)) 2 (i := 75) (by omega) ⟨by omega, by omega⟩ rfl (fun G hG => by obtain ⟨f, e1, e2⟩ := hG.2.2.2.2.2.2.1; refine ⟨2, f, e1, by omega, ?_⟩; rw [show (fmo a 2).toNat = si a from rfl, e2 _ hsi, show 61 + si a = 60 + (1 + si a) by omega]) dX3_back_13 ?_
  refine j_callVv h (c_X0_become hE (a := 0) (b := 1 + si a) (by omega) (by omega) (by omega) (n := 300) (by rw [(hAb.2.2.2.2.1 (si a) hsi).2]; exact hokP _ (hAb.2.2.2.2.2.2 (si a) hsi)) (by omega)) m_X0_become a_l_X3_237 rfl rfl ⟨Nat.le_of_ble_eq_true rfl, Nat.le_of_ble_eq_true rfl⟩ (ci := 0) rfl (by omega) (rcI (i := 0) (by omega)) rfl rfl (Nat.le_of_ble_eq_true rfl) dX3_back_14 ?_
  have hk := ab_back hAb hsi
  refine j_aload_n h 0 dX3_back_17 rfl rfl ?_
  refine jg_Snow h a_f_X3_10 dX3_back_18 ?_
  refine j_callV h (c_X0_sizeOfTexts hE) m_X0_sizeOfTexts a_l_X3_240 rfl rfl ⟨Nat.le_of_ble_eq_true rfl, Nat.le_of_ble_eq_true rfl⟩ (ci := 0) rfl (by omega) (rcI (i := 0) (by omega)) rfl rfl (Nat.le_of_ble_eq_true rfl) dX3_back_21 ?_
  have hq := fnA hq hk
  exact j_iret h hq (by rw [ab_sst hk 8 (Nat.le_refl _)]) dX3_back_24
set_option maxHeartbeats 400000 in
set_option maxRecDepth 20000 in
theorem p_digest {E : EV} (hE : EOK E) {A : AS} {g0 : GH}  : Ct E (RP E g0) yX3_digest wsX3_digest rX3_digest [eA E 74] A (some (.long (lI (diA A)))) A := by
  refine ct_of [(0, _)] hE (by decide) rfl (Nat.le_of_ble_eq_true rfl) rfl (fun X h hq => ?_)
  refine j_ex (fun S hAb => ?_)
  refine j_of (fun G hG => RC_okS hG) (fun hS0 => ?_)
  refine j_of (fun G hG => RC_lens hG) (fun hLL => ?_)
  have hcap24 : cap 24 = 600 := rfl
  have hcap25 : cap 25 = 600 := rfl
  have hok := hAb.2.2.2.2.2.1
  have has : S.1 (26 + 0) = A.2.1.1 := hAb.2.2.1.1
  have hes : S.2.2 0 = A.2.1.2 := hAb.2.2.1.2
  have hokl := hok.2.1
  have hokm := hok.2.2.1
  refine j_ldc2 h (17) a_k_X3_243 (by decide) dX3_digest_0 ?_
  refine j_lstore_n h [(1, _), (0, _)] dX3_digest_3 rfl (by decide) rfl ?_
  refine j_iconst h dX3_digest_4 ?_
  refine j_istore_n h [(3, _), (1, _), (0, _)] dX3_digest_5 rfl (by decide) rfl ?_
  refine j_sub [0, 1, 2] rfl ?_
  refine lpA2 (fun (z k : Int) => (8 - z).toNat) (fun (z k : Int) => 0 ≤ z → z ≤ 8 → dgX A.1 k z.toNat (8 - z).toNat = dgX A.1 17 0 8 → JL E (RC E g0) X 6 [(3, .int (iI z)), (1, .long (lI k)), (0, eA E 74)] [] S) (fun z k ih hz0 hb hv => ?_) 0 17 (Int.le_refl 0) (by omega) rfl
  refine j_iload_n h 0 dX3_digest_6 rfl rfl ?_
  refine j_bipush h dX3_digest_7 (by decide) ?_
  refine j_icmp_ge h 41 dX3_digest_9 (by decide) (by first | exact okI_of _ | exact okI_b _ | exact okI_sgz _ _ | assumption | (unfold okI; omega)) (by first | exact okI_of _ | exact okI_b _ | exact okI_sgz _ _ | assumption | (unfold okI; omega)) (fun c9 => ?_) (fun c9 => ?_)
  · rw [show (8 - z).toNat = 0 by omega, dgX] at hv
    rw [hv]
    refine j_aload_n h 2 dX3_digest_41 rfl rfl ?_
    refine jg_Snow h a_f_X3_10 dX3_digest_42 ?_
    refine jgN_Iparts h (by decide) (i := 0) (by omega) dX3_digest_45 ?_
    refine j_lload_n h 1 dX3_digest_48 rfl rfl ?_
    refine j_callV h (c_X1_foldAll hE (p := 0) (by omega) hes has hok.1) m_X1_foldAll a_l_X3_249 rfl rfl ⟨Nat.le_of_ble_eq_true rfl, Nat.le_of_ble_eq_true rfl⟩ (ci := 1) rfl (by omega) (rcP (by omega)) rfl rfl (Nat.le_of_ble_eq_true rfl) dX3_digest_49 ?_
    have hq := fnA hq hAb
    exact j_lret h hq rfl dX3_digest_52
  · have hzz := sw_z hz0 c9
    have hst := sh_lt hS0 z
    have hxz := ab_x hAb z
    have hlz := hLL (sh S z) (by omega)
    rw [hxz, cap_lo (by omega)] at hlz
    rw [hzz] at hxz hlz
    refine j_aload_n h 2 dX3_digest_12 rfl rfl ?_
    refine jg_Snow h a_f_X3_10 dX3_digest_13 ?_
    refine j_iload_n h 0 dX3_digest_16 rfl rfl ?_
    refine j_callV h (c_X0_text hE (by unfold okI; omega)) m_X0_text a_l_X3_39 rfl rfl ⟨Nat.le_of_ble_eq_true rfl, Nat.le_of_ble_eq_true rfl⟩ (ci := 0) rfl (by omega) (rcI (i := 0) (by omega)) rfl rfl (Nat.le_of_ble_eq_true rfl) dX3_digest_17 ?_
    refine j_astore h [(4, _), (3, _), (1, _), (0, _)] dX3_digest_20 (by decide) rfl ?_
    refine j_aload h 0 dX3_digest_22 rfl ?_
    refine j_lload_n h 2 dX3_digest_24 rfl rfl ?_
    refine j_iconst h dX3_digest_25 ?_
    refine j_aload h 0 dX3_digest_26 rfl ?_
    refine j_callV h (c_X2_size hE (by omega) hxz) m_X2_size a_l_X3_43 rfl rfl ⟨Nat.le_of_ble_eq_true rfl, Nat.le_of_ble_eq_true rfl⟩ (ci := 2) rfl (by omega) (rcT (by omega)) rfl rfl (Nat.le_of_ble_eq_true rfl) dX3_digest_28 ?_
    refine j_callV h (c_X2_foldSpan hE (by omega) hxz (Int.le_refl 0) (by omega) (Int.le_refl _)) m_X2_foldSpan a_l_X3_245 rfl rfl ⟨Nat.le_of_ble_eq_true rfl, Nat.le_of_ble_eq_true rfl⟩ (ci := 2) rfl (by omega) (rcT (by omega)) rfl rfl (Nat.le_of_ble_eq_true rfl) dX3_digest_31 ?_
    rw [Int.sub_zero, show ((0 : Int)).toNat = 0 from rfl, Int.toNat_natCast]
    refine j_lstore_n h [(1, _), (4, _), (3, _), (0, _)] dX3_digest_34 rfl (by decide) rfl ?_
    refine j_iinc h 2 [(3, _), (1, _), (4, _), (0, _)] dX3_digest_35 rfl (by decide) rfl ?_
    refine j_goto h 6 dX3_digest_38 (by decide) ?_
    refine j_sub [0, 1, 3] rfl ?_
    exact ih (z + 1) _ (by omega) (by omega) (by omega) (by rw [show (8 - z).toNat = (8 - (z + 1)).toNat + 1 by omega, dgX, show z.toNat + 1 = (z + 1).toNat by omega] at hv; exact hv)
theorem p_length {E : EV} (hE : EOK E) {A : AS} {g0 : GH} {a : Int} (ha : okI a) : Ct E (RP E g0) yX3_length wsX3_length rX3_length [eA E 74, .int (iI a)] A (some (.int (iI (A.1 (sw a)).length))) A :=
  ct_ab fun S hAb => ⟨S, hAb, c_X3_length hE ha (ab_x hAb a)⟩
theorem p_isEmpty {E : EV} (hE : EOK E) {A : AS} {g0 : GH} {a : Int} (ha : okI a) : Ct E (RP E g0) yX3_isEmpty wsX3_isEmpty rX3_isEmpty [eA E 74, .int (iI a)] A (some (.int (iI (bI (decide ((A.1 (sw a)).length = 0)))))) A :=
  ct_ab fun S hAb => ⟨S, hAb, c_X3_isEmpty hE ha (ab_x hAb a)⟩
theorem p_isBlank {E : EV} (hE : EOK E) {A : AS} {g0 : GH} {a : Int} (ha : okI a) : Ct E (RP E g0) yX3_isBlank wsX3_isBlank rX3_isBlank [eA E 74, .int (iI a)] A (some (.int (iI (bI (decide (eof true (A.1 (sw a)) 0 (A.1 (sw a)).length = (A.1 (sw a)).length)))))) A :=
  ct_ab fun S hAb => ⟨S, hAb, c_X3_isBlank hE ha (ab_x hAb a)⟩
theorem p_charAt {E : EV} (hE : EOK E) {A : AS} {g0 : GH} {a : Int} (ha : okI a) {p : Int} (hp : okI p) : Ct E (RP E g0) yX3_charAt wsX3_charAt rX3_charAt [eA E 74, .int (iI a), .int (iI p)] A (some (.int (chA (A.1 (sw a)) p))) A :=
  ct_ab fun S hAb => ⟨S, hAb, c_X3_charAt hE ha (ab_x hAb a) hp⟩
theorem p_hash {E : EV} (hE : EOK E) {A : AS} {g0 : GH} {a : Int} (ha : okI a) : Ct E (RP E g0) yX3_hash wsX3_hash rX3_hash [eA E 74, .int (iI a)] A (some (.int (iI (fld (A.1 (sw a)) 0 0 (A.1 (sw a)).length)))) A :=
  ct_ab fun S hAb => ⟨S, hAb, c_X3_hash hE ha (ab_x hAb a)⟩
theorem p_first {E : EV} (hE : EOK E) {A : AS} {g0 : GH} {a : Int} (ha : okI a) {c : Int32} : Ct E (RP E g0) yX3_first wsX3_first rX3_first [eA E 74, .int (iI a), .int c] A (some (.int (iI (sgF (A.1 (sw a)) c 0)))) A :=
  ct_ab fun S hAb => ⟨S, hAb, c_X3_first hE ha (ab_x hAb a)⟩
theorem p_firstFrom {E : EV} (hE : EOK E) {A : AS} {g0 : GH} {a : Int} (ha : okI a) {c : Int32} {f : Int} (hf : okI f) : Ct E (RP E g0) yX3_firstFrom wsX3_firstFrom rX3_firstFrom [eA E 74, .int (iI a), .int c, .int (iI f)] A (some (.int (iI (sgF (A.1 (sw a)) c f)))) A :=
  ct_ab fun S hAb => ⟨S, hAb, c_X3_firstFrom hE ha (ab_x hAb a) hf⟩
theorem p_last {E : EV} (hE : EOK E) {A : AS} {g0 : GH} {a : Int} (ha : okI a) {c : Int32} : Ct E (RP E g0) yX3_last wsX3_last rX3_last [eA E 74, .int (iI a), .int c] A (some (.int (iI (sgB (A.1 (sw a)) c 300)))) A :=
  ct_ab fun S hAb => ⟨S, hAb, c_X3_last hE ha (ab_x hAb a)⟩
theorem p_lastFrom {E : EV} (hE : EOK E) {A : AS} {g0 : GH} {a : Int} (ha : okI a) {c : Int32} {f : Int} (hf : okI f) : Ct E (RP E g0) yX3_lastFrom wsX3_lastFrom rX3_lastFrom [eA E 74, .int (iI a), .int c, .int (iI f)] A (some (.int (iI (sgB (A.1 (sw a)) c f)))) A :=
  ct_ab fun S hAb => ⟨S, hAb, c_X3_lastFrom hE ha (ab_x hAb a) hf⟩
theorem p_find {E : EV} (hE : EOK E) {A : AS} {g0 : GH} {a : Int} (ha : okI a) {b : Int} (hb : okI b) : Ct E (RP E g0) yX3_find wsX3_find rX3_find [eA E 74, .int (iI a), .int (iI b)] A (some (.int (iI (plF (A.1 (sw a)) (A.1 (sw b)) 0)))) A :=
  ct_ab fun S hAb => ⟨S, hAb, c_X3_find hE ha (ab_x hAb a) hb (ab_x hAb b)⟩
theorem p_findFrom {E : EV} (hE : EOK E) {A : AS} {g0 : GH} {a : Int} (ha : okI a) {b : Int} (hb : okI b) {f : Int} (hf : okI f) : Ct E (RP E g0) yX3_findFrom wsX3_findFrom rX3_findFrom [eA E 74, .int (iI a), .int (iI b), .int (iI f)] A (some (.int (iI (plF (A.1 (sw a)) (A.1 (sw b)) f)))) A :=
  ct_ab fun S hAb => ⟨S, hAb, c_X3_findFrom hE ha (ab_x hAb a) hb (ab_x hAb b) hf⟩
theorem p_findLast {E : EV} (hE : EOK E) {A : AS} {g0 : GH} {a : Int} (ha : okI a) {b : Int} (hb : okI b) : Ct E (RP E g0) yX3_findLast wsX3_findLast rX3_findLast [eA E 74, .int (iI a), .int (iI b)] A (some (.int (iI (plB (A.1 (sw a)) (A.1 (sw b)) 300)))) A :=
  ct_ab fun S hAb => ⟨S, hAb, c_X3_findLast hE ha (ab_x hAb a) hb (ab_x hAb b)⟩
theorem p_findLastFrom {E : EV} (hE : EOK E) {A : AS} {g0 : GH} {a : Int} (ha : okI a) {b : Int} (hb : okI b) {f : Int} (hf : okI f) : Ct E (RP E g0) yX3_findLastFrom wsX3_findLastFrom rX3_findLastFrom [eA E 74, .int (iI a), .int (iI b), .int (iI f)] A (some (.int (iI (plB (A.1 (sw a)) (A.1 (sw b)) f)))) A :=
  ct_ab fun S hAb => ⟨S, hAb, c_X3_findLastFrom hE ha (ab_x hAb a) hb (ab_x hAb b) hf⟩
theorem p_contains {E : EV} (hE : EOK E) {A : AS} {g0 : GH} {a : Int} (ha : okI a) {b : Int} (hb : okI b) : Ct E (RP E g0) yX3_contains wsX3_contains rX3_contains [eA E 74, .int (iI a), .int (iI b)] A (some (.int (iI (bI (!decide (plF (A.1 (sw a)) (A.1 (sw b)) 0 = -1)))))) A :=
  ct_ab fun S hAb => ⟨S, hAb, c_X3_contains hE ha (ab_x hAb a) hb (ab_x hAb b)⟩
theorem p_starts {E : EV} (hE : EOK E) {A : AS} {g0 : GH} {a : Int} (ha : okI a) {b : Int} (hb : okI b) : Ct E (RP E g0) yX3_starts wsX3_starts rX3_starts [eA E 74, .int (iI a), .int (iI b)] A (some (.int (iI (bI (bz (A.1 (sw a)) (A.1 (sw b)) 0))))) A :=
  ct_ab fun S hAb => ⟨S, hAb, c_X3_starts hE ha (ab_x hAb a) hb (ab_x hAb b)⟩
theorem p_startsAt {E : EV} (hE : EOK E) {A : AS} {g0 : GH} {a : Int} (ha : okI a) {b : Int} (hb : okI b) {p : Int} (hp : okI p) : Ct E (RP E g0) yX3_startsAt wsX3_startsAt rX3_startsAt [eA E 74, .int (iI a), .int (iI b), .int (iI p)] A (some (.int (iI (bI (bz (A.1 (sw a)) (A.1 (sw b)) p))))) A :=
  ct_ab fun S hAb => ⟨S, hAb, c_X3_startsAt hE ha (ab_x hAb a) hb (ab_x hAb b) hp⟩
theorem p_ends {E : EV} (hE : EOK E) {A : AS} {g0 : GH} {a : Int} (ha : okI a) {b : Int} (hb : okI b) : Ct E (RP E g0) yX3_ends wsX3_ends rX3_ends [eA E 74, .int (iI a), .int (iI b)] A (some (.int (iI (bI (bz (A.1 (sw a)) (A.1 (sw b)) (((A.1 (sw a)).length : Int) - (A.1 (sw b)).length)))))) A :=
  ct_ab fun S hAb => ⟨S, hAb, c_X3_ends hE ha (ab_x hAb a) hb (ab_x hAb b)⟩
theorem p_region {E : EV} (hE : EOK E) {A : AS} {g0 : GH} {a : Int} (ha : okI a) {p : Int} (hp : okI p) {b : Int} (hb : okI b) {q : Int} (hq : okI q) {n : Int} (hn : okI n) : Ct E (RP E g0) yX3_region wsX3_region rX3_region [eA E 74, .int (iI a), .int (iI p), .int (iI b), .int (iI q), .int (iI n)] A (some (.int (iI (bI (agr true (A.1 (sw a)) (A.1 (sw b)) p q n))))) A :=
  ct_ab fun S hAb => ⟨S, hAb, c_X3_region hE ha (ab_x hAb a) hb (ab_x hAb b) hp hq hn⟩
theorem p_regionAlike {E : EV} (hE : EOK E) {A : AS} {g0 : GH} {a : Int} (ha : okI a) {p : Int} (hp : okI p) {b : Int} (hb : okI b) {q : Int} (hq : okI q) {n : Int} (hn : okI n) : Ct E (RP E g0) yX3_regionAlike wsX3_regionAlike rX3_regionAlike [eA E 74, .int (iI a), .int (iI p), .int (iI b), .int (iI q), .int (iI n)] A (some (.int (iI (bI (agr false (A.1 (sw a)) (A.1 (sw b)) p q n))))) A :=
  ct_ab fun S hAb => ⟨S, hAb, c_X3_regionAlike hE ha (ab_x hAb a) hb (ab_x hAb b) hp hq hn⟩
theorem p_same {E : EV} (hE : EOK E) {A : AS} {g0 : GH} {a : Int} (ha : okI a) {b : Int} (hb : okI b) : Ct E (RP E g0) yX3_same wsX3_same rX3_same [eA E 74, .int (iI a), .int (iI b)] A (some (.int (iI (bI (who true (A.1 (sw a)) (A.1 (sw b))))))) A :=
  ct_ab fun S hAb => ⟨S, hAb, c_X3_same hE ha (ab_x hAb a) hb (ab_x hAb b)⟩
theorem p_alike {E : EV} (hE : EOK E) {A : AS} {g0 : GH} {a : Int} (ha : okI a) {b : Int} (hb : okI b) : Ct E (RP E g0) yX3_alike wsX3_alike rX3_alike [eA E 74, .int (iI a), .int (iI b)] A (some (.int (iI (bI (who false (A.1 (sw a)) (A.1 (sw b))))))) A :=
  ct_ab fun S hAb => ⟨S, hAb, c_X3_alike hE ha (ab_x hAb a) hb (ab_x hAb b)⟩
theorem p_compare {E : EV} (hE : EOK E) {A : AS} {g0 : GH} {a : Int} (ha : okI a) {b : Int} (hb : okI b) : Ct E (RP E g0) yX3_compare wsX3_compare rX3_compare [eA E 74, .int (iI a), .int (iI b)] A (some (.int (orI true (A.1 (sw a)) (A.1 (sw b))))) A :=
  ct_ab fun S hAb => ⟨S, hAb, c_X3_compare hE ha (ab_x hAb a) hb (ab_x hAb b)⟩
theorem p_compareAlike {E : EV} (hE : EOK E) {A : AS} {g0 : GH} {a : Int} (ha : okI a) {b : Int} (hb : okI b) : Ct E (RP E g0) yX3_compareAlike wsX3_compareAlike rX3_compareAlike [eA E 74, .int (iI a), .int (iI b)] A (some (.int (iI (cmpI (orI false (A.1 (sw a)) (A.1 (sw b))).toInt 0)))) A :=
  ct_ab fun S hAb => ⟨S, hAb, c_X3_compareAlike hE ha (ab_x hAb a) hb (ab_x hAb b)⟩
theorem p_count {E : EV} (hE : EOK E) {A : AS} {g0 : GH} {a : Int} (ha : okI a) {b : Int} (hb : okI b) : Ct E (RP E g0) yX3_count wsX3_count rX3_count [eA E 74, .int (iI a), .int (iI b)] A (some (.int (iI (cnI (A.1 (sw a)) (A.1 (sw b)))))) A :=
  ct_ab fun S hAb => ⟨S, hAb, c_X3_count hE ha (ab_x hAb a) hb (ab_x hAb b)⟩
theorem p_head {E : EV} (hE : EOK E) {A : AS} {g0 : GH} {a : Int} (ha : okI a) {b : Int} (hb : okI b) : Ct E (RP E g0) yX3_head wsX3_head rX3_head [eA E 74, .int (iI a), .int (iI b)] A (some (.int (iI (sfr (A.1 (sw a)) (A.1 (sw b)) 0 (min (A.1 (sw a)).length (A.1 (sw b)).length) : Nat)))) A :=
  ct_ab fun S hAb => ⟨S, hAb, c_X3_head hE ha (ab_x hAb a) hb (ab_x hAb b)⟩
theorem p_foot {E : EV} (hE : EOK E) {A : AS} {g0 : GH} {a : Int} (ha : okI a) {b : Int} (hb : okI b) : Ct E (RP E g0) yX3_foot wsX3_foot rX3_foot [eA E 74, .int (iI a), .int (iI b)] A (some (.int (iI (srr (A.1 (sw a)) (A.1 (sw b)) 0 (min (A.1 (sw a)).length (A.1 (sw b)).length) : Nat)))) A :=
  ct_ab fun S hAb => ⟨S, hAb, c_X3_foot hE ha (ab_x hAb a) hb (ab_x hAb b)⟩
theorem p_pieces {E : EV} (hE : EOK E) {A : AS} {g0 : GH}  : Ct E (RP E g0) yX3_pieces wsX3_pieces rX3_pieces [eA E 74] A (some (.int (iI A.2.1.2.length))) A :=
  ct_ab fun S hAb => ⟨S, hAb, c_X3_pieces hE hAb.2.2.1.2⟩
theorem p_substring {E : EV} (hE : EOK E) {A : AS} {g0 : GH} {a : Int} (ha : okI a) {f : Int} (hf : okI f) {u : Int} (hu : okI u) {to : Int} (hto : okI to) : Ct E (RP E g0) yX3_substring wsX3_substring rX3_substring [eA E 74, .int (iI a), .int (iI f), .int (iI u), .int (iI to)] A (some (.int (iI (suA A a f u to).1))) (suA A a f u to).2 :=
  ct_ab fun S hAb => ⟨_, (ab_suS hAb a f u to).1, (ab_suS hAb a f u to).2 ▸ c_X3_substring hE ha (ab_x hAb a) hf hu hto⟩
theorem p_tail {E : EV} (hE : EOK E) {A : AS} {g0 : GH} {a : Int} (ha : okI a) {f : Int} (hf : okI f) {to : Int} (hto : okI to) : Ct E (RP E g0) yX3_tail wsX3_tail rX3_tail [eA E 74, .int (iI a), .int (iI f), .int (iI to)] A (some (.int (iI (suA A a f (A.1 (sw a)).length to).1))) (suA A a f (A.1 (sw a)).length to).2 :=
  ct_ab fun S hAb => ⟨_, (ab_suS hAb a f _ to).1, (ab_suS hAb a f _ to).2 ▸ c_X3_tail hE ha (ab_x hAb a) hf hto⟩
theorem p_big {E : EV} (hE : EOK E) {A : AS} {g0 : GH} {L : Int64} {to : Int} (hto : okI to) : Ct E (RP E g0) yX3_big wsX3_big rX3_big [eA E 74, .long L, .int (iI to)] A (some (.int (iI (layA A to (bgL L)).1))) (layA A to (bgL L)).2 :=
  ct_ab fun S hAb => ⟨_, ab_X (ab_T (ab_T hAb (Or.inr (Or.inl rfl))) (Or.inl rfl)) to (bgL L), c_X3_big hE hto⟩
theorem p_number {E : EV} (hE : EOK E) {A : AS} {g0 : GH} {v : Int} (hv : okI v) {to : Int} (hto : okI to) : Ct E (RP E g0) yX3_number wsX3_number rX3_number [eA E 74, .int (iI v), .int (iI to)] A (some (.int (iI (layA A to (bgL (lI v))).1))) (layA A to (bgL (lI v))).2 :=
  ct_ab fun S hAb => ⟨_, ab_X (ab_T (ab_T hAb (Or.inr (Or.inl rfl))) (Or.inl rfl)) to (bgL (lI v)), c_X3_number hE hv hto⟩
theorem p_trim {E : EV} (hE : EOK E) {A : AS} {g0 : GH} {a : Int} (ha : okI a) {to : Int} (hto : okI to) : Ct E (RP E g0) yX3_trim wsX3_trim rX3_trim [eA E 74, .int (iI a), .int (iI to)] A (some (.int (iI (layA A to (bare false (A.1 (sw a)))).1))) (layA A to (bare false (A.1 (sw a)))).2 :=
  ct_ab fun S hAb => ⟨_, ab_X (ab_T hAb (Or.inl rfl)) to (bare false (A.1 (sw a))), c_X3_trim hE ha (ab_x hAb a) hto⟩
theorem p_strip {E : EV} (hE : EOK E) {A : AS} {g0 : GH} {a : Int} (ha : okI a) {to : Int} (hto : okI to) : Ct E (RP E g0) yX3_strip wsX3_strip rX3_strip [eA E 74, .int (iI a), .int (iI to)] A (some (.int (iI (layA A to (bare true (A.1 (sw a)))).1))) (layA A to (bare true (A.1 (sw a)))).2 :=
  ct_ab fun S hAb => ⟨_, ab_X (ab_T hAb (Or.inl rfl)) to (bare true (A.1 (sw a))), c_X3_strip hE ha (ab_x hAb a) hto⟩
