/-! TextShelves: texts made of texts -/
theorem j_lv {τ : Type} {E : EV} {Rp : τ → GH → Prop} {X : TX} {pc : Nat} {lv lv2 : List (Nat × Value)} {st : List Value} {S : τ} (hs : lv2 = lv) (K : JL E Rp X pc lv2 st S) : JL E Rp X pc lv st S := hs ▸ K
theorem mul_b2 {x n : Int} (hx : 0 ≤ x ∧ x ≤ 300) (hn : 0 ≤ n ∧ n < 2147483648) : 0 ≤ x * n ∧ x * n ≤ 644245094400 := by
  have h1 : x * n ≤ 300 * n := Int.mul_le_mul_of_nonneg_right hx.2 hn.1
  have h2 : 0 ≤ x * n := Int.mul_nonneg hx.1 hn.1
  omega
theorem mul_ub {f d : Int} (hf : 0 ≤ f ∧ f ≤ 301) (hd : d ≤ 300) : f * d ≤ 90300 := by
  by_cases q : 0 ≤ d
  · have h1 : f * d ≤ 301 * d := Int.mul_le_mul_of_nonneg_right hf.2 q
    omega
  · have h1 : f * d ≤ f * 0 := Int.mul_le_mul_of_nonneg_left (by omega) hf.1
    omega
theorem sor_le (b : Bool) (xs : List Int32) (f : Nat) : ∀ d, f ≤ sor b xs f d ∧ sor b xs f d ≤ f + d := by
  intro d
  induction d with
  | zero => exact ⟨Nat.le_refl _, Nat.le_refl _⟩
  | succ d ih =>
    rw [sor]
    split <;> omega
set_option maxHeartbeats 400000 in
set_option maxRecDepth 20000 in
theorem p_replaceSign {E : EV} (hE : EOK E) {A : AS} {g0 : GH} {a : Int} (ha : okI a) {x : Int} (hx : okI x) {y : Int} (hy : okI y) {to : Int} (hto : okI to) : Ct E (RP E g0) yX3_replaceSign wsX3_replaceSign rX3_replaceSign [eA E 74, .int (iI a), .int (iI x), .int (iI y), .int (iI to)] A (some (.int (iI (rsA A a x y to).1))) (rsA A a x y to).2 := by
  refine ct_of [(0, _), (1, _), (2, _), (3, _), (4, _)] hE (by decide) rfl (Nat.le_of_ble_eq_true rfl) rfl (fun X h hq => ?_)
  refine j_ex (fun S hAb => ?_)
  refine j_of (fun G hG => RC_okS hG) (fun hS0 => ?_)
  refine j_of (fun G hG => RC_lens hG) (fun hLL => ?_)
  have hcap24 : cap 24 = 600 := rfl
  have hcap25 : cap 25 = 600 := rfl
  have hsa := sh_lt hS0 a
  have hxa := ab_x hAb a
  have hla := hLL (sh S a) (by omega)
  rw [hxa, cap_lo (by omega)] at hla
  have hca := cap_lo (t := sh S a) (by omega)
  have hsto := sh_lt hS0 to
  have hxto := ab_x hAb to
  have hlto := hLL (sh S to) (by omega)
  rw [hxto, cap_lo (by omega)] at hlto
  have hcto := cap_lo (t := sh S to) (by omega)
  refine j_iload_n h 2 dX3_replaceSign_0 rfl rfl ?_
  refine j_callS h (c_X3_isSign hE hx) m_X3_isSign a_l_X3_50 rfl rfl ⟨Nat.le_of_ble_eq_true rfl, Nat.le_of_ble_eq_true rfl⟩ rfl rfl (Nat.le_of_ble_eq_true rfl) dX3_replaceSign_1 ?_
  refine j_if_eq h 14 dX3_replaceSign_4 (by decide) (by first | exact okI_of _ | exact okI_b _ | exact okI_sgz _ _ | assumption | (unfold okI; omega)) (fun c4 => ?_) (fun c4 => ?_)
  · rw [bI_0] at c4
    refine j_ldc h (-1000001) a_k_X3_54 (by decide) dX3_replaceSign_14 ?_
    have e : rsA A a x y to = (-1000001, A) := by unfold rsA; exact if_neg (fun w => by simp_all)
    rw [e] at hq
    have hq := fnA hq hAb
    exact j_iret h hq rfl dX3_replaceSign_16
  · rw [bI_n0] at c4
    refine j_iload_n h 3 dX3_replaceSign_7 rfl rfl ?_
    refine j_callS h (c_X3_isSign hE hy) m_X3_isSign a_l_X3_50 rfl rfl ⟨Nat.le_of_ble_eq_true rfl, Nat.le_of_ble_eq_true rfl⟩ rfl rfl (Nat.le_of_ble_eq_true rfl) dX3_replaceSign_8 ?_
    refine j_if_ne h 17 dX3_replaceSign_11 (by decide) (by first | exact okI_of _ | exact okI_b _ | exact okI_sgz _ _ | assumption | (unfold okI; omega)) (fun c11 => ?_) (fun c11 => ?_)
    · rw [bI_n0] at c11
      refine j_aload_n h 0 dX3_replaceSign_17 rfl rfl ?_
      refine jg_Smade h a_f_X3_25 dX3_replaceSign_18 ?_
      refine j_aload_n h 0 dX3_replaceSign_21 rfl rfl ?_
      refine jg_Snow h a_f_X3_10 dX3_replaceSign_22 ?_
      refine j_iload_n h 1 dX3_replaceSign_25 rfl rfl ?_
      refine j_callV h (c_X0_text hE ha) m_X0_text a_l_X3_39 rfl rfl ⟨Nat.le_of_ble_eq_true rfl, Nat.le_of_ble_eq_true rfl⟩ (ci := 0) rfl (by omega) (rcI (i := 0) (by omega)) rfl rfl (Nat.le_of_ble_eq_true rfl) dX3_replaceSign_26 ?_
      refine j_callVv h (c_X2_become hE (t := 24) (by omega) (by omega) hxa (by omega) (by omega)) m_X2_become a_l_X3_67 rfl rfl ⟨Nat.le_of_ble_eq_true rfl, Nat.le_of_ble_eq_true rfl⟩ (ci := 2) rfl (by omega) (rcT (by omega)) rfl rfl (Nat.le_of_ble_eq_true rfl) dX3_replaceSign_29 ?_
      refine j_aload_n h 0 dX3_replaceSign_32 rfl rfl ?_
      refine jg_Smade h a_f_X3_25 dX3_replaceSign_33 ?_
      refine j_iload_n h 2 dX3_replaceSign_36 rfl rfl ?_
      refine j_iload_n h 3 dX3_replaceSign_37 rfl rfl ?_
      refine j_callVv h (c_X2_change hE (t := 24) (by omega) (setT_1s _ _ _)) m_X2_change a_l_X3_166 rfl rfl ⟨Nat.le_of_ble_eq_true rfl, Nat.le_of_ble_eq_true rfl⟩ (ci := 2) rfl (by omega) (rcT (by omega)) rfl rfl (Nat.le_of_ble_eq_true rfl) dX3_replaceSign_38 ?_
      rw [setT_T]
      have hll := chg_len (iI x) (iI y) (A.1 (sw a)).length (A.1 (sw a)) 0
      refine j_aload_n h 0 dX3_replaceSign_41 rfl rfl ?_
      refine j_iload h 4 dX3_replaceSign_42 rfl ?_
      refine j_callV h (c_X3_lay hE hto (ms := (chg (iI x) (iI y) (A.1 (sw a)) 0 (A.1 (sw a)).length)) (setT_1s _ _ _) (by omega)) m_X3_lay a_l_X3_71 rfl rfl ⟨Nat.le_of_ble_eq_true rfl, Nat.le_of_ble_eq_true rfl⟩ (ci := 3) rfl (by omega) (rcS) rfl rfl (Nat.le_of_ble_eq_true rfl) dX3_replaceSign_44 ?_
      have e : rsA A a x y to = layA A to (chg (iI x) (iI y) (A.1 (sw a)) 0 (A.1 (sw a)).length) := by unfold rsA; rw [if_pos ⟨c4, c11⟩]
      rw [e] at hq
      have hq := fn_lay hq hAb
      exact j_iret h hq rfl dX3_replaceSign_47
    · rw [bI_0] at c11
      refine j_ldc h (-1000001) a_k_X3_54 (by decide) dX3_replaceSign_14 ?_
      have e : rsA A a x y to = (-1000001, A) := by unfold rsA; exact if_neg (fun w => by simp_all)
      rw [e] at hq
      have hq := fnA hq hAb
      exact j_iret h hq rfl dX3_replaceSign_16
set_option maxHeartbeats 400000 in
set_option maxRecDepth 20000 in
theorem p_replaceText {E : EV} (hE : EOK E) {A : AS} {g0 : GH} {a : Int} (ha : okI a) {b : Int} (hb : okI b) {c : Int} (hc : okI c) {to : Int} (hto : okI to) : Ct E (RP E g0) yX3_replaceText wsX3_replaceText rX3_replaceText [eA E 74, .int (iI a), .int (iI b), .int (iI c), .int (iI to)] A (some (.int (iI (rtA A a b c to).1))) (rtA A a b c to).2 := by
  refine ct_of [(0, _), (1, _), (2, _), (3, _), (4, _)] hE (by decide) rfl (Nat.le_of_ble_eq_true rfl) rfl (fun X h hq => ?_)
  refine j_ex (fun S hAb => ?_)
  refine j_of (fun G hG => RC_okS hG) (fun hS0 => ?_)
  refine j_of (fun G hG => RC_lens hG) (fun hLL => ?_)
  have hcap24 : cap 24 = 600 := rfl
  have hcap25 : cap 25 = 600 := rfl
  have hsa := sh_lt hS0 a
  have hxa := ab_x hAb a
  have hla := hLL (sh S a) (by omega)
  rw [hxa, cap_lo (by omega)] at hla
  have hca := cap_lo (t := sh S a) (by omega)
  have hsb := sh_lt hS0 b
  have hxb := ab_x hAb b
  have hlb := hLL (sh S b) (by omega)
  rw [hxb, cap_lo (by omega)] at hlb
  have hcb := cap_lo (t := sh S b) (by omega)
  have hsc := sh_lt hS0 c
  have hxc := ab_x hAb c
  have hlc := hLL (sh S c) (by omega)
  rw [hxc, cap_lo (by omega)] at hlc
  have hcc := cap_lo (t := sh S c) (by omega)
  have hsto := sh_lt hS0 to
  have hxto := ab_x hAb to
  have hlto := hLL (sh S to) (by omega)
  rw [hxto, cap_lo (by omega)] at hlto
  have hcto := cap_lo (t := sh S to) (by omega)
  refine j_aload_n h 0 dX3_replaceText_0 rfl rfl ?_
  refine jg_Snow h a_f_X3_10 dX3_replaceText_1 ?_
  refine j_iload_n h 1 dX3_replaceText_4 rfl rfl ?_
  refine j_callV h (c_X0_text hE ha) m_X0_text a_l_X3_39 rfl rfl ⟨Nat.le_of_ble_eq_true rfl, Nat.le_of_ble_eq_true rfl⟩ (ci := 0) rfl (by omega) (rcI (i := 0) (by omega)) rfl rfl (Nat.le_of_ble_eq_true rfl) dX3_replaceText_5 ?_
  refine j_astore h [(5, _), (0, _), (1, _), (2, _), (3, _), (4, _)] dX3_replaceText_8 (by decide) rfl ?_
  refine j_aload_n h 1 dX3_replaceText_10 rfl rfl ?_
  refine jg_Snow h a_f_X3_10 dX3_replaceText_11 ?_
  refine j_iload_n h 3 dX3_replaceText_14 rfl rfl ?_
  refine j_callV h (c_X0_text hE hb) m_X0_text a_l_X3_39 rfl rfl ⟨Nat.le_of_ble_eq_true rfl, Nat.le_of_ble_eq_true rfl⟩ (ci := 0) rfl (by omega) (rcI (i := 0) (by omega)) rfl rfl (Nat.le_of_ble_eq_true rfl) dX3_replaceText_15 ?_
  refine j_astore h [(6, _), (5, _), (0, _), (1, _), (2, _), (3, _), (4, _)] dX3_replaceText_18 (by decide) rfl ?_
  refine j_aload_n h 2 dX3_replaceText_20 rfl rfl ?_
  refine jg_Snow h a_f_X3_10 dX3_replaceText_21 ?_
  refine j_iload_n h 5 dX3_replaceText_24 rfl rfl ?_
  refine j_callV h (c_X0_text hE hc) m_X0_text a_l_X3_39 rfl rfl ⟨Nat.le_of_ble_eq_true rfl, Nat.le_of_ble_eq_true rfl⟩ (ci := 0) rfl (by omega) (rcI (i := 0) (by omega)) rfl rfl (Nat.le_of_ble_eq_true rfl) dX3_replaceText_25 ?_
  refine j_astore h [(7, _), (6, _), (5, _), (0, _), (1, _), (2, _), (3, _), (4, _)] dX3_replaceText_28 (by decide) rfl ?_
  refine j_aload h 1 dX3_replaceText_30 rfl ?_
  refine j_callV h (c_X2_size hE (by omega) hxb) m_X2_size a_l_X3_43 rfl rfl ⟨Nat.le_of_ble_eq_true rfl, Nat.le_of_ble_eq_true rfl⟩ (ci := 2) rfl (by omega) (rcT (by omega)) rfl rfl (Nat.le_of_ble_eq_true rfl) dX3_replaceText_32 ?_
  refine j_if_ne h 41 dX3_replaceText_35 (by decide) (by first | exact okI_of _ | exact okI_b _ | exact okI_sgz _ _ | assumption | (unfold okI; omega)) (fun c35 => ?_) (fun c35 => ?_)
  · have hne0 : (A.1 (sw b)).length ≠ 0 := by omega
    have hrl := rplT_len (A.1 (sw a)) (A.1 (sw b)) (A.1 (sw c)) hne0
    have hfl := fdc_le (A.1 (sw a)) (A.1 (sw b)) ((A.1 (sw a)).length + 1) 0
    have hub := mul_ub (f := (fdc (A.1 (sw a)) (A.1 (sw b)) ((A.1 (sw a)).length + 1) 0 : Nat)) (d := ((A.1 (sw c)).length : Int) - (A.1 (sw b)).length) (by omega) (by omega)
    refine j_aload h 2 dX3_replaceText_41 rfl ?_
    refine j_callV h (c_X2_size hE (by omega) hxa) m_X2_size a_l_X3_43 rfl rfl ⟨Nat.le_of_ble_eq_true rfl, Nat.le_of_ble_eq_true rfl⟩ (ci := 2) rfl (by omega) (rcT (by omega)) rfl rfl (Nat.le_of_ble_eq_true rfl) dX3_replaceText_43 ?_
    refine j_aload h 2 dX3_replaceText_46 rfl ?_
    refine j_aload h 1 dX3_replaceText_48 rfl ?_
    refine j_callV h (c_X2_finds hE (by omega) hxa (by omega) hxb) m_X2_finds a_l_X3_169 rfl rfl ⟨Nat.le_of_ble_eq_true rfl, Nat.le_of_ble_eq_true rfl⟩ (ci := 2) rfl (by omega) (rcT (by omega)) rfl rfl (Nat.le_of_ble_eq_true rfl) dX3_replaceText_50 ?_
    refine j_aload h 0 dX3_replaceText_53 rfl ?_
    refine j_callV h (c_X2_size hE (by omega) hxc) m_X2_size a_l_X3_43 rfl rfl ⟨Nat.le_of_ble_eq_true rfl, Nat.le_of_ble_eq_true rfl⟩ (ci := 2) rfl (by omega) (rcT (by omega)) rfl rfl (Nat.le_of_ble_eq_true rfl) dX3_replaceText_55 ?_
    refine j_aload h 1 dX3_replaceText_58 rfl ?_
    refine j_callV h (c_X2_size hE (by omega) hxb) m_X2_size a_l_X3_43 rfl rfl ⟨Nat.le_of_ble_eq_true rfl, Nat.le_of_ble_eq_true rfl⟩ (ci := 2) rfl (by omega) (rcT (by omega)) rfl rfl (Nat.le_of_ble_eq_true rfl) dX3_replaceText_60 ?_
    refine j_isub h dX3_replaceText_63 ?_
    refine j_imul h dX3_replaceText_64 ?_
    refine j_iadd h dX3_replaceText_65 ?_
    rw [← hrl]
    refine j_sipush h dX3_replaceText_66 (by decide) ?_
    refine j_icmp_le h 75 dX3_replaceText_69 (by decide) (by first | exact okI_of _ | exact okI_b _ | exact okI_sgz _ _ | assumption | (unfold okI; omega)) (by first | exact okI_of _ | exact okI_b _ | exact okI_sgz _ _ | assumption | (unfold okI; omega)) (fun c69 => ?_) (fun c69 => ?_)
    · refine j_aload_n h 3 dX3_replaceText_75 rfl rfl ?_
      refine jg_Smade h a_f_X3_25 dX3_replaceText_76 ?_
      refine j_callVv h (c_X2_clear hE (t := 24) (by omega)) m_X2_clear a_l_X3_47 rfl rfl ⟨Nat.le_of_ble_eq_true rfl, Nat.le_of_ble_eq_true rfl⟩ (ci := 2) rfl (by omega) (rcT (by omega)) rfl rfl (Nat.le_of_ble_eq_true rfl) dX3_replaceText_79 ?_
      refine j_aload_n h 3 dX3_replaceText_82 rfl rfl ?_
      refine jg_Smade h a_f_X3_25 dX3_replaceText_83 ?_
      refine j_aload h 2 dX3_replaceText_86 rfl ?_
      refine j_aload h 1 dX3_replaceText_88 rfl ?_
      refine j_aload h 0 dX3_replaceText_90 rfl ?_
      refine j_callVv h (c_X2_addReplaced hE (t := 24) (by omega) (ws := []) (setT_1s _ _ _) (u := sh S a) (by omega) (xs := (A.1 (sw a))) (by rw [setT_1n _ _ (by omega)]; exact hxa) (v := sh S b) (by omega) (ys := (A.1 (sw b))) (by rw [setT_1n _ _ (by omega)]; exact hxb) (w := sh S c) (by omega) (zs := (A.1 (sw c))) (by rw [setT_1n _ _ (by omega)]; exact hxc) (by omega) (by omega) (by omega) (by unfold rplT at hrl c69; rw [List.length_nil]; omega)) m_X2_addReplaced a_l_X3_173 rfl rfl ⟨Nat.le_of_ble_eq_true rfl, Nat.le_of_ble_eq_true rfl⟩ (ci := 2) rfl (by omega) (rcT (by omega)) rfl rfl (Nat.le_of_ble_eq_true rfl) dX3_replaceText_92 ?_
      rw [setT_T, List.nil_append]
      refine j_aload_n h 3 dX3_replaceText_95 rfl rfl ?_
      refine j_iload h 7 dX3_replaceText_96 rfl ?_
      refine j_callV h (c_X3_lay hE hto (ms := (rplT (A.1 (sw a)) (A.1 (sw b)) (A.1 (sw c)))) (setT_1s _ _ _) (by omega)) m_X3_lay a_l_X3_71 rfl rfl ⟨Nat.le_of_ble_eq_true rfl, Nat.le_of_ble_eq_true rfl⟩ (ci := 3) rfl (by omega) (rcS) rfl rfl (Nat.le_of_ble_eq_true rfl) dX3_replaceText_98 ?_
      have e : rtA A a b c to = layA A to (rplT (A.1 (sw a)) (A.1 (sw b)) (A.1 (sw c))) := by unfold rtA; rw [if_neg hne0, if_pos (by omega)]
      rw [e] at hq
      have hq := fn_lay hq hAb
      exact j_iret h hq rfl dX3_replaceText_101
    · refine j_ldc h (-1000004) a_k_X3_55 (by decide) dX3_replaceText_72 ?_
      have e : rtA A a b c to = (-1000004, A) := by unfold rtA; rw [if_neg hne0, if_neg (by omega)]
      rw [e] at hq
      have hq := fnA hq (hAb)
      exact j_iret h hq rfl dX3_replaceText_74
  · refine j_ldc h (-1000001) a_k_X3_54 (by decide) dX3_replaceText_38 ?_
    have e : rtA A a b c to = (-1000001, A) := by unfold rtA; rw [if_pos (by omega)]
    rw [e] at hq
    have hq := fnA hq (hAb)
    exact j_iret h hq rfl dX3_replaceText_40
set_option maxHeartbeats 400000 in
set_option maxRecDepth 20000 in
theorem c_X3_layBare {E : EV} (hE : EOK E) {S : SC} {g0 : GH} {a : Int} (ha : okI a) {xs : List Int32} (hxs : S.1 (sh S a) = xs) (b : Bool) {to : Int} (hto : okI to) : Ct E (RC E g0) yX3_layBare wsX3_layBare rX3_layBare [eA E 74, .int (iI a), .int (iI (bI b)), .int (iI to)] S (some (.int (iI (bare b xs).length))) (setT (setT S 24 (bare b xs)) (sh S to) (bare b xs)) := by
  refine ct_of [(0, _), (1, _), (2, _), (3, _)] hE (by decide) rfl (Nat.le_of_ble_eq_true rfl) rfl (fun X h hq => ?_)
  refine j_of (fun G hG => RC_okS hG) (fun hS0 => ?_)
  refine j_of (fun G hG => RC_lens hG) (fun hLL => ?_)
  have hsa := sh_lt hS0 a
  have hlxs := hLL (sh S a) (by omega)
  rw [hxs, cap_lo (by omega)] at hlxs
  have hcap24 : cap 24 = 600 := rfl
  have hef := eof_le b xs xs.length 0
  have hso := sor_le b xs (eof b xs 0 xs.length) (xs.length - eof b xs 0 xs.length)
  refine j_aload_n h 0 dX3_layBare_0 rfl rfl ?_
  refine jg_Snow h a_f_X3_10 dX3_layBare_1 ?_
  refine j_iload_n h 1 dX3_layBare_4 rfl rfl ?_
  refine j_callV h (c_X0_text hE ha) m_X0_text a_l_X3_39 rfl rfl ⟨Nat.le_of_ble_eq_true rfl, Nat.le_of_ble_eq_true rfl⟩ (ci := 0) rfl (by omega) (rcI (i := 0) (by omega)) rfl rfl (Nat.le_of_ble_eq_true rfl) dX3_layBare_5 ?_
  refine j_astore h [(4, _), (0, _), (1, _), (2, _), (3, _)] dX3_layBare_8 (by decide) rfl ?_
  refine j_aload h 0 dX3_layBare_10 rfl ?_
  refine j_iload_n h 3 dX3_layBare_12 rfl rfl ?_
  refine j_callV h (c_X2_endOfFront hE (by omega) hxs b) m_X2_endOfFront a_l_X3_101 rfl rfl ⟨Nat.le_of_ble_eq_true rfl, Nat.le_of_ble_eq_true rfl⟩ (ci := 2) rfl (by omega) (rcT (by omega)) rfl rfl (Nat.le_of_ble_eq_true rfl) dX3_layBare_13 ?_
  refine j_istore h [(5, _), (4, _), (0, _), (1, _), (2, _), (3, _)] dX3_layBare_16 (by decide) rfl ?_
  refine j_aload_n h 2 dX3_layBare_18 rfl rfl ?_
  refine jg_Smade h a_f_X3_25 dX3_layBare_19 ?_
  refine j_callVv h (c_X2_clear hE (t := 24) (by omega)) m_X2_clear a_l_X3_47 rfl rfl ⟨Nat.le_of_ble_eq_true rfl, Nat.le_of_ble_eq_true rfl⟩ (ci := 2) rfl (by omega) (rcT (by omega)) rfl rfl (Nat.le_of_ble_eq_true rfl) dX3_layBare_22 ?_
  refine j_aload_n h 2 dX3_layBare_25 rfl rfl ?_
  refine jg_Smade h a_f_X3_25 dX3_layBare_26 ?_
  refine j_aload h 1 dX3_layBare_29 rfl ?_
  refine j_iload h 0 dX3_layBare_31 rfl ?_
  refine j_aload h 1 dX3_layBare_33 rfl ?_
  refine j_iload h 0 dX3_layBare_35 rfl ?_
  refine j_iload_n h 4 dX3_layBare_37 rfl rfl ?_
  refine j_callV h (c_X2_startOfRear hE (t := sh S a) (by omega) (xs := xs) (by rw [setT_1n _ _ (by omega)]; exact hxs) b (by omega)) m_X2_startOfRear a_l_X3_253 rfl rfl ⟨Nat.le_of_ble_eq_true rfl, Nat.le_of_ble_eq_true rfl⟩ (ci := 2) rfl (by omega) (rcT (by omega)) rfl rfl (Nat.le_of_ble_eq_true rfl) dX3_layBare_38 ?_
  refine j_callVv h (c_X2_addSpan hE (t := 24) (by omega) (xs := []) (setT_1s _ _ _) (u := sh S a) (by omega) (ys := xs) (by rw [setT_1n _ _ (by omega)]; exact hxs) (by omega) (by omega) (by omega) (by omega) (by rw [List.length_nil]; omega)) m_X2_addSpan a_l_X3_83 rfl rfl ⟨Nat.le_of_ble_eq_true rfl, Nat.le_of_ble_eq_true rfl⟩ (ci := 2) rfl (by omega) (rcT (by omega)) rfl rfl (Nat.le_of_ble_eq_true rfl) dX3_layBare_41 ?_
  rw [setT_T, List.nil_append]
  have hbb : sl xs ((eof b xs 0 xs.length : Nat) : Int).toNat (((sor b xs (eof b xs 0 xs.length) (xs.length - eof b xs 0 xs.length) : Nat) : Int) - ((eof b xs 0 xs.length : Nat) : Int)).toNat = bare b xs := by unfold bare; rw [Int.toNat_natCast]; congr 1; omega
  rw [hbb]
  have hll : (bare b xs).length ≤ 300 := by unfold bare; rw [sl_len]; omega
  refine j_aload_n h 2 dX3_layBare_44 rfl rfl ?_
  refine j_iload_n h 5 dX3_layBare_45 rfl rfl ?_
  refine j_callV h (c_X3_lay hE hto (ms := (bare b xs)) (setT_1s _ _ _) (by omega)) m_X3_lay a_l_X3_71 rfl rfl ⟨Nat.le_of_ble_eq_true rfl, Nat.le_of_ble_eq_true rfl⟩ (ci := 3) rfl (by omega) (rcS) rfl rfl (Nat.le_of_ble_eq_true rfl) dX3_layBare_46 ?_
  exact j_iret h hq rfl dX3_layBare_49
set_option maxHeartbeats 400000 in
set_option maxRecDepth 20000 in
theorem c_X3_trim {E : EV} (hE : EOK E) {S : SC} {g0 : GH} {a : Int} (ha : okI a) {xs : List Int32} (hxs : S.1 (sh S a) = xs) {to : Int} (hto : okI to) : Ct E (RC E g0) yX3_trim wsX3_trim rX3_trim [eA E 74, .int (iI a), .int (iI to)] S (some (.int (iI (bare false xs).length))) (setT (setT S 24 (bare false xs)) (sh S to) (bare false xs)) := by
  refine ct_of [(0, _), (1, _), (2, _)] hE (by decide) rfl (Nat.le_of_ble_eq_true rfl) rfl (fun X h hq => ?_)
  refine j_aload_n h 0 dX3_trim_0 rfl rfl ?_
  refine j_iload_n h 1 dX3_trim_1 rfl rfl ?_
  refine j_iconst h dX3_trim_2 ?_
  refine j_iload_n h 2 dX3_trim_3 rfl rfl ?_
  refine j_callV h (c_X3_layBare hE ha hxs false hto) m_X3_layBare a_l_X3_177 rfl rfl ⟨Nat.le_of_ble_eq_true rfl, Nat.le_of_ble_eq_true rfl⟩ (ci := 3) rfl (by omega) (rcS) rfl rfl (Nat.le_of_ble_eq_true rfl) dX3_trim_4 ?_
  exact j_iret h hq rfl dX3_trim_7
set_option maxHeartbeats 400000 in
set_option maxRecDepth 20000 in
theorem c_X3_strip {E : EV} (hE : EOK E) {S : SC} {g0 : GH} {a : Int} (ha : okI a) {xs : List Int32} (hxs : S.1 (sh S a) = xs) {to : Int} (hto : okI to) : Ct E (RC E g0) yX3_strip wsX3_strip rX3_strip [eA E 74, .int (iI a), .int (iI to)] S (some (.int (iI (bare true xs).length))) (setT (setT S 24 (bare true xs)) (sh S to) (bare true xs)) := by
  refine ct_of [(0, _), (1, _), (2, _)] hE (by decide) rfl (Nat.le_of_ble_eq_true rfl) rfl (fun X h hq => ?_)
  refine j_aload_n h 0 dX3_strip_0 rfl rfl ?_
  refine j_iload_n h 1 dX3_strip_1 rfl rfl ?_
  refine j_iconst h dX3_strip_2 ?_
  refine j_iload_n h 2 dX3_strip_3 rfl rfl ?_
  refine j_callV h (c_X3_layBare hE ha hxs true hto) m_X3_layBare a_l_X3_177 rfl rfl ⟨Nat.le_of_ble_eq_true rfl, Nat.le_of_ble_eq_true rfl⟩ (ci := 3) rfl (by omega) (rcS) rfl rfl (Nat.le_of_ble_eq_true rfl) dX3_strip_4 ?_
  exact j_iret h hq rfl dX3_strip_7
set_option maxHeartbeats 400000 in
set_option maxRecDepth 20000 in
theorem p_turn {E : EV} (hE : EOK E) {A : AS} {g0 : GH} {a : Int} (ha : okI a) {to : Int} (hto : okI to) : Ct E (RP E g0) yX3_turn wsX3_turn rX3_turn [eA E 74, .int (iI a), .int (iI to)] A (some (.int (iI (layA A to (rv (A.1 (sw a)) (A.1 (sw a)).length)).1))) (layA A to (rv (A.1 (sw a)) (A.1 (sw a)).length)).2 := by
  refine ct_of [(0, _), (1, _), (2, _)] hE (by decide) rfl (Nat.le_of_ble_eq_true rfl) rfl (fun X h hq => ?_)
  refine j_ex (fun S hAb => ?_)
  refine j_of (fun G hG => RC_okS hG) (fun hS0 => ?_)
  refine j_of (fun G hG => RC_lens hG) (fun hLL => ?_)
  have hcap24 : cap 24 = 600 := rfl
  have hcap25 : cap 25 = 600 := rfl
  have hsa := sh_lt hS0 a
  have hxa := ab_x hAb a
  have hla := hLL (sh S a) (by omega)
  rw [hxa, cap_lo (by omega)] at hla
  have hca := cap_lo (t := sh S a) (by omega)
  have hsto := sh_lt hS0 to
  have hxto := ab_x hAb to
  have hlto := hLL (sh S to) (by omega)
  rw [hxto, cap_lo (by omega)] at hlto
  have hcto := cap_lo (t := sh S to) (by omega)
  refine j_aload_n h 0 dX3_turn_0 rfl rfl ?_
  refine jg_Smade h a_f_X3_25 dX3_turn_1 ?_
  refine j_callVv h (c_X2_clear hE (t := 24) (by omega)) m_X2_clear a_l_X3_47 rfl rfl ⟨Nat.le_of_ble_eq_true rfl, Nat.le_of_ble_eq_true rfl⟩ (ci := 2) rfl (by omega) (rcT (by omega)) rfl rfl (Nat.le_of_ble_eq_true rfl) dX3_turn_4 ?_
  refine j_aload_n h 0 dX3_turn_7 rfl rfl ?_
  refine jg_Smade h a_f_X3_25 dX3_turn_8 ?_
  refine j_aload_n h 0 dX3_turn_11 rfl rfl ?_
  refine jg_Snow h a_f_X3_10 dX3_turn_12 ?_
  refine j_iload_n h 1 dX3_turn_15 rfl rfl ?_
  refine j_callV h (c_X0_text hE ha) m_X0_text a_l_X3_39 rfl rfl ⟨Nat.le_of_ble_eq_true rfl, Nat.le_of_ble_eq_true rfl⟩ (ci := 0) rfl (by omega) (rcI (i := 0) (by omega)) rfl rfl (Nat.le_of_ble_eq_true rfl) dX3_turn_16 ?_
  refine j_callVv h (c_X2_addTurned hE (t := 24) (by omega) (xs := []) (setT_1s _ _ _) (u := sh S a) (by omega) (ys := (A.1 (sw a))) (by rw [setT_1n _ _ (by omega)]; exact hxa) (by omega) (by rw [List.length_nil]; omega)) m_X2_addTurned a_l_X3_98 rfl rfl ⟨Nat.le_of_ble_eq_true rfl, Nat.le_of_ble_eq_true rfl⟩ (ci := 2) rfl (by omega) (rcT (by omega)) rfl rfl (Nat.le_of_ble_eq_true rfl) dX3_turn_19 ?_
  rw [setT_T, List.nil_append]
  have hbl : (rv (A.1 (sw a)) (A.1 (sw a)).length).length = (A.1 (sw a)).length := rv_len _ _
  refine j_aload_n h 0 dX3_turn_22 rfl rfl ?_
  refine j_iload_n h 2 dX3_turn_23 rfl rfl ?_
  refine j_callV h (c_X3_lay hE hto (ms := (rv (A.1 (sw a)) (A.1 (sw a)).length)) (setT_1s _ _ _) (by omega)) m_X3_lay a_l_X3_71 rfl rfl ⟨Nat.le_of_ble_eq_true rfl, Nat.le_of_ble_eq_true rfl⟩ (ci := 3) rfl (by omega) (rcS) rfl rfl (Nat.le_of_ble_eq_true rfl) dX3_turn_24 ?_
  have hq := fn_lay hq hAb
  exact j_iret h hq rfl dX3_turn_27
set_option maxHeartbeats 400000 in
set_option maxRecDepth 20000 in
theorem p_repeat {E : EV} (hE : EOK E) {A : AS} {g0 : GH} {a : Int} (ha : okI a) {n : Int} (hn : okI n) {to : Int} (hto : okI to) : Ct E (RP E g0) yX3_repeat wsX3_repeat rX3_repeat [eA E 74, .int (iI a), .int (iI n), .int (iI to)] A (some (.int (iI (reA A a n to).1))) (reA A a n to).2 := by
  refine ct_of [(0, _), (1, _), (2, _), (3, _)] hE (by decide) rfl (Nat.le_of_ble_eq_true rfl) rfl (fun X h hq => ?_)
  refine j_ex (fun S hAb => ?_)
  refine j_of (fun G hG => RC_okS hG) (fun hS0 => ?_)
  refine j_of (fun G hG => RC_lens hG) (fun hLL => ?_)
  have hcap24 : cap 24 = 600 := rfl
  have hcap25 : cap 25 = 600 := rfl
  have hsa := sh_lt hS0 a
  have hxa := ab_x hAb a
  have hla := hLL (sh S a) (by omega)
  rw [hxa, cap_lo (by omega)] at hla
  have hca := cap_lo (t := sh S a) (by omega)
  have hsto := sh_lt hS0 to
  have hxto := ab_x hAb to
  have hlto := hLL (sh S to) (by omega)
  rw [hxto, cap_lo (by omega)] at hlto
  have hcto := cap_lo (t := sh S to) (by omega)
  have hn2 := hn
  unfold okI at hn2
  refine j_aload_n h 0 dX3_repeat_0 rfl rfl ?_
  refine jg_Snow h a_f_X3_10 dX3_repeat_1 ?_
  refine j_iload_n h 1 dX3_repeat_4 rfl rfl ?_
  refine j_callV h (c_X0_text hE ha) m_X0_text a_l_X3_39 rfl rfl ⟨Nat.le_of_ble_eq_true rfl, Nat.le_of_ble_eq_true rfl⟩ (ci := 0) rfl (by omega) (rcI (i := 0) (by omega)) rfl rfl (Nat.le_of_ble_eq_true rfl) dX3_repeat_5 ?_
  refine j_astore h [(4, _), (0, _), (1, _), (2, _), (3, _)] dX3_repeat_8 (by decide) rfl ?_
  refine j_iload_n h 3 dX3_repeat_10 rfl rfl ?_
  refine j_if_ge h 17 dX3_repeat_11 (by decide) (by first | exact okI_of _ | exact okI_b _ | exact okI_sgz _ _ | assumption | (unfold okI; omega)) (fun c11 => ?_) (fun c11 => ?_)
  · refine j_aload h 0 dX3_repeat_17 rfl ?_
    refine j_callV h (c_X2_size hE (by omega) hxa) m_X2_size a_l_X3_43 rfl rfl ⟨Nat.le_of_ble_eq_true rfl, Nat.le_of_ble_eq_true rfl⟩ (ci := 2) rfl (by omega) (rcT (by omega)) rfl rfl (Nat.le_of_ble_eq_true rfl) dX3_repeat_19 ?_
    refine j_i2l h (lI (A.1 (sw a)).length) dX3_repeat_22 (iI_i2l (by unfold okI; omega)) ?_
    refine j_iload_n h 3 dX3_repeat_23 rfl rfl ?_
    refine j_i2l h (lI n) dX3_repeat_24 (iI_i2l hn) ?_
    refine j_lmul h dX3_repeat_25 ?_
    refine j_ldc2 h (300) a_k_X3_182 (by decide) dX3_repeat_26 ?_
    refine j_lcmp h (iI (sgz ((A.1 (sw a)).length * n) 300)) dX3_repeat_29 (lg_cmp_lI (by have := mul_b2 (x := ((A.1 (sw a)).length : Int)) (n := n) (by omega) (by omega); unfold okL; omega) ⟨by decide, by decide⟩) ?_
    refine j_if_le h 36 dX3_repeat_30 (by decide) (by first | exact okI_of _ | exact okI_b _ | exact okI_sgz _ _ | assumption | (unfold okI; omega)) (fun c30 => ?_) (fun c30 => ?_)
    · rw [sgz_le] at c30
      refine j_aload_n h 1 dX3_repeat_36 rfl rfl ?_
      refine jg_Smade h a_f_X3_25 dX3_repeat_37 ?_
      refine j_callVv h (c_X2_clear hE (t := 24) (by omega)) m_X2_clear a_l_X3_47 rfl rfl ⟨Nat.le_of_ble_eq_true rfl, Nat.le_of_ble_eq_true rfl⟩ (ci := 2) rfl (by omega) (rcT (by omega)) rfl rfl (Nat.le_of_ble_eq_true rfl) dX3_repeat_40 ?_
      refine j_aload h 0 dX3_repeat_43 rfl ?_
      refine j_callV h (c_X2_size hE (t := sh S a) (by omega) (xs := (A.1 (sw a))) (by rw [setT_1n _ _ (by omega)]; exact hxa)) m_X2_size a_l_X3_43 rfl rfl ⟨Nat.le_of_ble_eq_true rfl, Nat.le_of_ble_eq_true rfl⟩ (ci := 2) rfl (by omega) (rcT (by omega)) rfl rfl (Nat.le_of_ble_eq_true rfl) dX3_repeat_45 ?_
      refine j_if_ne h 55 dX3_repeat_48 (by decide) (by first | exact okI_of _ | exact okI_b _ | exact okI_sgz _ _ | assumption | (unfold okI; omega)) (fun c48 => ?_) (fun c48 => ?_)
      · obtain ⟨D, hD, hDx⟩ : ∃ D : Int, D = n ∧ (((A.1 (sw a)).length = 0 ∧ D = 0) ∨ (¬ (A.1 (sw a)).length = 0 ∧ D = n)) := ⟨n, rfl, Or.inr ⟨by omega, rfl⟩⟩
        refine j_iload_n h 3 dX3_repeat_55 rfl rfl ?_
        refine j_istore h [(5, _), (4, _), (0, _), (1, _), (2, _), (3, _)] dX3_repeat_56 (by decide) rfl ?_
        refine j_iconst h dX3_repeat_58 ?_
        refine j_istore h [(6, _), (5, _), (4, _), (0, _), (1, _), (2, _), (3, _)] dX3_repeat_59 (by decide) rfl ?_
        refine j_sub [0, 1, 2, 3, 6] rfl ?_
        refine j_lv (lv2 := [(6, .int (iI 0)), (5, .int (iI D)), (4, eA E (sh S a)), (0, eA E 74), (3, .int (iI to))]) (by rw [hD]; rfl) ?_
        refine lpA2 (fun (z : Int) (us : List Int32) => (D - z).toNat) (fun (z : Int) (us : List Int32) => 0 ≤ z → z ≤ D → us ++ rept (A.1 (sw a)) (D - z).toNat = rept (A.1 (sw a)) D.toNat → JL E (RC E g0) X 61 [(6, .int (iI z)), (5, .int (iI D)), (4, eA E (sh S a)), (0, eA E 74), (3, .int (iI to))] [] (setT S 24 us)) (fun z us ih h0 hb hv => ?_) 0 [] (Int.le_refl 0) (by omega) (by rw [Int.sub_zero, List.nil_append])
        have hm2 : ((D.toNat * (A.1 (sw a)).length : Nat) : Int) = ((A.1 (sw a)).length : Int) * D := by rw [Int.natCast_mul, Int.toNat_of_nonneg (by omega), Int.mul_comm]
        refine j_iload h 0 dX3_repeat_61 rfl ?_
        refine j_iload h 1 dX3_repeat_63 rfl ?_
        refine j_icmp_ge h 83 dX3_repeat_65 (by decide) (by first | exact okI_of _ | exact okI_b _ | exact okI_sgz _ _ | assumption | (unfold okI; omega)) (by first | exact okI_of _ | exact okI_b _ | exact okI_sgz _ _ | assumption | (unfold okI; omega)) (fun c65 => ?_) (fun c65 => ?_)
        · refine j_aload_n h 3 dX3_repeat_83 rfl rfl ?_
          refine j_iload_n h 4 dX3_repeat_84 rfl rfl ?_
          rw [show (D - z).toNat = 0 by omega, rept, List.append_nil] at hv
          rcases hDx with ⟨hx0, hD0⟩ | ⟨hx0, hDn⟩
          · have hfin : us = [] := by rw [hv, hD0]; rfl
            subst hfin
            refine j_callV h (c_X3_lay hE hto (ms := []) (setT_1s _ _ _) (by simp)) m_X3_lay a_l_X3_71 rfl rfl ⟨Nat.le_of_ble_eq_true rfl, Nat.le_of_ble_eq_true rfl⟩ (ci := 3) rfl (by omega) (rcS) rfl rfl (Nat.le_of_ble_eq_true rfl) dX3_repeat_85 ?_
            have e : reA A a n to = layA A to [] := by unfold reA; rw [if_neg (by omega), if_pos (by omega), if_pos (by omega)]
            rw [e] at hq
            have hq := fn_lay hq hAb
            exact j_iret h hq rfl dX3_repeat_88
          · have hfin : us = rept (A.1 (sw a)) n.toNat := by rw [hv, hDn]
            subst hfin
            rw [hDn] at hm2
            have hlen : (rept (A.1 (sw a)) n.toNat).length = n.toNat * (A.1 (sw a)).length := rept_len _ _
            refine j_callV h (c_X3_lay hE hto (ms := rept (A.1 (sw a)) n.toNat) (setT_1s _ _ _) (by omega)) m_X3_lay a_l_X3_71 rfl rfl ⟨Nat.le_of_ble_eq_true rfl, Nat.le_of_ble_eq_true rfl⟩ (ci := 3) rfl (by omega) (rcS) rfl rfl (Nat.le_of_ble_eq_true rfl) dX3_repeat_85 ?_
            have e : reA A a n to = layA A to (rept (A.1 (sw a)) n.toNat) := by unfold reA; rw [if_neg (by omega), if_pos (by omega), if_neg (by omega)]
            rw [e] at hq
            have hq := fn_lay hq hAb
            exact j_iret h hq rfl dX3_repeat_88
        · obtain ⟨hxn, hDn⟩ : ¬ (A.1 (sw a)).length = 0 ∧ D = n := by omega
          rw [hDn] at hm2
          have hlen := congrArg List.length hv
          rw [show (D - z).toNat = (D - (z + 1)).toNat + 1 by omega] at hlen hv
          simp only [List.length_append, rept_len] at hlen
          rw [rept, ← List.append_assoc] at hv
          have hmm : (((D - (z + 1)).toNat + 1) * (A.1 (sw a)).length) = (D - (z + 1)).toNat * (A.1 (sw a)).length + (A.1 (sw a)).length := Nat.succ_mul _ _
          rw [hDn] at hlen hmm
          refine j_aload_n h 3 dX3_repeat_68 rfl rfl ?_
          refine jg_Smade h a_f_X3_25 dX3_repeat_69 ?_
          refine j_aload h 2 dX3_repeat_72 rfl ?_
          refine j_callVv h (c_X2_addText hE (t := 24) (by omega) (xs := us) (setT_1s _ _ _) (u := sh S a) (by omega) (ys := (A.1 (sw a))) (by rw [setT_1n _ _ (by omega)]; exact hxa) (by omega) (by omega)) m_X2_addText a_l_X3_79 rfl rfl ⟨Nat.le_of_ble_eq_true rfl, Nat.le_of_ble_eq_true rfl⟩ (ci := 2) rfl (by omega) (rcT (by omega)) rfl rfl (Nat.le_of_ble_eq_true rfl) dX3_repeat_74 ?_
          rw [setT_T]
          refine j_iinc h 0 [(6, _), (5, _), (4, _), (0, _), (3, _)] dX3_repeat_77 rfl (by decide) rfl ?_
          refine j_goto h 61 dX3_repeat_80 (by decide) ?_
          exact ih (z + 1) _ (by omega) (by omega) (by omega) hv
      · obtain ⟨D, hD, hDx⟩ : ∃ D : Int, D = 0 ∧ (((A.1 (sw a)).length = 0 ∧ D = 0) ∨ (¬ (A.1 (sw a)).length = 0 ∧ D = n)) := ⟨0, rfl, Or.inl ⟨by omega, rfl⟩⟩
        refine j_iconst h dX3_repeat_51 ?_
        refine j_goto h 56 dX3_repeat_52 (by decide) ?_
        refine j_istore h [(5, _), (4, _), (0, _), (1, _), (2, _), (3, _)] dX3_repeat_56 (by decide) rfl ?_
        refine j_iconst h dX3_repeat_58 ?_
        refine j_istore h [(6, _), (5, _), (4, _), (0, _), (1, _), (2, _), (3, _)] dX3_repeat_59 (by decide) rfl ?_
        refine j_sub [0, 1, 2, 3, 6] rfl ?_
        refine j_lv (lv2 := [(6, .int (iI 0)), (5, .int (iI D)), (4, eA E (sh S a)), (0, eA E 74), (3, .int (iI to))]) (by rw [hD]; rfl) ?_
        refine lpA2 (fun (z : Int) (us : List Int32) => (D - z).toNat) (fun (z : Int) (us : List Int32) => 0 ≤ z → z ≤ D → us ++ rept (A.1 (sw a)) (D - z).toNat = rept (A.1 (sw a)) D.toNat → JL E (RC E g0) X 61 [(6, .int (iI z)), (5, .int (iI D)), (4, eA E (sh S a)), (0, eA E 74), (3, .int (iI to))] [] (setT S 24 us)) (fun z us ih h0 hb hv => ?_) 0 [] (Int.le_refl 0) (by omega) (by rw [Int.sub_zero, List.nil_append])
        have hm2 : ((D.toNat * (A.1 (sw a)).length : Nat) : Int) = ((A.1 (sw a)).length : Int) * D := by rw [Int.natCast_mul, Int.toNat_of_nonneg (by omega), Int.mul_comm]
        refine j_iload h 0 dX3_repeat_61 rfl ?_
        refine j_iload h 1 dX3_repeat_63 rfl ?_
        refine j_icmp_ge h 83 dX3_repeat_65 (by decide) (by first | exact okI_of _ | exact okI_b _ | exact okI_sgz _ _ | assumption | (unfold okI; omega)) (by first | exact okI_of _ | exact okI_b _ | exact okI_sgz _ _ | assumption | (unfold okI; omega)) (fun c65 => ?_) (fun c65 => ?_)
        · refine j_aload_n h 3 dX3_repeat_83 rfl rfl ?_
          refine j_iload_n h 4 dX3_repeat_84 rfl rfl ?_
          rw [show (D - z).toNat = 0 by omega, rept, List.append_nil] at hv
          rcases hDx with ⟨hx0, hD0⟩ | ⟨hx0, hDn⟩
          · have hfin : us = [] := by rw [hv, hD0]; rfl
            subst hfin
            refine j_callV h (c_X3_lay hE hto (ms := []) (setT_1s _ _ _) (by simp)) m_X3_lay a_l_X3_71 rfl rfl ⟨Nat.le_of_ble_eq_true rfl, Nat.le_of_ble_eq_true rfl⟩ (ci := 3) rfl (by omega) (rcS) rfl rfl (Nat.le_of_ble_eq_true rfl) dX3_repeat_85 ?_
            have e : reA A a n to = layA A to [] := by unfold reA; rw [if_neg (by omega), if_pos (by omega), if_pos (by omega)]
            rw [e] at hq
            have hq := fn_lay hq hAb
            exact j_iret h hq rfl dX3_repeat_88
          · have hfin : us = rept (A.1 (sw a)) n.toNat := by rw [hv, hDn]
            subst hfin
            rw [hDn] at hm2
            have hlen : (rept (A.1 (sw a)) n.toNat).length = n.toNat * (A.1 (sw a)).length := rept_len _ _
            refine j_callV h (c_X3_lay hE hto (ms := rept (A.1 (sw a)) n.toNat) (setT_1s _ _ _) (by omega)) m_X3_lay a_l_X3_71 rfl rfl ⟨Nat.le_of_ble_eq_true rfl, Nat.le_of_ble_eq_true rfl⟩ (ci := 3) rfl (by omega) (rcS) rfl rfl (Nat.le_of_ble_eq_true rfl) dX3_repeat_85 ?_
            have e : reA A a n to = layA A to (rept (A.1 (sw a)) n.toNat) := by unfold reA; rw [if_neg (by omega), if_pos (by omega), if_neg (by omega)]
            rw [e] at hq
            have hq := fn_lay hq hAb
            exact j_iret h hq rfl dX3_repeat_88
        · obtain ⟨hxn, hDn⟩ : ¬ (A.1 (sw a)).length = 0 ∧ D = n := by omega
          rw [hDn] at hm2
          have hlen := congrArg List.length hv
          rw [show (D - z).toNat = (D - (z + 1)).toNat + 1 by omega] at hlen hv
          simp only [List.length_append, rept_len] at hlen
          rw [rept, ← List.append_assoc] at hv
          have hmm : (((D - (z + 1)).toNat + 1) * (A.1 (sw a)).length) = (D - (z + 1)).toNat * (A.1 (sw a)).length + (A.1 (sw a)).length := Nat.succ_mul _ _
          rw [hDn] at hlen hmm
          refine j_aload_n h 3 dX3_repeat_68 rfl rfl ?_
          refine jg_Smade h a_f_X3_25 dX3_repeat_69 ?_
          refine j_aload h 2 dX3_repeat_72 rfl ?_
          refine j_callVv h (c_X2_addText hE (t := 24) (by omega) (xs := us) (setT_1s _ _ _) (u := sh S a) (by omega) (ys := (A.1 (sw a))) (by rw [setT_1n _ _ (by omega)]; exact hxa) (by omega) (by omega)) m_X2_addText a_l_X3_79 rfl rfl ⟨Nat.le_of_ble_eq_true rfl, Nat.le_of_ble_eq_true rfl⟩ (ci := 2) rfl (by omega) (rcT (by omega)) rfl rfl (Nat.le_of_ble_eq_true rfl) dX3_repeat_74 ?_
          rw [setT_T]
          refine j_iinc h 0 [(6, _), (5, _), (4, _), (0, _), (3, _)] dX3_repeat_77 rfl (by decide) rfl ?_
          refine j_goto h 61 dX3_repeat_80 (by decide) ?_
          exact ih (z + 1) _ (by omega) (by omega) (by omega) hv
    · have c30b : ¬ sgz ((A.1 (sw a)).length * n) 300 ≤ 0 := by omega
      rw [sgz_le] at c30b
      refine j_ldc h (-1000004) a_k_X3_55 (by decide) dX3_repeat_33 ?_
      have e : reA A a n to = (-1000004, A) := by unfold reA; rw [if_neg (by omega), if_neg (by omega)]
      rw [e] at hq
      have hq := fnA hq (hAb)
      exact j_iret h hq rfl dX3_repeat_35
  · refine j_ldc h (-1000003) a_k_X3_181 (by decide) dX3_repeat_14 ?_
    have e : reA A a n to = (-1000003, A) := by unfold reA; rw [if_pos (by omega)]
    rw [e] at hq
    have hq := fnA hq (hAb)
    exact j_iret h hq rfl dX3_repeat_16

