/-! the reference: what changes something -/
def lyA (A : AS) (to : Int) (ms : List Int32) : Int × AS := if ms.length ≤ 300 then layA A to ms else (-1000004, A)
theorem c_lays {E : EV} (hE : EOK E) {A : AS} {mk : List Int32} {g0 : GH} {to : Int} (hto : okI to) : Ct E (RM E g0) yX4_lays wsX4_lays rX4_lays [eA E 76, .int (iI to)] (A, mk) (some (.int (iI (lyA A to mk).1))) ((lyA A to mk).2, mk) := by
  by_cases q : mk.length ≤ 300
  · rw [show lyA A to mk = layA A to mk from if_pos q]
    exact c_lays_ok hE hto q
  · rw [show lyA A to mk = (-1000004, A) from if_neg q]
    exact c_lays_full hE hto (by omega)
theorem c_putsAll {E : EV} (hE : EOK E) {A : AS} {mk : List Int32} {g0 : GH} {a : Int} (ha : okI a) (hb : mk.length < 99000) : Ct E (RM E g0) yX4_putsPart wsX4_putsPart rX4_putsPart [eA E 76, .int (iI a), .int (iI 0), .int (iI (A.1 (sw a)).length)] (A, mk) none (A, mk ++ A.1 (sw a)) := by
  have := c_X4_putsPart (E := E) hE (A := A) (mk := mk) (g0 := g0) ha (f := 0) (u := (A.1 (sw a)).length) (Int.le_refl 0) (by omega) (Int.le_refl _) hb
  rw [Int.sub_zero, Int.toNat_natCast, show ((0 : Int)).toNat = 0 from rfl, sl_all] at this
  exact this
theorem chg_gz (x y : Int32) : ∀ d (ys : List Int32) i k, i + d ≤ ys.length → gz (chg x y ys i d) k = if i ≤ k ∧ k < i + d then (if gz ys k = x then y else gz ys k) else gz ys k := by
  intro d
  induction d with
  | zero => intro ys i k h; rw [if_neg (by omega)]; rfl
  | succ d ih =>
    intro ys i k h
    rw [chg, ih _ _ _ (by rw [List.length_set]; omega)]
    have hg : ∀ j w, gz (ys.set i w) j = if j = i then w else gz ys j := by
      intro j w
      unfold gz
      rw [List.getD_eq_getElem?_getD, List.getD_eq_getElem?_getD, List.getElem?_set]
      by_cases e : i = j
      · subst e; rw [if_pos rfl, if_pos (by omega), if_pos rfl]; rfl
      · rw [if_neg e, if_neg (fun w => e w.symm)]
    rw [hg]
    by_cases e : k = i
    · subst e; rw [if_pos rfl, if_neg (by omega), if_pos (show k ≤ k ∧ k < k + (d + 1) by omega)]
    · rw [if_neg e]
      by_cases w : i + 1 ≤ k ∧ k < i + 1 + d
      · rw [if_pos w, if_pos (show i ≤ k ∧ k < i + (d + 1) by omega)]
      · rw [if_neg w, if_neg (show ¬ (i ≤ k ∧ k < i + (d + 1)) by omega)]
theorem gz_map (f : Int32 → Int32) (xs : List Int32) (k : Nat) (h : k < xs.length) : gz (xs.map f) k = f (gz xs k) := by
  unfold gz
  rw [List.getD_eq_getElem?_getD, List.getD_eq_getElem?_getD, List.getElem?_map, List.getElem?_eq_getElem h]
  rfl
theorem chg_map (x y : Int32) (xs : List Int32) : chg x y xs 0 xs.length = xs.map (fun c => if c = x then y else c) := by
  refine gz_ext (by rw [chg_len, List.length_map]) (fun k hk => ?_)
  rw [chg_len] at hk
  rw [chg_gz _ _ _ _ _ _ (by omega), if_pos (by omega), gz_map _ _ _ hk]
theorem rept_0 (xs : List Int32) (h : xs.length = 0) : ∀ n, rept xs n = [] := by
  have e : xs = [] := List.length_eq_zero_iff.mp h
  intro n
  induction n with
  | zero => rfl
  | succ n ih => rw [rept, ih, e]; rfl
set_option maxHeartbeats 400000 in
set_option maxRecDepth 20000 in
theorem q_wipe {E : EV} (hE : EOK E) {A : AS} {g0 : GH} {a : Int} (ha : okI a) : Ct E (RMP E g0) yX4_wipe wsX4_wipe rX4_wipe [eA E 76, .int (iI a)] A (some (.int (iI ((((A.1 (sw a)).length : Int), aX A (sw a) [])).1))) ((((A.1 (sw a)).length : Int), aX A (sw a) [])).2 := by
  refine ct_of [(0, _), (1, _)] hE (by decide) rfl (Nat.le_of_ble_eq_true rfl) rfl (fun X h hq => ?_)
  refine j_exM (fun mk => ?_)
  refine j_of (fun G hG => RM_len hG) (fun hLM => ?_)
  have hla := hLM.1 (sw a) (sw_lt a)
  have hwa := sw_lt a
  have hfma : 0 ≤ fmo a 8 ∧ fmo a 8 < 8 := by unfold fmo; omega
  have hswa : (fmo a 8).toNat = sw a := rfl
  dsimp only at *
  refine j_aload_n h 0 dX4_wipe_0 rfl rfl ?_
  refine j_iload_n h 1 dX4_wipe_1 rfl rfl ?_
  refine j_callV h (c_X4_sizeOf hE ha) m_X4_sizeOf a_l_X4_67 rfl rfl ⟨Nat.le_of_ble_eq_true rfl, Nat.le_of_ble_eq_true rfl⟩ (ci := 4) rfl (by omega) (rcM) rfl rfl (Nat.le_of_ble_eq_true rfl) dX4_wipe_2 ?_
  refine j_istore_n h [(2, _), (0, _), (1, _)] dX4_wipe_5 rfl (by decide) rfl ?_
  refine j_aload_n h 1 dX4_wipe_6 rfl rfl ?_
  refine jg_Msizes h a_f_X4_13 dX4_wipe_7 ?_
  refine j_iload_n h 2 dX4_wipe_10 rfl rfl ?_
  refine j_callS h (c_X4_meant hE ha) m_X4_meant a_l_X4_50 rfl rfl ⟨Nat.le_of_ble_eq_true rfl, Nat.le_of_ble_eq_true rfl⟩ rfl rfl (Nat.le_of_ble_eq_true rfl) dX4_wipe_11 ?_
  refine j_iconst h dX4_wipe_14 ?_
  refine j_eq (fun G0 hG0 => ?_)
  obtain ⟨f, n, ef, en, hx⟩ := hG0.2.1
  refine j_iast h (S' := va_up G0 78 (iA E 8 (upd n (sw a) (iI 0)))) (by omega) ⟨by omega, by omega⟩ (fun G hG => by subst hG; exact ⟨8, n, en, by omega, rfl⟩) dX4_wipe_15 ?_
  refine j_re (Rp2 := RM E g0) (S2 := (aX A (sw a) [], mk)) (fun G hG => ?_) ?_
  · subst hG
    refine RM_X hG0 ⟨f, _, by rw [va_up_ne _ _ (by omega)]; exact ef, va_up_self _ _ _, fun j hj => ?_⟩ (fun i h1 h2 => va_up_ne _ _ h2)
    show upd n (sw a) (iI 0) (0 + j) = iI (va_up A.1 (sw a) [] j).length ∧ (va_up A.1 (sw a) [] j).length ≤ 300 ∧ ∀ l, l < (va_up A.1 (sw a) [] j).length → f (0 + 300 * j + l) = gz (va_up A.1 (sw a) [] j) l
    have hj3 := hx j hj
    rw [Nat.zero_add] at hj3 ⊢
    by_cases q : j = sw a
    · subst q
      rw [va_up_self]
      exact ⟨if_pos rfl, Nat.zero_le _, fun l hl => absurd hl (Nat.not_lt_zero _)⟩
    · rw [va_up_ne _ _ q, show upd n (sw a) (iI 0) j = n j from if_neg q]
      exact hj3
  refine j_iload_n h 0 dX4_wipe_16 rfl rfl ?_
  have hq := fnM mk hq
  exact j_iret h hq rfl dX4_wipe_17
set_option maxHeartbeats 400000 in
set_option maxRecDepth 20000 in
theorem q_type {E : EV} (hE : EOK E) {A : AS} {g0 : GH} {a : Int} (ha : okI a) {x : Int} (hx : okI x) : Ct E (RMP E g0) yX4_type wsX4_type rX4_type [eA E 76, .int (iI a), .int (iI x)] A (some (.int (iI (tyA A a x).1))) (tyA A a x).2 := by
  refine ct_of [(0, _), (1, _), (2, _)] hE (by decide) rfl (Nat.le_of_ble_eq_true rfl) rfl (fun X h hq => ?_)
  refine j_exM (fun mk => ?_)
  refine j_of (fun G hG => RM_len hG) (fun hLM => ?_)
  have hla := hLM.1 (sw a) (sw_lt a)
  have hwa := sw_lt a
  have hfma : 0 ≤ fmo a 8 ∧ fmo a 8 < 8 := by unfold fmo; omega
  have hswa : (fmo a 8).toNat = sw a := rfl
  dsimp only at *
  refine j_iload_n h 2 dX4_type_0 rfl rfl ?_
  refine j_callS h (c_X4_isSign hE hx) m_X4_isSign a_l_X4_70 rfl rfl ⟨Nat.le_of_ble_eq_true rfl, Nat.le_of_ble_eq_true rfl⟩ rfl rfl (Nat.le_of_ble_eq_true rfl) dX4_type_1 ?_
  refine j_if_ne h 10 dX4_type_4 (by decide) (by first | exact okI_of _ | exact okI_b _ | exact okI_sgz _ _ | assumption | (unfold okI; omega)) (fun c4 => ?_) (fun c4 => ?_)
  · rw [bI_n0] at c4
    refine j_aload_n h 0 dX4_type_10 rfl rfl ?_
    refine j_callVv h (c_X4_begins hE) m_X4_begins a_l_X4_75 rfl rfl ⟨Nat.le_of_ble_eq_true rfl, Nat.le_of_ble_eq_true rfl⟩ (ci := 4) rfl (by omega) (rcM) rfl rfl (Nat.le_of_ble_eq_true rfl) dX4_type_11 ?_
    refine j_aload_n h 0 dX4_type_14 rfl rfl ?_
    refine j_iload_n h 1 dX4_type_15 rfl rfl ?_
    refine j_iconst h dX4_type_16 ?_
    refine j_aload_n h 0 dX4_type_17 rfl rfl ?_
    refine j_iload_n h 1 dX4_type_18 rfl rfl ?_
    refine j_callV h (c_X4_sizeOf hE ha) m_X4_sizeOf a_l_X4_67 rfl rfl ⟨Nat.le_of_ble_eq_true rfl, Nat.le_of_ble_eq_true rfl⟩ (ci := 4) rfl (by omega) (rcM) rfl rfl (Nat.le_of_ble_eq_true rfl) dX4_type_19 ?_
    refine j_callVv h (c_putsAll hE ha (by first | (simp only [List.length_nil, List.length_append]; omega) | omega)) m_X4_putsPart a_l_X4_78 rfl rfl ⟨Nat.le_of_ble_eq_true rfl, Nat.le_of_ble_eq_true rfl⟩ (ci := 4) rfl (by omega) (rcM) rfl rfl (Nat.le_of_ble_eq_true rfl) dX4_type_22 ?_
    try rw [List.nil_append]
    refine j_aload_n h 0 dX4_type_25 rfl rfl ?_
    refine j_iload_n h 2 dX4_type_26 rfl rfl ?_
    refine j_callVv h (c_X4_puts hE (by omega)) m_X4_puts a_l_X4_62 rfl rfl ⟨Nat.le_of_ble_eq_true rfl, Nat.le_of_ble_eq_true rfl⟩ (ci := 4) rfl (by omega) (rcM) rfl rfl (Nat.le_of_ble_eq_true rfl) dX4_type_27 ?_
    refine j_aload_n h 0 dX4_type_30 rfl rfl ?_
    refine j_iload_n h 1 dX4_type_31 rfl rfl ?_
    refine j_callV h (c_lays hE ha) m_X4_lays a_l_X4_82 rfl rfl ⟨Nat.le_of_ble_eq_true rfl, Nat.le_of_ble_eq_true rfl⟩ (ci := 4) rfl (by omega) (rcM) rfl rfl (Nat.le_of_ble_eq_true rfl) dX4_type_32 ?_
    have e : tyA A a x = lyA A a ((A.1 (sw a)) ++ [iI x]) := by unfold tyA lyA layA; rw [if_pos c4, List.length_append, show [iI x].length = 1 from rfl]; by_cases q : (A.1 (sw a)).length < 300; rw [if_pos q, if_pos (by omega)]; rw [if_neg q, if_neg (by omega)]
    rw [e] at hq
    have hq := fnM ((A.1 (sw a)) ++ [iI x]) hq
    exact j_iret h hq rfl dX4_type_35
  · rw [bI_0] at c4
    refine j_ldc h (-1000001) a_k_X4_74 (by decide) dX4_type_7 ?_
    have e : tyA A a x = (-1000001, A) := by unfold tyA; rw [if_neg (by rw [c4]; simp)]
    rw [e] at hq
    have hq := fnM (mk) hq
    exact j_iret h hq rfl dX4_type_9
set_option maxHeartbeats 400000 in
set_option maxRecDepth 20000 in
theorem q_copy {E : EV} (hE : EOK E) {A : AS} {g0 : GH} {a : Int} (ha : okI a) {to : Int} (hto : okI to) : Ct E (RMP E g0) yX4_copy wsX4_copy rX4_copy [eA E 76, .int (iI a), .int (iI to)] A (some (.int (iI (layA A to (A.1 (sw a))).1))) (layA A to (A.1 (sw a))).2 := by
  refine ct_of [(0, _), (1, _), (2, _)] hE (by decide) rfl (Nat.le_of_ble_eq_true rfl) rfl (fun X h hq => ?_)
  refine j_exM (fun mk => ?_)
  refine j_of (fun G hG => RM_len hG) (fun hLM => ?_)
  have hla := hLM.1 (sw a) (sw_lt a)
  have hwa := sw_lt a
  have hfma : 0 ≤ fmo a 8 ∧ fmo a 8 < 8 := by unfold fmo; omega
  have hswa : (fmo a 8).toNat = sw a := rfl
  have hlto := hLM.1 (sw to) (sw_lt to)
  have hwto := sw_lt to
  have hfmto : 0 ≤ fmo to 8 ∧ fmo to 8 < 8 := by unfold fmo; omega
  have hswto : (fmo to 8).toNat = sw to := rfl
  dsimp only at *
  refine j_aload_n h 0 dX4_copy_0 rfl rfl ?_
  refine j_callVv h (c_X4_begins hE) m_X4_begins a_l_X4_75 rfl rfl ⟨Nat.le_of_ble_eq_true rfl, Nat.le_of_ble_eq_true rfl⟩ (ci := 4) rfl (by omega) (rcM) rfl rfl (Nat.le_of_ble_eq_true rfl) dX4_copy_1 ?_
  refine j_aload_n h 0 dX4_copy_4 rfl rfl ?_
  refine j_iload_n h 1 dX4_copy_5 rfl rfl ?_
  refine j_iconst h dX4_copy_6 ?_
  refine j_aload_n h 0 dX4_copy_7 rfl rfl ?_
  refine j_iload_n h 1 dX4_copy_8 rfl rfl ?_
  refine j_callV h (c_X4_sizeOf hE ha) m_X4_sizeOf a_l_X4_67 rfl rfl ⟨Nat.le_of_ble_eq_true rfl, Nat.le_of_ble_eq_true rfl⟩ (ci := 4) rfl (by omega) (rcM) rfl rfl (Nat.le_of_ble_eq_true rfl) dX4_copy_9 ?_
  refine j_callVv h (c_putsAll hE ha (by first | (simp only [List.length_nil, List.length_append]; omega) | omega)) m_X4_putsPart a_l_X4_78 rfl rfl ⟨Nat.le_of_ble_eq_true rfl, Nat.le_of_ble_eq_true rfl⟩ (ci := 4) rfl (by omega) (rcM) rfl rfl (Nat.le_of_ble_eq_true rfl) dX4_copy_12 ?_
  try rw [List.nil_append]
  refine j_aload_n h 0 dX4_copy_15 rfl rfl ?_
  refine j_iload_n h 2 dX4_copy_16 rfl rfl ?_
  refine j_callV h (c_lays hE hto) m_X4_lays a_l_X4_82 rfl rfl ⟨Nat.le_of_ble_eq_true rfl, Nat.le_of_ble_eq_true rfl⟩ (ci := 4) rfl (by omega) (rcM) rfl rfl (Nat.le_of_ble_eq_true rfl) dX4_copy_17 ?_
  have e : layA A to (A.1 (sw a)) = lyA A to ((A.1 (sw a))) := by unfold lyA; rw [if_pos (by omega)]
  rw [e] at hq
  have hq := fnM ((A.1 (sw a))) hq
  exact j_iret h hq rfl dX4_copy_20
set_option maxHeartbeats 400000 in
set_option maxRecDepth 20000 in
theorem q_concat {E : EV} (hE : EOK E) {A : AS} {g0 : GH} {a : Int} (ha : okI a) {b : Int} (hb : okI b) {to : Int} (hto : okI to) : Ct E (RMP E g0) yX4_concat wsX4_concat rX4_concat [eA E 76, .int (iI a), .int (iI b), .int (iI to)] A (some (.int (iI (coA A a b to).1))) (coA A a b to).2 := by
  refine ct_of [(0, _), (1, _), (2, _), (3, _)] hE (by decide) rfl (Nat.le_of_ble_eq_true rfl) rfl (fun X h hq => ?_)
  refine j_exM (fun mk => ?_)
  refine j_of (fun G hG => RM_len hG) (fun hLM => ?_)
  have hla := hLM.1 (sw a) (sw_lt a)
  have hwa := sw_lt a
  have hfma : 0 ≤ fmo a 8 ∧ fmo a 8 < 8 := by unfold fmo; omega
  have hswa : (fmo a 8).toNat = sw a := rfl
  have hlb := hLM.1 (sw b) (sw_lt b)
  have hwb := sw_lt b
  have hfmb : 0 ≤ fmo b 8 ∧ fmo b 8 < 8 := by unfold fmo; omega
  have hswb : (fmo b 8).toNat = sw b := rfl
  have hlto := hLM.1 (sw to) (sw_lt to)
  have hwto := sw_lt to
  have hfmto : 0 ≤ fmo to 8 ∧ fmo to 8 < 8 := by unfold fmo; omega
  have hswto : (fmo to 8).toNat = sw to := rfl
  dsimp only at *
  refine j_aload_n h 0 dX4_concat_0 rfl rfl ?_
  refine j_callVv h (c_X4_begins hE) m_X4_begins a_l_X4_75 rfl rfl ⟨Nat.le_of_ble_eq_true rfl, Nat.le_of_ble_eq_true rfl⟩ (ci := 4) rfl (by omega) (rcM) rfl rfl (Nat.le_of_ble_eq_true rfl) dX4_concat_1 ?_
  refine j_aload_n h 0 dX4_concat_4 rfl rfl ?_
  refine j_iload_n h 1 dX4_concat_5 rfl rfl ?_
  refine j_iconst h dX4_concat_6 ?_
  refine j_aload_n h 0 dX4_concat_7 rfl rfl ?_
  refine j_iload_n h 1 dX4_concat_8 rfl rfl ?_
  refine j_callV h (c_X4_sizeOf hE ha) m_X4_sizeOf a_l_X4_67 rfl rfl ⟨Nat.le_of_ble_eq_true rfl, Nat.le_of_ble_eq_true rfl⟩ (ci := 4) rfl (by omega) (rcM) rfl rfl (Nat.le_of_ble_eq_true rfl) dX4_concat_9 ?_
  refine j_callVv h (c_putsAll hE ha (by first | (simp only [List.length_nil, List.length_append]; omega) | omega)) m_X4_putsPart a_l_X4_78 rfl rfl ⟨Nat.le_of_ble_eq_true rfl, Nat.le_of_ble_eq_true rfl⟩ (ci := 4) rfl (by omega) (rcM) rfl rfl (Nat.le_of_ble_eq_true rfl) dX4_concat_12 ?_
  try rw [List.nil_append]
  refine j_aload_n h 0 dX4_concat_15 rfl rfl ?_
  refine j_iload_n h 2 dX4_concat_16 rfl rfl ?_
  refine j_iconst h dX4_concat_17 ?_
  refine j_aload_n h 0 dX4_concat_18 rfl rfl ?_
  refine j_iload_n h 2 dX4_concat_19 rfl rfl ?_
  refine j_callV h (c_X4_sizeOf hE hb) m_X4_sizeOf a_l_X4_67 rfl rfl ⟨Nat.le_of_ble_eq_true rfl, Nat.le_of_ble_eq_true rfl⟩ (ci := 4) rfl (by omega) (rcM) rfl rfl (Nat.le_of_ble_eq_true rfl) dX4_concat_20 ?_
  refine j_callVv h (c_putsAll hE hb (by omega)) m_X4_putsPart a_l_X4_78 rfl rfl ⟨Nat.le_of_ble_eq_true rfl, Nat.le_of_ble_eq_true rfl⟩ (ci := 4) rfl (by omega) (rcM) rfl rfl (Nat.le_of_ble_eq_true rfl) dX4_concat_23 ?_
  refine j_aload_n h 0 dX4_concat_26 rfl rfl ?_
  refine j_iload_n h 3 dX4_concat_27 rfl rfl ?_
  refine j_callV h (c_lays hE hto) m_X4_lays a_l_X4_82 rfl rfl ⟨Nat.le_of_ble_eq_true rfl, Nat.le_of_ble_eq_true rfl⟩ (ci := 4) rfl (by omega) (rcM) rfl rfl (Nat.le_of_ble_eq_true rfl) dX4_concat_28 ?_
  have e : coA A a b to = lyA A to ((A.1 (sw a)) ++ (A.1 (sw b))) := by unfold coA lyA; rw [List.length_append]
  rw [e] at hq
  have hq := fnM ((A.1 (sw a)) ++ (A.1 (sw b))) hq
  exact j_iret h hq rfl dX4_concat_31
set_option maxHeartbeats 400000 in
set_option maxRecDepth 20000 in
theorem q_substring {E : EV} (hE : EOK E) {A : AS} {g0 : GH} {a : Int} (ha : okI a) {f : Int} (hf : okI f) {u : Int} (hu : okI u) {to : Int} (hto : okI to) : Ct E (RMP E g0) yX4_substring wsX4_substring rX4_substring [eA E 76, .int (iI a), .int (iI f), .int (iI u), .int (iI to)] A (some (.int (iI (suA A a f u to).1))) (suA A a f u to).2 := by
  refine ct_of [(0, _), (1, _), (2, _), (3, _), (4, _)] hE (by decide) rfl (Nat.le_of_ble_eq_true rfl) rfl (fun X h hq => ?_)
  refine j_exM (fun mk => ?_)
  refine j_of (fun G hG => RM_len hG) (fun hLM => ?_)
  have hla := hLM.1 (sw a) (sw_lt a)
  have hwa := sw_lt a
  have hfma : 0 ≤ fmo a 8 ∧ fmo a 8 < 8 := by unfold fmo; omega
  have hswa : (fmo a 8).toNat = sw a := rfl
  dsimp only at *
  refine j_iload_n h 2 dX4_substring_0 rfl rfl ?_
  refine j_if_lt h 18 dX4_substring_1 (by decide) (by first | exact okI_of _ | exact okI_b _ | exact okI_sgz _ _ | assumption | (unfold okI; omega)) (fun c1 => ?_) (fun c1 => ?_)
  · refine j_ldc h (-1000002) a_k_X4_87 (by decide) dX4_substring_18 ?_
    have e : suA A a f u to = (-1000002, A) := by unfold suA; rw [if_neg (by omega)]
    rw [e] at hq
    have hq := fnM (mk) hq
    exact j_iret h hq rfl dX4_substring_20
  · refine j_iload_n h 3 dX4_substring_4 rfl rfl ?_
    refine j_aload_n h 0 dX4_substring_5 rfl rfl ?_
    refine j_iload_n h 1 dX4_substring_6 rfl rfl ?_
    refine j_callV h (c_X4_sizeOf hE ha) m_X4_sizeOf a_l_X4_67 rfl rfl ⟨Nat.le_of_ble_eq_true rfl, Nat.le_of_ble_eq_true rfl⟩ (ci := 4) rfl (by omega) (rcM) rfl rfl (Nat.le_of_ble_eq_true rfl) dX4_substring_7 ?_
    refine j_icmp_gt h 18 dX4_substring_10 (by decide) (by first | exact okI_of _ | exact okI_b _ | exact okI_sgz _ _ | assumption | (unfold okI; omega)) (by first | exact okI_of _ | exact okI_b _ | exact okI_sgz _ _ | assumption | (unfold okI; omega)) (fun c10 => ?_) (fun c10 => ?_)
    · refine j_ldc h (-1000002) a_k_X4_87 (by decide) dX4_substring_18 ?_
      have e : suA A a f u to = (-1000002, A) := by unfold suA; rw [if_neg (by omega)]
      rw [e] at hq
      have hq := fnM (mk) hq
      exact j_iret h hq rfl dX4_substring_20
    · refine j_iload_n h 2 dX4_substring_13 rfl rfl ?_
      refine j_iload_n h 3 dX4_substring_14 rfl rfl ?_
      refine j_icmp_le h 21 dX4_substring_15 (by decide) (by first | exact okI_of _ | exact okI_b _ | exact okI_sgz _ _ | assumption | (unfold okI; omega)) (by first | exact okI_of _ | exact okI_b _ | exact okI_sgz _ _ | assumption | (unfold okI; omega)) (fun c15 => ?_) (fun c15 => ?_)
      · refine j_aload_n h 0 dX4_substring_21 rfl rfl ?_
        refine j_callVv h (c_X4_begins hE) m_X4_begins a_l_X4_75 rfl rfl ⟨Nat.le_of_ble_eq_true rfl, Nat.le_of_ble_eq_true rfl⟩ (ci := 4) rfl (by omega) (rcM) rfl rfl (Nat.le_of_ble_eq_true rfl) dX4_substring_22 ?_
        refine j_aload_n h 0 dX4_substring_25 rfl rfl ?_
        refine j_iload_n h 1 dX4_substring_26 rfl rfl ?_
        refine j_iload_n h 2 dX4_substring_27 rfl rfl ?_
        refine j_iload_n h 3 dX4_substring_28 rfl rfl ?_
        refine j_callVv h (c_X4_putsPart hE ha (by omega) (by omega) (by omega) (by simp)) m_X4_putsPart a_l_X4_78 rfl rfl ⟨Nat.le_of_ble_eq_true rfl, Nat.le_of_ble_eq_true rfl⟩ (ci := 4) rfl (by omega) (rcM) rfl rfl (Nat.le_of_ble_eq_true rfl) dX4_substring_29 ?_
        rw [List.nil_append]
        refine j_aload_n h 0 dX4_substring_32 rfl rfl ?_
        refine j_iload h 4 dX4_substring_33 rfl ?_
        refine j_callV h (c_lays hE hto) m_X4_lays a_l_X4_82 rfl rfl ⟨Nat.le_of_ble_eq_true rfl, Nat.le_of_ble_eq_true rfl⟩ (ci := 4) rfl (by omega) (rcM) rfl rfl (Nat.le_of_ble_eq_true rfl) dX4_substring_35 ?_
        have e : suA A a f u to = lyA A to (sl (A.1 (sw a)) f.toNat (u - f).toNat) := by unfold suA lyA; rw [if_pos (by omega), if_pos (by rw [sl_len]; omega)]
        rw [e] at hq
        have hq := fnM (sl (A.1 (sw a)) f.toNat (u - f).toNat) hq
        exact j_iret h hq rfl dX4_substring_38
      · refine j_ldc h (-1000002) a_k_X4_87 (by decide) dX4_substring_18 ?_
        have e : suA A a f u to = (-1000002, A) := by unfold suA; rw [if_neg (by omega)]
        rw [e] at hq
        have hq := fnM (mk) hq
        exact j_iret h hq rfl dX4_substring_20
set_option maxHeartbeats 400000 in
set_option maxRecDepth 20000 in
theorem q_replaceSign {E : EV} (hE : EOK E) {A : AS} {g0 : GH} {a : Int} (ha : okI a) {x : Int} (hx : okI x) {y : Int} (hy : okI y) {to : Int} (hto : okI to) : Ct E (RMP E g0) yX4_replaceSign wsX4_replaceSign rX4_replaceSign [eA E 76, .int (iI a), .int (iI x), .int (iI y), .int (iI to)] A (some (.int (iI (rsA A a x y to).1))) (rsA A a x y to).2 := by
  refine ct_of [(0, _), (1, _), (2, _), (3, _), (4, _)] hE (by decide) rfl (Nat.le_of_ble_eq_true rfl) rfl (fun X h hq => ?_)
  refine j_exM (fun mk => ?_)
  refine j_of (fun G hG => RM_len hG) (fun hLM => ?_)
  have hla := hLM.1 (sw a) (sw_lt a)
  have hwa := sw_lt a
  have hfma : 0 ≤ fmo a 8 ∧ fmo a 8 < 8 := by unfold fmo; omega
  have hswa : (fmo a 8).toNat = sw a := rfl
  dsimp only at *
  refine j_iload_n h 2 dX4_replaceSign_0 rfl rfl ?_
  refine j_callS h (c_X4_isSign hE hx) m_X4_isSign a_l_X4_70 rfl rfl ⟨Nat.le_of_ble_eq_true rfl, Nat.le_of_ble_eq_true rfl⟩ rfl rfl (Nat.le_of_ble_eq_true rfl) dX4_replaceSign_1 ?_
  refine j_if_eq h 14 dX4_replaceSign_4 (by decide) (by first | exact okI_of _ | exact okI_b _ | exact okI_sgz _ _ | assumption | (unfold okI; omega)) (fun c4 => ?_) (fun c4 => ?_)
  · rw [bI_0] at c4
    refine j_ldc h (-1000001) a_k_X4_74 (by decide) dX4_replaceSign_14 ?_
    have e : rsA A a x y to = (-1000001, A) := by unfold rsA; exact if_neg (fun w => by simp_all)
    rw [e] at hq
    have hq := fnM (mk) hq
    exact j_iret h hq rfl dX4_replaceSign_16
  · rw [bI_n0] at c4
    refine j_iload_n h 3 dX4_replaceSign_7 rfl rfl ?_
    refine j_callS h (c_X4_isSign hE hy) m_X4_isSign a_l_X4_70 rfl rfl ⟨Nat.le_of_ble_eq_true rfl, Nat.le_of_ble_eq_true rfl⟩ rfl rfl (Nat.le_of_ble_eq_true rfl) dX4_replaceSign_8 ?_
    refine j_if_ne h 17 dX4_replaceSign_11 (by decide) (by first | exact okI_of _ | exact okI_b _ | exact okI_sgz _ _ | assumption | (unfold okI; omega)) (fun c11 => ?_) (fun c11 => ?_)
    · rw [bI_n0] at c11
      refine j_aload_n h 0 dX4_replaceSign_17 rfl rfl ?_
      refine j_callVv h (c_X4_begins hE) m_X4_begins a_l_X4_75 rfl rfl ⟨Nat.le_of_ble_eq_true rfl, Nat.le_of_ble_eq_true rfl⟩ (ci := 4) rfl (by omega) (rcM) rfl rfl (Nat.le_of_ble_eq_true rfl) dX4_replaceSign_18 ?_
      refine j_iconst h dX4_replaceSign_21 ?_
      refine j_istore h [(5, _), (0, _), (1, _), (2, _), (3, _), (4, _)] dX4_replaceSign_22 (by decide) rfl ?_
      refine j_sub [0, 1, 2, 3, 4, 5] rfl ?_
      refine lpA2 (fun (z : Int) (us : List Int32) => ((A.1 (sw a)).length - z).toNat) (fun (z : Int) (us : List Int32) => 0 ≤ z → z ≤ (A.1 (sw a)).length → us.length + ((A.1 (sw a)).length - z).toNat ≤ 300 → us ++ (sl (A.1 (sw a)) z.toNat ((A.1 (sw a)).length - z).toNat).map (fun c => if c = iI x then iI y else c) = (A.1 (sw a)).map (fun c => if c = iI x then iI y else c) → JL E (RM E g0) X 24 [(5, .int (iI z)), (0, eA E 76), (1, .int (iI a)), (2, .int (iI x)), (3, .int (iI y)), (4, .int (iI to))] [] (A, us)) (fun z us ih h0 hzb hcp hv => ?_) 0 [] (Int.le_refl 0) (by omega) (by simp; omega) (by rw [List.nil_append, Int.sub_zero, Int.toNat_natCast, show ((0 : Int)).toNat = 0 from rfl, sl_all])
      refine j_iload h 0 dX4_replaceSign_24 rfl ?_
      refine j_aload_n h 1 dX4_replaceSign_26 rfl rfl ?_
      refine j_iload_n h 2 dX4_replaceSign_27 rfl rfl ?_
      refine j_callV h (c_X4_sizeOf hE ha) m_X4_sizeOf a_l_X4_67 rfl rfl ⟨Nat.le_of_ble_eq_true rfl, Nat.le_of_ble_eq_true rfl⟩ (ci := 4) rfl (by omega) (rcM) rfl rfl (Nat.le_of_ble_eq_true rfl) dX4_replaceSign_28 ?_
      refine j_icmp_ge h 66 dX4_replaceSign_31 (by decide) (by first | exact okI_of _ | exact okI_b _ | exact okI_sgz _ _ | assumption | (unfold okI; omega)) (by first | exact okI_of _ | exact okI_b _ | exact okI_sgz _ _ | assumption | (unfold okI; omega)) (fun c31 => ?_) (fun c31 => ?_)
      · refine j_aload_n h 1 dX4_replaceSign_66 rfl rfl ?_
        refine j_iload h 5 dX4_replaceSign_67 rfl ?_
        refine j_callV h (c_lays hE hto) m_X4_lays a_l_X4_82 rfl rfl ⟨Nat.le_of_ble_eq_true rfl, Nat.le_of_ble_eq_true rfl⟩ (ci := 4) rfl (by omega) (rcM) rfl rfl (Nat.le_of_ble_eq_true rfl) dX4_replaceSign_69 ?_
        rw [show ((A.1 (sw a)).length - z).toNat = 0 by omega, sl, List.map_nil, List.append_nil] at hv
        have e : rsA A a x y to = lyA A to (us) := by unfold rsA lyA; rw [if_pos ⟨c4, c11⟩, chg_map, ← hv, if_pos (by rw [hv, List.length_map]; omega)]
        rw [e] at hq
        have hq := fnM (us) hq
        exact j_iret h hq rfl dX4_replaceSign_72
      · refine j_aload_n h 1 dX4_replaceSign_34 rfl rfl ?_
        refine j_aload_n h 1 dX4_replaceSign_35 rfl rfl ?_
        refine j_iload_n h 2 dX4_replaceSign_36 rfl rfl ?_
        refine j_iload h 0 dX4_replaceSign_37 rfl ?_
        refine j_callV h (c_X4_signAt hE ha (by omega) (by omega)) m_X4_signAt a_l_X4_58 rfl rfl ⟨Nat.le_of_ble_eq_true rfl, Nat.le_of_ble_eq_true rfl⟩ (ci := 4) rfl (by omega) (rcM) rfl rfl (Nat.le_of_ble_eq_true rfl) dX4_replaceSign_39 ?_
        refine j_iload_n h 3 dX4_replaceSign_42 rfl rfl ?_
        refine j_rcmp_ne h 50 dX4_replaceSign_43 (by decide) (fun c43 => ?_) (fun c43 => ?_)
        · refine j_aload_n h 1 dX4_replaceSign_50 rfl rfl ?_
          refine j_iload_n h 2 dX4_replaceSign_51 rfl rfl ?_
          refine j_iload h 0 dX4_replaceSign_52 rfl ?_
          refine j_callV h (c_X4_signAt hE ha (by omega) (by omega)) m_X4_signAt a_l_X4_58 rfl rfl ⟨Nat.le_of_ble_eq_true rfl, Nat.le_of_ble_eq_true rfl⟩ (ci := 4) rfl (by omega) (rcM) rfl rfl (Nat.le_of_ble_eq_true rfl) dX4_replaceSign_54 ?_
          refine j_callVv h (c_X4_puts hE (by omega)) m_X4_puts a_l_X4_62 rfl rfl ⟨Nat.le_of_ble_eq_true rfl, Nat.le_of_ble_eq_true rfl⟩ (ci := 4) rfl (by omega) (rcM) rfl rfl (Nat.le_of_ble_eq_true rfl) dX4_replaceSign_57 ?_
          refine j_iinc h 0 [(5, _), (0, _), (1, _), (2, _), (3, _), (4, _)] dX4_replaceSign_60 rfl (by decide) rfl ?_
          refine j_goto h 24 dX4_replaceSign_63 (by decide) ?_
          rw [show ((A.1 (sw a)).length - z).toNat = ((A.1 (sw a)).length - (z + 1)).toNat + 1 by omega, sl, List.map_cons, List.append_cons, show z.toNat + 1 = (z + 1).toNat by omega] at hv
          first | (rw [if_pos c43] at hv; exact ih (z + 1) _ (by omega) (by omega) (by omega) (by simp only [List.length_append, List.length_cons, List.length_nil]; omega) hv) | (rw [if_neg c43] at hv; exact ih (z + 1) _ (by omega) (by omega) (by omega) (by simp only [List.length_append, List.length_cons, List.length_nil]; omega) hv)
        · refine j_iload_n h 4 dX4_replaceSign_46 rfl rfl ?_
          refine j_goto h 57 dX4_replaceSign_47 (by decide) ?_
          refine j_callVv h (c_X4_puts hE (by omega)) m_X4_puts a_l_X4_62 rfl rfl ⟨Nat.le_of_ble_eq_true rfl, Nat.le_of_ble_eq_true rfl⟩ (ci := 4) rfl (by omega) (rcM) rfl rfl (Nat.le_of_ble_eq_true rfl) dX4_replaceSign_57 ?_
          refine j_iinc h 0 [(5, _), (0, _), (1, _), (2, _), (3, _), (4, _)] dX4_replaceSign_60 rfl (by decide) rfl ?_
          refine j_goto h 24 dX4_replaceSign_63 (by decide) ?_
          rw [show ((A.1 (sw a)).length - z).toNat = ((A.1 (sw a)).length - (z + 1)).toNat + 1 by omega, sl, List.map_cons, List.append_cons, show z.toNat + 1 = (z + 1).toNat by omega] at hv
          first | (rw [if_pos c43] at hv; exact ih (z + 1) _ (by omega) (by omega) (by omega) (by simp only [List.length_append, List.length_cons, List.length_nil]; omega) hv) | (rw [if_neg c43] at hv; exact ih (z + 1) _ (by omega) (by omega) (by omega) (by simp only [List.length_append, List.length_cons, List.length_nil]; omega) hv)
    · rw [bI_0] at c11
      refine j_ldc h (-1000001) a_k_X4_74 (by decide) dX4_replaceSign_14 ?_
      have e : rsA A a x y to = (-1000001, A) := by unfold rsA; exact if_neg (fun w => by simp_all)
      rw [e] at hq
      have hq := fnM (mk) hq
      exact j_iret h hq rfl dX4_replaceSign_16
set_option maxHeartbeats 400000 in
set_option maxRecDepth 20000 in
theorem q_replaceText {E : EV} (hE : EOK E) {A : AS} {g0 : GH} {a : Int} (ha : okI a) {b : Int} (hb : okI b) {c : Int} (hc : okI c) {to : Int} (hto : okI to) : Ct E (RMP E g0) yX4_replaceText wsX4_replaceText rX4_replaceText [eA E 76, .int (iI a), .int (iI b), .int (iI c), .int (iI to)] A (some (.int (iI (rtA A a b c to).1))) (rtA A a b c to).2 := by
  refine ct_of [(0, _), (1, _), (2, _), (3, _), (4, _)] hE (by decide) rfl (Nat.le_of_ble_eq_true rfl) rfl (fun X h hq => ?_)
  refine j_exM (fun mk => ?_)
  refine j_of (fun G hG => RM_len hG) (fun hLM => ?_)
  have hla := hLM.1 (sw a) (sw_lt a)
  have hwa := sw_lt a
  have hfma : 0 ≤ fmo a 8 ∧ fmo a 8 < 8 := by unfold fmo; omega
  have hswa : (fmo a 8).toNat = sw a := rfl
  have hlb := hLM.1 (sw b) (sw_lt b)
  have hwb := sw_lt b
  have hfmb : 0 ≤ fmo b 8 ∧ fmo b 8 < 8 := by unfold fmo; omega
  have hswb : (fmo b 8).toNat = sw b := rfl
  have hlc := hLM.1 (sw c) (sw_lt c)
  have hwc := sw_lt c
  have hfmc : 0 ≤ fmo c 8 ∧ fmo c 8 < 8 := by unfold fmo; omega
  have hswc : (fmo c 8).toNat = sw c := rfl
  dsimp only at *
  have hmx : max 1 (A.1 (sw b)).length = (A.1 (sw b)).length ∨ (A.1 (sw b)).length = 0 := by omega
  refine j_aload_n h 0 dX4_replaceText_0 rfl rfl ?_
  refine j_iload_n h 2 dX4_replaceText_1 rfl rfl ?_
  refine j_callV h (c_X4_sizeOf hE hb) m_X4_sizeOf a_l_X4_67 rfl rfl ⟨Nat.le_of_ble_eq_true rfl, Nat.le_of_ble_eq_true rfl⟩ (ci := 4) rfl (by omega) (rcM) rfl rfl (Nat.le_of_ble_eq_true rfl) dX4_replaceText_2 ?_
  refine j_if_ne h 11 dX4_replaceText_5 (by decide) (by first | exact okI_of _ | exact okI_b _ | exact okI_sgz _ _ | assumption | (unfold okI; omega)) (fun c5 => ?_) (fun c5 => ?_)
  · refine j_aload_n h 0 dX4_replaceText_11 rfl rfl ?_
    refine j_callVv h (c_X4_begins hE) m_X4_begins a_l_X4_75 rfl rfl ⟨Nat.le_of_ble_eq_true rfl, Nat.le_of_ble_eq_true rfl⟩ (ci := 4) rfl (by omega) (rcM) rfl rfl (Nat.le_of_ble_eq_true rfl) dX4_replaceText_12 ?_
    refine j_iconst h dX4_replaceText_15 ?_
    refine j_istore h [(5, _), (0, _), (1, _), (2, _), (3, _), (4, _)] dX4_replaceText_16 (by decide) rfl ?_
    refine j_sub [0, 1, 2, 3, 4, 5] rfl ?_
    refine lpA3 (fun (z : Int) (us : List Int32) (f : Nat) => f) (fun (z : Int) (us : List Int32) (f : Nat) => 0 ≤ z → z ≤ 600 → us.length ≤ 300 * z.toNat → (z < (A.1 (sw a)).length → us.length ≤ 90000) → ((A.1 (sw a)).length : Int) - z < f → us ++ rpl (A.1 (sw a)) (A.1 (sw b)) (A.1 (sw c)) f z.toNat = rplT (A.1 (sw a)) (A.1 (sw b)) (A.1 (sw c)) → JL E (RM E g0) X 18 [(5, .int (iI z)), (0, eA E 76), (1, .int (iI a)), (2, .int (iI b)), (3, .int (iI c)), (4, .int (iI to))] [] (A, us)) (fun z us f ih h0 hzb hcp hcp2 hf hv => ?_) 0 [] ((A.1 (sw a)).length + 1) (Int.le_refl 0) (by omega) (by simp) (fun _ => by simp) (by omega) rfl
    refine j_iload h 0 dX4_replaceText_18 rfl ?_
    refine j_aload_n h 1 dX4_replaceText_20 rfl rfl ?_
    refine j_iload_n h 2 dX4_replaceText_21 rfl rfl ?_
    refine j_callV h (c_X4_sizeOf hE ha) m_X4_sizeOf a_l_X4_67 rfl rfl ⟨Nat.le_of_ble_eq_true rfl, Nat.le_of_ble_eq_true rfl⟩ (ci := 4) rfl (by omega) (rcM) rfl rfl (Nat.le_of_ble_eq_true rfl) dX4_replaceText_22 ?_
    refine j_icmp_ge h 80 dX4_replaceText_25 (by decide) (by first | exact okI_of _ | exact okI_b _ | exact okI_sgz _ _ | assumption | (unfold okI; omega)) (by first | exact okI_of _ | exact okI_b _ | exact okI_sgz _ _ | assumption | (unfold okI; omega)) (fun c25 => ?_) (fun c25 => ?_)
    · refine j_aload_n h 1 dX4_replaceText_80 rfl rfl ?_
      refine j_iload h 5 dX4_replaceText_81 rfl ?_
      refine j_callV h (c_lays hE hto) m_X4_lays a_l_X4_82 rfl rfl ⟨Nat.le_of_ble_eq_true rfl, Nat.le_of_ble_eq_true rfl⟩ (ci := 4) rfl (by omega) (rcM) rfl rfl (Nat.le_of_ble_eq_true rfl) dX4_replaceText_83 ?_
      have hv0 : us = rplT (A.1 (sw a)) (A.1 (sw b)) (A.1 (sw c)) := by rw [← hv]; cases f with | zero => (simp [rpl]) | succ f => (rw [rpl, if_neg (by omega), List.append_nil])
      have e : rtA A a b c to = lyA A to (us) := by unfold rtA lyA; rw [if_neg (by omega), hv0]
      rw [e] at hq
      have hq := fnM (us) hq
      exact j_iret h hq rfl dX4_replaceText_86
    · refine j_aload_n h 1 dX4_replaceText_28 rfl rfl ?_
      refine j_iload_n h 2 dX4_replaceText_29 rfl rfl ?_
      refine j_iload_n h 3 dX4_replaceText_30 rfl rfl ?_
      refine j_iload h 0 dX4_replaceText_31 rfl ?_
      refine j_callV h (c_X4_stands hE ha hb (by unfold okI; omega)) m_X4_stands a_l_X4_111 rfl rfl ⟨Nat.le_of_ble_eq_true rfl, Nat.le_of_ble_eq_true rfl⟩ (ci := 4) rfl (by omega) (rcM) rfl rfl (Nat.le_of_ble_eq_true rfl) dX4_replaceText_33 ?_
      refine j_if_eq h 63 dX4_replaceText_36 (by decide) (by first | exact okI_of _ | exact okI_b _ | exact okI_sgz _ _ | assumption | (unfold okI; omega)) (fun c36 => ?_) (fun c36 => ?_)
      · rw [bI_0] at c36
        refine j_aload_n h 1 dX4_replaceText_63 rfl rfl ?_
        refine j_aload_n h 1 dX4_replaceText_64 rfl rfl ?_
        refine j_iload_n h 2 dX4_replaceText_65 rfl rfl ?_
        refine j_iload h 0 dX4_replaceText_66 rfl ?_
        refine j_callV h (c_X4_signAt hE ha (by omega) (by omega)) m_X4_signAt a_l_X4_58 rfl rfl ⟨Nat.le_of_ble_eq_true rfl, Nat.le_of_ble_eq_true rfl⟩ (ci := 4) rfl (by omega) (rcM) rfl rfl (Nat.le_of_ble_eq_true rfl) dX4_replaceText_68 ?_
        refine j_callVv h (c_X4_puts hE (by omega)) m_X4_puts a_l_X4_62 rfl rfl ⟨Nat.le_of_ble_eq_true rfl, Nat.le_of_ble_eq_true rfl⟩ (ci := 4) rfl (by omega) (rcM) rfl rfl (Nat.le_of_ble_eq_true rfl) dX4_replaceText_71 ?_
        refine j_iinc h 0 [(5, _), (0, _), (1, _), (2, _), (3, _), (4, _)] dX4_replaceText_74 rfl (by decide) rfl ?_
        refine j_goto h 18 dX4_replaceText_77 (by decide) ?_
        obtain ⟨f, rfl⟩ : ∃ f2, f = f2 + 1 := ⟨f - 1, by omega⟩
        rw [rpl, if_pos (by omega), show ((z.toNat : Nat) : Int) = z by omega, c36] at hv
        first | exact ih (z + 1) (us ++ [gz (A.1 (sw a)) z.toNat]) f (by omega) (by omega) (by omega) (by simp only [List.length_append, List.length_cons, List.length_nil]; omega) (fun _ => by simp only [List.length_append, List.length_cons, List.length_nil]; omega) (by omega) (by rw [show (z + 1).toNat = z.toNat + 1 by omega, ← List.append_cons]; simpa using hv) | exact ih (z + (A.1 (sw b)).length) (us ++ (A.1 (sw c))) f (by omega) (by omega) (by omega) (by rw [List.length_append]; omega) (fun _ => by rw [List.length_append]; omega) (by omega) (by rw [show (z + (A.1 (sw b)).length).toNat = z.toNat + max 1 (A.1 (sw b)).length by omega, List.append_assoc]; simpa using hv)
      · rw [bI_n0] at c36
        refine j_aload_n h 1 dX4_replaceText_39 rfl rfl ?_
        refine j_iload_n h 4 dX4_replaceText_40 rfl rfl ?_
        refine j_iconst h dX4_replaceText_41 ?_
        refine j_aload_n h 1 dX4_replaceText_42 rfl rfl ?_
        refine j_iload_n h 4 dX4_replaceText_43 rfl rfl ?_
        refine j_callV h (c_X4_sizeOf hE hc) m_X4_sizeOf a_l_X4_67 rfl rfl ⟨Nat.le_of_ble_eq_true rfl, Nat.le_of_ble_eq_true rfl⟩ (ci := 4) rfl (by omega) (rcM) rfl rfl (Nat.le_of_ble_eq_true rfl) dX4_replaceText_44 ?_
        refine j_callVv h (c_putsAll hE hc (by omega)) m_X4_putsPart a_l_X4_78 rfl rfl ⟨Nat.le_of_ble_eq_true rfl, Nat.le_of_ble_eq_true rfl⟩ (ci := 4) rfl (by omega) (rcM) rfl rfl (Nat.le_of_ble_eq_true rfl) dX4_replaceText_47 ?_
        refine j_iload h 0 dX4_replaceText_50 rfl ?_
        refine j_aload_n h 1 dX4_replaceText_52 rfl rfl ?_
        refine j_iload_n h 3 dX4_replaceText_53 rfl rfl ?_
        refine j_callV h (c_X4_sizeOf hE hb) m_X4_sizeOf a_l_X4_67 rfl rfl ⟨Nat.le_of_ble_eq_true rfl, Nat.le_of_ble_eq_true rfl⟩ (ci := 4) rfl (by omega) (rcM) rfl rfl (Nat.le_of_ble_eq_true rfl) dX4_replaceText_54 ?_
        refine j_iadd h dX4_replaceText_57 ?_
        refine j_istore h [(5, _), (0, _), (1, _), (2, _), (3, _), (4, _)] dX4_replaceText_58 (by decide) rfl ?_
        refine j_goto h 18 dX4_replaceText_60 (by decide) ?_
        obtain ⟨f, rfl⟩ : ∃ f2, f = f2 + 1 := ⟨f - 1, by omega⟩
        rw [rpl, if_pos (by omega), show ((z.toNat : Nat) : Int) = z by omega, c36] at hv
        first | exact ih (z + 1) (us ++ [gz (A.1 (sw a)) z.toNat]) f (by omega) (by omega) (by omega) (by simp only [List.length_append, List.length_cons, List.length_nil]; omega) (fun _ => by simp only [List.length_append, List.length_cons, List.length_nil]; omega) (by omega) (by rw [show (z + 1).toNat = z.toNat + 1 by omega, ← List.append_cons]; simpa using hv) | exact ih (z + (A.1 (sw b)).length) (us ++ (A.1 (sw c))) f (by omega) (by omega) (by omega) (by rw [List.length_append]; omega) (fun _ => by rw [List.length_append]; omega) (by omega) (by rw [show (z + (A.1 (sw b)).length).toNat = z.toNat + max 1 (A.1 (sw b)).length by omega, List.append_assoc]; simpa using hv)
  · refine j_ldc h (-1000001) a_k_X4_74 (by decide) dX4_replaceText_8 ?_
    have e : rtA A a b c to = (-1000001, A) := by unfold rtA; rw [if_pos (by omega)]
    rw [e] at hq
    have hq := fnM (mk) hq
    exact j_iret h hq rfl dX4_replaceText_10
set_option maxHeartbeats 400000 in
set_option maxRecDepth 20000 in
theorem q_turn {E : EV} (hE : EOK E) {A : AS} {g0 : GH} {a : Int} (ha : okI a) {to : Int} (hto : okI to) : Ct E (RMP E g0) yX4_turn wsX4_turn rX4_turn [eA E 76, .int (iI a), .int (iI to)] A (some (.int (iI (layA A to (rv (A.1 (sw a)) (A.1 (sw a)).length)).1))) (layA A to (rv (A.1 (sw a)) (A.1 (sw a)).length)).2 := by
  refine ct_of [(0, _), (1, _), (2, _)] hE (by decide) rfl (Nat.le_of_ble_eq_true rfl) rfl (fun X h hq => ?_)
  refine j_exM (fun mk => ?_)
  refine j_of (fun G hG => RM_len hG) (fun hLM => ?_)
  have hla := hLM.1 (sw a) (sw_lt a)
  have hwa := sw_lt a
  have hfma : 0 ≤ fmo a 8 ∧ fmo a 8 < 8 := by unfold fmo; omega
  have hswa : (fmo a 8).toNat = sw a := rfl
  dsimp only at *
  refine j_aload_n h 0 dX4_turn_0 rfl rfl ?_
  refine j_callVv h (c_X4_begins hE) m_X4_begins a_l_X4_75 rfl rfl ⟨Nat.le_of_ble_eq_true rfl, Nat.le_of_ble_eq_true rfl⟩ (ci := 4) rfl (by omega) (rcM) rfl rfl (Nat.le_of_ble_eq_true rfl) dX4_turn_1 ?_
  refine j_aload_n h 0 dX4_turn_4 rfl rfl ?_
  refine j_iload_n h 1 dX4_turn_5 rfl rfl ?_
  refine j_callV h (c_X4_sizeOf hE ha) m_X4_sizeOf a_l_X4_67 rfl rfl ⟨Nat.le_of_ble_eq_true rfl, Nat.le_of_ble_eq_true rfl⟩ (ci := 4) rfl (by omega) (rcM) rfl rfl (Nat.le_of_ble_eq_true rfl) dX4_turn_6 ?_
  refine j_iconst h dX4_turn_9 ?_
  refine j_isub h dX4_turn_10 ?_
  refine j_istore_n h [(3, _), (0, _), (1, _), (2, _)] dX4_turn_11 rfl (by decide) rfl ?_
  refine j_sub [0, 1, 2, 3] rfl ?_
  refine lpA2 (fun (z : Int) (us : List Int32) => (z + 1).toNat) (fun (z : Int) (us : List Int32) => -1 ≤ z → z < (A.1 (sw a)).length → us.length + (z + 1).toNat ≤ 300 → us ++ rv (A.1 (sw a)) (z + 1).toNat = rv (A.1 (sw a)) (A.1 (sw a)).length → JL E (RM E g0) X 12 [(3, .int (iI z)), (0, eA E 76), (1, .int (iI a)), (2, .int (iI to))] [] (A, us)) (fun z us ih h0 hzb hcp hv => ?_) _ [] (by omega) (by omega) (by simp only [List.length_nil]; omega) (by rw [show (((A.1 (sw a)).length : Int) - 1 + 1).toNat = (A.1 (sw a)).length by omega]; rfl)
  refine j_iload_n h 0 dX4_turn_12 rfl rfl ?_
  refine j_if_lt h 32 dX4_turn_13 (by decide) (by first | exact okI_of _ | exact okI_b _ | exact okI_sgz _ _ | assumption | (unfold okI; omega)) (fun c13 => ?_) (fun c13 => ?_)
  · refine j_aload_n h 1 dX4_turn_32 rfl rfl ?_
    refine j_iload_n h 3 dX4_turn_33 rfl rfl ?_
    refine j_callV h (c_lays hE hto) m_X4_lays a_l_X4_82 rfl rfl ⟨Nat.le_of_ble_eq_true rfl, Nat.le_of_ble_eq_true rfl⟩ (ci := 4) rfl (by omega) (rcM) rfl rfl (Nat.le_of_ble_eq_true rfl) dX4_turn_34 ?_
    rw [show (z + 1).toNat = 0 by omega, rv, List.append_nil] at hv
    have e : layA A to (rv (A.1 (sw a)) (A.1 (sw a)).length) = lyA A to (us) := by unfold lyA; rw [hv, if_pos (by rw [rv_len]; omega)]
    rw [e] at hq
    have hq := fnM (us) hq
    exact j_iret h hq rfl dX4_turn_37
  · refine j_aload_n h 1 dX4_turn_16 rfl rfl ?_
    refine j_aload_n h 1 dX4_turn_17 rfl rfl ?_
    refine j_iload_n h 2 dX4_turn_18 rfl rfl ?_
    refine j_iload_n h 0 dX4_turn_19 rfl rfl ?_
    refine j_callV h (c_X4_signAt hE ha (by omega) (by omega)) m_X4_signAt a_l_X4_58 rfl rfl ⟨Nat.le_of_ble_eq_true rfl, Nat.le_of_ble_eq_true rfl⟩ (ci := 4) rfl (by omega) (rcM) rfl rfl (Nat.le_of_ble_eq_true rfl) dX4_turn_20 ?_
    refine j_callVv h (c_X4_puts hE (by omega)) m_X4_puts a_l_X4_62 rfl rfl ⟨Nat.le_of_ble_eq_true rfl, Nat.le_of_ble_eq_true rfl⟩ (ci := 4) rfl (by omega) (rcM) rfl rfl (Nat.le_of_ble_eq_true rfl) dX4_turn_23 ?_
    refine j_iinc h 0 [(3, _), (0, _), (1, _), (2, _)] dX4_turn_26 rfl (by decide) rfl ?_
    refine j_goto h 12 dX4_turn_29 (by decide) ?_
    exact ih (z + -1) _ (by omega) (by omega) (by omega) (by simp only [List.length_append, List.length_cons, List.length_nil]; omega) (by rw [show (z + 1).toNat = (z + -1 + 1).toNat + 1 by omega, rv, List.append_cons, show (z + -1 + 1).toNat = z.toNat by omega] at hv; rw [show (z + -1 + 1).toNat = z.toNat by omega]; exact hv)
