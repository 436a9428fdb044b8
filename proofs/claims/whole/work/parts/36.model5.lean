/-! the reference: bytes, bare texts -/
theorem by2_aux (L : Int64) (n : Nat) (hn : n ≤ 56) (s : Int32) (h1 : ((s.toInt64 &&& 63).toBitVec.smod 64).toNat = n) (h2 : ((s.toInt64.toUInt64 &&& Int64.toUInt64 63).toBitVec % 64).toNat = n) : ((L >>> (s.toInt64 &&& 63)) &&& lI 255).toInt32 = ((L.toUInt64 >>> (s.toInt64.toUInt64 &&& Int64.toUInt64 63)).toInt64.toInt32) &&& iI 255 := by
  apply Int32.toBitVec_inj.mp
  apply BitVec.eq_of_getLsbD_eq
  intro i hi
  show ((L.toBitVec.sshiftRight ((s.toInt64 &&& 63).toBitVec.smod 64).toNat &&& (lI 255).toBitVec).signExtend 32).getLsbD i = (((L.toBitVec >>> ((s.toInt64.toUInt64 &&& Int64.toUInt64 63).toBitVec % 64).toNat).signExtend 32) &&& (iI 255).toBitVec).getLsbD i
  have m1 : ∀ i < 32, (lI 255).toBitVec.getLsbD i = (iI 255).toBitVec.getLsbD i := by decide
  have m2 : ∀ i < 32, 8 ≤ i → (iI 255).toBitVec.getLsbD i = false := by decide
  rw [h1, h2, BitVec.getLsbD_signExtend, BitVec.getLsbD_and, BitVec.getLsbD_and, BitVec.getLsbD_signExtend, if_pos (show i < 64 by omega), if_pos (show i < 64 by omega), m1 i hi, BitVec.getLsbD_sshiftRight, BitVec.getLsbD_ushiftRight]
  by_cases w : i < 8
  · rw [if_pos (show n + i < 64 by omega)]
    simp only [hi, decide_true, Bool.true_and, decide_eq_false (show ¬ 64 ≤ i by omega), Bool.not_false]
  · rw [m2 i hi (by omega), Bool.and_false, Bool.and_false, Bool.and_false]
theorem by2 (L : Int64) {k : Int} (h0 : 0 ≤ k) (h : k < 8) : ((L >>> ((iI (8 * k)).toInt64 &&& 63)) &&& lI 255).toInt32 = by1 L k := by
  have hk : k = 0 ∨ k = 1 ∨ k = 2 ∨ k = 3 ∨ k = 4 ∨ k = 5 ∨ k = 6 ∨ k = 7 := by omega
  rcases hk with e | e | e | e | e | e | e | e <;> subst e
  · exact by2_aux L 0 (by decide) _ (by decide) (by decide)
  · exact by2_aux L 8 (by decide) _ (by decide) (by decide)
  · exact by2_aux L 16 (by decide) _ (by decide) (by decide)
  · exact by2_aux L 24 (by decide) _ (by decide) (by decide)
  · exact by2_aux L 32 (by decide) _ (by decide) (by decide)
  · exact by2_aux L 40 (by decide) _ (by decide) (by decide)
  · exact by2_aux L 48 (by decide) _ (by decide) (by decide)
  · exact by2_aux L 56 (by decide) _ (by decide) (by decide)
theorem lo_up {P : Nat → Bool} : ∀ d i, lo P i (d + 1) = if lo P i d = -1 then (if P (i + d) then ((i + d : Nat) : Int) else -1) else lo P i d := by
  intro d
  induction d with
  | zero => intro i; rw [lo, lo, if_pos rfl, Nat.add_zero]; rfl
  | succ d ih =>
    intro i
    rw [lo, ih (i + 1), lo]
    rw [show i + 1 + d = i + (d + 1) by omega]
    cases P i with
    | true => simp only [if_true]; rw [if_neg (by omega)]
    | false => simp only [Bool.false_eq_true, if_false]
theorem st_a {P : Nat → Bool} {n : Nat} (h : P n = false) : lo P 0 (n + 1) = lo P 0 n ∧ hi P (n + 1) = hi P n := by
  refine ⟨?_, by rw [hi, h]; rfl⟩
  rw [lo_up, Nat.zero_add, h]
  split
  · rename_i e; rw [e]; rfl
  · rfl
theorem st_b {P : Nat → Bool} {n : Nat} (h : P n = true) (h1 : lo P 0 n = -1) : lo P 0 (n + 1) = n := by rw [lo_up, if_pos h1, Nat.zero_add, h]; rfl
theorem st_c {P : Nat → Bool} {n : Nat} (h1 : ¬ lo P 0 n = -1) : lo P 0 (n + 1) = lo P 0 n := by rw [lo_up, if_neg h1]
theorem st_d {P : Nat → Bool} {n : Nat} (h : P n = true) : hi P (n + 1) = n := by rw [hi, h]; rfl
def nls (b : Bool) (xs : List Int32) (k : Nat) : Bool := !lsb b (gz xs k).toInt
theorem eof_lo (b : Bool) (xs : List Int32) : ∀ d i, (eof b xs i d : Int) = if lo (nls b xs) i d = -1 then ((i + d : Nat) : Int) else lo (nls b xs) i d := by
  intro d
  induction d with
  | zero => intro i; rfl
  | succ d ih =>
    intro i
    rw [eof, lo]
    unfold nls
    cases q : lsb b (gz xs i).toInt with
    | true =>
      simp only [if_true, Bool.not_true, Bool.false_eq_true, if_false]
      rw [ih (i + 1), show i + 1 + d = i + (d + 1) by omega]
      rfl
    | false =>
      simp only [Bool.not_false, if_true, Bool.false_eq_true, if_false]
      rw [if_neg (by omega)]
theorem sor_hi (b : Bool) (xs : List Int32) (f : Nat) (h : nls b xs f = true) : ∀ d, (sor b xs f (d + 1) : Int) = hi (nls b xs) (f + (d + 1)) + 1 := by
  intro d
  induction d with
  | zero =>
    have q : lsb b (gz xs f).toInt = false := by unfold nls at h; simpa using h
    rw [sor, Nat.add_zero, q, st_d (show nls b xs (f + 0) = true from h)]
    rfl
  | succ d ih =>
    rw [sor]
    show _ = hi (nls b xs) (f + (d + 1) + 1) + 1
    cases q : lsb b (gz xs (f + (d + 1))).toInt with
    | true =>
      rw [if_pos rfl, ih, (st_a (show nls b xs (f + (d + 1)) = false by unfold nls; rw [q]; rfl)).2]
    | false =>
      rw [if_neg (by decide), st_d (show nls b xs (f + (d + 1)) = true by unfold nls; rw [q]; rfl)]
      rfl
theorem bare_a (b : Bool) (xs : List Int32) (h : lo (nls b xs) 0 xs.length = -1) : hi (nls b xs) xs.length = -1 ∧ bare b xs = [] := by
  have h1 := eof_lo b xs xs.length 0
  rw [if_pos h, Nat.zero_add] at h1
  refine ⟨?_, ?_⟩
  · rcases lo_spec (P := nls b xs) xs.length 0 with ⟨_, w⟩ | ⟨n, w, _⟩
    · rcases hi_spec (P := nls b xs) xs.length with ⟨u, _⟩ | ⟨m, _, u2, u3, _⟩
      · exact u
      · have := w m (Nat.zero_le _) (by omega)
        rw [this] at u3
        cases u3
    · rw [h] at w; omega
  · unfold bare
    rw [show eof b xs 0 xs.length = xs.length by omega, Nat.sub_self, sor, Nat.sub_self, sl]
theorem bare_b (b : Bool) (xs : List Int32) (h : ¬ lo (nls b xs) 0 xs.length = -1) : 0 ≤ lo (nls b xs) 0 xs.length ∧ lo (nls b xs) 0 xs.length ≤ hi (nls b xs) xs.length + 1 ∧ hi (nls b xs) xs.length + 1 ≤ xs.length ∧ bare b xs = sl xs (lo (nls b xs) 0 xs.length).toNat (hi (nls b xs) xs.length + 1 - lo (nls b xs) 0 xs.length).toNat := by
  have h1 := eof_lo b xs xs.length 0
  rw [if_neg h] at h1
  rcases lo_spec (P := nls b xs) xs.length 0 with ⟨w, _⟩ | ⟨n, w, _, w3, w4, _⟩
  · exact absurd w h
  · have hs := sor_hi b xs n w4 (xs.length - n - 1)
    rw [show n + (xs.length - n - 1 + 1) = xs.length by omega, show xs.length - n - 1 + 1 = xs.length - n by omega] at hs
    have hr := hi_range (P := nls b xs) xs.length
    have hn : n ≤ sor b xs n (xs.length - n) := by
      rcases hi_spec (P := nls b xs) xs.length with ⟨_, u⟩ | ⟨m, u1, u2, u3, u4⟩
      · have := u n (by omega); rw [this] at w4; cases w4
      · by_cases e : m < n
        · have := u4 n e (by omega); rw [this] at w4; cases w4
        · omega
    unfold bare
    rw [show eof b xs 0 xs.length = n by omega]
    refine ⟨by omega, by omega, by omega, ?_⟩
    rw [w, Int.toNat_natCast, show (hi (nls b xs) xs.length + 1 - (n : Int)).toNat = sor b xs n (xs.length - n) - n by omega]
theorem RMP_len {E : EV} {g0 : GH} {A : AS} {G : GH} (h : RMP E g0 A G) : (∀ j, j < 8 → (A.1 j).length ≤ 300) ∧ okA A := by
  obtain ⟨mk, h⟩ := h
  exact ⟨(RM_len h).1, (RM_len h).2.2⟩
theorem rcMP {E : EV} {g0 : GH} {A : AS} : ∀ G, RMP E g0 A G → ∃ fs, G 76 = .inr (4, fs) := fun G h => by
  obtain ⟨mk, h⟩ := h
  exact ⟨_, h.1⟩
theorem q_sizeOf {E : EV} (hE : EOK E) {A : AS} {g0 : GH} {a : Int} (ha : okI a) : Ct E (RMP E g0) yX4_sizeOf wsX4_sizeOf rX4_sizeOf [eA E 76, .int (iI a)] A (some (.int (iI (A.1 (sw a)).length))) A :=
  ct_abM fun mk => ⟨mk, c_X4_sizeOf hE ha⟩
set_option maxHeartbeats 400000 in
set_option maxRecDepth 20000 in
theorem q_tail {E : EV} (hE : EOK E) {A : AS} {g0 : GH} {a : Int} (ha : okI a) {f : Int} (hf : okI f) {to : Int} (hto : okI to) : Ct E (RMP E g0) yX4_tail wsX4_tail rX4_tail [eA E 76, .int (iI a), .int (iI f), .int (iI to)] A (some (.int (iI (suA A a f (A.1 (sw a)).length to).1))) (suA A a f (A.1 (sw a)).length to).2 := by
  refine ct_of [(0, _), (1, _), (2, _), (3, _)] hE (by decide) rfl (Nat.le_of_ble_eq_true rfl) rfl (fun X h hq => ?_)
  refine j_of (fun G hG => RMP_len hG) (fun hLM => ?_)
  have hla := hLM.1 (sw a) (sw_lt a)
  refine j_aload_n h 0 dX4_tail_0 rfl rfl ?_
  refine j_iload_n h 1 dX4_tail_1 rfl rfl ?_
  refine j_iload_n h 2 dX4_tail_2 rfl rfl ?_
  refine j_aload_n h 0 dX4_tail_3 rfl rfl ?_
  refine j_iload_n h 1 dX4_tail_4 rfl rfl ?_
  refine j_callV h (q_sizeOf hE ha) m_X4_sizeOf a_l_X4_67 rfl rfl ⟨Nat.le_of_ble_eq_true rfl, Nat.le_of_ble_eq_true rfl⟩ (ci := 4) rfl (by omega) (rcMP) rfl rfl (Nat.le_of_ble_eq_true rfl) dX4_tail_5 ?_
  refine j_iload_n h 3 dX4_tail_8 rfl rfl ?_
  refine j_callV h (q_substring hE ha hf (by unfold okI; omega) hto) m_X4_substring a_l_X4_88 rfl rfl ⟨Nat.le_of_ble_eq_true rfl, Nat.le_of_ble_eq_true rfl⟩ (ci := 4) rfl (by omega) (rcMP) rfl rfl (Nat.le_of_ble_eq_true rfl) dX4_tail_9 ?_
  exact j_iret h hq rfl dX4_tail_12
set_option maxHeartbeats 400000 in
set_option maxRecDepth 20000 in
theorem q_strips_false {E : EV} (hE : EOK E) {A : AS} {g0 : GH} {a : Int} (ha : okI a) {to : Int} (hto : okI to) : Ct E (RMP E g0) yX4_strips wsX4_strips rX4_strips [eA E 76, .int (iI a), .int (iI 1), .int (iI to)] A (some (.int (iI (layA A to (bare false (A.1 (sw a)))).1))) (layA A to (bare false (A.1 (sw a)))).2 := by
  refine ct_of [(0, _), (1, _), (2, _), (3, _)] hE (by decide) rfl (Nat.le_of_ble_eq_true rfl) rfl (fun X h hq => ?_)
  refine j_exM (fun mk => ?_)
  refine j_of (fun G hG => RM_len hG) (fun hLM => ?_)
  have hla := hLM.1 (sw a) (sw_lt a)
  have hwa := sw_lt a
  have hfma : 0 ≤ fmo a 8 ∧ fmo a 8 < 8 := by unfold fmo; omega
  have hswa : (fmo a 8).toNat = sw a := rfl
  dsimp only at *
  refine j_iconst h dX4_strips_0 ?_
  refine j_istore h [(4, _), (0, _), (1, _), (2, _), (3, _)] dX4_strips_1 (by decide) rfl ?_
  refine j_iconst h dX4_strips_3 ?_
  refine j_istore h [(5, _), (4, _), (0, _), (1, _), (2, _), (3, _)] dX4_strips_4 (by decide) rfl ?_
  refine j_iconst h dX4_strips_6 ?_
  refine j_istore h [(6, _), (5, _), (4, _), (0, _), (1, _), (2, _), (3, _)] dX4_strips_7 (by decide) rfl ?_
  refine j_sub [0, 2, 1, 3, 4, 5, 6] rfl ?_
  refine lpA3 (fun (z F e : Int) => ((A.1 (sw a)).length - z).toNat) (fun (z F e : Int) => 0 ≤ z → z ≤ (A.1 (sw a)).length → F = lo (nls false (A.1 (sw a))) 0 z.toNat → e = hi (nls false (A.1 (sw a))) z.toNat + 1 → JL E (RM E g0) X 9 [(6, .int (iI z)), (4, .int (iI F)), (5, .int (iI e)), (0, eA E 76), (1, .int (iI a)), (2, .int (iI 1)), (3, .int (iI to))] [] (A, mk)) (fun z F e ih h0 hzb hF he => ?_) 0 (-1) 0 (Int.le_refl 0) (by omega) rfl rfl
  have hlr := lo_range (P := (nls false (A.1 (sw a)))) z.toNat 0
  have hhr := hi_range (P := (nls false (A.1 (sw a)))) z.toNat
  refine j_iload h 0 dX4_strips_9 rfl ?_
  refine j_aload_n h 3 dX4_strips_11 rfl rfl ?_
  refine j_iload_n h 4 dX4_strips_12 rfl rfl ?_
  refine j_callV h (c_X4_sizeOf hE ha) m_X4_sizeOf a_l_X4_67 rfl rfl ⟨Nat.le_of_ble_eq_true rfl, Nat.le_of_ble_eq_true rfl⟩ (ci := 4) rfl (by omega) (rcM) rfl rfl (Nat.le_of_ble_eq_true rfl) dX4_strips_13 ?_
  refine j_icmp_ge h 104 dX4_strips_16 (by decide) (by first | exact okI_of _ | exact okI_b _ | exact okI_sgz _ _ | assumption | (unfold okI; omega)) (by first | exact okI_of _ | exact okI_b _ | exact okI_sgz _ _ | assumption | (unfold okI; omega)) (fun c16 => ?_) (fun c16 => ?_)
  · have ez : z.toNat = (A.1 (sw a)).length := by omega
    rw [ez] at hF he hlr hhr
    refine j_aload_n h 3 dX4_strips_104 rfl rfl ?_
    refine j_callVv h (c_X4_begins hE) m_X4_begins a_l_X4_75 rfl rfl ⟨Nat.le_of_ble_eq_true rfl, Nat.le_of_ble_eq_true rfl⟩ (ci := 4) rfl (by omega) (rcM) rfl rfl (Nat.le_of_ble_eq_true rfl) dX4_strips_105 ?_
    refine j_aload_n h 3 dX4_strips_108 rfl rfl ?_
    refine j_iload_n h 4 dX4_strips_109 rfl rfl ?_
    refine j_iload h 1 dX4_strips_110 rfl ?_
    refine j_iconst h dX4_strips_112 ?_
    refine j_icmp_ne h 120 dX4_strips_113 (by decide) (by first | exact okI_of _ | exact okI_b _ | exact okI_sgz _ _ | assumption | (unfold okI; omega)) (by first | exact okI_of _ | exact okI_b _ | exact okI_sgz _ _ | assumption | (unfold okI; omega)) (fun c113 => ?_) (fun c113 => ?_)
    · have hbb := bare_b false (A.1 (sw a)) (by rw [← hF]; exact c113)
      have hbe : bare false (A.1 (sw a)) = sl (A.1 (sw a)) F.toNat (e - F).toNat := by rw [hbb.2.2.2, ← hF, ← he]
      refine j_iload h 1 dX4_strips_120 rfl ?_
      refine j_iload h 2 dX4_strips_122 rfl ?_
      refine j_callVv h (c_X4_putsPart hE ha (by omega) (by omega) (by omega) (by simp)) m_X4_putsPart a_l_X4_78 rfl rfl ⟨Nat.le_of_ble_eq_true rfl, Nat.le_of_ble_eq_true rfl⟩ (ci := 4) rfl (by omega) (rcM) rfl rfl (Nat.le_of_ble_eq_true rfl) dX4_strips_124 ?_
      rw [List.nil_append, ← hbe]
      have hbl : (bare false (A.1 (sw a))).length ≤ 300 := by rw [hbe, sl_len]; omega
      refine j_aload_n h 3 dX4_strips_127 rfl rfl ?_
      refine j_iload_n h 6 dX4_strips_128 rfl rfl ?_
      refine j_callV h (c_lays hE hto) m_X4_lays a_l_X4_82 rfl rfl ⟨Nat.le_of_ble_eq_true rfl, Nat.le_of_ble_eq_true rfl⟩ (ci := 4) rfl (by omega) (rcM) rfl rfl (Nat.le_of_ble_eq_true rfl) dX4_strips_129 ?_
      have e : layA A to (bare false (A.1 (sw a))) = lyA A to (bare false (A.1 (sw a))) := by unfold lyA; rw [if_pos hbl]
      rw [e] at hq
      have hq := fnM (bare false (A.1 (sw a))) hq
      exact j_iret h hq rfl dX4_strips_132
    · have hba := bare_a false (A.1 (sw a)) (by rw [← hF]; exact c113)
      have hbe : bare false (A.1 (sw a)) = sl (A.1 (sw a)) (0 : Int).toNat (e - 0).toNat := by rw [hba.2, show (e - 0).toNat = 0 by omega]; rfl
      refine j_iconst h dX4_strips_116 ?_
      refine j_goto h 122 dX4_strips_117 (by decide) ?_
      refine j_iload h 2 dX4_strips_122 rfl ?_
      refine j_callVv h (c_X4_putsPart hE ha (by omega) (by omega) (by omega) (by simp)) m_X4_putsPart a_l_X4_78 rfl rfl ⟨Nat.le_of_ble_eq_true rfl, Nat.le_of_ble_eq_true rfl⟩ (ci := 4) rfl (by omega) (rcM) rfl rfl (Nat.le_of_ble_eq_true rfl) dX4_strips_124 ?_
      rw [List.nil_append, ← hbe]
      have hbl : (bare false (A.1 (sw a))).length ≤ 300 := by rw [hbe, sl_len]; omega
      refine j_aload_n h 3 dX4_strips_127 rfl rfl ?_
      refine j_iload_n h 6 dX4_strips_128 rfl rfl ?_
      refine j_callV h (c_lays hE hto) m_X4_lays a_l_X4_82 rfl rfl ⟨Nat.le_of_ble_eq_true rfl, Nat.le_of_ble_eq_true rfl⟩ (ci := 4) rfl (by omega) (rcM) rfl rfl (Nat.le_of_ble_eq_true rfl) dX4_strips_129 ?_
      have e : layA A to (bare false (A.1 (sw a))) = lyA A to (bare false (A.1 (sw a))) := by unfold lyA; rw [if_pos hbl]
      rw [e] at hq
      have hq := fnM (bare false (A.1 (sw a))) hq
      exact j_iret h hq rfl dX4_strips_132
  · refine j_aload_n h 3 dX4_strips_19 rfl rfl ?_
    refine j_iload_n h 4 dX4_strips_20 rfl rfl ?_
    refine j_iload h 0 dX4_strips_21 rfl ?_
    refine j_callV h (c_X4_signAt hE ha (by omega) (by omega)) m_X4_signAt a_l_X4_58 rfl rfl ⟨Nat.le_of_ble_eq_true rfl, Nat.le_of_ble_eq_true rfl⟩ (ci := 4) rfl (by omega) (rcM) rfl rfl (Nat.le_of_ble_eq_true rfl) dX4_strips_23 ?_
    refine j_top (iI_of _).symm ?_
    refine j_istore h [(7, _), (6, _), (4, _), (5, _), (0, _), (1, _), (2, _), (3, _)] dX4_strips_26 (by decide) rfl ?_
    refine j_iload_n h 6 dX4_strips_28 rfl rfl ?_
    refine j_if_eq h 47 dX4_strips_29 (by decide) (by first | exact okI_of _ | exact okI_b _ | exact okI_sgz _ _ | assumption | (unfold okI; omega)) (fun c29 => ?_) (fun c29 => ?_)
    · exact absurd c29 (by decide)
    · refine j_iload h 0 dX4_strips_32 rfl ?_
      refine j_bipush h dX4_strips_34 (by decide) ?_
      refine j_icmp_le h 43 dX4_strips_36 (by decide) (by first | exact okI_of _ | exact okI_b _ | exact okI_sgz _ _ | assumption | (unfold okI; omega)) (by first | exact okI_of _ | exact okI_b _ | exact okI_sgz _ _ | assumption | (unfold okI; omega)) (fun c36 => ?_) (fun c36 => ?_)
      · have hP : nls false (A.1 (sw a)) z.toNat = false := by unfold nls lsb; simp only [Bool.false_eq_true, if_false]; rw [decide_eq_true c36]; rfl
        refine j_iconst h dX4_strips_43 ?_
        refine j_goto h 60 dX4_strips_44 (by decide) ?_
        refine j_istore h [(8, _), (7, _), (6, _), (4, _), (5, _), (0, _), (1, _), (2, _), (3, _)] dX4_strips_60 (by decide) rfl ?_
        refine j_iload h 0 dX4_strips_62 rfl ?_
        refine j_if_eq h 78 dX4_strips_64 (by decide) (by first | exact okI_of _ | exact okI_b _ | exact okI_sgz _ _ | assumption | (unfold okI; omega)) (fun c64 => ?_) (fun c64 => ?_)
        · refine j_iload h 3 dX4_strips_78 rfl ?_
          refine j_istore h [(4, _), (8, _), (7, _), (6, _), (5, _), (0, _), (1, _), (2, _), (3, _)] dX4_strips_80 (by decide) rfl ?_
          refine j_iload h 1 dX4_strips_82 rfl ?_
          refine j_if_eq h 94 dX4_strips_84 (by decide) (by first | exact okI_of _ | exact okI_b _ | exact okI_sgz _ _ | assumption | (unfold okI; omega)) (fun c84 => ?_) (fun c84 => ?_)
          · refine j_iload h 4 dX4_strips_94 rfl ?_
            refine j_istore h [(5, _), (4, _), (8, _), (7, _), (6, _), (0, _), (1, _), (2, _), (3, _)] dX4_strips_96 (by decide) rfl ?_
            refine j_iinc h 4 [(6, _), (5, _), (4, _), (8, _), (7, _), (0, _), (1, _), (2, _), (3, _)] dX4_strips_98 rfl (by decide) rfl ?_
            refine j_goto h 9 dX4_strips_101 (by decide) ?_
            refine j_sub [0, 2, 1, 5, 6, 7, 8] rfl ?_
            first | exact absurd c64 (by decide) | exact absurd rfl c64 | exact absurd c82 (by decide) | exact absurd rfl c82 | exact absurd c84 (by decide) | exact absurd rfl c84 | exact ih (z + 1) F e (by omega) (by omega) (by omega) (by rw [show (z + 1).toNat = z.toNat + 1 by omega, (st_a hP).1]; exact hF) (by rw [show (z + 1).toNat = z.toNat + 1 by omega, (st_a hP).2]; exact he) | exact ih (z + 1) z (z + 1) (by omega) (by omega) (by omega) (by rw [show (z + 1).toNat = z.toNat + 1 by omega, st_b hP (hF ▸ c70)]; omega) (by rw [show (z + 1).toNat = z.toNat + 1 by omega, st_d hP]; omega) | exact ih (z + 1) F (z + 1) (by omega) (by omega) (by omega) (by rw [show (z + 1).toNat = z.toNat + 1 by omega, st_c (hF ▸ c70)]; exact hF) (by rw [show (z + 1).toNat = z.toNat + 1 by omega, st_d hP]; omega)
          · refine j_iload h 3 dX4_strips_87 rfl ?_
            refine j_iconst h dX4_strips_89 ?_
            refine j_iadd h dX4_strips_90 ?_
            refine j_goto h 96 dX4_strips_91 (by decide) ?_
            refine j_istore h [(5, _), (4, _), (8, _), (7, _), (6, _), (0, _), (1, _), (2, _), (3, _)] dX4_strips_96 (by decide) rfl ?_
            refine j_iinc h 4 [(6, _), (5, _), (4, _), (8, _), (7, _), (0, _), (1, _), (2, _), (3, _)] dX4_strips_98 rfl (by decide) rfl ?_
            refine j_goto h 9 dX4_strips_101 (by decide) ?_
            refine j_sub [0, 2, 1, 5, 6, 7, 8] rfl ?_
            first | exact absurd c64 (by decide) | exact absurd rfl c64 | exact absurd c82 (by decide) | exact absurd rfl c82 | exact absurd c84 (by decide) | exact absurd rfl c84 | exact ih (z + 1) F e (by omega) (by omega) (by omega) (by rw [show (z + 1).toNat = z.toNat + 1 by omega, (st_a hP).1]; exact hF) (by rw [show (z + 1).toNat = z.toNat + 1 by omega, (st_a hP).2]; exact he) | exact ih (z + 1) z (z + 1) (by omega) (by omega) (by omega) (by rw [show (z + 1).toNat = z.toNat + 1 by omega, st_b hP (hF ▸ c70)]; omega) (by rw [show (z + 1).toNat = z.toNat + 1 by omega, st_d hP]; omega) | exact ih (z + 1) F (z + 1) (by omega) (by omega) (by omega) (by rw [show (z + 1).toNat = z.toNat + 1 by omega, st_c (hF ▸ c70)]; exact hF) (by rw [show (z + 1).toNat = z.toNat + 1 by omega, st_d hP]; omega)
        · refine j_iload h 3 dX4_strips_67 rfl ?_
          refine j_iconst h dX4_strips_69 ?_
          refine j_icmp_ne h 78 dX4_strips_70 (by decide) (by first | exact okI_of _ | exact okI_b _ | exact okI_sgz _ _ | assumption | (unfold okI; omega)) (by first | exact okI_of _ | exact okI_b _ | exact okI_sgz _ _ | assumption | (unfold okI; omega)) (fun c70 => ?_) (fun c70 => ?_)
          · refine j_iload h 3 dX4_strips_78 rfl ?_
            refine j_istore h [(4, _), (8, _), (7, _), (6, _), (5, _), (0, _), (1, _), (2, _), (3, _)] dX4_strips_80 (by decide) rfl ?_
            refine j_iload h 1 dX4_strips_82 rfl ?_
            refine j_if_eq h 94 dX4_strips_84 (by decide) (by first | exact okI_of _ | exact okI_b _ | exact okI_sgz _ _ | assumption | (unfold okI; omega)) (fun c84 => ?_) (fun c84 => ?_)
            · refine j_iload h 4 dX4_strips_94 rfl ?_
              refine j_istore h [(5, _), (4, _), (8, _), (7, _), (6, _), (0, _), (1, _), (2, _), (3, _)] dX4_strips_96 (by decide) rfl ?_
              refine j_iinc h 4 [(6, _), (5, _), (4, _), (8, _), (7, _), (0, _), (1, _), (2, _), (3, _)] dX4_strips_98 rfl (by decide) rfl ?_
              refine j_goto h 9 dX4_strips_101 (by decide) ?_
              refine j_sub [0, 2, 1, 5, 6, 7, 8] rfl ?_
              first | exact absurd c64 (by decide) | exact absurd rfl c64 | exact absurd c82 (by decide) | exact absurd rfl c82 | exact absurd c84 (by decide) | exact absurd rfl c84 | exact ih (z + 1) F e (by omega) (by omega) (by omega) (by rw [show (z + 1).toNat = z.toNat + 1 by omega, (st_a hP).1]; exact hF) (by rw [show (z + 1).toNat = z.toNat + 1 by omega, (st_a hP).2]; exact he) | exact ih (z + 1) z (z + 1) (by omega) (by omega) (by omega) (by rw [show (z + 1).toNat = z.toNat + 1 by omega, st_b hP (hF ▸ c70)]; omega) (by rw [show (z + 1).toNat = z.toNat + 1 by omega, st_d hP]; omega) | exact ih (z + 1) F (z + 1) (by omega) (by omega) (by omega) (by rw [show (z + 1).toNat = z.toNat + 1 by omega, st_c (hF ▸ c70)]; exact hF) (by rw [show (z + 1).toNat = z.toNat + 1 by omega, st_d hP]; omega)
            · refine j_iload h 3 dX4_strips_87 rfl ?_
              refine j_iconst h dX4_strips_89 ?_
              refine j_iadd h dX4_strips_90 ?_
              refine j_goto h 96 dX4_strips_91 (by decide) ?_
              refine j_istore h [(5, _), (4, _), (8, _), (7, _), (6, _), (0, _), (1, _), (2, _), (3, _)] dX4_strips_96 (by decide) rfl ?_
              refine j_iinc h 4 [(6, _), (5, _), (4, _), (8, _), (7, _), (0, _), (1, _), (2, _), (3, _)] dX4_strips_98 rfl (by decide) rfl ?_
              refine j_goto h 9 dX4_strips_101 (by decide) ?_
              refine j_sub [0, 2, 1, 5, 6, 7, 8] rfl ?_
              first | exact absurd c64 (by decide) | exact absurd rfl c64 | exact absurd c82 (by decide) | exact absurd rfl c82 | exact absurd c84 (by decide) | exact absurd rfl c84 | exact ih (z + 1) F e (by omega) (by omega) (by omega) (by rw [show (z + 1).toNat = z.toNat + 1 by omega, (st_a hP).1]; exact hF) (by rw [show (z + 1).toNat = z.toNat + 1 by omega, (st_a hP).2]; exact he) | exact ih (z + 1) z (z + 1) (by omega) (by omega) (by omega) (by rw [show (z + 1).toNat = z.toNat + 1 by omega, st_b hP (hF ▸ c70)]; omega) (by rw [show (z + 1).toNat = z.toNat + 1 by omega, st_d hP]; omega) | exact ih (z + 1) F (z + 1) (by omega) (by omega) (by omega) (by rw [show (z + 1).toNat = z.toNat + 1 by omega, st_c (hF ▸ c70)]; exact hF) (by rw [show (z + 1).toNat = z.toNat + 1 by omega, st_d hP]; omega)
          · refine j_iload h 2 dX4_strips_73 rfl ?_
            refine j_goto h 80 dX4_strips_75 (by decide) ?_
            refine j_istore h [(4, _), (8, _), (7, _), (6, _), (5, _), (0, _), (1, _), (2, _), (3, _)] dX4_strips_80 (by decide) rfl ?_
            refine j_iload h 1 dX4_strips_82 rfl ?_
            refine j_if_eq h 94 dX4_strips_84 (by decide) (by first | exact okI_of _ | exact okI_b _ | exact okI_sgz _ _ | assumption | (unfold okI; omega)) (fun c84 => ?_) (fun c84 => ?_)
            · refine j_iload h 4 dX4_strips_94 rfl ?_
              refine j_istore h [(5, _), (4, _), (8, _), (7, _), (6, _), (0, _), (1, _), (2, _), (3, _)] dX4_strips_96 (by decide) rfl ?_
              refine j_iinc h 4 [(6, _), (5, _), (4, _), (8, _), (7, _), (0, _), (1, _), (2, _), (3, _)] dX4_strips_98 rfl (by decide) rfl ?_
              refine j_goto h 9 dX4_strips_101 (by decide) ?_
              refine j_sub [0, 2, 1, 5, 6, 7, 8] rfl ?_
              first | exact absurd c64 (by decide) | exact absurd rfl c64 | exact absurd c82 (by decide) | exact absurd rfl c82 | exact absurd c84 (by decide) | exact absurd rfl c84 | exact ih (z + 1) F e (by omega) (by omega) (by omega) (by rw [show (z + 1).toNat = z.toNat + 1 by omega, (st_a hP).1]; exact hF) (by rw [show (z + 1).toNat = z.toNat + 1 by omega, (st_a hP).2]; exact he) | exact ih (z + 1) z (z + 1) (by omega) (by omega) (by omega) (by rw [show (z + 1).toNat = z.toNat + 1 by omega, st_b hP (hF ▸ c70)]; omega) (by rw [show (z + 1).toNat = z.toNat + 1 by omega, st_d hP]; omega) | exact ih (z + 1) F (z + 1) (by omega) (by omega) (by omega) (by rw [show (z + 1).toNat = z.toNat + 1 by omega, st_c (hF ▸ c70)]; exact hF) (by rw [show (z + 1).toNat = z.toNat + 1 by omega, st_d hP]; omega)
            · refine j_iload h 3 dX4_strips_87 rfl ?_
              refine j_iconst h dX4_strips_89 ?_
              refine j_iadd h dX4_strips_90 ?_
              refine j_goto h 96 dX4_strips_91 (by decide) ?_
              refine j_istore h [(5, _), (4, _), (8, _), (7, _), (6, _), (0, _), (1, _), (2, _), (3, _)] dX4_strips_96 (by decide) rfl ?_
              refine j_iinc h 4 [(6, _), (5, _), (4, _), (8, _), (7, _), (0, _), (1, _), (2, _), (3, _)] dX4_strips_98 rfl (by decide) rfl ?_
              refine j_goto h 9 dX4_strips_101 (by decide) ?_
              refine j_sub [0, 2, 1, 5, 6, 7, 8] rfl ?_
              first | exact absurd c64 (by decide) | exact absurd rfl c64 | exact absurd c82 (by decide) | exact absurd rfl c82 | exact absurd c84 (by decide) | exact absurd rfl c84 | exact ih (z + 1) F e (by omega) (by omega) (by omega) (by rw [show (z + 1).toNat = z.toNat + 1 by omega, (st_a hP).1]; exact hF) (by rw [show (z + 1).toNat = z.toNat + 1 by omega, (st_a hP).2]; exact he) | exact ih (z + 1) z (z + 1) (by omega) (by omega) (by omega) (by rw [show (z + 1).toNat = z.toNat + 1 by omega, st_b hP (hF ▸ c70)]; omega) (by rw [show (z + 1).toNat = z.toNat + 1 by omega, st_d hP]; omega) | exact ih (z + 1) F (z + 1) (by omega) (by omega) (by omega) (by rw [show (z + 1).toNat = z.toNat + 1 by omega, st_c (hF ▸ c70)]; exact hF) (by rw [show (z + 1).toNat = z.toNat + 1 by omega, st_d hP]; omega)
      · have hP : nls false (A.1 (sw a)) z.toNat = true := by unfold nls lsb; simp only [Bool.false_eq_true, if_false]; rw [decide_eq_false (by omega)]; rfl
        refine j_iconst h dX4_strips_39 ?_
        refine j_goto h 60 dX4_strips_40 (by decide) ?_
        refine j_istore h [(8, _), (7, _), (6, _), (4, _), (5, _), (0, _), (1, _), (2, _), (3, _)] dX4_strips_60 (by decide) rfl ?_
        refine j_iload h 0 dX4_strips_62 rfl ?_
        refine j_if_eq h 78 dX4_strips_64 (by decide) (by first | exact okI_of _ | exact okI_b _ | exact okI_sgz _ _ | assumption | (unfold okI; omega)) (fun c64 => ?_) (fun c64 => ?_)
        · refine j_iload h 3 dX4_strips_78 rfl ?_
          refine j_istore h [(4, _), (8, _), (7, _), (6, _), (5, _), (0, _), (1, _), (2, _), (3, _)] dX4_strips_80 (by decide) rfl ?_
          refine j_iload h 1 dX4_strips_82 rfl ?_
          refine j_if_eq h 94 dX4_strips_84 (by decide) (by first | exact okI_of _ | exact okI_b _ | exact okI_sgz _ _ | assumption | (unfold okI; omega)) (fun c84 => ?_) (fun c84 => ?_)
          · refine j_iload h 4 dX4_strips_94 rfl ?_
            refine j_istore h [(5, _), (4, _), (8, _), (7, _), (6, _), (0, _), (1, _), (2, _), (3, _)] dX4_strips_96 (by decide) rfl ?_
            refine j_iinc h 4 [(6, _), (5, _), (4, _), (8, _), (7, _), (0, _), (1, _), (2, _), (3, _)] dX4_strips_98 rfl (by decide) rfl ?_
            refine j_goto h 9 dX4_strips_101 (by decide) ?_
            refine j_sub [0, 2, 1, 5, 6, 7, 8] rfl ?_
            first | exact absurd c64 (by decide) | exact absurd rfl c64 | exact absurd c82 (by decide) | exact absurd rfl c82 | exact absurd c84 (by decide) | exact absurd rfl c84 | exact ih (z + 1) F e (by omega) (by omega) (by omega) (by rw [show (z + 1).toNat = z.toNat + 1 by omega, (st_a hP).1]; exact hF) (by rw [show (z + 1).toNat = z.toNat + 1 by omega, (st_a hP).2]; exact he) | exact ih (z + 1) z (z + 1) (by omega) (by omega) (by omega) (by rw [show (z + 1).toNat = z.toNat + 1 by omega, st_b hP (hF ▸ c70)]; omega) (by rw [show (z + 1).toNat = z.toNat + 1 by omega, st_d hP]; omega) | exact ih (z + 1) F (z + 1) (by omega) (by omega) (by omega) (by rw [show (z + 1).toNat = z.toNat + 1 by omega, st_c (hF ▸ c70)]; exact hF) (by rw [show (z + 1).toNat = z.toNat + 1 by omega, st_d hP]; omega)
          · refine j_iload h 3 dX4_strips_87 rfl ?_
            refine j_iconst h dX4_strips_89 ?_
            refine j_iadd h dX4_strips_90 ?_
            refine j_goto h 96 dX4_strips_91 (by decide) ?_
            refine j_istore h [(5, _), (4, _), (8, _), (7, _), (6, _), (0, _), (1, _), (2, _), (3, _)] dX4_strips_96 (by decide) rfl ?_
            refine j_iinc h 4 [(6, _), (5, _), (4, _), (8, _), (7, _), (0, _), (1, _), (2, _), (3, _)] dX4_strips_98 rfl (by decide) rfl ?_
            refine j_goto h 9 dX4_strips_101 (by decide) ?_
            refine j_sub [0, 2, 1, 5, 6, 7, 8] rfl ?_
            first | exact absurd c64 (by decide) | exact absurd rfl c64 | exact absurd c82 (by decide) | exact absurd rfl c82 | exact absurd c84 (by decide) | exact absurd rfl c84 | exact ih (z + 1) F e (by omega) (by omega) (by omega) (by rw [show (z + 1).toNat = z.toNat + 1 by omega, (st_a hP).1]; exact hF) (by rw [show (z + 1).toNat = z.toNat + 1 by omega, (st_a hP).2]; exact he) | exact ih (z + 1) z (z + 1) (by omega) (by omega) (by omega) (by rw [show (z + 1).toNat = z.toNat + 1 by omega, st_b hP (hF ▸ c70)]; omega) (by rw [show (z + 1).toNat = z.toNat + 1 by omega, st_d hP]; omega) | exact ih (z + 1) F (z + 1) (by omega) (by omega) (by omega) (by rw [show (z + 1).toNat = z.toNat + 1 by omega, st_c (hF ▸ c70)]; exact hF) (by rw [show (z + 1).toNat = z.toNat + 1 by omega, st_d hP]; omega)
        · refine j_iload h 3 dX4_strips_67 rfl ?_
          refine j_iconst h dX4_strips_69 ?_
          refine j_icmp_ne h 78 dX4_strips_70 (by decide) (by first | exact okI_of _ | exact okI_b _ | exact okI_sgz _ _ | assumption | (unfold okI; omega)) (by first | exact okI_of _ | exact okI_b _ | exact okI_sgz _ _ | assumption | (unfold okI; omega)) (fun c70 => ?_) (fun c70 => ?_)
          · refine j_iload h 3 dX4_strips_78 rfl ?_
            refine j_istore h [(4, _), (8, _), (7, _), (6, _), (5, _), (0, _), (1, _), (2, _), (3, _)] dX4_strips_80 (by decide) rfl ?_
            refine j_iload h 1 dX4_strips_82 rfl ?_
            refine j_if_eq h 94 dX4_strips_84 (by decide) (by first | exact okI_of _ | exact okI_b _ | exact okI_sgz _ _ | assumption | (unfold okI; omega)) (fun c84 => ?_) (fun c84 => ?_)
            · refine j_iload h 4 dX4_strips_94 rfl ?_
              refine j_istore h [(5, _), (4, _), (8, _), (7, _), (6, _), (0, _), (1, _), (2, _), (3, _)] dX4_strips_96 (by decide) rfl ?_
              refine j_iinc h 4 [(6, _), (5, _), (4, _), (8, _), (7, _), (0, _), (1, _), (2, _), (3, _)] dX4_strips_98 rfl (by decide) rfl ?_
              refine j_goto h 9 dX4_strips_101 (by decide) ?_
              refine j_sub [0, 2, 1, 5, 6, 7, 8] rfl ?_
              first | exact absurd c64 (by decide) | exact absurd rfl c64 | exact absurd c82 (by decide) | exact absurd rfl c82 | exact absurd c84 (by decide) | exact absurd rfl c84 | exact ih (z + 1) F e (by omega) (by omega) (by omega) (by rw [show (z + 1).toNat = z.toNat + 1 by omega, (st_a hP).1]; exact hF) (by rw [show (z + 1).toNat = z.toNat + 1 by omega, (st_a hP).2]; exact he) | exact ih (z + 1) z (z + 1) (by omega) (by omega) (by omega) (by rw [show (z + 1).toNat = z.toNat + 1 by omega, st_b hP (hF ▸ c70)]; omega) (by rw [show (z + 1).toNat = z.toNat + 1 by omega, st_d hP]; omega) | exact ih (z + 1) F (z + 1) (by omega) (by omega) (by omega) (by rw [show (z + 1).toNat = z.toNat + 1 by omega, st_c (hF ▸ c70)]; exact hF) (by rw [show (z + 1).toNat = z.toNat + 1 by omega, st_d hP]; omega)
            · refine j_iload h 3 dX4_strips_87 rfl ?_
              refine j_iconst h dX4_strips_89 ?_
              refine j_iadd h dX4_strips_90 ?_
              refine j_goto h 96 dX4_strips_91 (by decide) ?_
              refine j_istore h [(5, _), (4, _), (8, _), (7, _), (6, _), (0, _), (1, _), (2, _), (3, _)] dX4_strips_96 (by decide) rfl ?_
              refine j_iinc h 4 [(6, _), (5, _), (4, _), (8, _), (7, _), (0, _), (1, _), (2, _), (3, _)] dX4_strips_98 rfl (by decide) rfl ?_
              refine j_goto h 9 dX4_strips_101 (by decide) ?_
              refine j_sub [0, 2, 1, 5, 6, 7, 8] rfl ?_
              first | exact absurd c64 (by decide) | exact absurd rfl c64 | exact absurd c82 (by decide) | exact absurd rfl c82 | exact absurd c84 (by decide) | exact absurd rfl c84 | exact ih (z + 1) F e (by omega) (by omega) (by omega) (by rw [show (z + 1).toNat = z.toNat + 1 by omega, (st_a hP).1]; exact hF) (by rw [show (z + 1).toNat = z.toNat + 1 by omega, (st_a hP).2]; exact he) | exact ih (z + 1) z (z + 1) (by omega) (by omega) (by omega) (by rw [show (z + 1).toNat = z.toNat + 1 by omega, st_b hP (hF ▸ c70)]; omega) (by rw [show (z + 1).toNat = z.toNat + 1 by omega, st_d hP]; omega) | exact ih (z + 1) F (z + 1) (by omega) (by omega) (by omega) (by rw [show (z + 1).toNat = z.toNat + 1 by omega, st_c (hF ▸ c70)]; exact hF) (by rw [show (z + 1).toNat = z.toNat + 1 by omega, st_d hP]; omega)
          · refine j_iload h 2 dX4_strips_73 rfl ?_
            refine j_goto h 80 dX4_strips_75 (by decide) ?_
            refine j_istore h [(4, _), (8, _), (7, _), (6, _), (5, _), (0, _), (1, _), (2, _), (3, _)] dX4_strips_80 (by decide) rfl ?_
            refine j_iload h 1 dX4_strips_82 rfl ?_
            refine j_if_eq h 94 dX4_strips_84 (by decide) (by first | exact okI_of _ | exact okI_b _ | exact okI_sgz _ _ | assumption | (unfold okI; omega)) (fun c84 => ?_) (fun c84 => ?_)
            · refine j_iload h 4 dX4_strips_94 rfl ?_
              refine j_istore h [(5, _), (4, _), (8, _), (7, _), (6, _), (0, _), (1, _), (2, _), (3, _)] dX4_strips_96 (by decide) rfl ?_
              refine j_iinc h 4 [(6, _), (5, _), (4, _), (8, _), (7, _), (0, _), (1, _), (2, _), (3, _)] dX4_strips_98 rfl (by decide) rfl ?_
              refine j_goto h 9 dX4_strips_101 (by decide) ?_
              refine j_sub [0, 2, 1, 5, 6, 7, 8] rfl ?_
              first | exact absurd c64 (by decide) | exact absurd rfl c64 | exact absurd c82 (by decide) | exact absurd rfl c82 | exact absurd c84 (by decide) | exact absurd rfl c84 | exact ih (z + 1) F e (by omega) (by omega) (by omega) (by rw [show (z + 1).toNat = z.toNat + 1 by omega, (st_a hP).1]; exact hF) (by rw [show (z + 1).toNat = z.toNat + 1 by omega, (st_a hP).2]; exact he) | exact ih (z + 1) z (z + 1) (by omega) (by omega) (by omega) (by rw [show (z + 1).toNat = z.toNat + 1 by omega, st_b hP (hF ▸ c70)]; omega) (by rw [show (z + 1).toNat = z.toNat + 1 by omega, st_d hP]; omega) | exact ih (z + 1) F (z + 1) (by omega) (by omega) (by omega) (by rw [show (z + 1).toNat = z.toNat + 1 by omega, st_c (hF ▸ c70)]; exact hF) (by rw [show (z + 1).toNat = z.toNat + 1 by omega, st_d hP]; omega)
            · refine j_iload h 3 dX4_strips_87 rfl ?_
              refine j_iconst h dX4_strips_89 ?_
              refine j_iadd h dX4_strips_90 ?_
              refine j_goto h 96 dX4_strips_91 (by decide) ?_
              refine j_istore h [(5, _), (4, _), (8, _), (7, _), (6, _), (0, _), (1, _), (2, _), (3, _)] dX4_strips_96 (by decide) rfl ?_
              refine j_iinc h 4 [(6, _), (5, _), (4, _), (8, _), (7, _), (0, _), (1, _), (2, _), (3, _)] dX4_strips_98 rfl (by decide) rfl ?_
              refine j_goto h 9 dX4_strips_101 (by decide) ?_
              refine j_sub [0, 2, 1, 5, 6, 7, 8] rfl ?_
              first | exact absurd c64 (by decide) | exact absurd rfl c64 | exact absurd c82 (by decide) | exact absurd rfl c82 | exact absurd c84 (by decide) | exact absurd rfl c84 | exact ih (z + 1) F e (by omega) (by omega) (by omega) (by rw [show (z + 1).toNat = z.toNat + 1 by omega, (st_a hP).1]; exact hF) (by rw [show (z + 1).toNat = z.toNat + 1 by omega, (st_a hP).2]; exact he) | exact ih (z + 1) z (z + 1) (by omega) (by omega) (by omega) (by rw [show (z + 1).toNat = z.toNat + 1 by omega, st_b hP (hF ▸ c70)]; omega) (by rw [show (z + 1).toNat = z.toNat + 1 by omega, st_d hP]; omega) | exact ih (z + 1) F (z + 1) (by omega) (by omega) (by omega) (by rw [show (z + 1).toNat = z.toNat + 1 by omega, st_c (hF ▸ c70)]; exact hF) (by rw [show (z + 1).toNat = z.toNat + 1 by omega, st_d hP]; omega)
set_option maxHeartbeats 400000 in
set_option maxRecDepth 20000 in
theorem q_trim {E : EV} (hE : EOK E) {A : AS} {g0 : GH} {a : Int} (ha : okI a) {to : Int} (hto : okI to) : Ct E (RMP E g0) yX4_trim wsX4_trim rX4_trim [eA E 76, .int (iI a), .int (iI to)] A (some (.int (iI (layA A to (bare false (A.1 (sw a)))).1))) (layA A to (bare false (A.1 (sw a)))).2 := by
  refine ct_of [(0, _), (1, _), (2, _)] hE (by decide) rfl (Nat.le_of_ble_eq_true rfl) rfl (fun X h hq => ?_)
  refine j_of (fun G hG => RMP_len hG) (fun hLM => ?_)
  refine j_aload_n h 0 dX4_trim_0 rfl rfl ?_
  refine j_iload_n h 1 dX4_trim_1 rfl rfl ?_
  refine j_iconst h dX4_trim_2 ?_
  refine j_iload_n h 2 dX4_trim_3 rfl rfl ?_
  refine j_callV h (q_strips_false hE ha hto) m_X4_strips a_l_X4_131 rfl rfl ⟨Nat.le_of_ble_eq_true rfl, Nat.le_of_ble_eq_true rfl⟩ (ci := 4) rfl (by omega) (rcMP) rfl rfl (Nat.le_of_ble_eq_true rfl) dX4_trim_4 ?_
  exact j_iret h hq rfl dX4_trim_7
set_option maxHeartbeats 400000 in
set_option maxRecDepth 20000 in
theorem q_strips_true {E : EV} (hE : EOK E) {A : AS} {g0 : GH} {a : Int} (ha : okI a) {to : Int} (hto : okI to) : Ct E (RMP E g0) yX4_strips wsX4_strips rX4_strips [eA E 76, .int (iI a), .int (iI 0), .int (iI to)] A (some (.int (iI (layA A to (bare true (A.1 (sw a)))).1))) (layA A to (bare true (A.1 (sw a)))).2 := by
  refine ct_of [(0, _), (1, _), (2, _), (3, _)] hE (by decide) rfl (Nat.le_of_ble_eq_true rfl) rfl (fun X h hq => ?_)
  refine j_exM (fun mk => ?_)
  refine j_of (fun G hG => RM_len hG) (fun hLM => ?_)
  have hla := hLM.1 (sw a) (sw_lt a)
  have hwa := sw_lt a
  have hfma : 0 ≤ fmo a 8 ∧ fmo a 8 < 8 := by unfold fmo; omega
  have hswa : (fmo a 8).toNat = sw a := rfl
  dsimp only at *
  refine j_iconst h dX4_strips_0 ?_
  refine j_istore h [(4, _), (0, _), (1, _), (2, _), (3, _)] dX4_strips_1 (by decide) rfl ?_
  refine j_iconst h dX4_strips_3 ?_
  refine j_istore h [(5, _), (4, _), (0, _), (1, _), (2, _), (3, _)] dX4_strips_4 (by decide) rfl ?_
  refine j_iconst h dX4_strips_6 ?_
  refine j_istore h [(6, _), (5, _), (4, _), (0, _), (1, _), (2, _), (3, _)] dX4_strips_7 (by decide) rfl ?_
  refine j_sub [0, 2, 1, 3, 4, 5, 6] rfl ?_
  refine lpA3 (fun (z F e : Int) => ((A.1 (sw a)).length - z).toNat) (fun (z F e : Int) => 0 ≤ z → z ≤ (A.1 (sw a)).length → F = lo (nls true (A.1 (sw a))) 0 z.toNat → e = hi (nls true (A.1 (sw a))) z.toNat + 1 → JL E (RM E g0) X 9 [(6, .int (iI z)), (4, .int (iI F)), (5, .int (iI e)), (0, eA E 76), (1, .int (iI a)), (2, .int (iI 0)), (3, .int (iI to))] [] (A, mk)) (fun z F e ih h0 hzb hF he => ?_) 0 (-1) 0 (Int.le_refl 0) (by omega) rfl rfl
  have hlr := lo_range (P := (nls true (A.1 (sw a)))) z.toNat 0
  have hhr := hi_range (P := (nls true (A.1 (sw a)))) z.toNat
  refine j_iload h 0 dX4_strips_9 rfl ?_
  refine j_aload_n h 3 dX4_strips_11 rfl rfl ?_
  refine j_iload_n h 4 dX4_strips_12 rfl rfl ?_
  refine j_callV h (c_X4_sizeOf hE ha) m_X4_sizeOf a_l_X4_67 rfl rfl ⟨Nat.le_of_ble_eq_true rfl, Nat.le_of_ble_eq_true rfl⟩ (ci := 4) rfl (by omega) (rcM) rfl rfl (Nat.le_of_ble_eq_true rfl) dX4_strips_13 ?_
  refine j_icmp_ge h 104 dX4_strips_16 (by decide) (by first | exact okI_of _ | exact okI_b _ | exact okI_sgz _ _ | assumption | (unfold okI; omega)) (by first | exact okI_of _ | exact okI_b _ | exact okI_sgz _ _ | assumption | (unfold okI; omega)) (fun c16 => ?_) (fun c16 => ?_)
  · have ez : z.toNat = (A.1 (sw a)).length := by omega
    rw [ez] at hF he hlr hhr
    refine j_aload_n h 3 dX4_strips_104 rfl rfl ?_
    refine j_callVv h (c_X4_begins hE) m_X4_begins a_l_X4_75 rfl rfl ⟨Nat.le_of_ble_eq_true rfl, Nat.le_of_ble_eq_true rfl⟩ (ci := 4) rfl (by omega) (rcM) rfl rfl (Nat.le_of_ble_eq_true rfl) dX4_strips_105 ?_
    refine j_aload_n h 3 dX4_strips_108 rfl rfl ?_
    refine j_iload_n h 4 dX4_strips_109 rfl rfl ?_
    refine j_iload h 1 dX4_strips_110 rfl ?_
    refine j_iconst h dX4_strips_112 ?_
    refine j_icmp_ne h 120 dX4_strips_113 (by decide) (by first | exact okI_of _ | exact okI_b _ | exact okI_sgz _ _ | assumption | (unfold okI; omega)) (by first | exact okI_of _ | exact okI_b _ | exact okI_sgz _ _ | assumption | (unfold okI; omega)) (fun c113 => ?_) (fun c113 => ?_)
    · have hbb := bare_b true (A.1 (sw a)) (by rw [← hF]; exact c113)
      have hbe : bare true (A.1 (sw a)) = sl (A.1 (sw a)) F.toNat (e - F).toNat := by rw [hbb.2.2.2, ← hF, ← he]
      refine j_iload h 1 dX4_strips_120 rfl ?_
      refine j_iload h 2 dX4_strips_122 rfl ?_
      refine j_callVv h (c_X4_putsPart hE ha (by omega) (by omega) (by omega) (by simp)) m_X4_putsPart a_l_X4_78 rfl rfl ⟨Nat.le_of_ble_eq_true rfl, Nat.le_of_ble_eq_true rfl⟩ (ci := 4) rfl (by omega) (rcM) rfl rfl (Nat.le_of_ble_eq_true rfl) dX4_strips_124 ?_
      rw [List.nil_append, ← hbe]
      have hbl : (bare true (A.1 (sw a))).length ≤ 300 := by rw [hbe, sl_len]; omega
      refine j_aload_n h 3 dX4_strips_127 rfl rfl ?_
      refine j_iload_n h 6 dX4_strips_128 rfl rfl ?_
      refine j_callV h (c_lays hE hto) m_X4_lays a_l_X4_82 rfl rfl ⟨Nat.le_of_ble_eq_true rfl, Nat.le_of_ble_eq_true rfl⟩ (ci := 4) rfl (by omega) (rcM) rfl rfl (Nat.le_of_ble_eq_true rfl) dX4_strips_129 ?_
      have e : layA A to (bare true (A.1 (sw a))) = lyA A to (bare true (A.1 (sw a))) := by unfold lyA; rw [if_pos hbl]
      rw [e] at hq
      have hq := fnM (bare true (A.1 (sw a))) hq
      exact j_iret h hq rfl dX4_strips_132
    · have hba := bare_a true (A.1 (sw a)) (by rw [← hF]; exact c113)
      have hbe : bare true (A.1 (sw a)) = sl (A.1 (sw a)) (0 : Int).toNat (e - 0).toNat := by rw [hba.2, show (e - 0).toNat = 0 by omega]; rfl
      refine j_iconst h dX4_strips_116 ?_
      refine j_goto h 122 dX4_strips_117 (by decide) ?_
      refine j_iload h 2 dX4_strips_122 rfl ?_
      refine j_callVv h (c_X4_putsPart hE ha (by omega) (by omega) (by omega) (by simp)) m_X4_putsPart a_l_X4_78 rfl rfl ⟨Nat.le_of_ble_eq_true rfl, Nat.le_of_ble_eq_true rfl⟩ (ci := 4) rfl (by omega) (rcM) rfl rfl (Nat.le_of_ble_eq_true rfl) dX4_strips_124 ?_
      rw [List.nil_append, ← hbe]
      have hbl : (bare true (A.1 (sw a))).length ≤ 300 := by rw [hbe, sl_len]; omega
      refine j_aload_n h 3 dX4_strips_127 rfl rfl ?_
      refine j_iload_n h 6 dX4_strips_128 rfl rfl ?_
      refine j_callV h (c_lays hE hto) m_X4_lays a_l_X4_82 rfl rfl ⟨Nat.le_of_ble_eq_true rfl, Nat.le_of_ble_eq_true rfl⟩ (ci := 4) rfl (by omega) (rcM) rfl rfl (Nat.le_of_ble_eq_true rfl) dX4_strips_129 ?_
      have e : layA A to (bare true (A.1 (sw a))) = lyA A to (bare true (A.1 (sw a))) := by unfold lyA; rw [if_pos hbl]
      rw [e] at hq
      have hq := fnM (bare true (A.1 (sw a))) hq
      exact j_iret h hq rfl dX4_strips_132
  · refine j_aload_n h 3 dX4_strips_19 rfl rfl ?_
    refine j_iload_n h 4 dX4_strips_20 rfl rfl ?_
    refine j_iload h 0 dX4_strips_21 rfl ?_
    refine j_callV h (c_X4_signAt hE ha (by omega) (by omega)) m_X4_signAt a_l_X4_58 rfl rfl ⟨Nat.le_of_ble_eq_true rfl, Nat.le_of_ble_eq_true rfl⟩ (ci := 4) rfl (by omega) (rcM) rfl rfl (Nat.le_of_ble_eq_true rfl) dX4_strips_23 ?_
    refine j_top (iI_of _).symm ?_
    refine j_istore h [(7, _), (6, _), (4, _), (5, _), (0, _), (1, _), (2, _), (3, _)] dX4_strips_26 (by decide) rfl ?_
    refine j_iload_n h 6 dX4_strips_28 rfl rfl ?_
    refine j_if_eq h 47 dX4_strips_29 (by decide) (by first | exact okI_of _ | exact okI_b _ | exact okI_sgz _ _ | assumption | (unfold okI; omega)) (fun c29 => ?_) (fun c29 => ?_)
    · refine j_iload h 0 dX4_strips_47 rfl ?_
      refine j_callS h (c_X4_isBlankSign hE (okI_of _)) m_X4_isBlankSign a_l_X4_98 rfl rfl ⟨Nat.le_of_ble_eq_true rfl, Nat.le_of_ble_eq_true rfl⟩ rfl rfl (Nat.le_of_ble_eq_true rfl) dX4_strips_49 ?_
      refine j_if_ne h 59 dX4_strips_52 (by decide) (by first | exact okI_of _ | exact okI_b _ | exact okI_sgz _ _ | assumption | (unfold okI; omega)) (fun c52 => ?_) (fun c52 => ?_)
      · rw [bI_n0] at c52
        have hP : nls true (A.1 (sw a)) z.toNat = false := by unfold nls lsb; simp only [if_true]; rw [c52]; rfl
        refine j_iconst h dX4_strips_59 ?_
        refine j_istore h [(8, _), (7, _), (6, _), (4, _), (5, _), (0, _), (1, _), (2, _), (3, _)] dX4_strips_60 (by decide) rfl ?_
        refine j_iload h 0 dX4_strips_62 rfl ?_
        refine j_if_eq h 78 dX4_strips_64 (by decide) (by first | exact okI_of _ | exact okI_b _ | exact okI_sgz _ _ | assumption | (unfold okI; omega)) (fun c64 => ?_) (fun c64 => ?_)
        · refine j_iload h 3 dX4_strips_78 rfl ?_
          refine j_istore h [(4, _), (8, _), (7, _), (6, _), (5, _), (0, _), (1, _), (2, _), (3, _)] dX4_strips_80 (by decide) rfl ?_
          refine j_iload h 1 dX4_strips_82 rfl ?_
          refine j_if_eq h 94 dX4_strips_84 (by decide) (by first | exact okI_of _ | exact okI_b _ | exact okI_sgz _ _ | assumption | (unfold okI; omega)) (fun c84 => ?_) (fun c84 => ?_)
          · refine j_iload h 4 dX4_strips_94 rfl ?_
            refine j_istore h [(5, _), (4, _), (8, _), (7, _), (6, _), (0, _), (1, _), (2, _), (3, _)] dX4_strips_96 (by decide) rfl ?_
            refine j_iinc h 4 [(6, _), (5, _), (4, _), (8, _), (7, _), (0, _), (1, _), (2, _), (3, _)] dX4_strips_98 rfl (by decide) rfl ?_
            refine j_goto h 9 dX4_strips_101 (by decide) ?_
            refine j_sub [0, 2, 1, 5, 6, 7, 8] rfl ?_
            first | exact absurd c64 (by decide) | exact absurd rfl c64 | exact absurd c82 (by decide) | exact absurd rfl c82 | exact absurd c84 (by decide) | exact absurd rfl c84 | exact ih (z + 1) F e (by omega) (by omega) (by omega) (by rw [show (z + 1).toNat = z.toNat + 1 by omega, (st_a hP).1]; exact hF) (by rw [show (z + 1).toNat = z.toNat + 1 by omega, (st_a hP).2]; exact he) | exact ih (z + 1) z (z + 1) (by omega) (by omega) (by omega) (by rw [show (z + 1).toNat = z.toNat + 1 by omega, st_b hP (hF ▸ c70)]; omega) (by rw [show (z + 1).toNat = z.toNat + 1 by omega, st_d hP]; omega) | exact ih (z + 1) F (z + 1) (by omega) (by omega) (by omega) (by rw [show (z + 1).toNat = z.toNat + 1 by omega, st_c (hF ▸ c70)]; exact hF) (by rw [show (z + 1).toNat = z.toNat + 1 by omega, st_d hP]; omega)
          · refine j_iload h 3 dX4_strips_87 rfl ?_
            refine j_iconst h dX4_strips_89 ?_
            refine j_iadd h dX4_strips_90 ?_
            refine j_goto h 96 dX4_strips_91 (by decide) ?_
            refine j_istore h [(5, _), (4, _), (8, _), (7, _), (6, _), (0, _), (1, _), (2, _), (3, _)] dX4_strips_96 (by decide) rfl ?_
            refine j_iinc h 4 [(6, _), (5, _), (4, _), (8, _), (7, _), (0, _), (1, _), (2, _), (3, _)] dX4_strips_98 rfl (by decide) rfl ?_
            refine j_goto h 9 dX4_strips_101 (by decide) ?_
            refine j_sub [0, 2, 1, 5, 6, 7, 8] rfl ?_
            first | exact absurd c64 (by decide) | exact absurd rfl c64 | exact absurd c82 (by decide) | exact absurd rfl c82 | exact absurd c84 (by decide) | exact absurd rfl c84 | exact ih (z + 1) F e (by omega) (by omega) (by omega) (by rw [show (z + 1).toNat = z.toNat + 1 by omega, (st_a hP).1]; exact hF) (by rw [show (z + 1).toNat = z.toNat + 1 by omega, (st_a hP).2]; exact he) | exact ih (z + 1) z (z + 1) (by omega) (by omega) (by omega) (by rw [show (z + 1).toNat = z.toNat + 1 by omega, st_b hP (hF ▸ c70)]; omega) (by rw [show (z + 1).toNat = z.toNat + 1 by omega, st_d hP]; omega) | exact ih (z + 1) F (z + 1) (by omega) (by omega) (by omega) (by rw [show (z + 1).toNat = z.toNat + 1 by omega, st_c (hF ▸ c70)]; exact hF) (by rw [show (z + 1).toNat = z.toNat + 1 by omega, st_d hP]; omega)
        · refine j_iload h 3 dX4_strips_67 rfl ?_
          refine j_iconst h dX4_strips_69 ?_
          refine j_icmp_ne h 78 dX4_strips_70 (by decide) (by first | exact okI_of _ | exact okI_b _ | exact okI_sgz _ _ | assumption | (unfold okI; omega)) (by first | exact okI_of _ | exact okI_b _ | exact okI_sgz _ _ | assumption | (unfold okI; omega)) (fun c70 => ?_) (fun c70 => ?_)
          · refine j_iload h 3 dX4_strips_78 rfl ?_
            refine j_istore h [(4, _), (8, _), (7, _), (6, _), (5, _), (0, _), (1, _), (2, _), (3, _)] dX4_strips_80 (by decide) rfl ?_
            refine j_iload h 1 dX4_strips_82 rfl ?_
            refine j_if_eq h 94 dX4_strips_84 (by decide) (by first | exact okI_of _ | exact okI_b _ | exact okI_sgz _ _ | assumption | (unfold okI; omega)) (fun c84 => ?_) (fun c84 => ?_)
            · refine j_iload h 4 dX4_strips_94 rfl ?_
              refine j_istore h [(5, _), (4, _), (8, _), (7, _), (6, _), (0, _), (1, _), (2, _), (3, _)] dX4_strips_96 (by decide) rfl ?_
              refine j_iinc h 4 [(6, _), (5, _), (4, _), (8, _), (7, _), (0, _), (1, _), (2, _), (3, _)] dX4_strips_98 rfl (by decide) rfl ?_
              refine j_goto h 9 dX4_strips_101 (by decide) ?_
              refine j_sub [0, 2, 1, 5, 6, 7, 8] rfl ?_
              first | exact absurd c64 (by decide) | exact absurd rfl c64 | exact absurd c82 (by decide) | exact absurd rfl c82 | exact absurd c84 (by decide) | exact absurd rfl c84 | exact ih (z + 1) F e (by omega) (by omega) (by omega) (by rw [show (z + 1).toNat = z.toNat + 1 by omega, (st_a hP).1]; exact hF) (by rw [show (z + 1).toNat = z.toNat + 1 by omega, (st_a hP).2]; exact he) | exact ih (z + 1) z (z + 1) (by omega) (by omega) (by omega) (by rw [show (z + 1).toNat = z.toNat + 1 by omega, st_b hP (hF ▸ c70)]; omega) (by rw [show (z + 1).toNat = z.toNat + 1 by omega, st_d hP]; omega) | exact ih (z + 1) F (z + 1) (by omega) (by omega) (by omega) (by rw [show (z + 1).toNat = z.toNat + 1 by omega, st_c (hF ▸ c70)]; exact hF) (by rw [show (z + 1).toNat = z.toNat + 1 by omega, st_d hP]; omega)
            · refine j_iload h 3 dX4_strips_87 rfl ?_
              refine j_iconst h dX4_strips_89 ?_
              refine j_iadd h dX4_strips_90 ?_
              refine j_goto h 96 dX4_strips_91 (by decide) ?_
              refine j_istore h [(5, _), (4, _), (8, _), (7, _), (6, _), (0, _), (1, _), (2, _), (3, _)] dX4_strips_96 (by decide) rfl ?_
              refine j_iinc h 4 [(6, _), (5, _), (4, _), (8, _), (7, _), (0, _), (1, _), (2, _), (3, _)] dX4_strips_98 rfl (by decide) rfl ?_
              refine j_goto h 9 dX4_strips_101 (by decide) ?_
              refine j_sub [0, 2, 1, 5, 6, 7, 8] rfl ?_
              first | exact absurd c64 (by decide) | exact absurd rfl c64 | exact absurd c82 (by decide) | exact absurd rfl c82 | exact absurd c84 (by decide) | exact absurd rfl c84 | exact ih (z + 1) F e (by omega) (by omega) (by omega) (by rw [show (z + 1).toNat = z.toNat + 1 by omega, (st_a hP).1]; exact hF) (by rw [show (z + 1).toNat = z.toNat + 1 by omega, (st_a hP).2]; exact he) | exact ih (z + 1) z (z + 1) (by omega) (by omega) (by omega) (by rw [show (z + 1).toNat = z.toNat + 1 by omega, st_b hP (hF ▸ c70)]; omega) (by rw [show (z + 1).toNat = z.toNat + 1 by omega, st_d hP]; omega) | exact ih (z + 1) F (z + 1) (by omega) (by omega) (by omega) (by rw [show (z + 1).toNat = z.toNat + 1 by omega, st_c (hF ▸ c70)]; exact hF) (by rw [show (z + 1).toNat = z.toNat + 1 by omega, st_d hP]; omega)
          · refine j_iload h 2 dX4_strips_73 rfl ?_
            refine j_goto h 80 dX4_strips_75 (by decide) ?_
            refine j_istore h [(4, _), (8, _), (7, _), (6, _), (5, _), (0, _), (1, _), (2, _), (3, _)] dX4_strips_80 (by decide) rfl ?_
            refine j_iload h 1 dX4_strips_82 rfl ?_
            refine j_if_eq h 94 dX4_strips_84 (by decide) (by first | exact okI_of _ | exact okI_b _ | exact okI_sgz _ _ | assumption | (unfold okI; omega)) (fun c84 => ?_) (fun c84 => ?_)
            · refine j_iload h 4 dX4_strips_94 rfl ?_
              refine j_istore h [(5, _), (4, _), (8, _), (7, _), (6, _), (0, _), (1, _), (2, _), (3, _)] dX4_strips_96 (by decide) rfl ?_
              refine j_iinc h 4 [(6, _), (5, _), (4, _), (8, _), (7, _), (0, _), (1, _), (2, _), (3, _)] dX4_strips_98 rfl (by decide) rfl ?_
              refine j_goto h 9 dX4_strips_101 (by decide) ?_
              refine j_sub [0, 2, 1, 5, 6, 7, 8] rfl ?_
              first | exact absurd c64 (by decide) | exact absurd rfl c64 | exact absurd c82 (by decide) | exact absurd rfl c82 | exact absurd c84 (by decide) | exact absurd rfl c84 | exact ih (z + 1) F e (by omega) (by omega) (by omega) (by rw [show (z + 1).toNat = z.toNat + 1 by omega, (st_a hP).1]; exact hF) (by rw [show (z + 1).toNat = z.toNat + 1 by omega, (st_a hP).2]; exact he) | exact ih (z + 1) z (z + 1) (by omega) (by omega) (by omega) (by rw [show (z + 1).toNat = z.toNat + 1 by omega, st_b hP (hF ▸ c70)]; omega) (by rw [show (z + 1).toNat = z.toNat + 1 by omega, st_d hP]; omega) | exact ih (z + 1) F (z + 1) (by omega) (by omega) (by omega) (by rw [show (z + 1).toNat = z.toNat + 1 by omega, st_c (hF ▸ c70)]; exact hF) (by rw [show (z + 1).toNat = z.toNat + 1 by omega, st_d hP]; omega)
            · refine j_iload h 3 dX4_strips_87 rfl ?_
              refine j_iconst h dX4_strips_89 ?_
              refine j_iadd h dX4_strips_90 ?_
              refine j_goto h 96 dX4_strips_91 (by decide) ?_
              refine j_istore h [(5, _), (4, _), (8, _), (7, _), (6, _), (0, _), (1, _), (2, _), (3, _)] dX4_strips_96 (by decide) rfl ?_
              refine j_iinc h 4 [(6, _), (5, _), (4, _), (8, _), (7, _), (0, _), (1, _), (2, _), (3, _)] dX4_strips_98 rfl (by decide) rfl ?_
              refine j_goto h 9 dX4_strips_101 (by decide) ?_
              refine j_sub [0, 2, 1, 5, 6, 7, 8] rfl ?_
              first | exact absurd c64 (by decide) | exact absurd rfl c64 | exact absurd c82 (by decide) | exact absurd rfl c82 | exact absurd c84 (by decide) | exact absurd rfl c84 | exact ih (z + 1) F e (by omega) (by omega) (by omega) (by rw [show (z + 1).toNat = z.toNat + 1 by omega, (st_a hP).1]; exact hF) (by rw [show (z + 1).toNat = z.toNat + 1 by omega, (st_a hP).2]; exact he) | exact ih (z + 1) z (z + 1) (by omega) (by omega) (by omega) (by rw [show (z + 1).toNat = z.toNat + 1 by omega, st_b hP (hF ▸ c70)]; omega) (by rw [show (z + 1).toNat = z.toNat + 1 by omega, st_d hP]; omega) | exact ih (z + 1) F (z + 1) (by omega) (by omega) (by omega) (by rw [show (z + 1).toNat = z.toNat + 1 by omega, st_c (hF ▸ c70)]; exact hF) (by rw [show (z + 1).toNat = z.toNat + 1 by omega, st_d hP]; omega)
      · rw [bI_0] at c52
        have hP : nls true (A.1 (sw a)) z.toNat = true := by unfold nls lsb; simp only [if_true]; rw [c52]; rfl
        refine j_iconst h dX4_strips_55 ?_
        refine j_goto h 60 dX4_strips_56 (by decide) ?_
        refine j_istore h [(8, _), (7, _), (6, _), (4, _), (5, _), (0, _), (1, _), (2, _), (3, _)] dX4_strips_60 (by decide) rfl ?_
        refine j_iload h 0 dX4_strips_62 rfl ?_
        refine j_if_eq h 78 dX4_strips_64 (by decide) (by first | exact okI_of _ | exact okI_b _ | exact okI_sgz _ _ | assumption | (unfold okI; omega)) (fun c64 => ?_) (fun c64 => ?_)
        · refine j_iload h 3 dX4_strips_78 rfl ?_
          refine j_istore h [(4, _), (8, _), (7, _), (6, _), (5, _), (0, _), (1, _), (2, _), (3, _)] dX4_strips_80 (by decide) rfl ?_
          refine j_iload h 1 dX4_strips_82 rfl ?_
          refine j_if_eq h 94 dX4_strips_84 (by decide) (by first | exact okI_of _ | exact okI_b _ | exact okI_sgz _ _ | assumption | (unfold okI; omega)) (fun c84 => ?_) (fun c84 => ?_)
          · refine j_iload h 4 dX4_strips_94 rfl ?_
            refine j_istore h [(5, _), (4, _), (8, _), (7, _), (6, _), (0, _), (1, _), (2, _), (3, _)] dX4_strips_96 (by decide) rfl ?_
            refine j_iinc h 4 [(6, _), (5, _), (4, _), (8, _), (7, _), (0, _), (1, _), (2, _), (3, _)] dX4_strips_98 rfl (by decide) rfl ?_
            refine j_goto h 9 dX4_strips_101 (by decide) ?_
            refine j_sub [0, 2, 1, 5, 6, 7, 8] rfl ?_
            first | exact absurd c64 (by decide) | exact absurd rfl c64 | exact absurd c82 (by decide) | exact absurd rfl c82 | exact absurd c84 (by decide) | exact absurd rfl c84 | exact ih (z + 1) F e (by omega) (by omega) (by omega) (by rw [show (z + 1).toNat = z.toNat + 1 by omega, (st_a hP).1]; exact hF) (by rw [show (z + 1).toNat = z.toNat + 1 by omega, (st_a hP).2]; exact he) | exact ih (z + 1) z (z + 1) (by omega) (by omega) (by omega) (by rw [show (z + 1).toNat = z.toNat + 1 by omega, st_b hP (hF ▸ c70)]; omega) (by rw [show (z + 1).toNat = z.toNat + 1 by omega, st_d hP]; omega) | exact ih (z + 1) F (z + 1) (by omega) (by omega) (by omega) (by rw [show (z + 1).toNat = z.toNat + 1 by omega, st_c (hF ▸ c70)]; exact hF) (by rw [show (z + 1).toNat = z.toNat + 1 by omega, st_d hP]; omega)
          · refine j_iload h 3 dX4_strips_87 rfl ?_
            refine j_iconst h dX4_strips_89 ?_
            refine j_iadd h dX4_strips_90 ?_
            refine j_goto h 96 dX4_strips_91 (by decide) ?_
            refine j_istore h [(5, _), (4, _), (8, _), (7, _), (6, _), (0, _), (1, _), (2, _), (3, _)] dX4_strips_96 (by decide) rfl ?_
            refine j_iinc h 4 [(6, _), (5, _), (4, _), (8, _), (7, _), (0, _), (1, _), (2, _), (3, _)] dX4_strips_98 rfl (by decide) rfl ?_
            refine j_goto h 9 dX4_strips_101 (by decide) ?_
            refine j_sub [0, 2, 1, 5, 6, 7, 8] rfl ?_
            first | exact absurd c64 (by decide) | exact absurd rfl c64 | exact absurd c82 (by decide) | exact absurd rfl c82 | exact absurd c84 (by decide) | exact absurd rfl c84 | exact ih (z + 1) F e (by omega) (by omega) (by omega) (by rw [show (z + 1).toNat = z.toNat + 1 by omega, (st_a hP).1]; exact hF) (by rw [show (z + 1).toNat = z.toNat + 1 by omega, (st_a hP).2]; exact he) | exact ih (z + 1) z (z + 1) (by omega) (by omega) (by omega) (by rw [show (z + 1).toNat = z.toNat + 1 by omega, st_b hP (hF ▸ c70)]; omega) (by rw [show (z + 1).toNat = z.toNat + 1 by omega, st_d hP]; omega) | exact ih (z + 1) F (z + 1) (by omega) (by omega) (by omega) (by rw [show (z + 1).toNat = z.toNat + 1 by omega, st_c (hF ▸ c70)]; exact hF) (by rw [show (z + 1).toNat = z.toNat + 1 by omega, st_d hP]; omega)
        · refine j_iload h 3 dX4_strips_67 rfl ?_
          refine j_iconst h dX4_strips_69 ?_
          refine j_icmp_ne h 78 dX4_strips_70 (by decide) (by first | exact okI_of _ | exact okI_b _ | exact okI_sgz _ _ | assumption | (unfold okI; omega)) (by first | exact okI_of _ | exact okI_b _ | exact okI_sgz _ _ | assumption | (unfold okI; omega)) (fun c70 => ?_) (fun c70 => ?_)
          · refine j_iload h 3 dX4_strips_78 rfl ?_
            refine j_istore h [(4, _), (8, _), (7, _), (6, _), (5, _), (0, _), (1, _), (2, _), (3, _)] dX4_strips_80 (by decide) rfl ?_
            refine j_iload h 1 dX4_strips_82 rfl ?_
            refine j_if_eq h 94 dX4_strips_84 (by decide) (by first | exact okI_of _ | exact okI_b _ | exact okI_sgz _ _ | assumption | (unfold okI; omega)) (fun c84 => ?_) (fun c84 => ?_)
            · refine j_iload h 4 dX4_strips_94 rfl ?_
              refine j_istore h [(5, _), (4, _), (8, _), (7, _), (6, _), (0, _), (1, _), (2, _), (3, _)] dX4_strips_96 (by decide) rfl ?_
              refine j_iinc h 4 [(6, _), (5, _), (4, _), (8, _), (7, _), (0, _), (1, _), (2, _), (3, _)] dX4_strips_98 rfl (by decide) rfl ?_
              refine j_goto h 9 dX4_strips_101 (by decide) ?_
              refine j_sub [0, 2, 1, 5, 6, 7, 8] rfl ?_
              first | exact absurd c64 (by decide) | exact absurd rfl c64 | exact absurd c82 (by decide) | exact absurd rfl c82 | exact absurd c84 (by decide) | exact absurd rfl c84 | exact ih (z + 1) F e (by omega) (by omega) (by omega) (by rw [show (z + 1).toNat = z.toNat + 1 by omega, (st_a hP).1]; exact hF) (by rw [show (z + 1).toNat = z.toNat + 1 by omega, (st_a hP).2]; exact he) | exact ih (z + 1) z (z + 1) (by omega) (by omega) (by omega) (by rw [show (z + 1).toNat = z.toNat + 1 by omega, st_b hP (hF ▸ c70)]; omega) (by rw [show (z + 1).toNat = z.toNat + 1 by omega, st_d hP]; omega) | exact ih (z + 1) F (z + 1) (by omega) (by omega) (by omega) (by rw [show (z + 1).toNat = z.toNat + 1 by omega, st_c (hF ▸ c70)]; exact hF) (by rw [show (z + 1).toNat = z.toNat + 1 by omega, st_d hP]; omega)
            · refine j_iload h 3 dX4_strips_87 rfl ?_
              refine j_iconst h dX4_strips_89 ?_
              refine j_iadd h dX4_strips_90 ?_
              refine j_goto h 96 dX4_strips_91 (by decide) ?_
              refine j_istore h [(5, _), (4, _), (8, _), (7, _), (6, _), (0, _), (1, _), (2, _), (3, _)] dX4_strips_96 (by decide) rfl ?_
              refine j_iinc h 4 [(6, _), (5, _), (4, _), (8, _), (7, _), (0, _), (1, _), (2, _), (3, _)] dX4_strips_98 rfl (by decide) rfl ?_
              refine j_goto h 9 dX4_strips_101 (by decide) ?_
              refine j_sub [0, 2, 1, 5, 6, 7, 8] rfl ?_
              first | exact absurd c64 (by decide) | exact absurd rfl c64 | exact absurd c82 (by decide) | exact absurd rfl c82 | exact absurd c84 (by decide) | exact absurd rfl c84 | exact ih (z + 1) F e (by omega) (by omega) (by omega) (by rw [show (z + 1).toNat = z.toNat + 1 by omega, (st_a hP).1]; exact hF) (by rw [show (z + 1).toNat = z.toNat + 1 by omega, (st_a hP).2]; exact he) | exact ih (z + 1) z (z + 1) (by omega) (by omega) (by omega) (by rw [show (z + 1).toNat = z.toNat + 1 by omega, st_b hP (hF ▸ c70)]; omega) (by rw [show (z + 1).toNat = z.toNat + 1 by omega, st_d hP]; omega) | exact ih (z + 1) F (z + 1) (by omega) (by omega) (by omega) (by rw [show (z + 1).toNat = z.toNat + 1 by omega, st_c (hF ▸ c70)]; exact hF) (by rw [show (z + 1).toNat = z.toNat + 1 by omega, st_d hP]; omega)
          · refine j_iload h 2 dX4_strips_73 rfl ?_
            refine j_goto h 80 dX4_strips_75 (by decide) ?_
            refine j_istore h [(4, _), (8, _), (7, _), (6, _), (5, _), (0, _), (1, _), (2, _), (3, _)] dX4_strips_80 (by decide) rfl ?_
            refine j_iload h 1 dX4_strips_82 rfl ?_
            refine j_if_eq h 94 dX4_strips_84 (by decide) (by first | exact okI_of _ | exact okI_b _ | exact okI_sgz _ _ | assumption | (unfold okI; omega)) (fun c84 => ?_) (fun c84 => ?_)
            · refine j_iload h 4 dX4_strips_94 rfl ?_
              refine j_istore h [(5, _), (4, _), (8, _), (7, _), (6, _), (0, _), (1, _), (2, _), (3, _)] dX4_strips_96 (by decide) rfl ?_
              refine j_iinc h 4 [(6, _), (5, _), (4, _), (8, _), (7, _), (0, _), (1, _), (2, _), (3, _)] dX4_strips_98 rfl (by decide) rfl ?_
              refine j_goto h 9 dX4_strips_101 (by decide) ?_
              refine j_sub [0, 2, 1, 5, 6, 7, 8] rfl ?_
              first | exact absurd c64 (by decide) | exact absurd rfl c64 | exact absurd c82 (by decide) | exact absurd rfl c82 | exact absurd c84 (by decide) | exact absurd rfl c84 | exact ih (z + 1) F e (by omega) (by omega) (by omega) (by rw [show (z + 1).toNat = z.toNat + 1 by omega, (st_a hP).1]; exact hF) (by rw [show (z + 1).toNat = z.toNat + 1 by omega, (st_a hP).2]; exact he) | exact ih (z + 1) z (z + 1) (by omega) (by omega) (by omega) (by rw [show (z + 1).toNat = z.toNat + 1 by omega, st_b hP (hF ▸ c70)]; omega) (by rw [show (z + 1).toNat = z.toNat + 1 by omega, st_d hP]; omega) | exact ih (z + 1) F (z + 1) (by omega) (by omega) (by omega) (by rw [show (z + 1).toNat = z.toNat + 1 by omega, st_c (hF ▸ c70)]; exact hF) (by rw [show (z + 1).toNat = z.toNat + 1 by omega, st_d hP]; omega)
            · refine j_iload h 3 dX4_strips_87 rfl ?_
              refine j_iconst h dX4_strips_89 ?_
              refine j_iadd h dX4_strips_90 ?_
              refine j_goto h 96 dX4_strips_91 (by decide) ?_
              refine j_istore h [(5, _), (4, _), (8, _), (7, _), (6, _), (0, _), (1, _), (2, _), (3, _)] dX4_strips_96 (by decide) rfl ?_
              refine j_iinc h 4 [(6, _), (5, _), (4, _), (8, _), (7, _), (0, _), (1, _), (2, _), (3, _)] dX4_strips_98 rfl (by decide) rfl ?_
              refine j_goto h 9 dX4_strips_101 (by decide) ?_
              refine j_sub [0, 2, 1, 5, 6, 7, 8] rfl ?_
              first | exact absurd c64 (by decide) | exact absurd rfl c64 | exact absurd c82 (by decide) | exact absurd rfl c82 | exact absurd c84 (by decide) | exact absurd rfl c84 | exact ih (z + 1) F e (by omega) (by omega) (by omega) (by rw [show (z + 1).toNat = z.toNat + 1 by omega, (st_a hP).1]; exact hF) (by rw [show (z + 1).toNat = z.toNat + 1 by omega, (st_a hP).2]; exact he) | exact ih (z + 1) z (z + 1) (by omega) (by omega) (by omega) (by rw [show (z + 1).toNat = z.toNat + 1 by omega, st_b hP (hF ▸ c70)]; omega) (by rw [show (z + 1).toNat = z.toNat + 1 by omega, st_d hP]; omega) | exact ih (z + 1) F (z + 1) (by omega) (by omega) (by omega) (by rw [show (z + 1).toNat = z.toNat + 1 by omega, st_c (hF ▸ c70)]; exact hF) (by rw [show (z + 1).toNat = z.toNat + 1 by omega, st_d hP]; omega)
    · exact absurd rfl c29
set_option maxHeartbeats 400000 in
set_option maxRecDepth 20000 in
theorem q_strip {E : EV} (hE : EOK E) {A : AS} {g0 : GH} {a : Int} (ha : okI a) {to : Int} (hto : okI to) : Ct E (RMP E g0) yX4_strip wsX4_strip rX4_strip [eA E 76, .int (iI a), .int (iI to)] A (some (.int (iI (layA A to (bare true (A.1 (sw a)))).1))) (layA A to (bare true (A.1 (sw a)))).2 := by
  refine ct_of [(0, _), (1, _), (2, _)] hE (by decide) rfl (Nat.le_of_ble_eq_true rfl) rfl (fun X h hq => ?_)
  refine j_of (fun G hG => RMP_len hG) (fun hLM => ?_)
  refine j_aload_n h 0 dX4_strip_0 rfl rfl ?_
  refine j_iload_n h 1 dX4_strip_1 rfl rfl ?_
  refine j_iconst h dX4_strip_2 ?_
  refine j_iload_n h 2 dX4_strip_3 rfl rfl ?_
  refine j_callV h (q_strips_true hE ha hto) m_X4_strips a_l_X4_131 rfl rfl ⟨Nat.le_of_ble_eq_true rfl, Nat.le_of_ble_eq_true rfl⟩ (ci := 4) rfl (by omega) (rcMP) rfl rfl (Nat.le_of_ble_eq_true rfl) dX4_strip_4 ?_
  exact j_iret h hq rfl dX4_strip_7
