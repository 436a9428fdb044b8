/-! Text: what is asked of it -/
theorem c_asTold_raw {E : EV} (hE : EOK E) {τ : Type} {Rp : τ → GH → Prop} {S : τ} (x : Int32) (cs : Bool) : Ct E Rp yX3_asTold wsX3_asTold rX3_asTold [.int x, .int (iI (bI cs))] S (some (.int (tl cs x))) S := by
  have := c_X3_asTold hE (Rp := Rp) (S := S) (okI_of x) cs
  rwa [iI_of] at this
theorem c_isLoose_raw {E : EV} (hE : EOK E) {τ : Type} {Rp : τ → GH → Prop} {S : τ} (x : Int32) (b : Bool) : Ct E Rp yX3_isLoose wsX3_isLoose rX3_isLoose [.int x, .int (iI (bI b))] S (some (.int (iI (bI (lsb b x.toInt))))) S := by
  have := c_X3_isLoose hE (Rp := Rp) (S := S) (okI_of x) b
  rwa [iI_of] at this
def sgz (a b : Int) : Int := if b < a then 1 else if a = b then 0 else -1
theorem okI_sgz (a b : Int) : okI (sgz a b) := by unfold sgz okI; split <;> (try split) <;> omega
theorem sgz_gt {a b : Int} : 0 < sgz a b ↔ b < a := by unfold sgz; split <;> (try split) <;> omega
theorem sgz_le {a b : Int} : sgz a b ≤ 0 ↔ a ≤ b := by unfold sgz; split <;> (try split) <;> omega
theorem lI_inj {a b : Int} (ha : okL a) (hb : okL b) : lI a = lI b ↔ a = b := ⟨fun h => by rw [← lI_toInt ha, ← lI_toInt hb, h], fun h => by rw [h]⟩
theorem lg_cmp_lI {a b : Int} (ha : okL a) (hb : okL b) : lg_cmp (lI a) (lI b) = iI (sgz a b) := by
  unfold lg_cmp sgz
  have h1 : (lI a > lI b) ↔ b < a := by
    show lI b < lI a ↔ _
    rw [Int64.lt_iff_toInt_lt, lI_toInt ha, lI_toInt hb]
  by_cases q : b < a
  · rw [if_pos (h1.mpr q), if_pos q]; rfl
  · rw [if_neg (fun z => q (h1.mp z)), if_neg q]
    by_cases w : a = b
    · rw [if_pos ((lI_inj ha hb).mpr w), if_pos w]; rfl
    · rw [if_neg (fun z => w ((lI_inj ha hb).mp z)), if_neg w]; rfl
theorem lg_cmp_0 {x y : Int64} : lg_cmp x y = 0 ↔ x = y := by
  unfold lg_cmp
  by_cases q : x > y
  · rw [if_pos q]
    refine ⟨fun h => absurd h (by decide), fun h => ?_⟩
    subst h
    exact absurd q (by rw [gt_iff_lt, Int64.lt_iff_toInt_lt]; omega)
  · rw [if_neg q]
    by_cases w : x = y
    · rw [if_pos w]; exact ⟨fun _ => w, fun _ => rfl⟩
    · rw [if_neg w]; exact ⟨fun h => absurd h (by decide), fun h => absurd h w⟩
theorem iI_sub0 {a b : Int} : iI (a - b) = 0 ↔ iI a = iI b := by
  rw [← iI_sub]
  refine ⟨fun h => ?_, fun h => by rw [h, Int32.sub_self]⟩
  have := congrArg (· + iI b) h
  simpa [Int32.sub_add_cancel, Int32.zero_add] using this
theorem lo_step {P : Nat → Bool} {z : Int} {n : Nat} (h0 : 0 ≤ z) (h1 : z < n) : lo P z.toNat (n - z.toNat) = if P z.toNat then z else lo P (z + 1).toNat (n - (z + 1).toNat) := by
  rw [show n - z.toNat = n - (z + 1).toNat + 1 by omega, lo, show z.toNat + 1 = (z + 1).toNat by omega, show ((z.toNat : Nat) : Int) = z by omega]
theorem lo_end {P : Nat → Bool} {z : Int} {n : Nat} (h1 : (n : Int) ≤ z) : lo P z.toNat (n - z.toNat) = -1 := by
  rw [show n - z.toNat = 0 by omega]; rfl
theorem hi_step {P : Nat → Bool} {z : Int} (h0 : 0 ≤ z) : hi P (z + 1).toNat = if P z.toNat then z else hi P (z + -1 + 1).toNat := by
  rw [show (z + 1).toNat = z.toNat + 1 by omega, hi, show (z + -1 + 1).toNat = z.toNat by omega, show ((z.toNat : Nat) : Int) = z by omega]
theorem hi_end {P : Nat → Bool} {z : Int} (h0 : z < 0) : hi P (z + 1).toNat = -1 := by
  rw [show (z + 1).toNat = 0 by omega]; rfl
set_option maxHeartbeats 400000 in
set_option maxRecDepth 20000 in
theorem c_X2_signFrom {E : EV} (hE : EOK E) {S : SC} {g0 : GH} {t : Nat} (ht : t < 30) {xs : List Int32} (hx : S.1 t = xs) {x : Int32} {f : Int} (hf : okI f) : Ct E (RC E g0) yX2_signFrom wsX2_signFrom rX2_signFrom [eA E t, .int x, .int (iI f)] S (some (.int (iI (sgF xs x f)))) S := by
  refine ct_of [(0, _), (1, _), (2, _)] hE (by decide) rfl (Nat.le_of_ble_eq_true rfl) rfl (fun X h hq => ?_)
  refine j_of (fun G hG => RC_len hG ht) (fun hl => ?_)
  rw [hx] at hl
  have hc := cap_le t
  have hmx : ∀ a b : Int, (a ≤ mxI a b ∧ b ≤ mxI a b ∧ (mxI a b = a ∨ mxI a b = b)) := fun a b => by unfold mxI; split <;> omega
  have hmn : ∀ a b : Int, (mnI a b ≤ a ∧ mnI a b ≤ b ∧ (mnI a b = a ∨ mnI a b = b)) := fun a b => by unfold mnI; split <;> omega
  have hf2 := hf
  unfold okI at hf2
  refine j_iconst h dX2_signFrom_0 ?_
  refine j_iload_n h 2 dX2_signFrom_1 rfl rfl ?_
  refine j_max h (by first | exact okI_of _ | exact okI_b _ | exact okI_sgz _ _ | assumption | (unfold okI; omega)) (by first | exact okI_of _ | exact okI_b _ | exact okI_sgz _ _ | assumption | (unfold okI; omega)) a_l_X2_9 ⟨Nat.le_of_ble_eq_true rfl, Nat.le_of_ble_eq_true rfl⟩ (Nat.le_of_ble_eq_true rfl) dX2_signFrom_2 ?_
  refine j_istore_n h [(3, _), (0, _), (1, _), (2, _)] dX2_signFrom_5 rfl (by decide) rfl ?_
  refine j_sub [0, 1, 2] rfl ?_
  have hm := hmx 0 f
  refine lpA1 (fun z : Int => (xs.length - z).toNat) (fun z : Int => 0 ≤ z → z < 2147483648 → lo (fun k => decide (gz xs k = x)) z.toNat (xs.length - z.toNat) = sgF xs x f → JL E (RC E g0) X 6 [(3, .int (iI z)), (0, eA E t), (1, .int x)] [] S) (fun z ih h0 hb hv => ?_) _ (by omega) (by omega) rfl
  refine j_iload_n h 0 dX2_signFrom_6 rfl rfl ?_
  refine j_aload_n h 1 dX2_signFrom_7 rfl rfl ?_
  refine jx_Tsize h hx a_f_X2_21 (by omega) dX2_signFrom_8 ?_
  refine j_icmp_ge h 31 dX2_signFrom_11 (by decide) (by first | exact okI_of _ | exact okI_b _ | exact okI_sgz _ _ | assumption | (unfold okI; omega)) (by first | exact okI_of _ | exact okI_b _ | exact okI_sgz _ _ | assumption | (unfold okI; omega)) (fun c11 => ?_) (fun c11 => ?_)
  · refine j_iconst h dX2_signFrom_31 ?_
    exact j_iret h hq (by rw [← hv, lo_end (by omega)]) dX2_signFrom_32
  · refine j_aload_n h 1 dX2_signFrom_14 rfl rfl ?_
    refine j_iload_n h 0 dX2_signFrom_15 rfl rfl ?_
    refine j_callV h (c_X2_at hE ht hx h0 (by omega)) m_X2_at a_l_X2_25 rfl rfl ⟨Nat.le_of_ble_eq_true rfl, Nat.le_of_ble_eq_true rfl⟩ (ci := 2) rfl (by omega) (rcT (by omega)) rfl rfl (Nat.le_of_ble_eq_true rfl) dX2_signFrom_16 ?_
    refine j_iload_n h 2 dX2_signFrom_19 rfl rfl ?_
    refine j_rcmp_ne h 25 dX2_signFrom_20 (by decide) (fun c20 => ?_) (fun c20 => ?_)
    · refine j_iinc h 0 [(3, _), (0, _), (1, _)] dX2_signFrom_25 rfl (by decide) rfl ?_
      refine j_goto h 6 dX2_signFrom_28 (by decide) ?_
      exact ih (z + 1) (by omega) (by omega) (by omega) (by rw [lo_step h0 (by omega), if_neg (by simpa using c20)] at hv; exact hv)
    · refine j_iload_n h 0 dX2_signFrom_23 rfl rfl ?_
      exact j_iret h hq (by rw [← hv, lo_step h0 (by omega), if_pos (by simpa using c20)]) dX2_signFrom_24
set_option maxHeartbeats 400000 in
set_option maxRecDepth 20000 in
theorem c_X2_signBack {E : EV} (hE : EOK E) {S : SC} {g0 : GH} {t : Nat} (ht : t < 30) {xs : List Int32} (hx : S.1 t = xs) {x : Int32} {f : Int} (hf : okI f) : Ct E (RC E g0) yX2_signBack wsX2_signBack rX2_signBack [eA E t, .int x, .int (iI f)] S (some (.int (iI (sgB xs x f)))) S := by
  refine ct_of [(0, _), (1, _), (2, _)] hE (by decide) rfl (Nat.le_of_ble_eq_true rfl) rfl (fun X h hq => ?_)
  refine j_of (fun G hG => RC_len hG ht) (fun hl => ?_)
  rw [hx] at hl
  have hc := cap_le t
  have hmx : ∀ a b : Int, (a ≤ mxI a b ∧ b ≤ mxI a b ∧ (mxI a b = a ∨ mxI a b = b)) := fun a b => by unfold mxI; split <;> omega
  have hmn : ∀ a b : Int, (mnI a b ≤ a ∧ mnI a b ≤ b ∧ (mnI a b = a ∨ mnI a b = b)) := fun a b => by unfold mnI; split <;> omega
  have hf2 := hf
  unfold okI at hf2
  refine j_iload_n h 2 dX2_signBack_0 rfl rfl ?_
  refine j_aload_n h 0 dX2_signBack_1 rfl rfl ?_
  refine jx_Tsize h hx a_f_X2_21 (by omega) dX2_signBack_2 ?_
  refine j_iconst h dX2_signBack_5 ?_
  refine j_isub h dX2_signBack_6 ?_
  refine j_min h (by first | exact okI_of _ | exact okI_b _ | exact okI_sgz _ _ | assumption | (unfold okI; omega)) (by first | exact okI_of _ | exact okI_b _ | exact okI_sgz _ _ | assumption | (unfold okI; omega)) a_l_X2_54 ⟨Nat.le_of_ble_eq_true rfl, Nat.le_of_ble_eq_true rfl⟩ (Nat.le_of_ble_eq_true rfl) dX2_signBack_7 ?_
  refine j_istore_n h [(3, _), (0, _), (1, _), (2, _)] dX2_signBack_10 rfl (by decide) rfl ?_
  refine j_sub [0, 1, 2] rfl ?_
  have hm := hmn f (xs.length - 1)
  refine lpA1 (fun z : Int => (z + 1).toNat) (fun z : Int => z < xs.length → -2147483648 ≤ z → hi (fun k => decide (gz xs k = x)) (z + 1).toNat = sgB xs x f → JL E (RC E g0) X 11 [(3, .int (iI z)), (0, eA E t), (1, .int x)] [] S) (fun z ih h0 hb hv => ?_) _ (by omega) (by omega) rfl
  refine j_iload_n h 0 dX2_signBack_11 rfl rfl ?_
  refine j_if_lt h 32 dX2_signBack_12 (by decide) (by first | exact okI_of _ | exact okI_b _ | exact okI_sgz _ _ | assumption | (unfold okI; omega)) (fun c12 => ?_) (fun c12 => ?_)
  · refine j_iconst h dX2_signBack_32 ?_
    exact j_iret h hq (by rw [← hv, hi_end (by omega)]) dX2_signBack_33
  · refine j_aload_n h 1 dX2_signBack_15 rfl rfl ?_
    refine j_iload_n h 0 dX2_signBack_16 rfl rfl ?_
    refine j_callV h (c_X2_at hE ht hx (by omega) (by omega)) m_X2_at a_l_X2_25 rfl rfl ⟨Nat.le_of_ble_eq_true rfl, Nat.le_of_ble_eq_true rfl⟩ (ci := 2) rfl (by omega) (rcT (by omega)) rfl rfl (Nat.le_of_ble_eq_true rfl) dX2_signBack_17 ?_
    refine j_iload_n h 2 dX2_signBack_20 rfl rfl ?_
    refine j_rcmp_ne h 26 dX2_signBack_21 (by decide) (fun c21 => ?_) (fun c21 => ?_)
    · refine j_iinc h 0 [(3, _), (0, _), (1, _)] dX2_signBack_26 rfl (by decide) rfl ?_
      refine j_goto h 11 dX2_signBack_29 (by decide) ?_
      exact ih (z + -1) (by omega) (by omega) (by omega) (by rw [hi_step (by omega), if_neg (by simpa using c21)] at hv; exact hv)
    · refine j_iload_n h 0 dX2_signBack_24 rfl rfl ?_
      exact j_iret h hq (by rw [← hv, hi_step (by omega), if_pos (by simpa using c21)]) dX2_signBack_25
set_option maxHeartbeats 400000 in
set_option maxRecDepth 20000 in
theorem c_X2_agrees {E : EV} (hE : EOK E) {S : SC} {g0 : GH} {t : Nat} (ht : t < 30) {xs : List Int32} (hx : S.1 t = xs) {u : Nat} (hu : u < 30) {ys : List Int32} (hy : S.1 u = ys) {p q n : Int} (hp : okI p) (hq0 : okI q) (hn : okI n) (cs : Bool) : Ct E (RC E g0) yX2_agrees wsX2_agrees rX2_agrees [eA E t, .int (iI p), eA E u, .int (iI q), .int (iI n), .int (iI (bI cs))] S (some (.int (iI (bI (agr cs xs ys p q n))))) S := by
  refine ct_of [(0, _), (1, _), (2, _), (3, _), (4, _), (5, _)] hE (by decide) rfl (Nat.le_of_ble_eq_true rfl) rfl (fun X h hq => ?_)
  refine j_of (fun G hG => RC_len hG ht) (fun hl => ?_)
  rw [hx] at hl
  have hc := cap_le t
  refine j_of (fun G hG => RC_len hG hu) (fun hlu => ?_)
  rw [hy] at hlu
  have hcu := cap_le u
  have hp2 := hp
  have hq2 := hq0
  have hn2 := hn
  unfold okI at hp2 hq2 hn2
  refine j_iload_n h 1 dX2_agrees_0 rfl rfl ?_
  refine j_if_lt h 8 dX2_agrees_1 (by decide) (by first | exact okI_of _ | exact okI_b _ | exact okI_sgz _ _ | assumption | (unfold okI; omega)) (fun c1 => ?_) (fun c1 => ?_)
  · refine j_iconst h dX2_agrees_8 ?_
    exact j_zret h hq (bf (by unfold agr; rw [decide_eq_false (by omega)]; rfl)) (by first | exact nzb true | exact nzb false | exact nzb _) dX2_agrees_9
  · refine j_iload_n h 3 dX2_agrees_4 rfl rfl ?_
    refine j_if_ge h 10 dX2_agrees_5 (by decide) (by first | exact okI_of _ | exact okI_b _ | exact okI_sgz _ _ | assumption | (unfold okI; omega)) (fun c5 => ?_) (fun c5 => ?_)
    · refine j_iload_n h 1 dX2_agrees_10 rfl rfl ?_
      refine j_i2l h (lI p) dX2_agrees_11 (iI_i2l hp) ?_
      refine j_iload h 4 dX2_agrees_12 rfl ?_
      refine j_i2l h (lI n) dX2_agrees_14 (iI_i2l hn) ?_
      refine j_ladd h dX2_agrees_15 ?_
      refine j_aload_n h 0 dX2_agrees_16 rfl rfl ?_
      refine jx_Tsize h hx a_f_X2_21 (by omega) dX2_agrees_17 ?_
      refine j_i2l h (lI xs.length) dX2_agrees_20 (iI_i2l (by unfold okI; omega)) ?_
      refine j_lcmp h (iI (sgz (p + n) xs.length)) dX2_agrees_21 (lg_cmp_lI (by unfold okL; omega) (by unfold okL; omega)) ?_
      refine j_if_gt h 40 dX2_agrees_22 (by decide) (by first | exact okI_of _ | exact okI_b _ | exact okI_sgz _ _ | assumption | (unfold okI; omega)) (fun c22 => ?_) (fun c22 => ?_)
      · rw [sgz_gt] at c22
        refine j_iconst h dX2_agrees_40 ?_
        exact j_zret h hq (bf (by unfold agr; rw [decide_eq_false (by omega)]; rfl)) (by first | exact nzb true | exact nzb false | exact nzb _) dX2_agrees_41
      · rw [sgz_le] at c22
        refine j_iload_n h 3 dX2_agrees_25 rfl rfl ?_
        refine j_i2l h (lI q) dX2_agrees_26 (iI_i2l hq0) ?_
        refine j_iload h 4 dX2_agrees_27 rfl ?_
        refine j_i2l h (lI n) dX2_agrees_29 (iI_i2l hn) ?_
        refine j_ladd h dX2_agrees_30 ?_
        refine j_aload_n h 2 dX2_agrees_31 rfl rfl ?_
        refine jx_Tsize h hy a_f_X2_21 (by omega) dX2_agrees_32 ?_
        refine j_i2l h (lI ys.length) dX2_agrees_35 (iI_i2l (by unfold okI; omega)) ?_
        refine j_lcmp h (iI (sgz (q + n) ys.length)) dX2_agrees_36 (lg_cmp_lI (by unfold okL; omega) (by unfold okL; omega)) ?_
        refine j_if_le h 42 dX2_agrees_37 (by decide) (by first | exact okI_of _ | exact okI_b _ | exact okI_sgz _ _ | assumption | (unfold okI; omega)) (fun c37 => ?_) (fun c37 => ?_)
        · rw [sgz_le] at c37
          refine j_iconst h dX2_agrees_42 ?_
          refine j_istore h [(6, _), (0, _), (1, _), (2, _), (3, _), (4, _), (5, _)] dX2_agrees_43 (by decide) rfl ?_
          refine j_sub [0, 1, 2, 3, 4, 5, 6] rfl ?_
          refine lpA1 (fun z : Int => (n - z).toNat) (fun z : Int => 0 ≤ z → (z = 0 ∨ z ≤ n) → agr cs xs ys p q n = eqs cs xs ys (p + z).toNat (q + z).toNat (n - z).toNat → JL E (RC E g0) X 45 [(6, .int (iI z)), (0, eA E t), (1, .int (iI p)), (2, eA E u), (3, .int (iI q)), (4, .int (iI n)), (5, .int (iI (bI cs)))] [] S) (fun z ih h0 hb hv => ?_) 0 (Int.le_refl 0) (Or.inl rfl) (by unfold agr; rw [decide_eq_true (by omega), Bool.true_and]; simp)
          refine j_iload h 0 dX2_agrees_45 rfl ?_
          refine j_iload h 5 dX2_agrees_47 rfl ?_
          refine j_icmp_ge h 93 dX2_agrees_49 (by decide) (by first | exact okI_of _ | exact okI_b _ | exact okI_sgz _ _ | assumption | (unfold okI; omega)) (by first | exact okI_of _ | exact okI_b _ | exact okI_sgz _ _ | assumption | (unfold okI; omega)) (fun c49 => ?_) (fun c49 => ?_)
          · refine j_iconst h dX2_agrees_93 ?_
            exact j_zret h hq (bt (by rw [hv, show (n - z).toNat = 0 by omega]; rfl)) (by first | exact nzb true | exact nzb false | exact nzb _) dX2_agrees_94
          · refine j_aload_n h 1 dX2_agrees_52 rfl rfl ?_
            refine j_iload_n h 2 dX2_agrees_53 rfl rfl ?_
            refine j_iload h 0 dX2_agrees_54 rfl ?_
            refine j_iadd h dX2_agrees_56 ?_
            refine j_callV h (c_X2_at hE ht hx (by omega) (by omega)) m_X2_at a_l_X2_25 rfl rfl ⟨Nat.le_of_ble_eq_true rfl, Nat.le_of_ble_eq_true rfl⟩ (ci := 2) rfl (by omega) (rcT (by omega)) rfl rfl (Nat.le_of_ble_eq_true rfl) dX2_agrees_57 ?_
            refine j_iload h 6 dX2_agrees_60 rfl ?_
            refine j_callN (host := "TextShelves") h (c_asTold_raw hE _ cs) m_X3_asTold (by decide) rfl rfl ⟨Nat.le_of_ble_eq_true rfl, Nat.le_of_ble_eq_true rfl⟩ rfl rfl (Nat.le_of_ble_eq_true rfl) dX2_agrees_62 ?_
            refine j_istore h [(7, _), (6, _), (0, _), (1, _), (2, _), (3, _), (4, _), (5, _)] dX2_agrees_65 (by decide) rfl ?_
            refine j_iload h 0 dX2_agrees_67 rfl ?_
            refine j_aload_n h 4 dX2_agrees_69 rfl rfl ?_
            refine j_iload_n h 5 dX2_agrees_70 rfl rfl ?_
            refine j_iload h 1 dX2_agrees_71 rfl ?_
            refine j_iadd h dX2_agrees_73 ?_
            refine j_callV h (c_X2_at hE hu hy (by omega) (by omega)) m_X2_at a_l_X2_25 rfl rfl ⟨Nat.le_of_ble_eq_true rfl, Nat.le_of_ble_eq_true rfl⟩ (ci := 2) rfl (by omega) (rcT (by omega)) rfl rfl (Nat.le_of_ble_eq_true rfl) dX2_agrees_74 ?_
            refine j_iload h 7 dX2_agrees_77 rfl ?_
            refine j_callN (host := "TextShelves") h (c_asTold_raw hE _ cs) m_X3_asTold (by decide) rfl rfl ⟨Nat.le_of_ble_eq_true rfl, Nat.le_of_ble_eq_true rfl⟩ rfl rfl (Nat.le_of_ble_eq_true rfl) dX2_agrees_79 ?_
            refine j_rcmp_eq h 87 dX2_agrees_82 (by decide) (fun c82 => ?_) (fun c82 => ?_)
            · refine j_iinc h 1 [(6, _), (7, _), (0, _), (1, _), (2, _), (3, _), (4, _), (5, _)] dX2_agrees_87 rfl (by decide) rfl ?_
              refine j_goto h 45 dX2_agrees_90 (by decide) ?_
              refine j_sub [0, 2, 3, 4, 5, 6, 7] rfl ?_
              exact ih (z + 1) (by omega) (by omega) (by omega) (by rw [hv, show (n - z).toNat = (n - (z + 1)).toNat + 1 by omega, eqs, decide_eq_true c82, Bool.true_and, show (p + z).toNat + 1 = (p + (z + 1)).toNat by omega, show (q + z).toNat + 1 = (q + (z + 1)).toNat by omega])
            · refine j_iconst h dX2_agrees_85 ?_
              exact j_zret h hq (bf (by rw [hv, show (n - z).toNat = (n - (z + 1)).toNat + 1 by omega, eqs, decide_eq_false c82]; rfl)) (by first | exact nzb true | exact nzb false | exact nzb _) dX2_agrees_86
        · have c37b : ¬ sgz (q + n) ys.length ≤ 0 := by omega
          rw [sgz_le] at c37b
          refine j_iconst h dX2_agrees_40 ?_
          exact j_zret h hq (bf (by unfold agr; rw [decide_eq_false (by omega)]; rfl)) (by first | exact nzb true | exact nzb false | exact nzb _) dX2_agrees_41
    · refine j_iconst h dX2_agrees_8 ?_
      exact j_zret h hq (bf (by unfold agr; rw [decide_eq_false (by omega)]; rfl)) (by first | exact nzb true | exact nzb false | exact nzb _) dX2_agrees_9
set_option maxHeartbeats 400000 in
set_option maxRecDepth 20000 in
theorem c_X2_bears {E : EV} (hE : EOK E) {S : SC} {g0 : GH} {t : Nat} (ht : t < 30) {xs : List Int32} (hx : S.1 t = xs) {u : Nat} (hu : u < 30) {ys : List Int32} (hy : S.1 u = ys) {z : Int} (hz : okI z) : Ct E (RC E g0) yX2_bears wsX2_bears rX2_bears [eA E t, eA E u, .int (iI z)] S (some (.int (iI (bI (bz xs ys z))))) S := by
  refine ct_of [(0, _), (1, _), (2, _)] hE (by decide) rfl (Nat.le_of_ble_eq_true rfl) rfl (fun X h hq => ?_)
  refine j_of (fun G hG => RC_len hG ht) (fun hl => ?_)
  rw [hx] at hl
  have hc := cap_le t
  refine j_of (fun G hG => RC_len hG hu) (fun hlu => ?_)
  rw [hy] at hlu
  have hcu := cap_le u
  refine j_aload_n h 0 dX2_bears_0 rfl rfl ?_
  refine j_iload_n h 2 dX2_bears_1 rfl rfl ?_
  refine j_aload_n h 1 dX2_bears_2 rfl rfl ?_
  refine j_iconst h dX2_bears_3 ?_
  refine j_aload_n h 1 dX2_bears_4 rfl rfl ?_
  refine jx_Tsize h hy a_f_X2_21 (by omega) dX2_bears_5 ?_
  refine j_iconst h dX2_bears_8 ?_
  refine j_callV h (c_X2_agrees hE ht hx hu hy hz ⟨by decide, by decide⟩ (by unfold okI; omega) true) m_X2_agrees a_l_X2_57 rfl rfl ⟨Nat.le_of_ble_eq_true rfl, Nat.le_of_ble_eq_true rfl⟩ (ci := 2) rfl (by omega) (rcT (by omega)) rfl rfl (Nat.le_of_ble_eq_true rfl) dX2_bears_9 ?_
  exact j_zret h hq rfl (by first | exact nzb true | exact nzb false | exact nzb _) dX2_bears_12
set_option maxHeartbeats 400000 in
set_option maxRecDepth 20000 in
theorem c_X2_agreesWholly {E : EV} (hE : EOK E) {S : SC} {g0 : GH} {t : Nat} (ht : t < 30) {xs : List Int32} (hx : S.1 t = xs) {u : Nat} (hu : u < 30) {ys : List Int32} (hy : S.1 u = ys) (cs : Bool) : Ct E (RC E g0) yX2_agreesWholly wsX2_agreesWholly rX2_agreesWholly [eA E t, eA E u, .int (iI (bI cs))] S (some (.int (iI (bI (who cs xs ys))))) S := by
  refine ct_of [(0, _), (1, _), (2, _)] hE (by decide) rfl (Nat.le_of_ble_eq_true rfl) rfl (fun X h hq => ?_)
  refine j_of (fun G hG => RC_len hG ht) (fun hl => ?_)
  rw [hx] at hl
  have hc := cap_le t
  refine j_of (fun G hG => RC_len hG hu) (fun hlu => ?_)
  rw [hy] at hlu
  have hcu := cap_le u
  refine j_aload_n h 0 dX2_agreesWholly_0 rfl rfl ?_
  refine jx_Tsize h hx a_f_X2_21 (by omega) dX2_agreesWholly_1 ?_
  refine j_aload_n h 1 dX2_agreesWholly_4 rfl rfl ?_
  refine jx_Tsize h hy a_f_X2_21 (by omega) dX2_agreesWholly_5 ?_
  refine j_icmp_ne h 30 dX2_agreesWholly_8 (by decide) (by first | exact okI_of _ | exact okI_b _ | exact okI_sgz _ _ | assumption | (unfold okI; omega)) (by first | exact okI_of _ | exact okI_b _ | exact okI_sgz _ _ | assumption | (unfold okI; omega)) (fun c8 => ?_) (fun c8 => ?_)
  · refine j_iconst h dX2_agreesWholly_30 ?_
    exact j_zret h hq (by first | exact bt (by unfold who; rw [decide_eq_true (by omega), c23]; rfl) | exact bf (by unfold who; rw [c23, Bool.and_false]) | exact bf (by unfold who; rw [decide_eq_false (by omega)]; rfl)) (by first | exact nzb true | exact nzb false | exact nzb _) dX2_agreesWholly_31
  · refine j_aload_n h 0 dX2_agreesWholly_11 rfl rfl ?_
    refine j_iconst h dX2_agreesWholly_12 ?_
    refine j_aload_n h 1 dX2_agreesWholly_13 rfl rfl ?_
    refine j_iconst h dX2_agreesWholly_14 ?_
    refine j_aload_n h 0 dX2_agreesWholly_15 rfl rfl ?_
    refine jx_Tsize h hx a_f_X2_21 (by omega) dX2_agreesWholly_16 ?_
    refine j_iload_n h 2 dX2_agreesWholly_19 rfl rfl ?_
    refine j_callV h (c_X2_agrees hE ht hx hu hy ⟨by decide, by decide⟩ ⟨by decide, by decide⟩ (by unfold okI; omega) cs) m_X2_agrees a_l_X2_57 rfl rfl ⟨Nat.le_of_ble_eq_true rfl, Nat.le_of_ble_eq_true rfl⟩ (ci := 2) rfl (by omega) (rcT (by omega)) rfl rfl (Nat.le_of_ble_eq_true rfl) dX2_agreesWholly_20 ?_
    refine j_if_eq h 30 dX2_agreesWholly_23 (by decide) (by first | exact okI_of _ | exact okI_b _ | exact okI_sgz _ _ | assumption | (unfold okI; omega)) (fun c23 => ?_) (fun c23 => ?_)
    · rw [bI_0] at c23
      refine j_iconst h dX2_agreesWholly_30 ?_
      exact j_zret h hq (by first | exact bt (by unfold who; rw [decide_eq_true (by omega), c23]; rfl) | exact bf (by unfold who; rw [c23, Bool.and_false]) | exact bf (by unfold who; rw [decide_eq_false (by omega)]; rfl)) (by first | exact nzb true | exact nzb false | exact nzb _) dX2_agreesWholly_31
    · rw [bI_n0] at c23
      refine j_iconst h dX2_agreesWholly_26 ?_
      refine j_goto h 31 dX2_agreesWholly_27 (by decide) ?_
      exact j_zret h hq (by first | exact bt (by unfold who; rw [decide_eq_true (by omega), c23]; rfl) | exact bf (by unfold who; rw [c23, Bool.and_false]) | exact bf (by unfold who; rw [decide_eq_false (by omega)]; rfl)) (by first | exact nzb true | exact nzb false | exact nzb _) dX2_agreesWholly_31
