/-! Text: size, at, clear, add -/
/-- fields read, the text told -/
theorem jx_Tsize {E : EV} {X : TX} {cc : ByteArray} {own : String} {ret : Option FieldType} {rm : Room} {nL : Nat} {g0 : GH} {pc index : Nat} {lv : List (Nat × Value)} {rest : List Value} {S : SC} (h : CX E X cc own ret rm nL) {t : Nat} {xs : List Int32} (hx : S.1 t = xs) (hw : Cond.fieldLink own index "TextShelves$Text" "size" "I" ∈ AW) (ht : t < 30) (hd : decode cc pc = .ok (.getfield index, 3)) (K : JL E (RC E g0) X (pc + 3) lv (.int (iI xs.length) :: rest) S) : JL E (RC E g0) X pc lv (eA E t :: rest) S := by
  subst hx
  exact jg_Tsize h hw ht hd K
set_option maxHeartbeats 400000 in
set_option maxRecDepth 20000 in
theorem c_X2_size {E : EV} (hE : EOK E) {S : SC} {g0 : GH} {t : Nat} (ht : t < 30) {xs : List Int32} (hx : S.1 t = xs) : Ct E (RC E g0) yX2_size wsX2_size rX2_size [eA E t] S (some (.int (iI xs.length))) S := by
  refine ct_of [(0, _)] hE (by decide) rfl (Nat.le_of_ble_eq_true rfl) rfl (fun X h hq => ?_)
  refine j_aload_n h 0 dX2_size_0 rfl rfl ?_
  refine jx_Tsize h hx a_f_X2_21 (by omega) dX2_size_1 ?_
  exact j_iret h hq rfl dX2_size_4
set_option maxHeartbeats 400000 in
set_option maxRecDepth 20000 in
theorem c_X2_at {E : EV} (hE : EOK E) {S : SC} {g0 : GH} {t : Nat} (ht : t < 30) {xs : List Int32} (hx : S.1 t = xs) {z : Int} (h0 : 0 ≤ z) (h1 : z < xs.length) : Ct E (RC E g0) yX2_at wsX2_at rX2_at [eA E t, .int (iI z)] S (some (.int (gz xs z.toNat))) S := by
  refine ct_of [(0, _), (1, _)] hE (by decide) rfl (Nat.le_of_ble_eq_true rfl) rfl (fun X h hq => ?_)
  subst hx
  refine j_of (fun G hG => RC_len hG ht) (fun hl => ?_)
  have hc := cap_le t
  refine j_iload_n h 1 dX2_at_0 rfl rfl ?_
  refine j_if_lt h 12 dX2_at_1 (by decide) (by first | exact okI_of _ | exact okI_b _ | (unfold okI; omega)) (fun c1 => ?_) (fun c1 => ?_)
  · exact absurd c1 (by omega)
  · refine j_iload_n h 1 dX2_at_4 rfl rfl ?_
    refine j_aload_n h 0 dX2_at_5 rfl rfl ?_
    refine jg_Tsize h a_f_X2_21 (by omega) dX2_at_6 ?_
    refine j_icmp_lt h 14 dX2_at_9 (by decide) (by first | exact okI_of _ | exact okI_b _ | (unfold okI; omega)) (by first | exact okI_of _ | exact okI_b _ | (unfold okI; omega)) (fun c9 => ?_) (fun c9 => ?_)
    · refine j_aload_n h 0 dX2_at_14 rfl rfl ?_
      refine jg_Tsigns h a_f_X2_15 (by omega) dX2_at_15 ?_
      refine j_iload_n h 1 dX2_at_18 rfl rfl ?_
      refine j_iald h _ (by omega) ⟨by omega, by omega⟩ (fun G hG => by obtain ⟨_, _, f, e1, e2⟩ := hG.1 t ht; exact ⟨cap t, f, e1, by omega, e2 _ (by omega)⟩) dX2_at_19 ?_
      exact j_iret h hq rfl dX2_at_20
    · exact absurd c9 (by omega)
/-- a text's size is set lower, or higher over known cells -/
theorem tOK_size {E : EV} {G : GH} {t : Nat} {xs ys : List Int32} {f : Nat → Int32} {fs : List Value} (hf : G (30 + t) = .inl (eI E, cap t, .inl f)) (hl : ys.length ≤ cap t) (hv : ∀ j, j < ys.length → f j = ys.getD j 0) (ht : t < 30) : tOK E (va_up G t (.inr (2, [eA E (30 + t), .int (iI ys.length)]))) t ys := by
  refine ⟨va_up_self _ _ _, hl, f, ?_, hv⟩
  rw [va_up_ne _ _ (by omega)]
  exact hf
set_option maxHeartbeats 400000 in
set_option maxRecDepth 20000 in
theorem c_X2_clear {E : EV} (hE : EOK E) {S : SC} {g0 : GH} {t : Nat} (ht : t < 30) : Ct E (RC E g0) yX2_clear wsX2_clear rX2_clear [eA E t] S none (setT S t []) := by
  refine ct_of [(0, _)] hE (by decide) rfl (Nat.le_of_ble_eq_true rfl) rfl (fun X h hq => ?_)
  refine j_aload_n h 0 dX2_clear_0 rfl rfl ?_
  refine j_iconst h dX2_clear_1 ?_
  refine j_put h (T := TX2) (S' := setT S t []) 1 inX2 tyX2 tyX2_ok nmX2 (ci := 2) rfl (by decide) a_f_X2_21 rfl rfl rfl rfl rfl (by omega) (fun G hG => by obtain ⟨a, b, f, e1, e2⟩ := hG.1 t ht; exact ⟨a, RC_setT ht hG (tOK_size (ys := []) (fs := []) (xs := []) e1 (Nat.zero_le _) (fun j hj => absurd hj (Nat.not_lt_zero _)) ht) (fun i h1 h2 => va_up_ne _ _ h1)⟩) (Nat.le_of_ble_eq_true rfl) dX2_clear_2 ?_
  exact j_vret h hq rfl dX2_clear_5
set_option maxHeartbeats 400000 in
set_option maxRecDepth 20000 in
theorem c_X2_add {E : EV} (hE : EOK E) {S : SC} {g0 : GH} {t : Nat} (ht : t < 30) {xs : List Int32} (hx : S.1 t = xs) {x : Int32} (h1 : xs.length < cap t) : Ct E (RC E g0) yX2_add wsX2_add rX2_add [eA E t, .int x] S none (setT S t (xs ++ [x])) := by
  refine ct_of [(0, _), (1, _)] hE (by decide) rfl (Nat.le_of_ble_eq_true rfl) rfl (fun X h hq => ?_)
  subst hx
  have hc := cap_le t
  refine j_aload_n h 0 dX2_add_0 rfl rfl ?_
  refine jg_Tsize h a_f_X2_21 (by omega) dX2_add_1 ?_
  refine j_aload_n h 0 dX2_add_4 rfl rfl ?_
  refine jg_Tsigns h a_f_X2_15 (by omega) dX2_add_5 ?_
  refine j_alen h (cap t) (by omega) (fun G hG => by obtain ⟨_, _, f, e1, _⟩ := hG.1 t ht; exact ⟨f, e1⟩) dX2_add_8 ?_
  refine j_icmp_ge h 32 dX2_add_9 (by decide) (by first | exact okI_of _ | exact okI_b _ | (unfold okI; omega)) (by first | exact okI_of _ | exact okI_b _ | (unfold okI; omega)) (fun c9 => ?_) (fun c9 => ?_)
  · exact absurd c9 (by omega)
  · refine j_aload_n h 0 dX2_add_12 rfl rfl ?_
    refine jg_Tsigns h a_f_X2_15 (by omega) dX2_add_13 ?_
    refine j_aload_n h 0 dX2_add_16 rfl rfl ?_
    refine jg_Tsize h a_f_X2_21 (by omega) dX2_add_17 ?_
    refine j_iload_n h 1 dX2_add_20 rfl rfl ?_
    refine j_eq (fun G0 hG0 => ?_)
    obtain ⟨a0, b0, f0, e0, v0⟩ := hG0.1 t ht
    refine j_iast h (S' := va_up G0 (30 + t) (.inl (eI E, cap t, .inl (upd f0 (S.1 t).length x)))) (by omega) ⟨by omega, by omega⟩ (fun G hG => by subst hG; exact ⟨cap t, f0, e0, by omega, by rw [Int.toNat_natCast]⟩) dX2_add_21 ?_
    refine j_aload_n h 0 dX2_add_22 rfl rfl ?_
    refine j_dup h dX2_add_23 rfl ?_
    refine j_get h (T := TX2) 1 inX2 (ci := 2) rfl (by decide) a_f_X2_21 rfl (by omega) (fun G hG => by rw [← hG, va_up_ne _ _ (by omega)]; exact a0) rfl dX2_add_24 ?_
    refine j_iconst h dX2_add_27 ?_
    refine j_iadd h dX2_add_28 ?_
    refine j_put h (T := TX2) (S' := va_up (va_up G0 (30 + t) (.inl (eI E, cap t, .inl (upd f0 (S.1 t).length x)))) t (.inr (2, [eA E (30 + t), .int (iI (((S.1 t).length : Int) + 1))]))) 1 inX2 tyX2 tyX2_ok nmX2 (ci := 2) rfl (by decide) a_f_X2_21 rfl rfl rfl rfl rfl (by omega) (fun G hG => by subst hG; exact ⟨by rw [va_up_ne _ _ (by omega)]; exact a0, rfl⟩) (Nat.le_of_ble_eq_true rfl) dX2_add_29 ?_
    refine j_re (Rp2 := RC E g0) (S2 := setT S t (S.1 t ++ [x])) (fun G hG => ?_) ?_
    · subst hG
      have hz : (((S.1 t).length : Int) + 1) = ((S.1 t ++ [x]).length : Int) := by simp
      rw [hz]
      refine RC_setT ht hG0 (tOK_size (xs := S.1 t) (fs := []) (va_up_self _ _ _) (by simp; omega) (fun j hj => ?_) ht) (fun i h1 h2 => by rw [va_up_ne _ _ h1, va_up_ne _ _ h2])
      by_cases q : j = (S.1 t).length
      · subst q; simp [upd, List.getD]
      · have q2 : j < (S.1 t).length := by simp at hj; omega
        rw [show upd f0 (S.1 t).length x j = f0 j from if_neg q, v0 j q2]
        simp [List.getD, List.getElem?_append_left q2]
    exact j_vret h hq rfl dX2_add_32
