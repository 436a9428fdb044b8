/-! static methods without a world: the JDK's, the class's -/
set_option maxHeartbeats 400000 in
set_option maxRecDepth 20000 in
theorem c_J6_compare_7cf53 {E : EV} (hE : EOK E) {τ : Type} {Rp : τ → GH → Prop} {S : τ} {a b : Int} (ha : okI a) (hb : okI b) : Ct E Rp yJ6_compare_7cf53 wsJ6_compare_7cf53 rJ6_compare_7cf53 [.int (iI a), .int (iI b)] S (some (.int (iI (cmpI a b)))) S := by
  refine ct_of [(0, _), (1, _)] hE (by decide) rfl (Nat.le_of_ble_eq_true rfl) rfl (fun X h hq => ?_)
  have ha2 := ha
  have hb2 := hb
  unfold okI at ha2 hb2
  refine j_iload_n h 0 dJ6_compare_7cf53_0 rfl rfl ?_
  refine j_iload_n h 1 dJ6_compare_7cf53_1 rfl rfl ?_
  refine j_icmp_ge h 9 dJ6_compare_7cf53_2 (by decide) (by first | exact okI_of _ | exact okI_b _ | (unfold okI; omega)) (by first | exact okI_of _ | exact okI_b _ | (unfold okI; omega)) (fun c2 => ?_) (fun c2 => ?_)
  · refine j_iload_n h 0 dJ6_compare_7cf53_9 rfl rfl ?_
    refine j_iload_n h 1 dJ6_compare_7cf53_10 rfl rfl ?_
    refine j_icmp_ne h 18 dJ6_compare_7cf53_11 (by decide) (by first | exact okI_of _ | exact okI_b _ | (unfold okI; omega)) (by first | exact okI_of _ | exact okI_b _ | (unfold okI; omega)) (fun c11 => ?_) (fun c11 => ?_)
    · refine j_iconst h dJ6_compare_7cf53_18 ?_
      exact j_iret h hq (by unfold cmpI; first | rw [if_pos (by omega)] | rw [if_neg (by omega), if_pos (by omega)] | rw [if_neg (by omega), if_neg (by omega)]) dJ6_compare_7cf53_19
    · refine j_iconst h dJ6_compare_7cf53_14 ?_
      refine j_goto h 19 dJ6_compare_7cf53_15 (by decide) ?_
      exact j_iret h hq (by unfold cmpI; first | rw [if_pos (by omega)] | rw [if_neg (by omega), if_pos (by omega)] | rw [if_neg (by omega), if_neg (by omega)]) dJ6_compare_7cf53_19
  · refine j_iconst h dJ6_compare_7cf53_5 ?_
    refine j_goto h 19 dJ6_compare_7cf53_6 (by decide) ?_
    exact j_iret h hq (by unfold cmpI; first | rw [if_pos (by omega)] | rw [if_neg (by omega), if_pos (by omega)] | rw [if_neg (by omega), if_neg (by omega)]) dJ6_compare_7cf53_19
set_option maxHeartbeats 400000 in
set_option maxRecDepth 20000 in
theorem c_X3_isSign {E : EV} (hE : EOK E) {τ : Type} {Rp : τ → GH → Prop} {S : τ} {z : Int} (hz : okI z) : Ct E Rp yX3_isSign wsX3_isSign rX3_isSign [.int (iI z)] S (some (.int (iI (bI (isg z))))) S := by
  refine ct_of [(0, _)] hE (by decide) rfl (Nat.le_of_ble_eq_true rfl) rfl (fun X h hq => ?_)
  have hz2 := hz
  unfold okI at hz2
  refine j_iload_n h 0 dX3_isSign_0 rfl rfl ?_
  refine j_if_lt h 14 dX3_isSign_1 (by decide) (by first | exact okI_of _ | exact okI_b _ | (unfold okI; omega)) (fun c1 => ?_) (fun c1 => ?_)
  · refine j_iconst h dX3_isSign_14 ?_
    exact j_zret h hq (by first | exact bt (decide_eq_true (by omega)) | exact bf (decide_eq_false (by omega))) (by first | exact nzb true | exact nzb false | exact nzb _) dX3_isSign_15
  · refine j_iload_n h 0 dX3_isSign_4 rfl rfl ?_
    refine j_bipush h dX3_isSign_5 (by decide) ?_
    refine j_icmp_gt h 14 dX3_isSign_7 (by decide) (by first | exact okI_of _ | exact okI_b _ | (unfold okI; omega)) (by first | exact okI_of _ | exact okI_b _ | (unfold okI; omega)) (fun c7 => ?_) (fun c7 => ?_)
    · refine j_iconst h dX3_isSign_14 ?_
      exact j_zret h hq (by first | exact bt (decide_eq_true (by omega)) | exact bf (decide_eq_false (by omega))) (by first | exact nzb true | exact nzb false | exact nzb _) dX3_isSign_15
    · refine j_iconst h dX3_isSign_10 ?_
      refine j_goto h 15 dX3_isSign_11 (by decide) ?_
      exact j_zret h hq (by first | exact bt (decide_eq_true (by omega)) | exact bf (decide_eq_false (by omega))) (by first | exact nzb true | exact nzb false | exact nzb _) dX3_isSign_15
set_option maxHeartbeats 400000 in
set_option maxRecDepth 20000 in
theorem c_X3_isBlankSign {E : EV} (hE : EOK E) {τ : Type} {Rp : τ → GH → Prop} {S : τ} {z : Int} (hz : okI z) : Ct E Rp yX3_isBlankSign wsX3_isBlankSign rX3_isBlankSign [.int (iI z)] S (some (.int (iI (bI (ibl z))))) S := by
  refine ct_of [(0, _)] hE (by decide) rfl (Nat.le_of_ble_eq_true rfl) rfl (fun X h hq => ?_)
  have hz2 := hz
  unfold okI at hz2
  refine j_iload_n h 0 dX3_isBlankSign_0 rfl rfl ?_
  refine j_bipush h dX3_isBlankSign_1 (by decide) ?_
  refine j_icmp_lt h 12 dX3_isBlankSign_3 (by decide) (by first | exact okI_of _ | exact okI_b _ | (unfold okI; omega)) (by first | exact okI_of _ | exact okI_b _ | (unfold okI; omega)) (fun c3 => ?_) (fun c3 => ?_)
  · refine j_iload_n h 0 dX3_isBlankSign_12 rfl rfl ?_
    refine j_bipush h dX3_isBlankSign_13 (by decide) ?_
    refine j_icmp_lt h 28 dX3_isBlankSign_15 (by decide) (by first | exact okI_of _ | exact okI_b _ | (unfold okI; omega)) (by first | exact okI_of _ | exact okI_b _ | (unfold okI; omega)) (fun c15 => ?_) (fun c15 => ?_)
    · refine j_iconst h dX3_isBlankSign_28 ?_
      exact j_zret h hq (by first | exact bt (decide_eq_true (by omega)) | exact bf (decide_eq_false (by omega))) (by first | exact nzb true | exact nzb false | exact nzb _) dX3_isBlankSign_29
    · refine j_iload_n h 0 dX3_isBlankSign_18 rfl rfl ?_
      refine j_bipush h dX3_isBlankSign_19 (by decide) ?_
      refine j_icmp_gt h 28 dX3_isBlankSign_21 (by decide) (by first | exact okI_of _ | exact okI_b _ | (unfold okI; omega)) (by first | exact okI_of _ | exact okI_b _ | (unfold okI; omega)) (fun c21 => ?_) (fun c21 => ?_)
      · refine j_iconst h dX3_isBlankSign_28 ?_
        exact j_zret h hq (by first | exact bt (decide_eq_true (by omega)) | exact bf (decide_eq_false (by omega))) (by first | exact nzb true | exact nzb false | exact nzb _) dX3_isBlankSign_29
      · refine j_iconst h dX3_isBlankSign_24 ?_
        refine j_goto h 29 dX3_isBlankSign_25 (by decide) ?_
        exact j_zret h hq (by first | exact bt (decide_eq_true (by omega)) | exact bf (decide_eq_false (by omega))) (by first | exact nzb true | exact nzb false | exact nzb _) dX3_isBlankSign_29
  · refine j_iload_n h 0 dX3_isBlankSign_6 rfl rfl ?_
    refine j_bipush h dX3_isBlankSign_7 (by decide) ?_
    refine j_icmp_le h 24 dX3_isBlankSign_9 (by decide) (by first | exact okI_of _ | exact okI_b _ | (unfold okI; omega)) (by first | exact okI_of _ | exact okI_b _ | (unfold okI; omega)) (fun c9 => ?_) (fun c9 => ?_)
    · refine j_iconst h dX3_isBlankSign_24 ?_
      refine j_goto h 29 dX3_isBlankSign_25 (by decide) ?_
      exact j_zret h hq (by first | exact bt (decide_eq_true (by omega)) | exact bf (decide_eq_false (by omega))) (by first | exact nzb true | exact nzb false | exact nzb _) dX3_isBlankSign_29
    · refine j_iload_n h 0 dX3_isBlankSign_12 rfl rfl ?_
      refine j_bipush h dX3_isBlankSign_13 (by decide) ?_
      refine j_icmp_lt h 28 dX3_isBlankSign_15 (by decide) (by first | exact okI_of _ | exact okI_b _ | (unfold okI; omega)) (by first | exact okI_of _ | exact okI_b _ | (unfold okI; omega)) (fun c15 => ?_) (fun c15 => ?_)
      · refine j_iconst h dX3_isBlankSign_28 ?_
        exact j_zret h hq (by first | exact bt (decide_eq_true (by omega)) | exact bf (decide_eq_false (by omega))) (by first | exact nzb true | exact nzb false | exact nzb _) dX3_isBlankSign_29
      · refine j_iload_n h 0 dX3_isBlankSign_18 rfl rfl ?_
        refine j_bipush h dX3_isBlankSign_19 (by decide) ?_
        refine j_icmp_gt h 28 dX3_isBlankSign_21 (by decide) (by first | exact okI_of _ | exact okI_b _ | (unfold okI; omega)) (by first | exact okI_of _ | exact okI_b _ | (unfold okI; omega)) (fun c21 => ?_) (fun c21 => ?_)
        · refine j_iconst h dX3_isBlankSign_28 ?_
          exact j_zret h hq (by first | exact bt (decide_eq_true (by omega)) | exact bf (decide_eq_false (by omega))) (by first | exact nzb true | exact nzb false | exact nzb _) dX3_isBlankSign_29
        · refine j_iconst h dX3_isBlankSign_24 ?_
          refine j_goto h 29 dX3_isBlankSign_25 (by decide) ?_
          exact j_zret h hq (by first | exact bt (decide_eq_true (by omega)) | exact bf (decide_eq_false (by omega))) (by first | exact nzb true | exact nzb false | exact nzb _) dX3_isBlankSign_29
set_option maxHeartbeats 400000 in
set_option maxRecDepth 20000 in
theorem c_X3_isLoose {E : EV} (hE : EOK E) {τ : Type} {Rp : τ → GH → Prop} {S : τ} {z : Int} (hz : okI z) (b : Bool) : Ct E Rp yX3_isLoose wsX3_isLoose rX3_isLoose [.int (iI z), .int (iI (bI b))] S (some (.int (iI (bI (lsb b z))))) S := by
  refine ct_of [(0, _), (1, _)] hE (by decide) rfl (Nat.le_of_ble_eq_true rfl) rfl (fun X h hq => ?_)
  have hz2 := hz
  unfold okI at hz2
  refine j_iload_n h 1 dX3_isLoose_0 rfl rfl ?_
  refine j_if_eq h 11 dX3_isLoose_1 (by decide) (by first | exact okI_of _ | exact okI_b _ | (unfold okI; omega)) (fun c1 => ?_) (fun c1 => ?_)
  · rw [bI_0] at c1
    refine j_iload_n h 0 dX3_isLoose_11 rfl rfl ?_
    refine j_bipush h dX3_isLoose_12 (by decide) ?_
    refine j_icmp_gt h 21 dX3_isLoose_14 (by decide) (by first | exact okI_of _ | exact okI_b _ | (unfold okI; omega)) (by first | exact okI_of _ | exact okI_b _ | (unfold okI; omega)) (fun c14 => ?_) (fun c14 => ?_)
    · refine j_iconst h dX3_isLoose_21 ?_
      exact j_zret h hq (by subst c1; first | rfl | exact bt (decide_eq_true (by omega)) | exact bf (decide_eq_false (by omega))) (by first | exact nzb true | exact nzb false | exact nzb _) dX3_isLoose_22
    · refine j_iconst h dX3_isLoose_17 ?_
      refine j_goto h 22 dX3_isLoose_18 (by decide) ?_
      exact j_zret h hq (by subst c1; first | rfl | exact bt (decide_eq_true (by omega)) | exact bf (decide_eq_false (by omega))) (by first | exact nzb true | exact nzb false | exact nzb _) dX3_isLoose_22
  · rw [bI_n0] at c1
    refine j_iload_n h 0 dX3_isLoose_4 rfl rfl ?_
    refine j_callS h (c_X3_isBlankSign hE hz) m_X3_isBlankSign a_l_X3_273 rfl rfl ⟨Nat.le_of_ble_eq_true rfl, Nat.le_of_ble_eq_true rfl⟩ rfl rfl (Nat.le_of_ble_eq_true rfl) dX3_isLoose_5 ?_
    refine j_goto h 22 dX3_isLoose_8 (by decide) ?_
    exact j_zret h hq (by subst c1; first | rfl | exact bt (decide_eq_true (by omega)) | exact bf (decide_eq_false (by omega))) (by first | exact nzb true | exact nzb false | exact nzb _) dX3_isLoose_22
set_option maxHeartbeats 400000 in
set_option maxRecDepth 20000 in
theorem c_X3_byteOf {E : EV} (hE : EOK E) {τ : Type} {Rp : τ → GH → Prop} {S : τ} {L : Int64} {k : Int} : Ct E Rp yX3_byteOf wsX3_byteOf rX3_byteOf [.long L, .int (iI k)] S (some (.int (by1 L k))) S := by
  refine ct_of [(0, _), (2, _)] hE (by decide) rfl (Nat.le_of_ble_eq_true rfl) rfl (fun X h hq => ?_)
  refine j_lload_n h 0 dX3_byteOf_0 rfl rfl ?_
  refine j_bipush h dX3_byteOf_1 (by decide) ?_
  refine j_iload_n h 1 dX3_byteOf_3 rfl rfl ?_
  refine j_imul h dX3_byteOf_4 ?_
  refine j_lushr h _ dX3_byteOf_5 rfl ?_
  refine j_l2i h _ dX3_byteOf_6 rfl ?_
  refine j_sipush h dX3_byteOf_7 (by decide) ?_
  refine j_iand h _ dX3_byteOf_10 rfl ?_
  exact j_iret h hq rfl dX3_byteOf_11
set_option maxHeartbeats 400000 in
set_option maxRecDepth 20000 in
theorem c_X3_asTold {E : EV} (hE : EOK E) {τ : Type} {Rp : τ → GH → Prop} {S : τ} {z : Int} (hz : okI z) (cs : Bool) : Ct E Rp yX3_asTold wsX3_asTold rX3_asTold [.int (iI z), .int (iI (bI cs))] S (some (.int (iI (tlz cs z)))) S := by
  refine ct_of [(0, _), (1, _)] hE (by decide) rfl (Nat.le_of_ble_eq_true rfl) rfl (fun X h hq => ?_)
  have hz2 := hz
  unfold okI at hz2
  refine j_iload_n h 0 dX3_asTold_0 rfl rfl ?_
  refine j_bipush h dX3_asTold_1 (by decide) ?_
  refine j_icmp_lt h 16 dX3_asTold_3 (by decide) (by first | exact okI_of _ | exact okI_b _ | (unfold okI; omega)) (by first | exact okI_of _ | exact okI_b _ | (unfold okI; omega)) (fun c3 => ?_) (fun c3 => ?_)
  · refine j_iconst h dX3_asTold_16 ?_
    refine j_istore_n h [(2, _), (0, _), (1, _)] dX3_asTold_17 rfl (by decide) rfl ?_
    refine j_iload_n h 0 dX3_asTold_18 rfl rfl ?_
    refine j_if_eq h 36 dX3_asTold_19 (by decide) (by first | exact okI_of _ | exact okI_b _ | (unfold okI; omega)) (fun c19 => ?_) (fun c19 => ?_)
    · refine j_iload_n h 1 dX3_asTold_36 rfl rfl ?_
      exact j_iret h hq (by unfold tlz; first | rw [if_pos ⟨by assumption, by omega, by omega⟩]; congr 3; omega | rw [if_neg (fun q => by first | omega | (rw [c23] at q; simp at q))]) dX3_asTold_37
    · refine j_iload_n h 2 dX3_asTold_22 rfl rfl ?_
      refine j_if_ne h 36 dX3_asTold_23 (by decide) (by first | exact okI_of _ | exact okI_b _ | (unfold okI; omega)) (fun c23 => ?_) (fun c23 => ?_)
      · rw [bI_n0] at c23
        refine j_iload_n h 1 dX3_asTold_36 rfl rfl ?_
        exact j_iret h hq (by unfold tlz; first | rw [if_pos ⟨by assumption, by omega, by omega⟩]; congr 3; omega | rw [if_neg (fun q => by first | omega | (rw [c23] at q; simp at q))]) dX3_asTold_37
      · rw [bI_0] at c23
        refine j_iload_n h 1 dX3_asTold_26 rfl rfl ?_
        refine j_bipush h dX3_asTold_27 (by decide) ?_
        refine j_isub h dX3_asTold_29 ?_
        refine j_bipush h dX3_asTold_30 (by decide) ?_
        refine j_iadd h dX3_asTold_32 ?_
        refine j_goto h 37 dX3_asTold_33 (by decide) ?_
        exact j_iret h hq (by unfold tlz; first | rw [if_pos ⟨by assumption, by omega, by omega⟩]; congr 3; omega | rw [if_neg (fun q => by first | omega | (rw [c23] at q; simp at q))]) dX3_asTold_37
  · refine j_iload_n h 0 dX3_asTold_6 rfl rfl ?_
    refine j_bipush h dX3_asTold_7 (by decide) ?_
    refine j_icmp_gt h 16 dX3_asTold_9 (by decide) (by first | exact okI_of _ | exact okI_b _ | (unfold okI; omega)) (by first | exact okI_of _ | exact okI_b _ | (unfold okI; omega)) (fun c9 => ?_) (fun c9 => ?_)
    · refine j_iconst h dX3_asTold_16 ?_
      refine j_istore_n h [(2, _), (0, _), (1, _)] dX3_asTold_17 rfl (by decide) rfl ?_
      refine j_iload_n h 0 dX3_asTold_18 rfl rfl ?_
      refine j_if_eq h 36 dX3_asTold_19 (by decide) (by first | exact okI_of _ | exact okI_b _ | (unfold okI; omega)) (fun c19 => ?_) (fun c19 => ?_)
      · refine j_iload_n h 1 dX3_asTold_36 rfl rfl ?_
        exact j_iret h hq (by unfold tlz; first | rw [if_pos ⟨by assumption, by omega, by omega⟩]; congr 3; omega | rw [if_neg (fun q => by first | omega | (rw [c23] at q; simp at q))]) dX3_asTold_37
      · refine j_iload_n h 2 dX3_asTold_22 rfl rfl ?_
        refine j_if_ne h 36 dX3_asTold_23 (by decide) (by first | exact okI_of _ | exact okI_b _ | (unfold okI; omega)) (fun c23 => ?_) (fun c23 => ?_)
        · rw [bI_n0] at c23
          refine j_iload_n h 1 dX3_asTold_36 rfl rfl ?_
          exact j_iret h hq (by unfold tlz; first | rw [if_pos ⟨by assumption, by omega, by omega⟩]; congr 3; omega | rw [if_neg (fun q => by first | omega | (rw [c23] at q; simp at q))]) dX3_asTold_37
        · rw [bI_0] at c23
          refine j_iload_n h 1 dX3_asTold_26 rfl rfl ?_
          refine j_bipush h dX3_asTold_27 (by decide) ?_
          refine j_isub h dX3_asTold_29 ?_
          refine j_bipush h dX3_asTold_30 (by decide) ?_
          refine j_iadd h dX3_asTold_32 ?_
          refine j_goto h 37 dX3_asTold_33 (by decide) ?_
          exact j_iret h hq (by unfold tlz; first | rw [if_pos ⟨by assumption, by omega, by omega⟩]; congr 3; omega | rw [if_neg (fun q => by first | omega | (rw [c23] at q; simp at q))]) dX3_asTold_37
    · refine j_iconst h dX3_asTold_12 ?_
      refine j_goto h 17 dX3_asTold_13 (by decide) ?_
      refine j_istore_n h [(2, _), (0, _), (1, _)] dX3_asTold_17 rfl (by decide) rfl ?_
      refine j_iload_n h 0 dX3_asTold_18 rfl rfl ?_
      refine j_if_eq h 36 dX3_asTold_19 (by decide) (by first | exact okI_of _ | exact okI_b _ | (unfold okI; omega)) (fun c19 => ?_) (fun c19 => ?_)
      · refine j_iload_n h 1 dX3_asTold_36 rfl rfl ?_
        exact j_iret h hq (by unfold tlz; first | rw [if_pos ⟨by assumption, by omega, by omega⟩]; congr 3; omega | rw [if_neg (fun q => by first | omega | (rw [c23] at q; simp at q))]) dX3_asTold_37
      · refine j_iload_n h 2 dX3_asTold_22 rfl rfl ?_
        refine j_if_ne h 36 dX3_asTold_23 (by decide) (by first | exact okI_of _ | exact okI_b _ | (unfold okI; omega)) (fun c23 => ?_) (fun c23 => ?_)
        · rw [bI_n0] at c23
          refine j_iload_n h 1 dX3_asTold_36 rfl rfl ?_
          exact j_iret h hq (by unfold tlz; first | rw [if_pos ⟨by assumption, by omega, by omega⟩]; congr 3; omega | rw [if_neg (fun q => by first | omega | (rw [c23] at q; simp at q))]) dX3_asTold_37
        · rw [bI_0] at c23
          refine j_iload_n h 1 dX3_asTold_26 rfl rfl ?_
          refine j_bipush h dX3_asTold_27 (by decide) ?_
          refine j_isub h dX3_asTold_29 ?_
          refine j_bipush h dX3_asTold_30 (by decide) ?_
          refine j_iadd h dX3_asTold_32 ?_
          refine j_goto h 37 dX3_asTold_33 (by decide) ?_
          exact j_iret h hq (by unfold tlz; first | rw [if_pos ⟨by assumption, by omega, by omega⟩]; congr 3; omega | rw [if_neg (fun q => by first | omega | (rw [c23] at q; simp at q))]) dX3_asTold_37
set_option maxHeartbeats 400000 in
set_option maxRecDepth 20000 in
theorem c_X3_areSigns {E : EV} (hE : EOK E) {τ : Type} {Rp : τ → GH → Prop} {S : τ} {L : Int64} {n : Int} (h0 : 0 ≤ n) (hn : n ≤ 100) : Ct E Rp yX3_areSigns wsX3_areSigns rX3_areSigns [.long L, .int (iI n)] S (some (.int (iI (bI (arS L 0 n.toNat))))) S := by
  refine ct_of [(0, _), (2, _)] hE (by decide) rfl (Nat.le_of_ble_eq_true rfl) rfl (fun X h hq => ?_)
  refine j_iconst h dX3_areSigns_0 ?_
  refine j_istore_n h [(3, _), (0, _), (2, _)] dX3_areSigns_1 rfl (by decide) rfl ?_
  refine lpA1 (fun i : Int => (n - i).toNat) (fun i : Int => 0 ≤ i → i ≤ n → arS L 0 n.toNat = arS L i (n - i).toNat → JL E Rp X 2 [(3, .int (iI i)), (0, .long L), (2, .int (iI n))] [] S) (fun i ih hi0 hin hv => ?_) 0 (Int.le_refl _) h0 (by rw [Int.sub_zero])
  refine j_iload_n h 0 dX3_areSigns_2 rfl rfl ?_
  refine j_iload_n h 2 dX3_areSigns_3 rfl rfl ?_
  refine j_icmp_ge h 26 dX3_areSigns_4 (by decide) (by first | exact okI_of _ | exact okI_b _ | (unfold okI; omega)) (by first | exact okI_of _ | exact okI_b _ | (unfold okI; omega)) (fun c4 => ?_) (fun c4 => ?_)
  · refine j_iconst h dX3_areSigns_26 ?_
    exact j_zret h hq (by rw [hv]; first | exact bt (by rw [show (n - i).toNat = 0 by omega]; rfl) | exact bf (by rw [show (n - i).toNat = (n - (i + 1)).toNat + 1 by omega, arS, c15, Bool.false_and])) (by first | exact nzb true | exact nzb false | exact nzb _) dX3_areSigns_27
  · refine j_lload_n h 1 dX3_areSigns_7 rfl rfl ?_
    refine j_iload_n h 0 dX3_areSigns_8 rfl rfl ?_
    refine j_callS h (c_X3_byteOf hE) m_X3_byteOf a_l_X3_63 rfl rfl ⟨Nat.le_of_ble_eq_true rfl, Nat.le_of_ble_eq_true rfl⟩ rfl rfl (Nat.le_of_ble_eq_true rfl) dX3_areSigns_9 ?_
    refine j_top (iI_of _).symm ?_
    refine j_callS h (c_X3_isSign hE (okI_of _)) m_X3_isSign a_l_X3_50 rfl rfl ⟨Nat.le_of_ble_eq_true rfl, Nat.le_of_ble_eq_true rfl⟩ rfl rfl (Nat.le_of_ble_eq_true rfl) dX3_areSigns_12 ?_
    refine j_if_ne h 20 dX3_areSigns_15 (by decide) (by first | exact okI_of _ | exact okI_b _ | (unfold okI; omega)) (fun c15 => ?_) (fun c15 => ?_)
    · rw [bI_n0] at c15
      refine j_iinc h 0 [(3, _), (0, _), (2, _)] dX3_areSigns_20 rfl (by decide) rfl ?_
      refine j_goto h 2 dX3_areSigns_23 (by decide) ?_
      exact ih (i + 1) (by omega) (by omega) (by omega) (by rw [hv, show (n - i).toNat = (n - (i + 1)).toNat + 1 by omega, arS, c15, Bool.true_and])
    · rw [bI_0] at c15
      refine j_iconst h dX3_areSigns_18 ?_
      exact j_zret h hq (by rw [hv]; first | exact bt (by rw [show (n - i).toNat = 0 by omega]; rfl) | exact bf (by rw [show (n - i).toNat = (n - (i + 1)).toNat + 1 by omega, arS, c15, Bool.false_and])) (by first | exact nzb true | exact nzb false | exact nzb _) dX3_areSigns_19
