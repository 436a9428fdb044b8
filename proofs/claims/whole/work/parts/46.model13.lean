/-! the reference: places -/
def fstI (P : Int → Bool) (s z F : Int) : Prop := (F = -1 ∧ ∀ k, s ≤ k → k < z → P k = false) ∨ (s ≤ F ∧ F < z ∧ P F = true ∧ ∀ k, s ≤ k → k < F → P k = false)
def lstI (P : Int → Bool) (f z G : Int) : Prop := (G = -1 ∧ ∀ k, 0 ≤ k → k < z → k ≤ f → P k = false) ∨ (0 ≤ G ∧ G < z ∧ G ≤ f ∧ P G = true ∧ ∀ k, G < k → k < z → k ≤ f → P k = false)
theorem fst_n {P : Int → Bool} {s z F : Int} (h : P z = false ∨ z < s ∨ ¬ F = -1) (hF : fstI P s z F) : fstI P s (z + 1) F := by
  rcases hF with ⟨a, b⟩ | ⟨a, b, c, d⟩
  · refine Or.inl ⟨a, fun k k1 k2 => ?_⟩
    by_cases e : k = z
    · rcases h with h | h | h
      · rw [e]; exact h
      · omega
      · exact absurd a h
    · exact b k k1 (by omega)
  · exact Or.inr ⟨a, by omega, c, d⟩
theorem fst_b {P : Int → Bool} {s z F : Int} (h : P z = true) (hs : s ≤ z) (e : F = -1) (hz : 0 ≤ s) (hF : fstI P s z F) : fstI P s (z + 1) z := by
  rcases hF with ⟨a, b⟩ | ⟨a, b, c, d⟩
  · exact Or.inr ⟨hs, by omega, h, b⟩
  · omega
theorem lst_n {P : Int → Bool} {f z G : Int} (h : P z = false ∨ f < z) (hG : lstI P f z G) : lstI P f (z + 1) G := by
  have hh : z ≤ f → P z = false := fun w => h.elim id (fun v => by omega)
  rcases hG with ⟨a, b⟩ | ⟨a, b, c, d, e⟩
  · refine Or.inl ⟨a, fun k k1 k2 k3 => ?_⟩
    by_cases w : k = z
    · rw [w]; exact hh (by omega)
    · exact b k k1 (by omega) k3
  · refine Or.inr ⟨a, by omega, c, d, fun k k1 k2 k3 => ?_⟩
    by_cases w : k = z
    · rw [w]; exact hh (by omega)
    · exact e k k1 (by omega) k3
theorem lst_b {P : Int → Bool} {f z : Int} (h : P z = true) (h0 : 0 ≤ z) (hf : z ≤ f) : lstI P f (z + 1) z := Or.inr ⟨h0, by omega, hf, h, fun k k1 k2 _ => by omega⟩
theorem fst_end {xs ys : List Int32} {f z F : Int} (hz : z = (xs.length : Int) + 1) (h : fstI (bz xs ys) (mxI 0 (mnI f xs.length)) z F) : plF xs ys f = F := by
  have hm : 0 ≤ mxI 0 (mnI f xs.length) := by unfold mxI; split <;> omega
  rcases plF_spec xs ys f with ⟨p1, p2⟩ | ⟨p1, p2, p3, p4⟩ <;> rcases h with ⟨a, b⟩ | ⟨a, b, c, d⟩
  · rw [p1, a]
  · have := p2 F a (by omega); rw [this] at c; cases c
  · have := b _ p1 (by omega); rw [this] at p3; cases p3
  · by_cases w : plF xs ys f < F
    · have := d _ p1 w; rw [this] at p3; cases p3
    · by_cases v : F < plF xs ys f
      · have := p4 F a v; rw [this] at c; cases c
      · omega
theorem lst_end {xs ys : List Int32} {f z G : Int} (hz : z = (xs.length : Int) + 1) (h : lstI (bz xs ys) f z G) : plB xs ys f = G := by
  have hm : mnI f xs.length ≤ f ∧ mnI f xs.length ≤ xs.length ∧ (mnI f xs.length = f ∨ mnI f xs.length = xs.length) := by unfold mnI; split <;> omega
  rcases plB_spec xs ys f with ⟨p1, p2⟩ | ⟨p1, p2, p3, p4⟩ <;> rcases h with ⟨a, b⟩ | ⟨a, b, c, d, e⟩
  · rw [p1, a]
  · have := p2 G a (by omega); rw [this] at d; cases d
  · have := b _ p1 (by omega) (by omega); rw [this] at p3; cases p3
  · by_cases w : plB xs ys f < G
    · have := p4 G w (by omega); rw [this] at d; cases d
    · by_cases v : G < plB xs ys f
      · have := e _ v (by omega) (by omega); rw [this] at p3; cases p3
      · omega
set_option maxHeartbeats 400000 in
set_option maxRecDepth 20000 in
theorem c_X4_arePlacesSo {E : EV} (hE : EOK E) {A : AS} {mk : List Int32} {g0 : GH} {a : Int} (ha : okI a) {b : Int} (hb : okI b) {f : Int} (hf : okI f) : Ct E (RM E g0) yX4_arePlacesSo wsX4_arePlacesSo rX4_arePlacesSo [eA E 76, .int (iI a), .int (iI b), .int (iI f)] (A, mk) (some (.int (iI (bI true)))) (A, mk) := by
  refine ct_of [(0, _), (1, _), (2, _), (3, _)] hE (by decide) rfl (Nat.le_of_ble_eq_true rfl) rfl (fun X h hq => ?_)
  refine j_of (fun G hG => RM_len hG) (fun hLM => ?_)
  have hla := hLM.1 (sw a) (sw_lt a)
  have hwa := sw_lt a
  have hfma : 0 ≤ fmo a 8 ∧ fmo a 8 < 8 := by unfold fmo; omega
  have hswa : (fmo a 8).toNat = sw a := rfl
  have hlb := hLM.1 (sw b) (sw_lt b)
  have hwb := sw_lt b
  have hfmb : 0 ≤ fmo b 8 ∧ fmo b 8 < 8 := by unfold fmo; omega
  have hswb : (fmo b 8).toNat = sw b := rfl
  dsimp only at *
  have hf2 := hf
  unfold okI at hf2
  have hmx : ∀ a b : Int, (a ≤ mxI a b ∧ b ≤ mxI a b ∧ (mxI a b = a ∨ mxI a b = b)) := fun a b => by unfold mxI; split <;> omega
  have hmn : ∀ a b : Int, (mnI a b ≤ a ∧ mnI a b ≤ b ∧ (mnI a b = a ∨ mnI a b = b)) := fun a b => by unfold mnI; split <;> omega
  have hm := hmn f (A.1 (sw a)).length
  have hm2 := hmx 0 (mnI f (A.1 (sw a)).length)
  have hpl := plF_range (A.1 (sw a)) (A.1 (sw b)) f
  have hpb := plB_range (A.1 (sw a)) (A.1 (sw b)) f
  refine j_aload_n h 0 dX4_arePlacesSo_0 rfl rfl ?_
  refine j_iload_n h 1 dX4_arePlacesSo_1 rfl rfl ?_
  refine j_callV h (c_X4_sizeOf hE ha) m_X4_sizeOf a_l_X4_67 rfl rfl ⟨Nat.le_of_ble_eq_true rfl, Nat.le_of_ble_eq_true rfl⟩ (ci := 4) rfl (by omega) (rcM) rfl rfl (Nat.le_of_ble_eq_true rfl) dX4_arePlacesSo_2 ?_
  refine j_istore h [(4, _), (0, _), (1, _), (2, _), (3, _)] dX4_arePlacesSo_5 (by decide) rfl ?_
  refine j_iload_n h 4 dX4_arePlacesSo_7 rfl rfl ?_
  refine j_if_ge h 15 dX4_arePlacesSo_8 (by decide) (by first | exact okI_of _ | exact okI_b _ | exact okI_sgz _ _ | assumption | (unfold okI; omega)) (fun c8 => ?_) (fun c8 => ?_)
  · refine j_iload_n h 4 dX4_arePlacesSo_15 rfl rfl ?_
    refine j_iload h 0 dX4_arePlacesSo_16 rfl ?_
    refine j_icmp_le h 26 dX4_arePlacesSo_18 (by decide) (by first | exact okI_of _ | exact okI_b _ | exact okI_sgz _ _ | assumption | (unfold okI; omega)) (by first | exact okI_of _ | exact okI_b _ | exact okI_sgz _ _ | assumption | (unfold okI; omega)) (fun c18 => ?_) (fun c18 => ?_)
    · have es : (mxI 0 (mnI f (A.1 (sw a)).length)) = f := by omega
      refine j_iload_n h 4 dX4_arePlacesSo_26 rfl rfl ?_
      refine j_istore h [(5, _), (4, _), (0, _), (1, _), (2, _), (3, _)] dX4_arePlacesSo_27 (by decide) rfl ?_
      refine j_iconst h dX4_arePlacesSo_29 ?_
      refine j_istore h [(6, _), (5, _), (4, _), (0, _), (1, _), (2, _), (3, _)] dX4_arePlacesSo_30 (by decide) rfl ?_
      refine j_iconst h dX4_arePlacesSo_32 ?_
      refine j_istore h [(7, _), (6, _), (5, _), (4, _), (0, _), (1, _), (2, _), (3, _)] dX4_arePlacesSo_33 (by decide) rfl ?_
      refine j_iconst h dX4_arePlacesSo_35 ?_
      refine j_istore h [(8, _), (7, _), (6, _), (5, _), (4, _), (0, _), (1, _), (2, _), (3, _)] dX4_arePlacesSo_36 (by decide) rfl ?_
      refine j_sub [0, 2, 1, 3, 4, 5, 6, 7, 8] rfl ?_
      refine j_lv (lv2 := [(8, .int (iI 0)), (6, .int (iI (-1))), (7, .int (iI (-1))), (5, .int (iI (mxI 0 (mnI f (A.1 (sw a)).length)))), (4, .int (iI (A.1 (sw a)).length)), (0, eA E 76), (1, .int (iI a)), (2, .int (iI b)), (3, .int (iI f))]) (by rw [es]; rfl) ?_
      refine lpA3 (fun (z F G : Int) => ((A.1 (sw a)).length + 1 - z).toNat) (fun (z F G : Int) => 0 ≤ z → z ≤ (A.1 (sw a)).length + 1 → fstI (bz (A.1 (sw a)) (A.1 (sw b))) (mxI 0 (mnI f (A.1 (sw a)).length)) z F → lstI (bz (A.1 (sw a)) (A.1 (sw b))) f z G → JL E (RM E g0) X 38 [(8, .int (iI z)), (6, .int (iI F)), (7, .int (iI G)), (5, .int (iI (mxI 0 (mnI f (A.1 (sw a)).length)))), (4, .int (iI (A.1 (sw a)).length)), (0, eA E 76), (1, .int (iI a)), (2, .int (iI b)), (3, .int (iI f))] [] (A, mk)) (fun z F G ih h0 hzb hF hG => ?_) 0 (-1) (-1) (Int.le_refl 0) (by omega) (Or.inl ⟨rfl, fun k k1 k2 => by omega⟩) (Or.inl ⟨rfl, fun k k1 k2 _ => by omega⟩)
      have hFb : -1 ≤ F ∧ F < 400 := by rcases hF with ⟨w, _⟩ | ⟨w, v, _⟩ <;> omega
      have hGb : -1 ≤ G ∧ G < 400 := by rcases hG with ⟨w, _⟩ | ⟨w, v, _⟩ <;> omega
      refine j_iload h 0 dX4_arePlacesSo_38 rfl ?_
      refine j_iload h 4 dX4_arePlacesSo_40 rfl ?_
      refine j_icmp_gt h 108 dX4_arePlacesSo_42 (by decide) (by first | exact okI_of _ | exact okI_b _ | exact okI_sgz _ _ | assumption | (unfold okI; omega)) (by first | exact okI_of _ | exact okI_b _ | exact okI_sgz _ _ | assumption | (unfold okI; omega)) (fun c42 => ?_) (fun c42 => ?_)
      · refine j_aload_n h 5 dX4_arePlacesSo_108 rfl rfl ?_
        refine j_iload_n h 6 dX4_arePlacesSo_109 rfl rfl ?_
        refine j_iload_n h 7 dX4_arePlacesSo_110 rfl rfl ?_
        refine j_iload_n h 8 dX4_arePlacesSo_111 rfl rfl ?_
        refine j_callV h (c_X4_findFrom hE ha hb hf) m_X4_findFrom a_l_X4_108 rfl rfl ⟨Nat.le_of_ble_eq_true rfl, Nat.le_of_ble_eq_true rfl⟩ (ci := 4) rfl (by omega) (rcM) rfl rfl (Nat.le_of_ble_eq_true rfl) dX4_arePlacesSo_112 ?_
        have e1 := fst_end (by omega) hF
        refine j_iload h 1 dX4_arePlacesSo_115 rfl ?_
        refine j_icmp_ne h 136 dX4_arePlacesSo_117 (by decide) (by first | exact okI_of _ | exact okI_b _ | exact okI_sgz _ _ | assumption | (unfold okI; omega)) (by first | exact okI_of _ | exact okI_b _ | exact okI_sgz _ _ | assumption | (unfold okI; omega)) (fun c117 => ?_) (fun c117 => ?_)
        · exact absurd e1 c117
        · refine j_aload_n h 5 dX4_arePlacesSo_120 rfl rfl ?_
          refine j_iload_n h 6 dX4_arePlacesSo_121 rfl rfl ?_
          refine j_iload_n h 7 dX4_arePlacesSo_122 rfl rfl ?_
          refine j_iload_n h 8 dX4_arePlacesSo_123 rfl rfl ?_
          refine j_callV h (c_X4_findLastFrom hE ha hb hf) m_X4_findLastFrom a_l_X4_114 rfl rfl ⟨Nat.le_of_ble_eq_true rfl, Nat.le_of_ble_eq_true rfl⟩ (ci := 4) rfl (by omega) (rcM) rfl rfl (Nat.le_of_ble_eq_true rfl) dX4_arePlacesSo_124 ?_
          have e2 := lst_end (by omega) hG
          refine j_iload h 2 dX4_arePlacesSo_127 rfl ?_
          refine j_icmp_ne h 136 dX4_arePlacesSo_129 (by decide) (by first | exact okI_of _ | exact okI_b _ | exact okI_sgz _ _ | assumption | (unfold okI; omega)) (by first | exact okI_of _ | exact okI_b _ | exact okI_sgz _ _ | assumption | (unfold okI; omega)) (fun c129 => ?_) (fun c129 => ?_)
          · exact absurd e2 c129
          · refine j_iconst h dX4_arePlacesSo_132 ?_
            refine j_goto h 137 dX4_arePlacesSo_133 (by decide) ?_
            exact j_zret h hq rfl rfl dX4_arePlacesSo_137
      · refine j_aload_n h 5 dX4_arePlacesSo_45 rfl rfl ?_
        refine j_iload_n h 6 dX4_arePlacesSo_46 rfl rfl ?_
        refine j_iload_n h 7 dX4_arePlacesSo_47 rfl rfl ?_
        refine j_iload h 0 dX4_arePlacesSo_48 rfl ?_
        refine j_callV h (c_X4_stands hE ha hb (by unfold okI; omega)) m_X4_stands a_l_X4_111 rfl rfl ⟨Nat.le_of_ble_eq_true rfl, Nat.le_of_ble_eq_true rfl⟩ (ci := 4) rfl (by omega) (rcM) rfl rfl (Nat.le_of_ble_eq_true rfl) dX4_arePlacesSo_50 ?_
        refine j_istore h [(9, _), (8, _), (6, _), (7, _), (5, _), (4, _), (0, _), (1, _), (2, _), (3, _)] dX4_arePlacesSo_53 (by decide) rfl ?_
        refine j_iload h 0 dX4_arePlacesSo_55 rfl ?_
        refine j_if_eq h 78 dX4_arePlacesSo_57 (by decide) (by first | exact okI_of _ | exact okI_b _ | exact okI_sgz _ _ | assumption | (unfold okI; omega)) (fun c57 => ?_) (fun c57 => ?_)
        · rw [bI_0] at c57
          refine j_iload h 2 dX4_arePlacesSo_78 rfl ?_
          refine j_istore h [(6, _), (9, _), (8, _), (7, _), (5, _), (4, _), (0, _), (1, _), (2, _), (3, _)] dX4_arePlacesSo_80 (by decide) rfl ?_
          refine j_iload h 1 dX4_arePlacesSo_82 rfl ?_
          refine j_if_eq h 98 dX4_arePlacesSo_84 (by decide) (by first | exact okI_of _ | exact okI_b _ | exact okI_sgz _ _ | assumption | (unfold okI; omega)) (fun c84 => ?_) (fun c84 => ?_)
          · rw [bI_0] at c84
            refine j_iload h 3 dX4_arePlacesSo_98 rfl ?_
            refine j_istore h [(7, _), (6, _), (9, _), (8, _), (5, _), (4, _), (0, _), (1, _), (2, _), (3, _)] dX4_arePlacesSo_100 (by decide) rfl ?_
            refine j_iinc h 3 [(8, _), (7, _), (6, _), (9, _), (5, _), (4, _), (0, _), (1, _), (2, _), (3, _)] dX4_arePlacesSo_102 rfl (by decide) rfl ?_
            refine j_goto h 38 dX4_arePlacesSo_105 (by decide) ?_
            refine j_sub [0, 2, 1, 4, 5, 6, 7, 8, 9] rfl ?_
            first | exact absurd (c57.symm.trans c84) (by decide) | exact ih (z + 1) _ _ (by omega) (by omega) (by omega) (by first | exact fst_b c57 (by omega) c70 (by omega) hF | exact fst_n (Or.inl c57) hF | exact fst_n (Or.inr (Or.inl (by omega))) hF | exact fst_n (Or.inr (Or.inr c70)) hF) (by first | exact lst_b c84 (by omega) (by omega) | exact lst_n (Or.inl c84) hG | exact lst_n (Or.inr (by omega)) hG)
          · rw [bI_n0] at c84
            refine j_iload h 2 dX4_arePlacesSo_87 rfl ?_
            refine j_iload_n h 9 dX4_arePlacesSo_89 rfl rfl ?_
            refine j_icmp_gt h 98 dX4_arePlacesSo_90 (by decide) (by first | exact okI_of _ | exact okI_b _ | exact okI_sgz _ _ | assumption | (unfold okI; omega)) (by first | exact okI_of _ | exact okI_b _ | exact okI_sgz _ _ | assumption | (unfold okI; omega)) (fun c90 => ?_) (fun c90 => ?_)
            · refine j_iload h 3 dX4_arePlacesSo_98 rfl ?_
              refine j_istore h [(7, _), (6, _), (9, _), (8, _), (5, _), (4, _), (0, _), (1, _), (2, _), (3, _)] dX4_arePlacesSo_100 (by decide) rfl ?_
              refine j_iinc h 3 [(8, _), (7, _), (6, _), (9, _), (5, _), (4, _), (0, _), (1, _), (2, _), (3, _)] dX4_arePlacesSo_102 rfl (by decide) rfl ?_
              refine j_goto h 38 dX4_arePlacesSo_105 (by decide) ?_
              refine j_sub [0, 2, 1, 4, 5, 6, 7, 8, 9] rfl ?_
              first | exact absurd (c57.symm.trans c84) (by decide) | exact ih (z + 1) _ _ (by omega) (by omega) (by omega) (by first | exact fst_b c57 (by omega) c70 (by omega) hF | exact fst_n (Or.inl c57) hF | exact fst_n (Or.inr (Or.inl (by omega))) hF | exact fst_n (Or.inr (Or.inr c70)) hF) (by first | exact lst_b c84 (by omega) (by omega) | exact lst_n (Or.inl c84) hG | exact lst_n (Or.inr (by omega)) hG)
            · refine j_iload h 2 dX4_arePlacesSo_93 rfl ?_
              refine j_goto h 100 dX4_arePlacesSo_95 (by decide) ?_
              refine j_istore h [(7, _), (6, _), (9, _), (8, _), (5, _), (4, _), (0, _), (1, _), (2, _), (3, _)] dX4_arePlacesSo_100 (by decide) rfl ?_
              refine j_iinc h 3 [(8, _), (7, _), (6, _), (9, _), (5, _), (4, _), (0, _), (1, _), (2, _), (3, _)] dX4_arePlacesSo_102 rfl (by decide) rfl ?_
              refine j_goto h 38 dX4_arePlacesSo_105 (by decide) ?_
              refine j_sub [0, 2, 1, 4, 5, 6, 7, 8, 9] rfl ?_
              first | exact absurd (c57.symm.trans c84) (by decide) | exact ih (z + 1) _ _ (by omega) (by omega) (by omega) (by first | exact fst_b c57 (by omega) c70 (by omega) hF | exact fst_n (Or.inl c57) hF | exact fst_n (Or.inr (Or.inl (by omega))) hF | exact fst_n (Or.inr (Or.inr c70)) hF) (by first | exact lst_b c84 (by omega) (by omega) | exact lst_n (Or.inl c84) hG | exact lst_n (Or.inr (by omega)) hG)
        · rw [bI_n0] at c57
          refine j_iload h 1 dX4_arePlacesSo_60 rfl ?_
          refine j_iload h 4 dX4_arePlacesSo_62 rfl ?_
          refine j_icmp_lt h 78 dX4_arePlacesSo_64 (by decide) (by first | exact okI_of _ | exact okI_b _ | exact okI_sgz _ _ | assumption | (unfold okI; omega)) (by first | exact okI_of _ | exact okI_b _ | exact okI_sgz _ _ | assumption | (unfold okI; omega)) (fun c64 => ?_) (fun c64 => ?_)
          · refine j_iload h 2 dX4_arePlacesSo_78 rfl ?_
            refine j_istore h [(6, _), (9, _), (8, _), (7, _), (5, _), (4, _), (0, _), (1, _), (2, _), (3, _)] dX4_arePlacesSo_80 (by decide) rfl ?_
            refine j_iload h 1 dX4_arePlacesSo_82 rfl ?_
            refine j_if_eq h 98 dX4_arePlacesSo_84 (by decide) (by first | exact okI_of _ | exact okI_b _ | exact okI_sgz _ _ | assumption | (unfold okI; omega)) (fun c84 => ?_) (fun c84 => ?_)
            · rw [bI_0] at c84
              refine j_iload h 3 dX4_arePlacesSo_98 rfl ?_
              refine j_istore h [(7, _), (6, _), (9, _), (8, _), (5, _), (4, _), (0, _), (1, _), (2, _), (3, _)] dX4_arePlacesSo_100 (by decide) rfl ?_
              refine j_iinc h 3 [(8, _), (7, _), (6, _), (9, _), (5, _), (4, _), (0, _), (1, _), (2, _), (3, _)] dX4_arePlacesSo_102 rfl (by decide) rfl ?_
              refine j_goto h 38 dX4_arePlacesSo_105 (by decide) ?_
              refine j_sub [0, 2, 1, 4, 5, 6, 7, 8, 9] rfl ?_
              first | exact absurd (c57.symm.trans c84) (by decide) | exact ih (z + 1) _ _ (by omega) (by omega) (by omega) (by first | exact fst_b c57 (by omega) c70 (by omega) hF | exact fst_n (Or.inl c57) hF | exact fst_n (Or.inr (Or.inl (by omega))) hF | exact fst_n (Or.inr (Or.inr c70)) hF) (by first | exact lst_b c84 (by omega) (by omega) | exact lst_n (Or.inl c84) hG | exact lst_n (Or.inr (by omega)) hG)
            · rw [bI_n0] at c84
              refine j_iload h 2 dX4_arePlacesSo_87 rfl ?_
              refine j_iload_n h 9 dX4_arePlacesSo_89 rfl rfl ?_
              refine j_icmp_gt h 98 dX4_arePlacesSo_90 (by decide) (by first | exact okI_of _ | exact okI_b _ | exact okI_sgz _ _ | assumption | (unfold okI; omega)) (by first | exact okI_of _ | exact okI_b _ | exact okI_sgz _ _ | assumption | (unfold okI; omega)) (fun c90 => ?_) (fun c90 => ?_)
              · refine j_iload h 3 dX4_arePlacesSo_98 rfl ?_
                refine j_istore h [(7, _), (6, _), (9, _), (8, _), (5, _), (4, _), (0, _), (1, _), (2, _), (3, _)] dX4_arePlacesSo_100 (by decide) rfl ?_
                refine j_iinc h 3 [(8, _), (7, _), (6, _), (9, _), (5, _), (4, _), (0, _), (1, _), (2, _), (3, _)] dX4_arePlacesSo_102 rfl (by decide) rfl ?_
                refine j_goto h 38 dX4_arePlacesSo_105 (by decide) ?_
                refine j_sub [0, 2, 1, 4, 5, 6, 7, 8, 9] rfl ?_
                first | exact absurd (c57.symm.trans c84) (by decide) | exact ih (z + 1) _ _ (by omega) (by omega) (by omega) (by first | exact fst_b c57 (by omega) c70 (by omega) hF | exact fst_n (Or.inl c57) hF | exact fst_n (Or.inr (Or.inl (by omega))) hF | exact fst_n (Or.inr (Or.inr c70)) hF) (by first | exact lst_b c84 (by omega) (by omega) | exact lst_n (Or.inl c84) hG | exact lst_n (Or.inr (by omega)) hG)
              · refine j_iload h 2 dX4_arePlacesSo_93 rfl ?_
                refine j_goto h 100 dX4_arePlacesSo_95 (by decide) ?_
                refine j_istore h [(7, _), (6, _), (9, _), (8, _), (5, _), (4, _), (0, _), (1, _), (2, _), (3, _)] dX4_arePlacesSo_100 (by decide) rfl ?_
                refine j_iinc h 3 [(8, _), (7, _), (6, _), (9, _), (5, _), (4, _), (0, _), (1, _), (2, _), (3, _)] dX4_arePlacesSo_102 rfl (by decide) rfl ?_
                refine j_goto h 38 dX4_arePlacesSo_105 (by decide) ?_
                refine j_sub [0, 2, 1, 4, 5, 6, 7, 8, 9] rfl ?_
                first | exact absurd (c57.symm.trans c84) (by decide) | exact ih (z + 1) _ _ (by omega) (by omega) (by omega) (by first | exact fst_b c57 (by omega) c70 (by omega) hF | exact fst_n (Or.inl c57) hF | exact fst_n (Or.inr (Or.inl (by omega))) hF | exact fst_n (Or.inr (Or.inr c70)) hF) (by first | exact lst_b c84 (by omega) (by omega) | exact lst_n (Or.inl c84) hG | exact lst_n (Or.inr (by omega)) hG)
          · refine j_iload h 2 dX4_arePlacesSo_67 rfl ?_
            refine j_iconst h dX4_arePlacesSo_69 ?_
            refine j_icmp_ne h 78 dX4_arePlacesSo_70 (by decide) (by first | exact okI_of _ | exact okI_b _ | exact okI_sgz _ _ | assumption | (unfold okI; omega)) (by first | exact okI_of _ | exact okI_b _ | exact okI_sgz _ _ | assumption | (unfold okI; omega)) (fun c70 => ?_) (fun c70 => ?_)
            · refine j_iload h 2 dX4_arePlacesSo_78 rfl ?_
              refine j_istore h [(6, _), (9, _), (8, _), (7, _), (5, _), (4, _), (0, _), (1, _), (2, _), (3, _)] dX4_arePlacesSo_80 (by decide) rfl ?_
              refine j_iload h 1 dX4_arePlacesSo_82 rfl ?_
              refine j_if_eq h 98 dX4_arePlacesSo_84 (by decide) (by first | exact okI_of _ | exact okI_b _ | exact okI_sgz _ _ | assumption | (unfold okI; omega)) (fun c84 => ?_) (fun c84 => ?_)
              · rw [bI_0] at c84
                refine j_iload h 3 dX4_arePlacesSo_98 rfl ?_
                refine j_istore h [(7, _), (6, _), (9, _), (8, _), (5, _), (4, _), (0, _), (1, _), (2, _), (3, _)] dX4_arePlacesSo_100 (by decide) rfl ?_
                refine j_iinc h 3 [(8, _), (7, _), (6, _), (9, _), (5, _), (4, _), (0, _), (1, _), (2, _), (3, _)] dX4_arePlacesSo_102 rfl (by decide) rfl ?_
                refine j_goto h 38 dX4_arePlacesSo_105 (by decide) ?_
                refine j_sub [0, 2, 1, 4, 5, 6, 7, 8, 9] rfl ?_
                first | exact absurd (c57.symm.trans c84) (by decide) | exact ih (z + 1) _ _ (by omega) (by omega) (by omega) (by first | exact fst_b c57 (by omega) c70 (by omega) hF | exact fst_n (Or.inl c57) hF | exact fst_n (Or.inr (Or.inl (by omega))) hF | exact fst_n (Or.inr (Or.inr c70)) hF) (by first | exact lst_b c84 (by omega) (by omega) | exact lst_n (Or.inl c84) hG | exact lst_n (Or.inr (by omega)) hG)
              · rw [bI_n0] at c84
                refine j_iload h 2 dX4_arePlacesSo_87 rfl ?_
                refine j_iload_n h 9 dX4_arePlacesSo_89 rfl rfl ?_
                refine j_icmp_gt h 98 dX4_arePlacesSo_90 (by decide) (by first | exact okI_of _ | exact okI_b _ | exact okI_sgz _ _ | assumption | (unfold okI; omega)) (by first | exact okI_of _ | exact okI_b _ | exact okI_sgz _ _ | assumption | (unfold okI; omega)) (fun c90 => ?_) (fun c90 => ?_)
                · refine j_iload h 3 dX4_arePlacesSo_98 rfl ?_
                  refine j_istore h [(7, _), (6, _), (9, _), (8, _), (5, _), (4, _), (0, _), (1, _), (2, _), (3, _)] dX4_arePlacesSo_100 (by decide) rfl ?_
                  refine j_iinc h 3 [(8, _), (7, _), (6, _), (9, _), (5, _), (4, _), (0, _), (1, _), (2, _), (3, _)] dX4_arePlacesSo_102 rfl (by decide) rfl ?_
                  refine j_goto h 38 dX4_arePlacesSo_105 (by decide) ?_
                  refine j_sub [0, 2, 1, 4, 5, 6, 7, 8, 9] rfl ?_
                  first | exact absurd (c57.symm.trans c84) (by decide) | exact ih (z + 1) _ _ (by omega) (by omega) (by omega) (by first | exact fst_b c57 (by omega) c70 (by omega) hF | exact fst_n (Or.inl c57) hF | exact fst_n (Or.inr (Or.inl (by omega))) hF | exact fst_n (Or.inr (Or.inr c70)) hF) (by first | exact lst_b c84 (by omega) (by omega) | exact lst_n (Or.inl c84) hG | exact lst_n (Or.inr (by omega)) hG)
                · refine j_iload h 2 dX4_arePlacesSo_93 rfl ?_
                  refine j_goto h 100 dX4_arePlacesSo_95 (by decide) ?_
                  refine j_istore h [(7, _), (6, _), (9, _), (8, _), (5, _), (4, _), (0, _), (1, _), (2, _), (3, _)] dX4_arePlacesSo_100 (by decide) rfl ?_
                  refine j_iinc h 3 [(8, _), (7, _), (6, _), (9, _), (5, _), (4, _), (0, _), (1, _), (2, _), (3, _)] dX4_arePlacesSo_102 rfl (by decide) rfl ?_
                  refine j_goto h 38 dX4_arePlacesSo_105 (by decide) ?_
                  refine j_sub [0, 2, 1, 4, 5, 6, 7, 8, 9] rfl ?_
                  first | exact absurd (c57.symm.trans c84) (by decide) | exact ih (z + 1) _ _ (by omega) (by omega) (by omega) (by first | exact fst_b c57 (by omega) c70 (by omega) hF | exact fst_n (Or.inl c57) hF | exact fst_n (Or.inr (Or.inl (by omega))) hF | exact fst_n (Or.inr (Or.inr c70)) hF) (by first | exact lst_b c84 (by omega) (by omega) | exact lst_n (Or.inl c84) hG | exact lst_n (Or.inr (by omega)) hG)
            · refine j_iload h 1 dX4_arePlacesSo_73 rfl ?_
              refine j_goto h 80 dX4_arePlacesSo_75 (by decide) ?_
              refine j_istore h [(6, _), (9, _), (8, _), (7, _), (5, _), (4, _), (0, _), (1, _), (2, _), (3, _)] dX4_arePlacesSo_80 (by decide) rfl ?_
              refine j_iload h 1 dX4_arePlacesSo_82 rfl ?_
              refine j_if_eq h 98 dX4_arePlacesSo_84 (by decide) (by first | exact okI_of _ | exact okI_b _ | exact okI_sgz _ _ | assumption | (unfold okI; omega)) (fun c84 => ?_) (fun c84 => ?_)
              · rw [bI_0] at c84
                refine j_iload h 3 dX4_arePlacesSo_98 rfl ?_
                refine j_istore h [(7, _), (6, _), (9, _), (8, _), (5, _), (4, _), (0, _), (1, _), (2, _), (3, _)] dX4_arePlacesSo_100 (by decide) rfl ?_
                refine j_iinc h 3 [(8, _), (7, _), (6, _), (9, _), (5, _), (4, _), (0, _), (1, _), (2, _), (3, _)] dX4_arePlacesSo_102 rfl (by decide) rfl ?_
                refine j_goto h 38 dX4_arePlacesSo_105 (by decide) ?_
                refine j_sub [0, 2, 1, 4, 5, 6, 7, 8, 9] rfl ?_
                first | exact absurd (c57.symm.trans c84) (by decide) | exact ih (z + 1) _ _ (by omega) (by omega) (by omega) (by first | exact fst_b c57 (by omega) c70 (by omega) hF | exact fst_n (Or.inl c57) hF | exact fst_n (Or.inr (Or.inl (by omega))) hF | exact fst_n (Or.inr (Or.inr c70)) hF) (by first | exact lst_b c84 (by omega) (by omega) | exact lst_n (Or.inl c84) hG | exact lst_n (Or.inr (by omega)) hG)
              · rw [bI_n0] at c84
                refine j_iload h 2 dX4_arePlacesSo_87 rfl ?_
                refine j_iload_n h 9 dX4_arePlacesSo_89 rfl rfl ?_
                refine j_icmp_gt h 98 dX4_arePlacesSo_90 (by decide) (by first | exact okI_of _ | exact okI_b _ | exact okI_sgz _ _ | assumption | (unfold okI; omega)) (by first | exact okI_of _ | exact okI_b _ | exact okI_sgz _ _ | assumption | (unfold okI; omega)) (fun c90 => ?_) (fun c90 => ?_)
                · refine j_iload h 3 dX4_arePlacesSo_98 rfl ?_
                  refine j_istore h [(7, _), (6, _), (9, _), (8, _), (5, _), (4, _), (0, _), (1, _), (2, _), (3, _)] dX4_arePlacesSo_100 (by decide) rfl ?_
                  refine j_iinc h 3 [(8, _), (7, _), (6, _), (9, _), (5, _), (4, _), (0, _), (1, _), (2, _), (3, _)] dX4_arePlacesSo_102 rfl (by decide) rfl ?_
                  refine j_goto h 38 dX4_arePlacesSo_105 (by decide) ?_
                  refine j_sub [0, 2, 1, 4, 5, 6, 7, 8, 9] rfl ?_
                  first | exact absurd (c57.symm.trans c84) (by decide) | exact ih (z + 1) _ _ (by omega) (by omega) (by omega) (by first | exact fst_b c57 (by omega) c70 (by omega) hF | exact fst_n (Or.inl c57) hF | exact fst_n (Or.inr (Or.inl (by omega))) hF | exact fst_n (Or.inr (Or.inr c70)) hF) (by first | exact lst_b c84 (by omega) (by omega) | exact lst_n (Or.inl c84) hG | exact lst_n (Or.inr (by omega)) hG)
                · refine j_iload h 2 dX4_arePlacesSo_93 rfl ?_
                  refine j_goto h 100 dX4_arePlacesSo_95 (by decide) ?_
                  refine j_istore h [(7, _), (6, _), (9, _), (8, _), (5, _), (4, _), (0, _), (1, _), (2, _), (3, _)] dX4_arePlacesSo_100 (by decide) rfl ?_
                  refine j_iinc h 3 [(8, _), (7, _), (6, _), (9, _), (5, _), (4, _), (0, _), (1, _), (2, _), (3, _)] dX4_arePlacesSo_102 rfl (by decide) rfl ?_
                  refine j_goto h 38 dX4_arePlacesSo_105 (by decide) ?_
                  refine j_sub [0, 2, 1, 4, 5, 6, 7, 8, 9] rfl ?_
                  first | exact absurd (c57.symm.trans c84) (by decide) | exact ih (z + 1) _ _ (by omega) (by omega) (by omega) (by first | exact fst_b c57 (by omega) c70 (by omega) hF | exact fst_n (Or.inl c57) hF | exact fst_n (Or.inr (Or.inl (by omega))) hF | exact fst_n (Or.inr (Or.inr c70)) hF) (by first | exact lst_b c84 (by omega) (by omega) | exact lst_n (Or.inl c84) hG | exact lst_n (Or.inr (by omega)) hG)
    · have es : (mxI 0 (mnI f (A.1 (sw a)).length)) = (A.1 (sw a)).length := by omega
      refine j_iload h 0 dX4_arePlacesSo_21 rfl ?_
      refine j_goto h 27 dX4_arePlacesSo_23 (by decide) ?_
      refine j_istore h [(5, _), (4, _), (0, _), (1, _), (2, _), (3, _)] dX4_arePlacesSo_27 (by decide) rfl ?_
      refine j_iconst h dX4_arePlacesSo_29 ?_
      refine j_istore h [(6, _), (5, _), (4, _), (0, _), (1, _), (2, _), (3, _)] dX4_arePlacesSo_30 (by decide) rfl ?_
      refine j_iconst h dX4_arePlacesSo_32 ?_
      refine j_istore h [(7, _), (6, _), (5, _), (4, _), (0, _), (1, _), (2, _), (3, _)] dX4_arePlacesSo_33 (by decide) rfl ?_
      refine j_iconst h dX4_arePlacesSo_35 ?_
      refine j_istore h [(8, _), (7, _), (6, _), (5, _), (4, _), (0, _), (1, _), (2, _), (3, _)] dX4_arePlacesSo_36 (by decide) rfl ?_
      refine j_sub [0, 2, 1, 3, 4, 5, 6, 7, 8] rfl ?_
      refine j_lv (lv2 := [(8, .int (iI 0)), (6, .int (iI (-1))), (7, .int (iI (-1))), (5, .int (iI (mxI 0 (mnI f (A.1 (sw a)).length)))), (4, .int (iI (A.1 (sw a)).length)), (0, eA E 76), (1, .int (iI a)), (2, .int (iI b)), (3, .int (iI f))]) (by rw [es]; rfl) ?_
      refine lpA3 (fun (z F G : Int) => ((A.1 (sw a)).length + 1 - z).toNat) (fun (z F G : Int) => 0 ≤ z → z ≤ (A.1 (sw a)).length + 1 → fstI (bz (A.1 (sw a)) (A.1 (sw b))) (mxI 0 (mnI f (A.1 (sw a)).length)) z F → lstI (bz (A.1 (sw a)) (A.1 (sw b))) f z G → JL E (RM E g0) X 38 [(8, .int (iI z)), (6, .int (iI F)), (7, .int (iI G)), (5, .int (iI (mxI 0 (mnI f (A.1 (sw a)).length)))), (4, .int (iI (A.1 (sw a)).length)), (0, eA E 76), (1, .int (iI a)), (2, .int (iI b)), (3, .int (iI f))] [] (A, mk)) (fun z F G ih h0 hzb hF hG => ?_) 0 (-1) (-1) (Int.le_refl 0) (by omega) (Or.inl ⟨rfl, fun k k1 k2 => by omega⟩) (Or.inl ⟨rfl, fun k k1 k2 _ => by omega⟩)
      have hFb : -1 ≤ F ∧ F < 400 := by rcases hF with ⟨w, _⟩ | ⟨w, v, _⟩ <;> omega
      have hGb : -1 ≤ G ∧ G < 400 := by rcases hG with ⟨w, _⟩ | ⟨w, v, _⟩ <;> omega
      refine j_iload h 0 dX4_arePlacesSo_38 rfl ?_
      refine j_iload h 4 dX4_arePlacesSo_40 rfl ?_
      refine j_icmp_gt h 108 dX4_arePlacesSo_42 (by decide) (by first | exact okI_of _ | exact okI_b _ | exact okI_sgz _ _ | assumption | (unfold okI; omega)) (by first | exact okI_of _ | exact okI_b _ | exact okI_sgz _ _ | assumption | (unfold okI; omega)) (fun c42 => ?_) (fun c42 => ?_)
      · refine j_aload_n h 5 dX4_arePlacesSo_108 rfl rfl ?_
        refine j_iload_n h 6 dX4_arePlacesSo_109 rfl rfl ?_
        refine j_iload_n h 7 dX4_arePlacesSo_110 rfl rfl ?_
        refine j_iload_n h 8 dX4_arePlacesSo_111 rfl rfl ?_
        refine j_callV h (c_X4_findFrom hE ha hb hf) m_X4_findFrom a_l_X4_108 rfl rfl ⟨Nat.le_of_ble_eq_true rfl, Nat.le_of_ble_eq_true rfl⟩ (ci := 4) rfl (by omega) (rcM) rfl rfl (Nat.le_of_ble_eq_true rfl) dX4_arePlacesSo_112 ?_
        have e1 := fst_end (by omega) hF
        refine j_iload h 1 dX4_arePlacesSo_115 rfl ?_
        refine j_icmp_ne h 136 dX4_arePlacesSo_117 (by decide) (by first | exact okI_of _ | exact okI_b _ | exact okI_sgz _ _ | assumption | (unfold okI; omega)) (by first | exact okI_of _ | exact okI_b _ | exact okI_sgz _ _ | assumption | (unfold okI; omega)) (fun c117 => ?_) (fun c117 => ?_)
        · exact absurd e1 c117
        · refine j_aload_n h 5 dX4_arePlacesSo_120 rfl rfl ?_
          refine j_iload_n h 6 dX4_arePlacesSo_121 rfl rfl ?_
          refine j_iload_n h 7 dX4_arePlacesSo_122 rfl rfl ?_
          refine j_iload_n h 8 dX4_arePlacesSo_123 rfl rfl ?_
          refine j_callV h (c_X4_findLastFrom hE ha hb hf) m_X4_findLastFrom a_l_X4_114 rfl rfl ⟨Nat.le_of_ble_eq_true rfl, Nat.le_of_ble_eq_true rfl⟩ (ci := 4) rfl (by omega) (rcM) rfl rfl (Nat.le_of_ble_eq_true rfl) dX4_arePlacesSo_124 ?_
          have e2 := lst_end (by omega) hG
          refine j_iload h 2 dX4_arePlacesSo_127 rfl ?_
          refine j_icmp_ne h 136 dX4_arePlacesSo_129 (by decide) (by first | exact okI_of _ | exact okI_b _ | exact okI_sgz _ _ | assumption | (unfold okI; omega)) (by first | exact okI_of _ | exact okI_b _ | exact okI_sgz _ _ | assumption | (unfold okI; omega)) (fun c129 => ?_) (fun c129 => ?_)
          · exact absurd e2 c129
          · refine j_iconst h dX4_arePlacesSo_132 ?_
            refine j_goto h 137 dX4_arePlacesSo_133 (by decide) ?_
            exact j_zret h hq rfl rfl dX4_arePlacesSo_137
      · refine j_aload_n h 5 dX4_arePlacesSo_45 rfl rfl ?_
        refine j_iload_n h 6 dX4_arePlacesSo_46 rfl rfl ?_
        refine j_iload_n h 7 dX4_arePlacesSo_47 rfl rfl ?_
        refine j_iload h 0 dX4_arePlacesSo_48 rfl ?_
        refine j_callV h (c_X4_stands hE ha hb (by unfold okI; omega)) m_X4_stands a_l_X4_111 rfl rfl ⟨Nat.le_of_ble_eq_true rfl, Nat.le_of_ble_eq_true rfl⟩ (ci := 4) rfl (by omega) (rcM) rfl rfl (Nat.le_of_ble_eq_true rfl) dX4_arePlacesSo_50 ?_
        refine j_istore h [(9, _), (8, _), (6, _), (7, _), (5, _), (4, _), (0, _), (1, _), (2, _), (3, _)] dX4_arePlacesSo_53 (by decide) rfl ?_
        refine j_iload h 0 dX4_arePlacesSo_55 rfl ?_
        refine j_if_eq h 78 dX4_arePlacesSo_57 (by decide) (by first | exact okI_of _ | exact okI_b _ | exact okI_sgz _ _ | assumption | (unfold okI; omega)) (fun c57 => ?_) (fun c57 => ?_)
        · rw [bI_0] at c57
          refine j_iload h 2 dX4_arePlacesSo_78 rfl ?_
          refine j_istore h [(6, _), (9, _), (8, _), (7, _), (5, _), (4, _), (0, _), (1, _), (2, _), (3, _)] dX4_arePlacesSo_80 (by decide) rfl ?_
          refine j_iload h 1 dX4_arePlacesSo_82 rfl ?_
          refine j_if_eq h 98 dX4_arePlacesSo_84 (by decide) (by first | exact okI_of _ | exact okI_b _ | exact okI_sgz _ _ | assumption | (unfold okI; omega)) (fun c84 => ?_) (fun c84 => ?_)
          · rw [bI_0] at c84
            refine j_iload h 3 dX4_arePlacesSo_98 rfl ?_
            refine j_istore h [(7, _), (6, _), (9, _), (8, _), (5, _), (4, _), (0, _), (1, _), (2, _), (3, _)] dX4_arePlacesSo_100 (by decide) rfl ?_
            refine j_iinc h 3 [(8, _), (7, _), (6, _), (9, _), (5, _), (4, _), (0, _), (1, _), (2, _), (3, _)] dX4_arePlacesSo_102 rfl (by decide) rfl ?_
            refine j_goto h 38 dX4_arePlacesSo_105 (by decide) ?_
            refine j_sub [0, 2, 1, 4, 5, 6, 7, 8, 9] rfl ?_
            first | exact absurd (c57.symm.trans c84) (by decide) | exact ih (z + 1) _ _ (by omega) (by omega) (by omega) (by first | exact fst_b c57 (by omega) c70 (by omega) hF | exact fst_n (Or.inl c57) hF | exact fst_n (Or.inr (Or.inl (by omega))) hF | exact fst_n (Or.inr (Or.inr c70)) hF) (by first | exact lst_b c84 (by omega) (by omega) | exact lst_n (Or.inl c84) hG | exact lst_n (Or.inr (by omega)) hG)
          · rw [bI_n0] at c84
            refine j_iload h 2 dX4_arePlacesSo_87 rfl ?_
            refine j_iload_n h 9 dX4_arePlacesSo_89 rfl rfl ?_
            refine j_icmp_gt h 98 dX4_arePlacesSo_90 (by decide) (by first | exact okI_of _ | exact okI_b _ | exact okI_sgz _ _ | assumption | (unfold okI; omega)) (by first | exact okI_of _ | exact okI_b _ | exact okI_sgz _ _ | assumption | (unfold okI; omega)) (fun c90 => ?_) (fun c90 => ?_)
            · refine j_iload h 3 dX4_arePlacesSo_98 rfl ?_
              refine j_istore h [(7, _), (6, _), (9, _), (8, _), (5, _), (4, _), (0, _), (1, _), (2, _), (3, _)] dX4_arePlacesSo_100 (by decide) rfl ?_
              refine j_iinc h 3 [(8, _), (7, _), (6, _), (9, _), (5, _), (4, _), (0, _), (1, _), (2, _), (3, _)] dX4_arePlacesSo_102 rfl (by decide) rfl ?_
              refine j_goto h 38 dX4_arePlacesSo_105 (by decide) ?_
              refine j_sub [0, 2, 1, 4, 5, 6, 7, 8, 9] rfl ?_
              first | exact absurd (c57.symm.trans c84) (by decide) | exact ih (z + 1) _ _ (by omega) (by omega) (by omega) (by first | exact fst_b c57 (by omega) c70 (by omega) hF | exact fst_n (Or.inl c57) hF | exact fst_n (Or.inr (Or.inl (by omega))) hF | exact fst_n (Or.inr (Or.inr c70)) hF) (by first | exact lst_b c84 (by omega) (by omega) | exact lst_n (Or.inl c84) hG | exact lst_n (Or.inr (by omega)) hG)
            · refine j_iload h 2 dX4_arePlacesSo_93 rfl ?_
              refine j_goto h 100 dX4_arePlacesSo_95 (by decide) ?_
              refine j_istore h [(7, _), (6, _), (9, _), (8, _), (5, _), (4, _), (0, _), (1, _), (2, _), (3, _)] dX4_arePlacesSo_100 (by decide) rfl ?_
              refine j_iinc h 3 [(8, _), (7, _), (6, _), (9, _), (5, _), (4, _), (0, _), (1, _), (2, _), (3, _)] dX4_arePlacesSo_102 rfl (by decide) rfl ?_
              refine j_goto h 38 dX4_arePlacesSo_105 (by decide) ?_
              refine j_sub [0, 2, 1, 4, 5, 6, 7, 8, 9] rfl ?_
              first | exact absurd (c57.symm.trans c84) (by decide) | exact ih (z + 1) _ _ (by omega) (by omega) (by omega) (by first | exact fst_b c57 (by omega) c70 (by omega) hF | exact fst_n (Or.inl c57) hF | exact fst_n (Or.inr (Or.inl (by omega))) hF | exact fst_n (Or.inr (Or.inr c70)) hF) (by first | exact lst_b c84 (by omega) (by omega) | exact lst_n (Or.inl c84) hG | exact lst_n (Or.inr (by omega)) hG)
        · rw [bI_n0] at c57
          refine j_iload h 1 dX4_arePlacesSo_60 rfl ?_
          refine j_iload h 4 dX4_arePlacesSo_62 rfl ?_
          refine j_icmp_lt h 78 dX4_arePlacesSo_64 (by decide) (by first | exact okI_of _ | exact okI_b _ | exact okI_sgz _ _ | assumption | (unfold okI; omega)) (by first | exact okI_of _ | exact okI_b _ | exact okI_sgz _ _ | assumption | (unfold okI; omega)) (fun c64 => ?_) (fun c64 => ?_)
          · refine j_iload h 2 dX4_arePlacesSo_78 rfl ?_
            refine j_istore h [(6, _), (9, _), (8, _), (7, _), (5, _), (4, _), (0, _), (1, _), (2, _), (3, _)] dX4_arePlacesSo_80 (by decide) rfl ?_
            refine j_iload h 1 dX4_arePlacesSo_82 rfl ?_
            refine j_if_eq h 98 dX4_arePlacesSo_84 (by decide) (by first | exact okI_of _ | exact okI_b _ | exact okI_sgz _ _ | assumption | (unfold okI; omega)) (fun c84 => ?_) (fun c84 => ?_)
            · rw [bI_0] at c84
              refine j_iload h 3 dX4_arePlacesSo_98 rfl ?_
              refine j_istore h [(7, _), (6, _), (9, _), (8, _), (5, _), (4, _), (0, _), (1, _), (2, _), (3, _)] dX4_arePlacesSo_100 (by decide) rfl ?_
              refine j_iinc h 3 [(8, _), (7, _), (6, _), (9, _), (5, _), (4, _), (0, _), (1, _), (2, _), (3, _)] dX4_arePlacesSo_102 rfl (by decide) rfl ?_
              refine j_goto h 38 dX4_arePlacesSo_105 (by decide) ?_
              refine j_sub [0, 2, 1, 4, 5, 6, 7, 8, 9] rfl ?_
              first | exact absurd (c57.symm.trans c84) (by decide) | exact ih (z + 1) _ _ (by omega) (by omega) (by omega) (by first | exact fst_b c57 (by omega) c70 (by omega) hF | exact fst_n (Or.inl c57) hF | exact fst_n (Or.inr (Or.inl (by omega))) hF | exact fst_n (Or.inr (Or.inr c70)) hF) (by first | exact lst_b c84 (by omega) (by omega) | exact lst_n (Or.inl c84) hG | exact lst_n (Or.inr (by omega)) hG)
            · rw [bI_n0] at c84
              refine j_iload h 2 dX4_arePlacesSo_87 rfl ?_
              refine j_iload_n h 9 dX4_arePlacesSo_89 rfl rfl ?_
              refine j_icmp_gt h 98 dX4_arePlacesSo_90 (by decide) (by first | exact okI_of _ | exact okI_b _ | exact okI_sgz _ _ | assumption | (unfold okI; omega)) (by first | exact okI_of _ | exact okI_b _ | exact okI_sgz _ _ | assumption | (unfold okI; omega)) (fun c90 => ?_) (fun c90 => ?_)
              · refine j_iload h 3 dX4_arePlacesSo_98 rfl ?_
                refine j_istore h [(7, _), (6, _), (9, _), (8, _), (5, _), (4, _), (0, _), (1, _), (2, _), (3, _)] dX4_arePlacesSo_100 (by decide) rfl ?_
                refine j_iinc h 3 [(8, _), (7, _), (6, _), (9, _), (5, _), (4, _), (0, _), (1, _), (2, _), (3, _)] dX4_arePlacesSo_102 rfl (by decide) rfl ?_
                refine j_goto h 38 dX4_arePlacesSo_105 (by decide) ?_
                refine j_sub [0, 2, 1, 4, 5, 6, 7, 8, 9] rfl ?_
                first | exact absurd (c57.symm.trans c84) (by decide) | exact ih (z + 1) _ _ (by omega) (by omega) (by omega) (by first | exact fst_b c57 (by omega) c70 (by omega) hF | exact fst_n (Or.inl c57) hF | exact fst_n (Or.inr (Or.inl (by omega))) hF | exact fst_n (Or.inr (Or.inr c70)) hF) (by first | exact lst_b c84 (by omega) (by omega) | exact lst_n (Or.inl c84) hG | exact lst_n (Or.inr (by omega)) hG)
              · refine j_iload h 2 dX4_arePlacesSo_93 rfl ?_
                refine j_goto h 100 dX4_arePlacesSo_95 (by decide) ?_
                refine j_istore h [(7, _), (6, _), (9, _), (8, _), (5, _), (4, _), (0, _), (1, _), (2, _), (3, _)] dX4_arePlacesSo_100 (by decide) rfl ?_
                refine j_iinc h 3 [(8, _), (7, _), (6, _), (9, _), (5, _), (4, _), (0, _), (1, _), (2, _), (3, _)] dX4_arePlacesSo_102 rfl (by decide) rfl ?_
                refine j_goto h 38 dX4_arePlacesSo_105 (by decide) ?_
                refine j_sub [0, 2, 1, 4, 5, 6, 7, 8, 9] rfl ?_
                first | exact absurd (c57.symm.trans c84) (by decide) | exact ih (z + 1) _ _ (by omega) (by omega) (by omega) (by first | exact fst_b c57 (by omega) c70 (by omega) hF | exact fst_n (Or.inl c57) hF | exact fst_n (Or.inr (Or.inl (by omega))) hF | exact fst_n (Or.inr (Or.inr c70)) hF) (by first | exact lst_b c84 (by omega) (by omega) | exact lst_n (Or.inl c84) hG | exact lst_n (Or.inr (by omega)) hG)
          · refine j_iload h 2 dX4_arePlacesSo_67 rfl ?_
            refine j_iconst h dX4_arePlacesSo_69 ?_
            refine j_icmp_ne h 78 dX4_arePlacesSo_70 (by decide) (by first | exact okI_of _ | exact okI_b _ | exact okI_sgz _ _ | assumption | (unfold okI; omega)) (by first | exact okI_of _ | exact okI_b _ | exact okI_sgz _ _ | assumption | (unfold okI; omega)) (fun c70 => ?_) (fun c70 => ?_)
            · refine j_iload h 2 dX4_arePlacesSo_78 rfl ?_
              refine j_istore h [(6, _), (9, _), (8, _), (7, _), (5, _), (4, _), (0, _), (1, _), (2, _), (3, _)] dX4_arePlacesSo_80 (by decide) rfl ?_
              refine j_iload h 1 dX4_arePlacesSo_82 rfl ?_
              refine j_if_eq h 98 dX4_arePlacesSo_84 (by decide) (by first | exact okI_of _ | exact okI_b _ | exact okI_sgz _ _ | assumption | (unfold okI; omega)) (fun c84 => ?_) (fun c84 => ?_)
              · rw [bI_0] at c84
                refine j_iload h 3 dX4_arePlacesSo_98 rfl ?_
                refine j_istore h [(7, _), (6, _), (9, _), (8, _), (5, _), (4, _), (0, _), (1, _), (2, _), (3, _)] dX4_arePlacesSo_100 (by decide) rfl ?_
                refine j_iinc h 3 [(8, _), (7, _), (6, _), (9, _), (5, _), (4, _), (0, _), (1, _), (2, _), (3, _)] dX4_arePlacesSo_102 rfl (by decide) rfl ?_
                refine j_goto h 38 dX4_arePlacesSo_105 (by decide) ?_
                refine j_sub [0, 2, 1, 4, 5, 6, 7, 8, 9] rfl ?_
                first | exact absurd (c57.symm.trans c84) (by decide) | exact ih (z + 1) _ _ (by omega) (by omega) (by omega) (by first | exact fst_b c57 (by omega) c70 (by omega) hF | exact fst_n (Or.inl c57) hF | exact fst_n (Or.inr (Or.inl (by omega))) hF | exact fst_n (Or.inr (Or.inr c70)) hF) (by first | exact lst_b c84 (by omega) (by omega) | exact lst_n (Or.inl c84) hG | exact lst_n (Or.inr (by omega)) hG)
              · rw [bI_n0] at c84
                refine j_iload h 2 dX4_arePlacesSo_87 rfl ?_
                refine j_iload_n h 9 dX4_arePlacesSo_89 rfl rfl ?_
                refine j_icmp_gt h 98 dX4_arePlacesSo_90 (by decide) (by first | exact okI_of _ | exact okI_b _ | exact okI_sgz _ _ | assumption | (unfold okI; omega)) (by first | exact okI_of _ | exact okI_b _ | exact okI_sgz _ _ | assumption | (unfold okI; omega)) (fun c90 => ?_) (fun c90 => ?_)
                · refine j_iload h 3 dX4_arePlacesSo_98 rfl ?_
                  refine j_istore h [(7, _), (6, _), (9, _), (8, _), (5, _), (4, _), (0, _), (1, _), (2, _), (3, _)] dX4_arePlacesSo_100 (by decide) rfl ?_
                  refine j_iinc h 3 [(8, _), (7, _), (6, _), (9, _), (5, _), (4, _), (0, _), (1, _), (2, _), (3, _)] dX4_arePlacesSo_102 rfl (by decide) rfl ?_
                  refine j_goto h 38 dX4_arePlacesSo_105 (by decide) ?_
                  refine j_sub [0, 2, 1, 4, 5, 6, 7, 8, 9] rfl ?_
                  first | exact absurd (c57.symm.trans c84) (by decide) | exact ih (z + 1) _ _ (by omega) (by omega) (by omega) (by first | exact fst_b c57 (by omega) c70 (by omega) hF | exact fst_n (Or.inl c57) hF | exact fst_n (Or.inr (Or.inl (by omega))) hF | exact fst_n (Or.inr (Or.inr c70)) hF) (by first | exact lst_b c84 (by omega) (by omega) | exact lst_n (Or.inl c84) hG | exact lst_n (Or.inr (by omega)) hG)
                · refine j_iload h 2 dX4_arePlacesSo_93 rfl ?_
                  refine j_goto h 100 dX4_arePlacesSo_95 (by decide) ?_
                  refine j_istore h [(7, _), (6, _), (9, _), (8, _), (5, _), (4, _), (0, _), (1, _), (2, _), (3, _)] dX4_arePlacesSo_100 (by decide) rfl ?_
                  refine j_iinc h 3 [(8, _), (7, _), (6, _), (9, _), (5, _), (4, _), (0, _), (1, _), (2, _), (3, _)] dX4_arePlacesSo_102 rfl (by decide) rfl ?_
                  refine j_goto h 38 dX4_arePlacesSo_105 (by decide) ?_
                  refine j_sub [0, 2, 1, 4, 5, 6, 7, 8, 9] rfl ?_
                  first | exact absurd (c57.symm.trans c84) (by decide) | exact ih (z + 1) _ _ (by omega) (by omega) (by omega) (by first | exact fst_b c57 (by omega) c70 (by omega) hF | exact fst_n (Or.inl c57) hF | exact fst_n (Or.inr (Or.inl (by omega))) hF | exact fst_n (Or.inr (Or.inr c70)) hF) (by first | exact lst_b c84 (by omega) (by omega) | exact lst_n (Or.inl c84) hG | exact lst_n (Or.inr (by omega)) hG)
            · refine j_iload h 1 dX4_arePlacesSo_73 rfl ?_
              refine j_goto h 80 dX4_arePlacesSo_75 (by decide) ?_
              refine j_istore h [(6, _), (9, _), (8, _), (7, _), (5, _), (4, _), (0, _), (1, _), (2, _), (3, _)] dX4_arePlacesSo_80 (by decide) rfl ?_
              refine j_iload h 1 dX4_arePlacesSo_82 rfl ?_
              refine j_if_eq h 98 dX4_arePlacesSo_84 (by decide) (by first | exact okI_of _ | exact okI_b _ | exact okI_sgz _ _ | assumption | (unfold okI; omega)) (fun c84 => ?_) (fun c84 => ?_)
              · rw [bI_0] at c84
                refine j_iload h 3 dX4_arePlacesSo_98 rfl ?_
                refine j_istore h [(7, _), (6, _), (9, _), (8, _), (5, _), (4, _), (0, _), (1, _), (2, _), (3, _)] dX4_arePlacesSo_100 (by decide) rfl ?_
                refine j_iinc h 3 [(8, _), (7, _), (6, _), (9, _), (5, _), (4, _), (0, _), (1, _), (2, _), (3, _)] dX4_arePlacesSo_102 rfl (by decide) rfl ?_
                refine j_goto h 38 dX4_arePlacesSo_105 (by decide) ?_
                refine j_sub [0, 2, 1, 4, 5, 6, 7, 8, 9] rfl ?_
                first | exact absurd (c57.symm.trans c84) (by decide) | exact ih (z + 1) _ _ (by omega) (by omega) (by omega) (by first | exact fst_b c57 (by omega) c70 (by omega) hF | exact fst_n (Or.inl c57) hF | exact fst_n (Or.inr (Or.inl (by omega))) hF | exact fst_n (Or.inr (Or.inr c70)) hF) (by first | exact lst_b c84 (by omega) (by omega) | exact lst_n (Or.inl c84) hG | exact lst_n (Or.inr (by omega)) hG)
              · rw [bI_n0] at c84
                refine j_iload h 2 dX4_arePlacesSo_87 rfl ?_
                refine j_iload_n h 9 dX4_arePlacesSo_89 rfl rfl ?_
                refine j_icmp_gt h 98 dX4_arePlacesSo_90 (by decide) (by first | exact okI_of _ | exact okI_b _ | exact okI_sgz _ _ | assumption | (unfold okI; omega)) (by first | exact okI_of _ | exact okI_b _ | exact okI_sgz _ _ | assumption | (unfold okI; omega)) (fun c90 => ?_) (fun c90 => ?_)
                · refine j_iload h 3 dX4_arePlacesSo_98 rfl ?_
                  refine j_istore h [(7, _), (6, _), (9, _), (8, _), (5, _), (4, _), (0, _), (1, _), (2, _), (3, _)] dX4_arePlacesSo_100 (by decide) rfl ?_
                  refine j_iinc h 3 [(8, _), (7, _), (6, _), (9, _), (5, _), (4, _), (0, _), (1, _), (2, _), (3, _)] dX4_arePlacesSo_102 rfl (by decide) rfl ?_
                  refine j_goto h 38 dX4_arePlacesSo_105 (by decide) ?_
                  refine j_sub [0, 2, 1, 4, 5, 6, 7, 8, 9] rfl ?_
                  first | exact absurd (c57.symm.trans c84) (by decide) | exact ih (z + 1) _ _ (by omega) (by omega) (by omega) (by first | exact fst_b c57 (by omega) c70 (by omega) hF | exact fst_n (Or.inl c57) hF | exact fst_n (Or.inr (Or.inl (by omega))) hF | exact fst_n (Or.inr (Or.inr c70)) hF) (by first | exact lst_b c84 (by omega) (by omega) | exact lst_n (Or.inl c84) hG | exact lst_n (Or.inr (by omega)) hG)
                · refine j_iload h 2 dX4_arePlacesSo_93 rfl ?_
                  refine j_goto h 100 dX4_arePlacesSo_95 (by decide) ?_
                  refine j_istore h [(7, _), (6, _), (9, _), (8, _), (5, _), (4, _), (0, _), (1, _), (2, _), (3, _)] dX4_arePlacesSo_100 (by decide) rfl ?_
                  refine j_iinc h 3 [(8, _), (7, _), (6, _), (9, _), (5, _), (4, _), (0, _), (1, _), (2, _), (3, _)] dX4_arePlacesSo_102 rfl (by decide) rfl ?_
                  refine j_goto h 38 dX4_arePlacesSo_105 (by decide) ?_
                  refine j_sub [0, 2, 1, 4, 5, 6, 7, 8, 9] rfl ?_
                  first | exact absurd (c57.symm.trans c84) (by decide) | exact ih (z + 1) _ _ (by omega) (by omega) (by omega) (by first | exact fst_b c57 (by omega) c70 (by omega) hF | exact fst_n (Or.inl c57) hF | exact fst_n (Or.inr (Or.inl (by omega))) hF | exact fst_n (Or.inr (Or.inr c70)) hF) (by first | exact lst_b c84 (by omega) (by omega) | exact lst_n (Or.inl c84) hG | exact lst_n (Or.inr (by omega)) hG)
  · have es : (mxI 0 (mnI f (A.1 (sw a)).length)) = 0 := by omega
    refine j_iconst h dX4_arePlacesSo_11 ?_
    refine j_goto h 27 dX4_arePlacesSo_12 (by decide) ?_
    refine j_istore h [(5, _), (4, _), (0, _), (1, _), (2, _), (3, _)] dX4_arePlacesSo_27 (by decide) rfl ?_
    refine j_iconst h dX4_arePlacesSo_29 ?_
    refine j_istore h [(6, _), (5, _), (4, _), (0, _), (1, _), (2, _), (3, _)] dX4_arePlacesSo_30 (by decide) rfl ?_
    refine j_iconst h dX4_arePlacesSo_32 ?_
    refine j_istore h [(7, _), (6, _), (5, _), (4, _), (0, _), (1, _), (2, _), (3, _)] dX4_arePlacesSo_33 (by decide) rfl ?_
    refine j_iconst h dX4_arePlacesSo_35 ?_
    refine j_istore h [(8, _), (7, _), (6, _), (5, _), (4, _), (0, _), (1, _), (2, _), (3, _)] dX4_arePlacesSo_36 (by decide) rfl ?_
    refine j_sub [0, 2, 1, 3, 4, 5, 6, 7, 8] rfl ?_
    refine j_lv (lv2 := [(8, .int (iI 0)), (6, .int (iI (-1))), (7, .int (iI (-1))), (5, .int (iI (mxI 0 (mnI f (A.1 (sw a)).length)))), (4, .int (iI (A.1 (sw a)).length)), (0, eA E 76), (1, .int (iI a)), (2, .int (iI b)), (3, .int (iI f))]) (by rw [es]; rfl) ?_
    refine lpA3 (fun (z F G : Int) => ((A.1 (sw a)).length + 1 - z).toNat) (fun (z F G : Int) => 0 ≤ z → z ≤ (A.1 (sw a)).length + 1 → fstI (bz (A.1 (sw a)) (A.1 (sw b))) (mxI 0 (mnI f (A.1 (sw a)).length)) z F → lstI (bz (A.1 (sw a)) (A.1 (sw b))) f z G → JL E (RM E g0) X 38 [(8, .int (iI z)), (6, .int (iI F)), (7, .int (iI G)), (5, .int (iI (mxI 0 (mnI f (A.1 (sw a)).length)))), (4, .int (iI (A.1 (sw a)).length)), (0, eA E 76), (1, .int (iI a)), (2, .int (iI b)), (3, .int (iI f))] [] (A, mk)) (fun z F G ih h0 hzb hF hG => ?_) 0 (-1) (-1) (Int.le_refl 0) (by omega) (Or.inl ⟨rfl, fun k k1 k2 => by omega⟩) (Or.inl ⟨rfl, fun k k1 k2 _ => by omega⟩)
    have hFb : -1 ≤ F ∧ F < 400 := by rcases hF with ⟨w, _⟩ | ⟨w, v, _⟩ <;> omega
    have hGb : -1 ≤ G ∧ G < 400 := by rcases hG with ⟨w, _⟩ | ⟨w, v, _⟩ <;> omega
    refine j_iload h 0 dX4_arePlacesSo_38 rfl ?_
    refine j_iload h 4 dX4_arePlacesSo_40 rfl ?_
    refine j_icmp_gt h 108 dX4_arePlacesSo_42 (by decide) (by first | exact okI_of _ | exact okI_b _ | exact okI_sgz _ _ | assumption | (unfold okI; omega)) (by first | exact okI_of _ | exact okI_b _ | exact okI_sgz _ _ | assumption | (unfold okI; omega)) (fun c42 => ?_) (fun c42 => ?_)
    · refine j_aload_n h 5 dX4_arePlacesSo_108 rfl rfl ?_
      refine j_iload_n h 6 dX4_arePlacesSo_109 rfl rfl ?_
      refine j_iload_n h 7 dX4_arePlacesSo_110 rfl rfl ?_
      refine j_iload_n h 8 dX4_arePlacesSo_111 rfl rfl ?_
      refine j_callV h (c_X4_findFrom hE ha hb hf) m_X4_findFrom a_l_X4_108 rfl rfl ⟨Nat.le_of_ble_eq_true rfl, Nat.le_of_ble_eq_true rfl⟩ (ci := 4) rfl (by omega) (rcM) rfl rfl (Nat.le_of_ble_eq_true rfl) dX4_arePlacesSo_112 ?_
      have e1 := fst_end (by omega) hF
      refine j_iload h 1 dX4_arePlacesSo_115 rfl ?_
      refine j_icmp_ne h 136 dX4_arePlacesSo_117 (by decide) (by first | exact okI_of _ | exact okI_b _ | exact okI_sgz _ _ | assumption | (unfold okI; omega)) (by first | exact okI_of _ | exact okI_b _ | exact okI_sgz _ _ | assumption | (unfold okI; omega)) (fun c117 => ?_) (fun c117 => ?_)
      · exact absurd e1 c117
      · refine j_aload_n h 5 dX4_arePlacesSo_120 rfl rfl ?_
        refine j_iload_n h 6 dX4_arePlacesSo_121 rfl rfl ?_
        refine j_iload_n h 7 dX4_arePlacesSo_122 rfl rfl ?_
        refine j_iload_n h 8 dX4_arePlacesSo_123 rfl rfl ?_
        refine j_callV h (c_X4_findLastFrom hE ha hb hf) m_X4_findLastFrom a_l_X4_114 rfl rfl ⟨Nat.le_of_ble_eq_true rfl, Nat.le_of_ble_eq_true rfl⟩ (ci := 4) rfl (by omega) (rcM) rfl rfl (Nat.le_of_ble_eq_true rfl) dX4_arePlacesSo_124 ?_
        have e2 := lst_end (by omega) hG
        refine j_iload h 2 dX4_arePlacesSo_127 rfl ?_
        refine j_icmp_ne h 136 dX4_arePlacesSo_129 (by decide) (by first | exact okI_of _ | exact okI_b _ | exact okI_sgz _ _ | assumption | (unfold okI; omega)) (by first | exact okI_of _ | exact okI_b _ | exact okI_sgz _ _ | assumption | (unfold okI; omega)) (fun c129 => ?_) (fun c129 => ?_)
        · exact absurd e2 c129
        · refine j_iconst h dX4_arePlacesSo_132 ?_
          refine j_goto h 137 dX4_arePlacesSo_133 (by decide) ?_
          exact j_zret h hq rfl rfl dX4_arePlacesSo_137
    · refine j_aload_n h 5 dX4_arePlacesSo_45 rfl rfl ?_
      refine j_iload_n h 6 dX4_arePlacesSo_46 rfl rfl ?_
      refine j_iload_n h 7 dX4_arePlacesSo_47 rfl rfl ?_
      refine j_iload h 0 dX4_arePlacesSo_48 rfl ?_
      refine j_callV h (c_X4_stands hE ha hb (by unfold okI; omega)) m_X4_stands a_l_X4_111 rfl rfl ⟨Nat.le_of_ble_eq_true rfl, Nat.le_of_ble_eq_true rfl⟩ (ci := 4) rfl (by omega) (rcM) rfl rfl (Nat.le_of_ble_eq_true rfl) dX4_arePlacesSo_50 ?_
      refine j_istore h [(9, _), (8, _), (6, _), (7, _), (5, _), (4, _), (0, _), (1, _), (2, _), (3, _)] dX4_arePlacesSo_53 (by decide) rfl ?_
      refine j_iload h 0 dX4_arePlacesSo_55 rfl ?_
      refine j_if_eq h 78 dX4_arePlacesSo_57 (by decide) (by first | exact okI_of _ | exact okI_b _ | exact okI_sgz _ _ | assumption | (unfold okI; omega)) (fun c57 => ?_) (fun c57 => ?_)
      · rw [bI_0] at c57
        refine j_iload h 2 dX4_arePlacesSo_78 rfl ?_
        refine j_istore h [(6, _), (9, _), (8, _), (7, _), (5, _), (4, _), (0, _), (1, _), (2, _), (3, _)] dX4_arePlacesSo_80 (by decide) rfl ?_
        refine j_iload h 1 dX4_arePlacesSo_82 rfl ?_
        refine j_if_eq h 98 dX4_arePlacesSo_84 (by decide) (by first | exact okI_of _ | exact okI_b _ | exact okI_sgz _ _ | assumption | (unfold okI; omega)) (fun c84 => ?_) (fun c84 => ?_)
        · rw [bI_0] at c84
          refine j_iload h 3 dX4_arePlacesSo_98 rfl ?_
          refine j_istore h [(7, _), (6, _), (9, _), (8, _), (5, _), (4, _), (0, _), (1, _), (2, _), (3, _)] dX4_arePlacesSo_100 (by decide) rfl ?_
          refine j_iinc h 3 [(8, _), (7, _), (6, _), (9, _), (5, _), (4, _), (0, _), (1, _), (2, _), (3, _)] dX4_arePlacesSo_102 rfl (by decide) rfl ?_
          refine j_goto h 38 dX4_arePlacesSo_105 (by decide) ?_
          refine j_sub [0, 2, 1, 4, 5, 6, 7, 8, 9] rfl ?_
          first | exact absurd (c57.symm.trans c84) (by decide) | exact ih (z + 1) _ _ (by omega) (by omega) (by omega) (by first | exact fst_b c57 (by omega) c70 (by omega) hF | exact fst_n (Or.inl c57) hF | exact fst_n (Or.inr (Or.inl (by omega))) hF | exact fst_n (Or.inr (Or.inr c70)) hF) (by first | exact lst_b c84 (by omega) (by omega) | exact lst_n (Or.inl c84) hG | exact lst_n (Or.inr (by omega)) hG)
        · rw [bI_n0] at c84
          refine j_iload h 2 dX4_arePlacesSo_87 rfl ?_
          refine j_iload_n h 9 dX4_arePlacesSo_89 rfl rfl ?_
          refine j_icmp_gt h 98 dX4_arePlacesSo_90 (by decide) (by first | exact okI_of _ | exact okI_b _ | exact okI_sgz _ _ | assumption | (unfold okI; omega)) (by first | exact okI_of _ | exact okI_b _ | exact okI_sgz _ _ | assumption | (unfold okI; omega)) (fun c90 => ?_) (fun c90 => ?_)
          · refine j_iload h 3 dX4_arePlacesSo_98 rfl ?_
            refine j_istore h [(7, _), (6, _), (9, _), (8, _), (5, _), (4, _), (0, _), (1, _), (2, _), (3, _)] dX4_arePlacesSo_100 (by decide) rfl ?_
            refine j_iinc h 3 [(8, _), (7, _), (6, _), (9, _), (5, _), (4, _), (0, _), (1, _), (2, _), (3, _)] dX4_arePlacesSo_102 rfl (by decide) rfl ?_
            refine j_goto h 38 dX4_arePlacesSo_105 (by decide) ?_
            refine j_sub [0, 2, 1, 4, 5, 6, 7, 8, 9] rfl ?_
            first | exact absurd (c57.symm.trans c84) (by decide) | exact ih (z + 1) _ _ (by omega) (by omega) (by omega) (by first | exact fst_b c57 (by omega) c70 (by omega) hF | exact fst_n (Or.inl c57) hF | exact fst_n (Or.inr (Or.inl (by omega))) hF | exact fst_n (Or.inr (Or.inr c70)) hF) (by first | exact lst_b c84 (by omega) (by omega) | exact lst_n (Or.inl c84) hG | exact lst_n (Or.inr (by omega)) hG)
          · refine j_iload h 2 dX4_arePlacesSo_93 rfl ?_
            refine j_goto h 100 dX4_arePlacesSo_95 (by decide) ?_
            refine j_istore h [(7, _), (6, _), (9, _), (8, _), (5, _), (4, _), (0, _), (1, _), (2, _), (3, _)] dX4_arePlacesSo_100 (by decide) rfl ?_
            refine j_iinc h 3 [(8, _), (7, _), (6, _), (9, _), (5, _), (4, _), (0, _), (1, _), (2, _), (3, _)] dX4_arePlacesSo_102 rfl (by decide) rfl ?_
            refine j_goto h 38 dX4_arePlacesSo_105 (by decide) ?_
            refine j_sub [0, 2, 1, 4, 5, 6, 7, 8, 9] rfl ?_
            first | exact absurd (c57.symm.trans c84) (by decide) | exact ih (z + 1) _ _ (by omega) (by omega) (by omega) (by first | exact fst_b c57 (by omega) c70 (by omega) hF | exact fst_n (Or.inl c57) hF | exact fst_n (Or.inr (Or.inl (by omega))) hF | exact fst_n (Or.inr (Or.inr c70)) hF) (by first | exact lst_b c84 (by omega) (by omega) | exact lst_n (Or.inl c84) hG | exact lst_n (Or.inr (by omega)) hG)
      · rw [bI_n0] at c57
        refine j_iload h 1 dX4_arePlacesSo_60 rfl ?_
        refine j_iload h 4 dX4_arePlacesSo_62 rfl ?_
        refine j_icmp_lt h 78 dX4_arePlacesSo_64 (by decide) (by first | exact okI_of _ | exact okI_b _ | exact okI_sgz _ _ | assumption | (unfold okI; omega)) (by first | exact okI_of _ | exact okI_b _ | exact okI_sgz _ _ | assumption | (unfold okI; omega)) (fun c64 => ?_) (fun c64 => ?_)
        · refine j_iload h 2 dX4_arePlacesSo_78 rfl ?_
          refine j_istore h [(6, _), (9, _), (8, _), (7, _), (5, _), (4, _), (0, _), (1, _), (2, _), (3, _)] dX4_arePlacesSo_80 (by decide) rfl ?_
          refine j_iload h 1 dX4_arePlacesSo_82 rfl ?_
          refine j_if_eq h 98 dX4_arePlacesSo_84 (by decide) (by first | exact okI_of _ | exact okI_b _ | exact okI_sgz _ _ | assumption | (unfold okI; omega)) (fun c84 => ?_) (fun c84 => ?_)
          · rw [bI_0] at c84
            refine j_iload h 3 dX4_arePlacesSo_98 rfl ?_
            refine j_istore h [(7, _), (6, _), (9, _), (8, _), (5, _), (4, _), (0, _), (1, _), (2, _), (3, _)] dX4_arePlacesSo_100 (by decide) rfl ?_
            refine j_iinc h 3 [(8, _), (7, _), (6, _), (9, _), (5, _), (4, _), (0, _), (1, _), (2, _), (3, _)] dX4_arePlacesSo_102 rfl (by decide) rfl ?_
            refine j_goto h 38 dX4_arePlacesSo_105 (by decide) ?_
            refine j_sub [0, 2, 1, 4, 5, 6, 7, 8, 9] rfl ?_
            first | exact absurd (c57.symm.trans c84) (by decide) | exact ih (z + 1) _ _ (by omega) (by omega) (by omega) (by first | exact fst_b c57 (by omega) c70 (by omega) hF | exact fst_n (Or.inl c57) hF | exact fst_n (Or.inr (Or.inl (by omega))) hF | exact fst_n (Or.inr (Or.inr c70)) hF) (by first | exact lst_b c84 (by omega) (by omega) | exact lst_n (Or.inl c84) hG | exact lst_n (Or.inr (by omega)) hG)
          · rw [bI_n0] at c84
            refine j_iload h 2 dX4_arePlacesSo_87 rfl ?_
            refine j_iload_n h 9 dX4_arePlacesSo_89 rfl rfl ?_
            refine j_icmp_gt h 98 dX4_arePlacesSo_90 (by decide) (by first | exact okI_of _ | exact okI_b _ | exact okI_sgz _ _ | assumption | (unfold okI; omega)) (by first | exact okI_of _ | exact okI_b _ | exact okI_sgz _ _ | assumption | (unfold okI; omega)) (fun c90 => ?_) (fun c90 => ?_)
            · refine j_iload h 3 dX4_arePlacesSo_98 rfl ?_
              refine j_istore h [(7, _), (6, _), (9, _), (8, _), (5, _), (4, _), (0, _), (1, _), (2, _), (3, _)] dX4_arePlacesSo_100 (by decide) rfl ?_
              refine j_iinc h 3 [(8, _), (7, _), (6, _), (9, _), (5, _), (4, _), (0, _), (1, _), (2, _), (3, _)] dX4_arePlacesSo_102 rfl (by decide) rfl ?_
              refine j_goto h 38 dX4_arePlacesSo_105 (by decide) ?_
              refine j_sub [0, 2, 1, 4, 5, 6, 7, 8, 9] rfl ?_
              first | exact absurd (c57.symm.trans c84) (by decide) | exact ih (z + 1) _ _ (by omega) (by omega) (by omega) (by first | exact fst_b c57 (by omega) c70 (by omega) hF | exact fst_n (Or.inl c57) hF | exact fst_n (Or.inr (Or.inl (by omega))) hF | exact fst_n (Or.inr (Or.inr c70)) hF) (by first | exact lst_b c84 (by omega) (by omega) | exact lst_n (Or.inl c84) hG | exact lst_n (Or.inr (by omega)) hG)
            · refine j_iload h 2 dX4_arePlacesSo_93 rfl ?_
              refine j_goto h 100 dX4_arePlacesSo_95 (by decide) ?_
              refine j_istore h [(7, _), (6, _), (9, _), (8, _), (5, _), (4, _), (0, _), (1, _), (2, _), (3, _)] dX4_arePlacesSo_100 (by decide) rfl ?_
              refine j_iinc h 3 [(8, _), (7, _), (6, _), (9, _), (5, _), (4, _), (0, _), (1, _), (2, _), (3, _)] dX4_arePlacesSo_102 rfl (by decide) rfl ?_
              refine j_goto h 38 dX4_arePlacesSo_105 (by decide) ?_
              refine j_sub [0, 2, 1, 4, 5, 6, 7, 8, 9] rfl ?_
              first | exact absurd (c57.symm.trans c84) (by decide) | exact ih (z + 1) _ _ (by omega) (by omega) (by omega) (by first | exact fst_b c57 (by omega) c70 (by omega) hF | exact fst_n (Or.inl c57) hF | exact fst_n (Or.inr (Or.inl (by omega))) hF | exact fst_n (Or.inr (Or.inr c70)) hF) (by first | exact lst_b c84 (by omega) (by omega) | exact lst_n (Or.inl c84) hG | exact lst_n (Or.inr (by omega)) hG)
        · refine j_iload h 2 dX4_arePlacesSo_67 rfl ?_
          refine j_iconst h dX4_arePlacesSo_69 ?_
          refine j_icmp_ne h 78 dX4_arePlacesSo_70 (by decide) (by first | exact okI_of _ | exact okI_b _ | exact okI_sgz _ _ | assumption | (unfold okI; omega)) (by first | exact okI_of _ | exact okI_b _ | exact okI_sgz _ _ | assumption | (unfold okI; omega)) (fun c70 => ?_) (fun c70 => ?_)
          · refine j_iload h 2 dX4_arePlacesSo_78 rfl ?_
            refine j_istore h [(6, _), (9, _), (8, _), (7, _), (5, _), (4, _), (0, _), (1, _), (2, _), (3, _)] dX4_arePlacesSo_80 (by decide) rfl ?_
            refine j_iload h 1 dX4_arePlacesSo_82 rfl ?_
            refine j_if_eq h 98 dX4_arePlacesSo_84 (by decide) (by first | exact okI_of _ | exact okI_b _ | exact okI_sgz _ _ | assumption | (unfold okI; omega)) (fun c84 => ?_) (fun c84 => ?_)
            · rw [bI_0] at c84
              refine j_iload h 3 dX4_arePlacesSo_98 rfl ?_
              refine j_istore h [(7, _), (6, _), (9, _), (8, _), (5, _), (4, _), (0, _), (1, _), (2, _), (3, _)] dX4_arePlacesSo_100 (by decide) rfl ?_
              refine j_iinc h 3 [(8, _), (7, _), (6, _), (9, _), (5, _), (4, _), (0, _), (1, _), (2, _), (3, _)] dX4_arePlacesSo_102 rfl (by decide) rfl ?_
              refine j_goto h 38 dX4_arePlacesSo_105 (by decide) ?_
              refine j_sub [0, 2, 1, 4, 5, 6, 7, 8, 9] rfl ?_
              first | exact absurd (c57.symm.trans c84) (by decide) | exact ih (z + 1) _ _ (by omega) (by omega) (by omega) (by first | exact fst_b c57 (by omega) c70 (by omega) hF | exact fst_n (Or.inl c57) hF | exact fst_n (Or.inr (Or.inl (by omega))) hF | exact fst_n (Or.inr (Or.inr c70)) hF) (by first | exact lst_b c84 (by omega) (by omega) | exact lst_n (Or.inl c84) hG | exact lst_n (Or.inr (by omega)) hG)
            · rw [bI_n0] at c84
              refine j_iload h 2 dX4_arePlacesSo_87 rfl ?_
              refine j_iload_n h 9 dX4_arePlacesSo_89 rfl rfl ?_
              refine j_icmp_gt h 98 dX4_arePlacesSo_90 (by decide) (by first | exact okI_of _ | exact okI_b _ | exact okI_sgz _ _ | assumption | (unfold okI; omega)) (by first | exact okI_of _ | exact okI_b _ | exact okI_sgz _ _ | assumption | (unfold okI; omega)) (fun c90 => ?_) (fun c90 => ?_)
              · refine j_iload h 3 dX4_arePlacesSo_98 rfl ?_
                refine j_istore h [(7, _), (6, _), (9, _), (8, _), (5, _), (4, _), (0, _), (1, _), (2, _), (3, _)] dX4_arePlacesSo_100 (by decide) rfl ?_
                refine j_iinc h 3 [(8, _), (7, _), (6, _), (9, _), (5, _), (4, _), (0, _), (1, _), (2, _), (3, _)] dX4_arePlacesSo_102 rfl (by decide) rfl ?_
                refine j_goto h 38 dX4_arePlacesSo_105 (by decide) ?_
                refine j_sub [0, 2, 1, 4, 5, 6, 7, 8, 9] rfl ?_
                first | exact absurd (c57.symm.trans c84) (by decide) | exact ih (z + 1) _ _ (by omega) (by omega) (by omega) (by first | exact fst_b c57 (by omega) c70 (by omega) hF | exact fst_n (Or.inl c57) hF | exact fst_n (Or.inr (Or.inl (by omega))) hF | exact fst_n (Or.inr (Or.inr c70)) hF) (by first | exact lst_b c84 (by omega) (by omega) | exact lst_n (Or.inl c84) hG | exact lst_n (Or.inr (by omega)) hG)
              · refine j_iload h 2 dX4_arePlacesSo_93 rfl ?_
                refine j_goto h 100 dX4_arePlacesSo_95 (by decide) ?_
                refine j_istore h [(7, _), (6, _), (9, _), (8, _), (5, _), (4, _), (0, _), (1, _), (2, _), (3, _)] dX4_arePlacesSo_100 (by decide) rfl ?_
                refine j_iinc h 3 [(8, _), (7, _), (6, _), (9, _), (5, _), (4, _), (0, _), (1, _), (2, _), (3, _)] dX4_arePlacesSo_102 rfl (by decide) rfl ?_
                refine j_goto h 38 dX4_arePlacesSo_105 (by decide) ?_
                refine j_sub [0, 2, 1, 4, 5, 6, 7, 8, 9] rfl ?_
                first | exact absurd (c57.symm.trans c84) (by decide) | exact ih (z + 1) _ _ (by omega) (by omega) (by omega) (by first | exact fst_b c57 (by omega) c70 (by omega) hF | exact fst_n (Or.inl c57) hF | exact fst_n (Or.inr (Or.inl (by omega))) hF | exact fst_n (Or.inr (Or.inr c70)) hF) (by first | exact lst_b c84 (by omega) (by omega) | exact lst_n (Or.inl c84) hG | exact lst_n (Or.inr (by omega)) hG)
          · refine j_iload h 1 dX4_arePlacesSo_73 rfl ?_
            refine j_goto h 80 dX4_arePlacesSo_75 (by decide) ?_
            refine j_istore h [(6, _), (9, _), (8, _), (7, _), (5, _), (4, _), (0, _), (1, _), (2, _), (3, _)] dX4_arePlacesSo_80 (by decide) rfl ?_
            refine j_iload h 1 dX4_arePlacesSo_82 rfl ?_
            refine j_if_eq h 98 dX4_arePlacesSo_84 (by decide) (by first | exact okI_of _ | exact okI_b _ | exact okI_sgz _ _ | assumption | (unfold okI; omega)) (fun c84 => ?_) (fun c84 => ?_)
            · rw [bI_0] at c84
              refine j_iload h 3 dX4_arePlacesSo_98 rfl ?_
              refine j_istore h [(7, _), (6, _), (9, _), (8, _), (5, _), (4, _), (0, _), (1, _), (2, _), (3, _)] dX4_arePlacesSo_100 (by decide) rfl ?_
              refine j_iinc h 3 [(8, _), (7, _), (6, _), (9, _), (5, _), (4, _), (0, _), (1, _), (2, _), (3, _)] dX4_arePlacesSo_102 rfl (by decide) rfl ?_
              refine j_goto h 38 dX4_arePlacesSo_105 (by decide) ?_
              refine j_sub [0, 2, 1, 4, 5, 6, 7, 8, 9] rfl ?_
              first | exact absurd (c57.symm.trans c84) (by decide) | exact ih (z + 1) _ _ (by omega) (by omega) (by omega) (by first | exact fst_b c57 (by omega) c70 (by omega) hF | exact fst_n (Or.inl c57) hF | exact fst_n (Or.inr (Or.inl (by omega))) hF | exact fst_n (Or.inr (Or.inr c70)) hF) (by first | exact lst_b c84 (by omega) (by omega) | exact lst_n (Or.inl c84) hG | exact lst_n (Or.inr (by omega)) hG)
            · rw [bI_n0] at c84
              refine j_iload h 2 dX4_arePlacesSo_87 rfl ?_
              refine j_iload_n h 9 dX4_arePlacesSo_89 rfl rfl ?_
              refine j_icmp_gt h 98 dX4_arePlacesSo_90 (by decide) (by first | exact okI_of _ | exact okI_b _ | exact okI_sgz _ _ | assumption | (unfold okI; omega)) (by first | exact okI_of _ | exact okI_b _ | exact okI_sgz _ _ | assumption | (unfold okI; omega)) (fun c90 => ?_) (fun c90 => ?_)
              · refine j_iload h 3 dX4_arePlacesSo_98 rfl ?_
                refine j_istore h [(7, _), (6, _), (9, _), (8, _), (5, _), (4, _), (0, _), (1, _), (2, _), (3, _)] dX4_arePlacesSo_100 (by decide) rfl ?_
                refine j_iinc h 3 [(8, _), (7, _), (6, _), (9, _), (5, _), (4, _), (0, _), (1, _), (2, _), (3, _)] dX4_arePlacesSo_102 rfl (by decide) rfl ?_
                refine j_goto h 38 dX4_arePlacesSo_105 (by decide) ?_
                refine j_sub [0, 2, 1, 4, 5, 6, 7, 8, 9] rfl ?_
                first | exact absurd (c57.symm.trans c84) (by decide) | exact ih (z + 1) _ _ (by omega) (by omega) (by omega) (by first | exact fst_b c57 (by omega) c70 (by omega) hF | exact fst_n (Or.inl c57) hF | exact fst_n (Or.inr (Or.inl (by omega))) hF | exact fst_n (Or.inr (Or.inr c70)) hF) (by first | exact lst_b c84 (by omega) (by omega) | exact lst_n (Or.inl c84) hG | exact lst_n (Or.inr (by omega)) hG)
              · refine j_iload h 2 dX4_arePlacesSo_93 rfl ?_
                refine j_goto h 100 dX4_arePlacesSo_95 (by decide) ?_
                refine j_istore h [(7, _), (6, _), (9, _), (8, _), (5, _), (4, _), (0, _), (1, _), (2, _), (3, _)] dX4_arePlacesSo_100 (by decide) rfl ?_
                refine j_iinc h 3 [(8, _), (7, _), (6, _), (9, _), (5, _), (4, _), (0, _), (1, _), (2, _), (3, _)] dX4_arePlacesSo_102 rfl (by decide) rfl ?_
                refine j_goto h 38 dX4_arePlacesSo_105 (by decide) ?_
                refine j_sub [0, 2, 1, 4, 5, 6, 7, 8, 9] rfl ?_
                first | exact absurd (c57.symm.trans c84) (by decide) | exact ih (z + 1) _ _ (by omega) (by omega) (by omega) (by first | exact fst_b c57 (by omega) c70 (by omega) hF | exact fst_n (Or.inl c57) hF | exact fst_n (Or.inr (Or.inl (by omega))) hF | exact fst_n (Or.inr (Or.inr c70)) hF) (by first | exact lst_b c84 (by omega) (by omega) | exact lst_n (Or.inl c84) hG | exact lst_n (Or.inr (by omega)) hG)
