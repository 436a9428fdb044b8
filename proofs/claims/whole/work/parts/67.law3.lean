/-! the law: its loop, and its start -/
def tgL : List Nat := [248, 271, 304, 377, 410, 443, 486, 539, 582, 615, 678, 701, 724, 747, 780, 803, 836, 879, 912, 955, 988, 1031, 1064, 1107, 1140, 1173, 1216, 1249, 1312, 1375, 1408, 1441, 1474, 1507, 1560, 1613, 1646, 1679, 1722, 1755, 1798, 1811, 1844, 1877, 1910, 1943, 1976, 2019, 2042, 2065]
theorem sw_all : ∀ k : Fin 50, (#[215, 238, 271, 344, 377, 410, 453, 506, 549, 582, 645, 668, 691, 714, 747, 770, 803, 846, 879, 922, 955, 998, 1031, 1074, 1107, 1140, 1183, 1216, 1279, 1342, 1375, 1408, 1441, 1474, 1527, 1580, 1613, 1646, 1689, 1722, 1765, 1778, 1811, 1844, 1877, 1910, 1943, 1986, 2009, 2032] : Array Int)[k.val]? = some ((tgL.getD k.val 0 : Int) - 33) := by decide +kernel
set_option maxRecDepth 20000 in
theorem law_at {E : EV} (hE : EOK E) {q v0 : Nat} (hXS : EXS E q v0) {X : TX} {b L : Nat} {xs : Nat → Int32} (h : CX E X cL_law RL ret room_1 4) (hX : LX X b L xs) (hL : L ≤ 3072) {z : Int} (h0 : 0 ≤ z) (h1 : z ≤ L - 6) {A : AS} (K : ∀ A2 : AS, JL E (LQP E) X 2079 [(3, .int (iI z)), (2, eA E 76), (1, eA E 74), (0, .ref b)] [] (A2, A2)) : ∀ k, k < 50 → JL E (LQP E) X (tgL.getD k 0) [(3, .int (iI z)), (2, eA E 76), (1, eA E 74), (0, .ref b)] [] (A, A) := fun k hk => match k, hk with
  | 0, _ => law_0 hE hXS h hX hL h0 h1 K
  | 1, _ => law_1 hE hXS h hX hL h0 h1 K
  | 2, _ => law_2 hE hXS h hX hL h0 h1 K
  | 3, _ => law_3 hE hXS h hX hL h0 h1 K
  | 4, _ => law_4 hE hXS h hX hL h0 h1 K
  | 5, _ => law_5 hE hXS h hX hL h0 h1 K
  | 6, _ => law_6 hE hXS h hX hL h0 h1 K
  | 7, _ => law_7 hE hXS h hX hL h0 h1 K
  | 8, _ => law_8 hE hXS h hX hL h0 h1 K
  | 9, _ => law_9 hE hXS h hX hL h0 h1 K
  | 10, _ => law_10 hE hXS h hX hL h0 h1 K
  | 11, _ => law_11 hE hXS h hX hL h0 h1 K
  | 12, _ => law_12 hE hXS h hX hL h0 h1 K
  | 13, _ => law_13 hE hXS h hX hL h0 h1 K
  | 14, _ => law_14 hE hXS h hX hL h0 h1 K
  | 15, _ => law_15 hE hXS h hX hL h0 h1 K
  | 16, _ => law_16 hE hXS h hX hL h0 h1 K
  | 17, _ => law_17 hE hXS h hX hL h0 h1 K
  | 18, _ => law_18 hE hXS h hX hL h0 h1 K
  | 19, _ => law_19 hE hXS h hX hL h0 h1 K
  | 20, _ => law_20 hE hXS h hX hL h0 h1 K
  | 21, _ => law_21 hE hXS h hX hL h0 h1 K
  | 22, _ => law_22 hE hXS h hX hL h0 h1 K
  | 23, _ => law_23 hE hXS h hX hL h0 h1 K
  | 24, _ => law_24 hE hXS h hX hL h0 h1 K
  | 25, _ => law_25 hE hXS h hX hL h0 h1 K
  | 26, _ => law_26 hE hXS h hX hL h0 h1 K
  | 27, _ => law_27 hE hXS h hX hL h0 h1 K
  | 28, _ => law_28 hE hXS h hX hL h0 h1 K
  | 29, _ => law_29 hE hXS h hX hL h0 h1 K
  | 30, _ => law_30 hE hXS h hX hL h0 h1 K
  | 31, _ => law_31 hE hXS h hX hL h0 h1 K
  | 32, _ => law_32 hE hXS h hX hL h0 h1 K
  | 33, _ => law_33 hE hXS h hX hL h0 h1 K
  | 34, _ => law_34 hE hXS h hX hL h0 h1 K
  | 35, _ => law_35 hE hXS h hX hL h0 h1 K
  | 36, _ => law_36 hE hXS h hX hL h0 h1 K
  | 37, _ => law_37 hE hXS h hX hL h0 h1 K
  | 38, _ => law_38 hE hXS h hX hL h0 h1 K
  | 39, _ => law_39 hE hXS h hX hL h0 h1 K
  | 40, _ => law_40 hE hXS h hX hL h0 h1 K
  | 41, _ => law_41 hE hXS h hX hL h0 h1 K
  | 42, _ => law_42 hE hXS h hX hL h0 h1 K
  | 43, _ => law_43 hE hXS h hX hL h0 h1 K
  | 44, _ => law_44 hE hXS h hX hL h0 h1 K
  | 45, _ => law_45 hE hXS h hX hL h0 h1 K
  | 46, _ => law_46 hE hXS h hX hL h0 h1 K
  | 47, _ => law_47 hE hXS h hX hL h0 h1 K
  | 48, _ => law_48 hE hXS h hX hL h0 h1 K
  | 49, _ => law_49 hE hXS h hX hL h0 h1 K
  | k + 50, w => absurd w (by omega)
set_option maxHeartbeats 400000 in
set_option maxRecDepth 20000 in
theorem law_loop {E : EV} (hE : EOK E) {q v0 : Nat} (hXS : EXS E q v0) {X : TX} {b L : Nat} {xs : Nat → Int32} (h : CX E X cL_law RL ret room_1 4) (hX : LX X b L xs) (hL : L ≤ 3072) : ∀ (z : Int) (A : AS), 0 ≤ z → z ≤ 4000 → JL E (LQP E) X 18 [(3, .int (iI z)), (2, eA E 76), (1, eA E 74), (0, .ref b)] [] (A, A) := by
  refine lpA2 (fun (z : Int) (_ : AS) => (5000 - z).toNat) (fun (z : Int) (A : AS) => 0 ≤ z → z ≤ 4000 → JL E (LQP E) X 18 [(3, .int (iI z)), (2, eA E 76), (1, eA E 74), (0, .ref b)] [] (A, A)) (fun z A ih h0 hb => ?_)
  refine j_iload_n h 0 dL_law_18 rfl rfl ?_
  refine j_aload_n h 3 dL_law_19 rfl rfl ?_
  refine j_slen h hX dL_law_20 ?_
  refine j_bipush h dL_law_21 (by decide) ?_
  refine j_isub h dL_law_23 ?_
  refine j_icmp_gt h 2085 dL_law_24 (by decide) (by unfold okI; omega) (by unfold okI; omega) (fun c => ?_) (fun c => ?_)
  · refine j_iconst h dL_law_2085 ?_
    exact j_law1 h hX dL_law_2086
  · refine j_aload_n h 3 dL_law_27 rfl rfl ?_
    refine j_iload_n h 0 dL_law_28 rfl rfl ?_
    refine j_sld h hX hL h0 (by omega) dL_law_29 ?_
    refine j_bipush h dL_law_30 (by decide) ?_
    refine j_iand h _ dL_law_32 rfl ?_
    generalize iI (xs z.toNat).toInt &&& iI 63 = y
    have K : ∀ A2 : AS, JL E (LQP E) X 2079 [(3, .int (iI z)), (2, eA E 76), (1, eA E 74), (0, .ref b)] [] (A2, A2) := fun A2 => by
      refine j_iinc h 0 [(3, _), (2, _), (1, _), (0, _)] dL_law_2079 rfl (by decide) rfl ?_
      refine j_goto h 18 dL_law_2082 (by decide) ?_
      exact ih (z + 6) A2 (by omega) (by omega) (by omega)
    by_cases hs : y.toInt < 0 ∨ 49 < y.toInt
    · exact j_swOut h 2079 dL_law_33 hs (by decide) (K A)
    · have hk : y.toInt.toNat < 50 := by omega
      refine j_swIn h (o := (tgL.getD y.toInt.toNat 0 : Int) - 33) (tgL.getD y.toInt.toNat 0) dL_law_33 (fun w => hs (Or.inl w)) (fun w => hs (Or.inr w)) (by rw [Int.sub_zero]; exact sw_all ⟨y.toInt.toNat, hk⟩) (by omega) ?_
      exact law_at hE hXS h hX hL h0 c K _ hk
theorem fsM_ok : ∀ j, j < 14 → defaultValue (tyX4 j) = vp_V fsM j := fun j hj => match j, hj with
  | 0, _ => rfl
  | 1, _ => rfl
  | 2, _ => rfl
  | 3, _ => rfl
  | 4, _ => rfl
  | 5, _ => rfl
  | 6, _ => rfl
  | 7, _ => rfl
  | 8, _ => rfl
  | 9, _ => rfl
  | 10, _ => rfl
  | 11, _ => rfl
  | 12, _ => rfl
  | 13, _ => rfl
  | k + 14, w => absurd w (by omega)
theorem fsS_ok : ∀ j, j < 5 → defaultValue (tyX3 j) = vp_V fsS j := fun j hj => match j, hj with
  | 0, _ => rfl
  | 1, _ => rfl
  | 2, _ => rfl
  | 3, _ => rfl
  | 4, _ => rfl
  | k + 5, w => absurd w (by omega)
theorem m_over (C : String) (i : Nat) (h : tables_1[i]? = some (Cond.arrayOver (.object C))) : Cond.arrayOver (.object C) ∈ lw_tbl := List.mem_append_right _ (List.mem_of_getElem? h)
/-- the String constant at the start -/
theorem StrF_0 {s : State} {b : Nat} (hts : ∀ w ∈ lw_tbl, w.before #[Value.ref b] s = true) (hgv : (Jvm.Cond.and given_1 narrow_1).before #[Value.ref b] s = true) : ∃ q v, StrF q v (fun a => s.heap.size ≤ a) s s.heap := by
  have hs := flat_of_before _ hgv
  have hA : ∀ a : Nat, a < s.heap.size → ¬ s.heap.size ≤ a := fun a h1 h2 => by omega
  obtain ⟨adK, adV, hv, hev⟩ := vk_Sof (args := #[Value.ref b]) (s := s) (N := 1) (tm := fun _ => Term.string "TextShelves" 184) (len := [12]) (byt := [pt12]) (A := fun a => s.heap.size ≤ a)
    (fun i hi => by obtain rfl : i = 0 := by omega
                    decide)
    (fun i _ => hs _ (by decide +kernel)) (fun i _ => hs _ (by decide +kernel)) (fun i _ => hs _ (by decide +kernel))
    (fun i hi => by obtain rfl : i = 0 := by omega
                    exact hs _ (by decide +kernel))
    (fun i hi j hj => by
      obtain rfl : i = 0 := by omega
      have hj2 : j < 12 := hj
      match j, hj2 with
      | 0, _ => exact hs _ (by decide +kernel)
      | 1, _ => exact hs _ (by decide +kernel)
      | 2, _ => exact hs _ (by decide +kernel)
      | 3, _ => exact hs _ (by decide +kernel)
      | 4, _ => exact hs _ (by decide +kernel)
      | 5, _ => exact hs _ (by decide +kernel)
      | 6, _ => exact hs _ (by decide +kernel)
      | 7, _ => exact hs _ (by decide +kernel)
      | 8, _ => exact hs _ (by decide +kernel)
      | 9, _ => exact hs _ (by decide +kernel)
      | 10, _ => exact hs _ (by decide +kernel)
      | 11, _ => exact hs _ (by decide +kernel)
      | k + 12, w => exact absurd w (by omega))
    (fun i j hi hj hij => by omega) hA
  refine ⟨adK 0, adV 0, ⟨_, vk_R.of (A := #[Value.ref b]) (hts (.stringRef "TextShelves" 184 ".$|()[{^?*+\\") (List.mem_append_right _ (List.mem_of_getElem? (i := 409) (by decide +kernel)))) (hev 0 (by decide))⟩, ⟨fun i hi => ?_, fun i j hi hj _ => by omega⟩, ?_⟩
  · obtain rfl : i = 0 := by omega
    exact hv.1 0 hi
  · exact va_Zof (hts (.laysStatic "java/lang/String" "COMPACT_STRINGS" "Z") (List.mem_append_right _ (List.mem_of_getElem? (i := 423) (by decide +kernel)))) (hts _ (aw_tbl a_n_J0)) (va_eqi (hs _ (by decide +kernel))) hA
theorem nwl_0 {s : State} {b : Nat} (hts : ∀ w ∈ lw_tbl, w.before #[Value.ref b] s = true) : ∀ w ∈ nwl, va_Nw w s :=
  nwl_cases (va_Nw.of rfl (hts _ (List.mem_append_right _ (List.mem_of_getElem? (i := 65) (by decide +kernel))))) (va_Nw.of rfl (hts _ (List.mem_append_right _ (List.mem_of_getElem? (i := 286) (by decide +kernel))))) (va_Nw.of rfl (hts _ (List.mem_append_right _ (List.mem_of_getElem? (i := 222) (by decide +kernel)))))
theorem arr_int {s : State} {args : Array Value} (h : (Cond.arrayClass .int).before args s = true) : ∃ cI : ClassId, ArrOfT s cI .int ∧ va_RA s cI .int := by
  obtain ⟨cA, kA, comp, h1, h2, h3⟩ := Cond.arrayClass_spec h
  exact ⟨cA, fun n z => ⟨fun k h => (by cases h), kA, h2, comp, h3⟩, h1⟩
theorem arr_ref {s : State} {C : String} {args : Array Value} (h : (Cond.arrayOver (.object C)).before args s = true) : ∃ cA : ClassId, ArrOfT s cA (.object C) ∧ va_RA s cA (.object C) := by
  obtain ⟨comp, cA, kA, h1, -, h3, h4, h5⟩ := Cond.arrayOver_spec h
  exact ⟨cA, fun n z => ⟨fun k h => (by cases h), kA, h3, comp, h4⟩, kA, comp, h3, h4, h1, h5⟩
