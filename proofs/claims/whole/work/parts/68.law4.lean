/-! the law from its entry -/
set_option maxHeartbeats 1000000 in
set_option maxRecDepth 20000 in
/-- from the entry, for every script of at most 3072 ints, the law comes to its end with true -/
theorem whole_start {p : Program} {e : Env} {s : State} {m : MethodId} {below : List Frame} {meth : Method} {c : Code} (l : Launch) (hflags : l.flags = flags0) {b L : Nat} {xs : Nat → Int32} (hL : L ≤ 3072) (C0 : lw_At p s m meth c b L xs) : W p l e room_1 s m #[Value.ref b] below meth c s.heap [] 0 0 (lw_Z below #[Value.ref b] s) (entryFrame m ([Value.ref b] : List Value).toArray 4) := by
  obtain ⟨hx, hb, hr, hml, hown, hts, hX, hbl, hlk, hgv⟩ := C0
  have hts2 : ∀ w ∈ AW, w.before #[Value.ref b] s = true := fun w hw => hts w (aw_tbl hw)
  obtain ⟨c0, i0, k0⟩ := u_known (ws := AW) hts2 inX0 (hts2 _ a_m_X0)
  obtain ⟨c1, i1, k1⟩ := u_known (ws := AW) hts2 inX1 (hts2 _ a_m_X1)
  obtain ⟨c2, i2, k2⟩ := u_known (ws := AW) hts2 inX2 (hts2 _ a_m_X2)
  obtain ⟨c3, i3, k3⟩ := u_known (ws := AW) hts2 inX3 (hts2 _ a_m_X3)
  obtain ⟨c4, i4, k4⟩ := u_known (ws := AW) hts2 inX4 (hts2 _ a_m_X4)
  have o2 := hts _ (m_over RX2 28 (by decide +kernel))
  have o0 := hts _ (m_over RX0 71 (by decide +kernel))
  obtain ⟨cI, aI, rI⟩ := arr_int (hts2 _ a_y_int)
  obtain ⟨cT, aT, rT⟩ := arr_ref o2
  obtain ⟨cM, aM, rM⟩ := arr_ref o0
  obtain ⟨q, v, hSt⟩ := StrF_0 hts hgv
  obtain ⟨E, hE0⟩ : ∃ E : EV, E = (l, ((fun k => match k with | 0 => c0 | 1 => c1 | 2 => c2 | 3 => c3 | _ => c4), (fun k => match k with | 0 => i0 | 1 => i1 | 2 => i2 | 3 => i3 | _ => i4)), (fun i => s.heap.size + off i), (cI, cT, cM), eXs q v) := ⟨_, rfl⟩
  have hE : EOK E := by rw [hE0]; exact EOK_s _ _ _ _ _ _
  have hK : va_K E.2.1 vwCl (tysE E) s := by
    subst hE0
    refine ⟨fun k r hk => ?_, fun k r hk => ?_⟩
    · match k, hk with
      | 0, hk => cases hk; exact k0
      | 1, hk => cases hk; exact k1
      | 2, hk => cases hk; exact k2
      | 3, hk => cases hk; exact k3
      | 4, hk => cases hk; exact k4
      | n + 5, hk => simp [vwCl] at hk
    · match k, hk with
      | 0, hk => cases hk; exact ⟨aI, rI⟩
      | 1, hk => cases hk; exact ⟨aT, rT⟩
      | 2, hk => cases hk; exact ⟨aM, rM⟩
      | n + 3, hk => simp [tysE] at hk
  have had : ∀ i, E.2.2.1 i = s.heap.size + off i := by subst hE0; exact fun i => rfl
  have hXS : EXS E q v := by subst hE0; exact fun A s H h => h.2
  have hEX : eX E (fun a => s.heap.size ≤ a) s s.heap := by subst hE0; exact ⟨nwl_0 hts, hSt⟩
  have hEl : E.1 = l := by subst hE0; rfl
  clear hE0
  subst hEl
  have hl := lv_entry [Value.ref b] (n := 4) (Nat.le_of_ble_eq_true rfl)
  rw [lg_entry_eq]
  obtain ⟨X, hXe⟩ : ∃ X : TX, X = (p, e, room_1, s, m, #[Value.ref b], below, meth, c, (fun a => s.heap.size ≤ a), 4, 89, 21159, lw_Z below #[Value.ref b] s) := ⟨_, rfl⟩
  have hLX : LX X b L xs := by subst hXe; exact ⟨hX, hbl, fun w => by omega, rfl, rfl, hr, rfl, rfl, rfl, rfl⟩
  have hCX : CX E X cL_law RL ret room_1 4 := by subst hXe; exact ⟨hx, hb, hml, rfl, hown, hts2, hK, hlk, hr, rfl, fun _ h => h, fun i _ => by rw [had]; exact Nat.le_add_right _ _, hE, by decide, by decide, hEX⟩
  have h : CB E s.heap.size 0 X cL_law RL room_1 4 := by subst hXe; exact ⟨hx, hb, hml, rfl, hown, hts2, hK, rfl, rfl, rfl, o2, o0⟩
  suffices main : GL E s.heap.size 0 X 0 [(0, .ref b)] [] 0 0 (fun _ => .inr (0, [])) by
    subst hXe
    exact main s.heap [] _ (fun i q hq => by cases hq) va_S.rf hl
  refine l_new h tyX3 tyX3_ok inX3 a_x_L_7 a_m_X3 a_n_X3 (ci := 3) rfl fsS fsS_ok (Nat.le_of_ble_eq_true rfl) (Nat.le_of_ble_eq_true rfl) dL_law_0 ?_
  refine g_n (kc2 := 1) (sc2 := 5) rfl rfl ?_
  refine l_dup h dL_law_3 rfl ?_
  refine l_call h (i := 0) (i_X3 (N := 1) (k := 0) (by decide) (va_up_self _ _ _)) m_X3_init a_l_L_9 rfl rfl ⟨Nat.le_of_ble_eq_true rfl, Nat.le_of_ble_eq_true rfl⟩ (As := []) rfl rfl (Nat.le_of_ble_eq_true rfl) (Nat.le_of_ble_eq_true rfl) (Nat.le_of_ble_eq_true rfl) dL_law_4 ?_
  refine g_n (kc2 := 76) (sc2 := 10913) rfl rfl ?_
  refine l_astore_n h [(1, _), (0, _)] dL_law_7 rfl (by decide) rfl ?_
  refine l_new h tyX4 tyX4_ok inX4 a_x_L_10 a_m_X4 a_n_X4 (ci := 4) rfl fsM fsM_ok (Nat.le_of_ble_eq_true rfl) (Nat.le_of_ble_eq_true rfl) dL_law_8 ?_
  refine g_n (kc2 := 77) (sc2 := 10927) rfl rfl ?_
  refine l_dup h dL_law_11 rfl ?_
  refine l_call h (i := 76) (i_X4 (N := 77) (k := 76) (by decide) (va_up_self _ _ _)) m_X4_init a_l_L_12 rfl rfl ⟨Nat.le_of_ble_eq_true rfl, Nat.le_of_ble_eq_true rfl⟩ (As := []) rfl rfl (Nat.le_of_ble_eq_true rfl) (Nat.le_of_ble_eq_true rfl) (Nat.le_of_ble_eq_true rfl) dL_law_12 ?_
  refine g_n (kc2 := 89) (sc2 := 21159) rfl rfl ?_
  refine l_astore_n h [(2, _), (1, _), (0, _)] dL_law_15 rfl (by decide) rfl ?_
  refine l_iconst h dL_law_16 ?_
  refine l_istore_n h [(3, _), (2, _), (1, _), (0, _)] dL_law_17 rfl (by decide) rfl ?_
  refine g_G (G2 := GFin E s.heap.size) rfl ?_
  refine g_toJ hLX had ?_
  have hloop := law_loop hE hXS hCX hLX hL 0 A00 (Int.le_refl 0) (by decide)
  rw [← eA_off had, ← eA_off had] at hloop
  exact hloop
