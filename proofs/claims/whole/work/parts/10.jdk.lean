/-! Math.floorMod, whose class is one that the machine knows: by the library's contracts -/
def fmS (a b r : Int32) : Spec := { pre := Cond.and (Cond.code yJ9_floorMod_7cf53 cJ9_floorMod_7cf53 3 (some .int)) (Cond.and (Cond.count 2) (Cond.and (Cond.isInt (.arg 0)) (Cond.and (Cond.isInt (.arg 1)) (Cond.and (Cond.eq (.arg 0) (.int a)) (Cond.eq (.arg 1) (.int b)))))), room := { frames := 0, cells := 0, slots := 0, locals := 0 }, post := Cond.eq .result (.int r), changes := some [], grows := false, arrays := [], statics := [], warmsH := false, interns := false, inits := [], draws := [] }
theorem fm_args {a b r : Int32} {args : Array Value} {s : State} (h : (fmS a b r).pre.before args s = true) : args = #[.int a, .int b] := by
  simp only [fmS, Cond.before_and, Bool.and_eq_true] at h
  obtain ⟨h0, h1, h2, h3, h4, h5⟩ := h
  obtain ⟨x, y, rfl⟩ := Cond.two_ints h1 h2 h3
  simp [Cond.before, Cond.holds, Cond.value, Term.eval] at h4 h5
  rw [h4, h5]
theorem fm_noRow (p : Program) : NativeRow.find? p.tables.natives "java/lang/Math" "floorMod" "(II)I" = none := by
  have h : NativeRow.find? Jvm.natives "java/lang/Math" "floorMod" "(II)I" = none := Option.isNone_iff_eq_none.mp (by decide +kernel)
  cases p
  · exact h
  · exact h
def fmR (x y : Int32) : Int32 := if 0 ≤ x ^^^ y then x - x / y * y else if x - x / y * y = 0 then x - x / y * y else x - x / y * y + y
theorem fm_cur {s : State} {x : Frame} {r : List Frame} (h : s.frames = x :: r) : s.cur < s.threads.size := by
  refine Nat.lt_of_not_le fun q => ?_
  have : s.frames = [] := by simp [State.frames, q]
  rw [this] at h
  cases h
theorem fm_same {s : State} (hc : s.cur < s.threads.size) (f1 f2 : List Frame) : (s.setFrames f1).setFrames f2 = { s.setFrames ((s.setFrames f1).setFrames f2).frames with heap := ((s.setFrames f1).setFrames f2).heap } := by
  rw [State.setFrames_setFrames, State.frames_setFrames _ hc]
theorem fm_ret {e : Env} {s s₁ : State} {m : MethodId} {below : List Frame} {meth : Method} {f0 g : JFrame} {fs : List Frame} {v : Option Value} (hc : s.cur < s.threads.size) (hs1 : s₁ = s.setFrames (Frame.java f0 :: below)) (hm : s.vm.method? m = some meth) (hlk : meth.locks = false) (hg : g.method = m) (hg2 : g.locked = none) (hg3 : g.entered = []) (hret : handOver s₁ v below = some fs) (acts : List Action) : (doReturn e (s₁.setTop g) acts v).fst = s₁.setFrames fs := by
  subst hs1
  have hf0 : (s.setFrames (Frame.java f0 :: below)).frames = Frame.java f0 :: below := State.frames_setFrames _ hc
  rw [State.setTop_of_frames g hf0, State.setFrames_setFrames]
  have h := doReturn_plain (e := e) (acts := acts) (v := v) (s := s.setFrames (Frame.java g :: below)) (State.frames_setFrames _ hc) (by rw [hg]; exact hm) hlk hg2 hg3 (fs := fs) hret
  rw [h.1, State.setFrames_setFrames, State.setFrames_setFrames]
set_option maxHeartbeats 800000 in
theorem fm_meets (l : Launch) (a b : Int32) (hb0 : ¬ b = 0) : MeetsLoose l yJ9_floorMod_7cf53 (fmS a b (fmR a b)) := by
  refine MeetsLoose.of_body_ov (code := cJ9_floorMod_7cf53) (maxLocals := 3) (ret := some .int) fm_noRow (fun args s h => ?_) ?_
  · simp only [fmS, Cond.before_and, Bool.and_eq_true] at h
    exact h.1
  · intro p e s m args below meth c s₁ B
    have hargs : args = #[.int a, .int b] := fm_args B.2.2.2.1
    subst hargs
    obtain ⟨hx, hfr, hhear, hpre, hmeth, hr, hlk, hb, hs1, hat⟩ := id B
    have hmeth' : s₁.vm.method? m = some meth := by rw [hs1]; exact hmeth
    obtain ⟨fs, hret⟩ := handOver_isSome (s := s₁) (m := m) (some (.int (fmR a b))) (below := below) (by rw [hs1]; exact hhear)
    refine ⟨s₁.setFrames fs, .returned (some (.int (fmR a b))), ?_, ?_, B.ended hret (fun q => by cases q), ?_⟩
    · show Steps p.tables e below (s₁.setTop { method := m, pc := 0, locals := #[.val (.int a), .val (.int b), .unset], stack := [], locked := none }) _
      have top := hat.top
      jvm_step1 Steps.instrAtOv hat [top, hx, hb, dJ9_floorMod_7cf53_0]
      jvm_step1 Steps.instrAtOv hat [top, hx, hb, dJ9_floorMod_7cf53_1]
      jvm_step1 Steps.instrAtOv hat [top, hx, hb, dJ9_floorMod_7cf53_2, hb0]
      generalize hrr : a - a / b * b = r at hret ⊢
      jvm_step1 Steps.instrAtOv hat [top, hx, hb, dJ9_floorMod_7cf53_3, show storeLocals #[.val (.int a), .val (.int b), .unset] 2 (.int r) = some #[.val (.int a), .val (.int b), .val (.int r)] from rfl]
      jvm_step1 Steps.instrAtOv hat [top, hx, hb, dJ9_floorMod_7cf53_4]
      jvm_step1 Steps.instrAtOv hat [top, hx, hb, dJ9_floorMod_7cf53_5]
      jvm_step1 Steps.instrAtOv hat [top, hx, hb, dJ9_floorMod_7cf53_6]
      by_cases hc : 0 ≤ a ^^^ b
      · rw [show fmR a b = r by rw [fmR, if_pos hc, hrr]] at hret
        jvm_step1 Steps.instrAtOv hat [top, hx, hb, dJ9_floorMod_7cf53_7, Op.ifCond.holds, hc]
        show Steps p.tables e below (s₁.setTop { method := m, pc := 18, locals := #[.val (.int a), .val (.int b), .val (.int r)], stack := [], locked := none }) _
        jvm_step1 Steps.instrAtOv hat [top, hx, hb, dJ9_floorMod_7cf53_18]
        jvm_step1 Steps.instrAtOv hat [top, hx, hb, dJ9_floorMod_7cf53_19, hmeth', hr, narrow, hret]
        (try refine ⟨rfl, ?_⟩); (try refine ⟨rfl, ?_⟩)
        intro acts
        rw [fm_ret (fm_cur hfr) hs1 hmeth hlk rfl rfl rfl (by first | exact hret | (rw [hz] at hret; exact hret)) acts]
        exact Steps.refl _
      · jvm_step1 Steps.instrAtOv hat [top, hx, hb, dJ9_floorMod_7cf53_7, Op.ifCond.holds, hc]
        show Steps p.tables e below (s₁.setTop { method := m, pc := 10, locals := #[.val (.int a), .val (.int b), .val (.int r)], stack := [], locked := none }) _
        jvm_step1 Steps.instrAtOv hat [top, hx, hb, dJ9_floorMod_7cf53_10]
        by_cases hz : r = 0
        · rw [show fmR a b = r by rw [fmR, if_neg hc, hrr, if_pos hz]] at hret
          jvm_step1 Steps.instrAtOv hat [top, hx, hb, dJ9_floorMod_7cf53_11, Op.ifCond.holds, hz]
          show Steps p.tables e below (s₁.setTop { method := m, pc := 18, locals := #[.val (.int a), .val (.int b), .val (.int 0)], stack := [], locked := none }) _
          jvm_step1 Steps.instrAtOv hat [top, hx, hb, dJ9_floorMod_7cf53_18]
          jvm_step1 Steps.instrAtOv hat [top, hx, hb, dJ9_floorMod_7cf53_19, hmeth', hr, narrow, hret]
          (try refine ⟨rfl, ?_⟩); (try refine ⟨rfl, ?_⟩)
          intro acts
          rw [fm_ret (fm_cur hfr) hs1 hmeth hlk rfl rfl rfl (by first | exact hret | (rw [hz] at hret; exact hret)) acts]
          exact Steps.refl _
        · rw [show fmR a b = r + b by rw [fmR, if_neg hc, hrr, if_neg hz]] at hret
          jvm_step1 Steps.instrAtOv hat [top, hx, hb, dJ9_floorMod_7cf53_11, Op.ifCond.holds, hz]
          show Steps p.tables e below (s₁.setTop { method := m, pc := 14, locals := #[.val (.int a), .val (.int b), .val (.int r)], stack := [], locked := none }) _
          jvm_step1 Steps.instrAtOv hat [top, hx, hb, dJ9_floorMod_7cf53_14]
          jvm_step1 Steps.instrAtOv hat [top, hx, hb, dJ9_floorMod_7cf53_15]
          jvm_step1 Steps.instrAtOv hat [top, hx, hb, dJ9_floorMod_7cf53_16]
          jvm_step1 Steps.instrAtOv hat [top, hx, hb, dJ9_floorMod_7cf53_17, hmeth', hr, narrow, hret]
          (try refine ⟨rfl, ?_⟩); (try refine ⟨rfl, ?_⟩)
          intro acts
          rw [fm_ret (fm_cur hfr) hs1 hmeth hlk rfl rfl rfl (by first | exact hret | (rw [hz] at hret; exact hret)) acts]
          exact Steps.refl _
    · exact hat.running
    · exact ⟨by simp [fmS, Cond.after, Cond.holds, Cond.value, Term.eval], by rw [hs1]; exact ⟨fm_same (fm_cur hfr) _ _, rfl, fun x y h => ⟨y, h, rfl, rfl, fun i hi => rfl⟩⟩⟩
/-! calls of Math's methods -/
theorem max_code : cJ9_max_7cf53 = Lib.Math.max.code := by decide +kernel
theorem min_code : cJ9_min_7cf53 = Lib.Math.min.code := by decide +kernel
theorem abs_code : cJ9_abs_067f4 = Lib.MathLoose.abs_long.code := by decide +kernel
section JM
variable {τ : Type} {E : EV} {Rp : τ → GH → Prop} {X : TX} {cc : ByteArray} {own : String} {ret : Option FieldType} {rm : Room} {nL : Nat}
variable {pc index : Nat} {lv : List (Nat × Value)} {rest : List Value} {S : τ}
theorem j_max (h : CX E X cc own ret rm nL) {a b : Int} (ha : okI a) (hb2 : okI b) (hli : Cond.methodLink own index yJ9_max_7cf53 ∈ AW) (hroom : 1 ≤ rm.frames ∧ 21 ≤ rm.locals) (hcat : (rest.map fun v => v.category).sum ≤ 8) (hd : decode cc pc = .ok (.invokestatic index, 3)) (K : JL E Rp X (pc + 3) lv (.int (iI (mxI a b)) :: rest) S) : JL E Rp X pc lv (.int (iI b) :: .int (iI a) :: rest) S := by
  obtain ⟨p, e, R, s, m, args, below, meth, c, A, nL', kk0, nn0, Q⟩ := X
  obtain ⟨hx, hb, hml, rfl, hown, hts, hK, hlk, hr, hrm, hA, hAi, hE, hk0, hn0, hXX⟩ := h
  intro G H locs ls hR hP hS hl
  subst hrm
  refine va_mmax hx hb (by rw [hml, hl.1]) hown (hts _ hli) (hts _ m_J9_max_7cf53.1) (hts _ m_J9_max_7cf53.2.1) (max_code ▸ hts _ m_J9_max_7cf53.2.2.1) hroom.1 (by have := hroom.2; omega) hk0 hn0 hd ?_
  have e2 : (if iI a < iI b then iI b else iI a) = iI (mxI a b) := by
    unfold mxI
    by_cases q : a < b
    · rw [if_pos q, if_pos ((iI_lt ha hb2).mpr q)]
    · rw [if_neg q, if_neg (fun z => q ((iI_lt ha hb2).mp z))]
  rw [e2]
  exact K G H locs ls hR hP hS hl
theorem j_min (h : CX E X cc own ret rm nL) {a b : Int} (ha : okI a) (hb2 : okI b) (hli : Cond.methodLink own index yJ9_min_7cf53 ∈ AW) (hroom : 1 ≤ rm.frames ∧ 21 ≤ rm.locals) (hcat : (rest.map fun v => v.category).sum ≤ 8) (hd : decode cc pc = .ok (.invokestatic index, 3)) (K : JL E Rp X (pc + 3) lv (.int (iI (mnI a b)) :: rest) S) : JL E Rp X pc lv (.int (iI b) :: .int (iI a) :: rest) S := by
  obtain ⟨p, e, R, s, m, args, below, meth, c, A, nL', kk0, nn0, Q⟩ := X
  obtain ⟨hx, hb, hml, rfl, hown, hts, hK, hlk, hr, hrm, hA, hAi, hE, hk0, hn0, hXX⟩ := h
  intro G H locs ls hR hP hS hl
  subst hrm
  refine va_mmin hx hb (by rw [hml, hl.1]) hown (hts _ hli) (hts _ m_J9_min_7cf53.1) (hts _ m_J9_min_7cf53.2.1) (min_code ▸ hts _ m_J9_min_7cf53.2.2.1) hroom.1 (by have := hroom.2; omega) hk0 hn0 hd ?_
  have e2 : (if iI b < iI a then iI b else iI a) = iI (mnI a b) := by
    unfold mnI
    by_cases q : b < a
    · rw [if_pos q, if_pos ((iI_lt hb2 ha).mpr q)]
    · rw [if_neg q, if_neg (fun z => q ((iI_lt hb2 ha).mp z))]
  rw [e2]
  exact K G H locs ls hR hP hS hl
theorem j_abs (h : CX E X cc own ret rm nL) {x : Int64} (hli : Cond.methodLink own index yJ9_abs_067f4 ∈ AW) (hroom : 1 ≤ rm.frames ∧ 21 ≤ rm.locals) (hcat : (rest.map fun v => v.category).sum ≤ 8) (hd : decode cc pc = .ok (.invokestatic index, 3)) (K : JL E Rp X (pc + 3) lv (.long (if 0 < x then x else -x) :: rest) S) : JL E Rp X pc lv (.long x :: rest) S := by
  obtain ⟨p, e, R, s, m, args, below, meth, c, A, nL', kk0, nn0, Q⟩ := X
  obtain ⟨hx, hb, hml, rfl, hown, hts, hK, hlk, hr, hrm, hA, hAi, hE, hk0, hn0, hXX⟩ := h
  intro G H locs ls hR hP hS hl
  subst hrm
  exact va_mabs_long hx hb (by rw [hml, hl.1]) hown (hts _ hli) (hts _ m_J9_abs_067f4.1) (hts _ m_J9_abs_067f4.2.1) (abs_code ▸ hts _ m_J9_abs_067f4.2.2.1) hroom.1 (by have := hroom.2; omega) hk0 hn0 hd (K G H locs ls hR hP hS hl)
theorem j_fm0 (h : CX E X cc own ret rm nL) {a b : Int32} (hb0 : ¬ b = 0) (hli : Cond.methodLink own index yJ9_floorMod_7cf53 ∈ AW) (hroom : 1 ≤ rm.frames ∧ 22 ≤ rm.locals) (hcat : (rest.map fun v => v.category).sum ≤ 8) (hd : decode cc pc = .ok (.invokestatic index, 3)) (K : JL E Rp X (pc + 3) lv (.int (fmR a b) :: rest) S) : JL E Rp X pc lv (.int b :: .int a :: rest) S := by
  obtain ⟨p, e, R, s, m, args, below, meth, c, A, nL', kk0, nn0, Q⟩ := X
  obtain ⟨hx, hb, hml, rfl, hown, hts, hK, hlk, hr, hrm, hA, hAi, hE, hk0, hn0, hXX⟩ := h
  intro G H locs ls hR hP hS hl
  subst hrm
  intro T hT Y
  have hcode := hts _ m_J9_floorMod_7cf53.2.2.1
  obtain ⟨v, T', X', ⟨first, t, hpost⟩, hstep⟩ := Y.staticByContractV hx hown (hts _ hli) (hts _ m_J9_floorMod_7cf53.1) (hts _ m_J9_floorMod_7cf53.2.1) hcode (by decide)
    (fm_meets E.1 a b hb0) rfl rfl rfl rfl
    (fun args' first o s₂ q => by
      cases o with
      | returned r => exact ⟨r, rfl⟩
      | threw y => simp [fmS, Cond.after, Cond.holds, Cond.value, Term.eval] at q)
    (g := F0 m pc ls (.int b :: .int a :: rest)) rfl (by show ls.size = _; rw [hml, hl.1]) (argsL := [.int a, .int b]) (rest := rest)
    (fun sig hs => by
      have q : parseMethodDescriptor "(II)I" = some { parameters := [.int, .int], returnType := some .int } := by decide +kernel
      rw [show yJ9_floorMod_7cf53.desc = "(II)I" from rfl, q] at hs
      rw [← Option.some.inj hs]; rfl)
    rfl (by rw [hb]; exact hd)
    (fun vm' hW => by
      simp only [fmS, Cond.before_and, Bool.and_eq_true]
      refine ⟨?_, rfl, rfl, rfl, by simp [Cond.before, Cond.holds, Cond.value, Term.eval], by simp [Cond.before, Cond.holds, Cond.value, Term.eval]⟩
      have q := hcode
      rw [← Cond.code_setVm hW.alike] at q
      simp only [Cond.before, Cond.holds, Cond.value, State.methodNamed?, State.vm_setVm] at q ⊢
      exact q)
    (by show 0 + 1 ≤ R.frames; exact hroom.1) (by show 2 * 0 + (rest.map fun v => v.category).sum + (3 + 11) + 0 ≤ R.locals; have := hroom.2; omega) hk0 hn0
  obtain rfl : v = some (.int (fmR a b)) := by
    rcases v with _ | w
    · simp [fmS, Cond.after, Cond.holds, Cond.value, Term.eval] at hpost
    · cases w <;> simp [fmS, Cond.after, Cond.holds, Cond.value, Term.eval] at hpost
      rw [hpost]
  obtain ⟨t2, a1, b1⟩ := K G H locs ls hR hP hS hl (T.setVm T') hT X'
  exact ⟨t2, hstep t2 a1, b1⟩
theorem fmR_iI {a b : Int} (ha : okI a) (h : b = 8 ∨ b = 2) : fmR (iI a) (iI b) = iI (fmo a b) := by
  have hx := xor_nonneg (iI a) (iI b) (by rcases h with rfl | rfl <;> decide)
  rw [iI_toInt ha] at hx
  have hc : (0 ≤ iI a ^^^ iI b) ↔ 0 ≤ a := by
    rw [Int32.le_iff_toInt_le]
    exact hx
  have hz : ∀ z : Int, okI z → ((iI z = 0) ↔ z = 0) := fun z q => iI_inj (b := 0) q ⟨by decide, by decide⟩
  unfold fmR fmo
  have ht := tdiv_cases a b
  have ha2 := ha
  unfold okI at ha2
  rcases h with rfl | rfl
  · rw [iI_rem8 ha]
    have hq : okI (a - a.tdiv 8 * 8) := by unfold okI; omega
    by_cases q : 0 ≤ a
    · rw [if_pos (hc.mpr q)]
      congr 1; omega
    · rw [if_neg (fun z => q (hc.mp z))]
      by_cases w : a - a.tdiv 8 * 8 = 0
      · rw [if_pos ((hz _ hq).mpr w)]
        congr 1; omega
      · rw [if_neg (fun z => w ((hz _ hq).mp z)), iI_add]
        congr 1; omega
  · rw [iI_rem2 ha]
    have hq : okI (a - a.tdiv 2 * 2) := by unfold okI; omega
    by_cases q : 0 ≤ a
    · rw [if_pos (hc.mpr q)]
      congr 1; omega
    · rw [if_neg (fun z => q (hc.mp z))]
      by_cases w : a - a.tdiv 2 * 2 = 0
      · rw [if_pos ((hz _ hq).mpr w)]
        congr 1; omega
      · rw [if_neg (fun z => w ((hz _ hq).mp z)), iI_add]
        congr 1; omega
theorem j_fm (h : CX E X cc own ret rm nL) {a b : Int} (ha : okI a) (hbb : b = 8 ∨ b = 2) (hli : Cond.methodLink own index yJ9_floorMod_7cf53 ∈ AW) (hroom : 1 ≤ rm.frames ∧ 22 ≤ rm.locals) (hcat : (rest.map fun v => v.category).sum ≤ 8) (hd : decode cc pc = .ok (.invokestatic index, 3)) (K : JL E Rp X (pc + 3) lv (.int (iI (fmo a b)) :: rest) S) : JL E Rp X pc lv (.int (iI b) :: .int (iI a) :: rest) S := by
  refine j_fm0 h (by rcases hbb with rfl | rfl <;> decide) hli hroom hcat hd ?_
  rw [fmR_iI ha hbb]
  exact K
end JM
