/-! pure: pieces, told by their ends in one row -/
abbrev eg (es : List Nat) (k : Nat) : Nat := es.getD k 0
def stN (es : List Nat) (k : Nat) : Nat := if k = 0 then 0 else eg es (k - 1)
def enI (es : List Nat) (z : Int) : Int := if 0 ≤ z ∧ z < es.length then (eg es z.toNat : Int) else 0
def eOK (es : List Nat) (n : Nat) : Prop := ∀ k, k < es.length → stN es k ≤ eg es k ∧ eg es k ≤ n
def pce (as : List Int32) (es : List Nat) (k : Nat) : List Int32 := sl as (stN es k) (eg es k - stN es k)
def jn (as : List Int32) (es : List Nat) (x : Int32) (i : Nat) : Nat → List Int32
  | 0 => []
  | d + 1 => (if i = 0 then [] else [x]) ++ (pce as es i ++ jn as es x (i + 1) d)
def pfd (as : List Int32) (es : List Nat) (acc : Int) (i : Nat) : Nat → Int
  | 0 => acc
  | d + 1 => pfd as es (fld as (31 * acc + ((eg es i : Int) - stN es i)) (stN es i) (eg es i - stN es i)) (i + 1) d
def loe (es : List Nat) : Nat → Nat
  | 0 => 0
  | n + 1 => if stN es n = eg es n then loe es n else n + 1
def prt (ys : List Int32) (x : Int32) (L : Int) (i : Nat) (q : List Int32 × List Nat) : Nat → List Int32 × List Nat
  | 0 => q
  | d + 1 => if gz ys i = x ∧ (L ≤ 0 ∨ (q.2.length : Int) < L - 1) then prt ys x L (i + 1) (q.1, q.2 ++ [q.1.length]) d else prt ys x L (i + 1) (q.1 ++ [gz ys i], q.2) d
/-- the row of signs and the ends when a text has been parted -/
def prtE (es : List Nat) (L : Int) : List Nat := if L = 0 ∧ 1 < es.length then es.take (loe es es.length) else es
def prtA (ys : List Int32) (x : Int32) (L : Int) : List Int32 := (prt ys x L 0 ([], []) ys.length).1
def prtP (ys : List Int32) (x : Int32) (L : Int) : List Nat := prtE ((prt ys x L 0 ([], []) ys.length).2 ++ [(prt ys x L 0 ([], []) ys.length).1.length]) L
theorem eg_app_l {es fs : List Nat} {k : Nat} (h : k < es.length) : eg (es ++ fs) k = eg es k := by simp [eg, List.getD, List.getElem?_append_left h]
theorem eg_last (es : List Nat) (e : Nat) : eg (es ++ [e]) es.length = e := by simp [eg, List.getD]
theorem stN_app {es fs : List Nat} {k : Nat} (h : k ≤ es.length) : stN (es ++ fs) k = stN es k := by
  unfold stN
  split
  · rfl
  · exact eg_app_l (by omega)
theorem enI_st {es : List Nat} {k : Nat} (h : k ≤ es.length) : enI es ((k : Int) - 1) = (stN es k : Int) := by
  unfold enI stN
  by_cases q : k = 0
  · rw [if_neg (by omega), if_pos q]; rfl
  · rw [if_pos (by omega), if_neg q, show ((k : Int) - 1).toNat = k - 1 by omega]
theorem enI_en {es : List Nat} {k : Nat} (h : k < es.length) : enI es (k : Int) = (eg es k : Int) := by
  unfold enI
  rw [if_pos (by omega), Int.toNat_natCast]
theorem eg_take {es : List Nat} {n k : Nat} (h : k < n) : eg (es.take n) k = eg es k := by simp [eg, List.getD, List.getElem?_take, h]
theorem stN_take {es : List Nat} {n k : Nat} (h : k ≤ n) : stN (es.take n) k = stN es k := by
  unfold stN
  split
  · rfl
  · exact eg_take (by omega)
theorem loe_le (es : List Nat) : ∀ n, loe es n ≤ n := by
  intro n
  induction n with
  | zero => exact Nat.le_refl _
  | succ n ih => rw [loe]; split <;> omega
theorem eOK_take {es : List Nat} {n : Nat} (m : Nat) (h : eOK es n) : eOK (es.take m) n := by
  intro k hk
  rw [List.length_take] at hk
  rw [stN_take (by omega), eg_take (by omega)]
  exact h k (by omega)
theorem eOK_mono {es : List Nat} {n m : Nat} (h : eOK es n) (hm : n ≤ m) : eOK es m := fun k hk => ⟨(h k hk).1, Nat.le_trans (h k hk).2 hm⟩
theorem eOK_push {es : List Nat} {n : Nat} (h : eOK es n) : eOK (es ++ [n]) n := by
  intro k hk
  rw [List.length_append, List.length_cons, List.length_nil] at hk
  by_cases q : k < es.length
  · rw [stN_app (by omega), eg_app_l q]
    exact h k q
  · have e : k = es.length := by omega
    subst e
    rw [stN_app (Nat.le_refl _), eg_last]
    refine ⟨?_, Nat.le_refl _⟩
    unfold stN
    split
    · omega
    · exact (h _ (by omega)).2
theorem prt_ok {ys : List Int32} {x : Int32} {L : Int} : ∀ (d i : Nat) (q : List Int32 × List Nat), eOK q.2 q.1.length → eOK (prt ys x L i q d).2 (prt ys x L i q d).1.length ∧ (prt ys x L i q d).1.length + (prt ys x L i q d).2.length = q.1.length + q.2.length + d := by
  intro d
  induction d with
  | zero => intro i q h; exact ⟨h, rfl⟩
  | succ d ih =>
    intro i q h
    rw [prt]
    split
    · have := ih (i + 1) (q.1, q.2 ++ [q.1.length]) (eOK_push h)
      refine ⟨this.1, ?_⟩
      rw [this.2]
      simp only [List.length_append, List.length_cons, List.length_nil]
      omega
    · have := ih (i + 1) (q.1 ++ [gz ys i], q.2) (eOK_mono h (by simp))
      refine ⟨this.1, ?_⟩
      rw [this.2]
      simp only [List.length_append, List.length_cons, List.length_nil]
      omega
theorem prtP_ok (ys : List Int32) (x : Int32) (L : Int) : eOK (prtP ys x L) (prtA ys x L).length ∧ (prtP ys x L).length ≤ ys.length + 1 ∧ (prtA ys x L).length ≤ ys.length := by
  have h := prt_ok (ys := ys) (x := x) (L := L) ys.length 0 ([], []) (fun k hk => absurd hk (Nat.not_lt_zero _))
  have h2 := eOK_push h.1
  simp only [List.length_nil] at h
  unfold prtP prtA prtE
  split
  · refine ⟨eOK_take _ h2, ?_, by omega⟩
    rw [List.length_take]
    simp only [List.length_append, List.length_cons, List.length_nil]
    omega
  · refine ⟨h2, ?_, by omega⟩
    simp only [List.length_append, List.length_cons, List.length_nil]
    omega
