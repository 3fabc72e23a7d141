/-! the reference's trace, and what ties its numbers to the kinds -/
def bdT (n : Int32) (st : TS) : TS := if st.2.1 = 0 then st else (st.1 + 1, st.2.1, upd st.2.2 st.1.toNatClampNeg n)
def bds (ns : List Int32) (st : TS) : TS := ns.foldl (fun s n => bdT n s) st
def okM (n : Nat) (st : TS) : Prop := st.2.1 = 0 ∨ ∃ j : Nat, st.1 = nI j ∧ j + n ≤ 16
theorem okM_mono {n m : Nat} {st : TS} (h : okM n st) (hm : m ≤ n) : okM m st := by
  rcases h with h | ⟨j, e, hj⟩
  · exact Or.inl h
  · exact Or.inr ⟨j, e, by omega⟩
theorem okM_bd {n : Nat} (x : Int32) {st : TS} (h : okM (n + 1) st) : okM n (bdT x st) := by
  unfold bdT
  by_cases h1 : st.2.1 = 0
  · rw [if_pos h1]; exact Or.inl h1
  · rw [if_neg h1]
    rcases h with h | ⟨j, e, hj⟩
    · exact absurd h h1
    · exact Or.inr ⟨j + 1, by show st.1 + 1 = _; rw [e, nI_1], by omega⟩
theorem okM_bds : ∀ (ns : List Int32) {n : Nat} {st : TS}, okM (ns.length + n) st → okM n (bds ns st)
  | [], n, st, h => by
    have h' : okM (0 + n) st := h
    rw [Nat.zero_add] at h'
    exact h'
  | x :: ns, n, st, h => by
    have h' : okM (ns.length + n + 1) st := by
      have e : ns.length + n + 1 = (x :: ns).length + n := by simp only [List.length_cons]; omega
      rw [e]; exact h
    exact okM_bds ns (okM_bd x h')
theorem okM_in {st : TS} (h : okM 1 st) (h1 : ¬ st.2.1 = 0) : vp_in st.1 16 := by
  rcases h with h | ⟨j, e, hj⟩
  · exact absurd h h1
  · rw [e]; exact vp_in_nI (by omega) (by decide)
theorem bdT_off {n : Int32} {st : TS} (h : st.2.1 = 0) : bdT n st = st := by unfold bdT; rw [if_pos h]
theorem bds_off : ∀ (ns : List Int32) {st : TS}, st.2.1 = 0 → bds ns st = st
  | [], _, _ => rfl
  | n :: ns, st, h => by
    show bds ns (bdT n st) = st
    rw [bdT_off h]
    exact bds_off ns h
theorem nz_hasA (k : Nat) (w : Int32) : narrow .boolean (.int (hasA k w)) = .int (hasA k w) := by
  unfold hasA
  split
  · exact nz_hasD k
  · split
    · exact nz_isI k
    · split
      · exact nz_isS k
      · rfl
theorem daysF_ge {td si : Int32} (h : 1 ≤ td - si) : td - si = daysF td si := by
  unfold daysF
  by_cases h1 : 1 < td - si
  · rw [if_pos h1]
  · rw [if_neg h1]
    rw [Int32.lt_iff_toInt_lt] at h1
    rw [Int32.le_iff_toInt_le] at h
    exact Int32.toInt_inj.mp (by omega)
theorem daysF_lt {td si : Int32} (h : ¬ 1 ≤ td - si) : 1 = daysF td si := by
  unfold daysF
  have h1 : ¬ 1 < td - si := by
    rw [Int32.lt_iff_toInt_lt]
    rw [Int32.le_iff_toInt_le] at h
    omega
  rw [if_neg h1]
theorem pmF_0 {k : Nat} {vl hr d : Int32} (h : isI k = 0) : pmF k vl hr d = 0 := by
  match k, h with
  | 0, _ => rfl
  | 1, _ => rfl
  | 2, h => exact absurd h (by decide)
  | 3, h => exact absurd h (by decide)
  | 4, h => exact absurd h (by decide)
  | 5, _ => rfl
  | 6, _ => rfl
  | _ + 7, _ => rfl
theorem duF_0 {k : Nat} {hr d : Int32} (h : isS k = 0) : ¬ duF k hr d = 1 := by
  unfold duF
  rw [if_pos h]
  decide
/-- the two readings of 'each day beyond the 7th' -/
def dOk (d : Int32) : Prop := 0 < d - 7 ↔ ¬ d ≤ 7
theorem dOk_of {d : Int32} (h0 : 0 ≤ d.toInt) (h1 : d.toInt ≤ 1000000) : dOk d := by
  unfold dOk
  rw [Int32.lt_iff_toInt_lt, Int32.le_iff_toInt_le, Int32.toInt_sub]
  have e7 : (7 : Int32).toInt = 7 := by decide
  have e0 : (0 : Int32).toInt = 0 := by decide
  rw [e7, e0]
  have hb : (d.toInt - 7).bmod (2 ^ 32) = d.toInt - 7 := by
    rw [Int.bmod_eq_of_le] <;> omega
  rw [hb]
  omega
theorem wi_bounds {a b c : Int32} (h : ¬ wi a b c = 0) : b.toInt ≤ a.toInt ∧ a.toInt ≤ c.toInt := by
  unfold wi at h
  by_cases h1 : a < b
  · rw [if_pos h1] at h; exact absurd rfl h
  · rw [if_neg h1] at h
    by_cases h2 : c < a
    · rw [if_pos h2] at h; exact absurd rfl h
    · rw [Int32.lt_iff_toInt_lt] at h1 h2
      omega
theorem dOk_400 {d : Int32} (h : ¬ wi d 0 400 = 0) : dOk d := by
  obtain ⟨h0, h1⟩ := wi_bounds h
  have e4 : (400 : Int32).toInt = 400 := by decide
  have e0 : (0 : Int32).toInt = 0 := by decide
  rw [e0] at h0
  rw [e4] at h1
  exact dOk_of h0 (by omega)
theorem w_5 {w : Int32} (h : ¬ wi w 0 5 = 0) (h0 : ¬ w = 0) (h1 : ¬ w = 1) (h2 : ¬ w = 2) (h3 : ¬ w = 3) (h4 : ¬ w = 4) : w = 5 := by
  obtain ⟨b0, b1⟩ := wi_bounds h
  have e0 : (0 : Int32).toInt = 0 := by decide
  have e5 : (5 : Int32).toInt = 5 := by decide
  rw [e0] at b0
  rw [e5] at b1
  have n0 := lv_neT h0 (a := 0) (by decide)
  have n1 := lv_neT h1 (a := 1) (by decide)
  have n2 := lv_neT h2 (a := 2) (by decide)
  have n3 := lv_neT h3 (a := 3) (by decide)
  have n4 := lv_neT h4 (a := 4) (by decide)
  exact Int32.toInt_inj.mp (by rw [e5]; omega)
theorem hasA_3 {k : Nat} {w : Int32} (h : ¬ hasA k w = 0) (e : w = 3) : ¬ hasD k = 0 := by unfold hasA at h; rw [if_pos e] at h; exact h
theorem hasA_4 {k : Nat} {w : Int32} (h : ¬ hasA k w = 0) (e : w = 4) : ¬ isI k = 0 := by subst e; exact h
theorem hasA_5 {k : Nat} {w : Int32} (h : ¬ hasA k w = 0) (e : w = 5) : ¬ isS k = 0 := by subst e; exact h
/-- what ask leaves in the reference's trace -/
def askM (k : Nat) (w d : Int32) (st : TS) : TS := if wi w 0 5 = 0 then st else if wi d 0 400 = 0 then st else if hasA k w = 0 then (0, st.2.1, st.2.2) else ((bds (ansN k w) (0, 1, st.2.2)).1, 0, (bds (ansN k w) (0, 1, st.2.2)).2.2)
def nAtM (st : TS) (i : Int32) : Int32 := if wi i 0 (st.1 - 1) = 0 then -1 else st.2.2 i.toNatClampNeg
theorem okM_0 (f : Nat → Int32) : okM 6 (0, 1, f) := Or.inr ⟨0, nI_0.symm, by decide⟩
theorem trM_in {st : TS} {i : Int32} {j : Nat} (hj : j ≤ 16) (e : st.1 = nI j) (h : ¬ wi i 0 (st.1 - 1) = 0) : vp_in i 16 := by
  obtain ⟨b0, b1⟩ := wi_bounds h
  rw [vp_in_iff]
  have e0 : (0 : Int32).toInt = 0 := by decide
  have e1 : (1 : Int32).toInt = 1 := by decide
  rw [e0] at b0
  rw [e, Int32.toInt_sub, nI_toInt (by omega), e1] at b1
  have hb : ((j : Int) - 1).bmod (2 ^ 32) = (j : Int) - 1 := by
    rw [Int.bmod_eq_of_le] <;> omega
  rw [hb] at b1
  omega
