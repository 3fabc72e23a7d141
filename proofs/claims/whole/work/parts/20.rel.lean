/-! the class's state beside the reference's: what is the same, and that each call keeps it -/
def aOf (n : Nat) (qa : Nat → Nat) : Nat → Option Nat := fun j => if j < n then some (qa j) else none
theorem aOf_lt {n j : Nat} {qa : Nat → Nat} (h : j < n) : aOf n qa j = some (qa j) := if_pos h
theorem aOf_ge {n j : Nat} {qa : Nat → Nat} (h : ¬ j < n) : aOf n qa j = none := if_neg h
theorem aOf_up (n : Nat) (qa : Nat → Nat) (q : Nat) : va_up (aOf n qa) n (some q) = aOf (n + 1) (va_up qa n q) := by
  funext j
  by_cases h : j = n
  · subst h
    rw [va_up_self, aOf_lt (by omega), va_up_self]
  · rw [va_up_ne _ _ h]
    by_cases h2 : j < n
    · rw [aOf_lt h2, aOf_lt (by omega), va_up_ne _ _ h]
    · rw [aOf_ge h2, aOf_ge (by omega)]
theorem nI_m1 {n : Nat} (h : n < 2 ^ 31) : (nI n - 1).toInt = (n : Int) - 1 := by
  rw [Int32.toInt_sub, nI_toInt h, show (1 : Int32).toInt = 1 by decide]
  rw [Int.bmod_eq_of_le] <;> omega
theorem hs_pick {n : Nat} (hn : n ≤ 24) (qa : Nat → Nat) (t : Int32) : (tAt (aOf n qa) t = none ∧ wi t 0 (nI n - 1) = 0) ∨ (t.toNatClampNeg < n ∧ tAt (aOf n qa) t = some (qa t.toNatClampNeg) ∧ ¬ wi t 0 (nI n - 1) = 0 ∧ vp_in t 24) := by
  have hm := nI_m1 (n := n) (by omega)
  rcases pk_ix t (n := n) (by omega) with h | h | ⟨j, hj, rfl⟩
  · left
    exact ⟨by unfold tAt; rw [if_pos h], by unfold wi; rw [if_pos h]⟩
  · left
    have hn0 : ¬ t < 0 := by
      rw [Int32.lt_iff_toInt_lt, show (0 : Int32).toInt = 0 by decide]
      rw [Int32.le_iff_toInt_le, nI_toInt (by omega)] at h
      omega
    refine ⟨?_, ?_⟩
    · unfold tAt
      rw [if_neg hn0]
      by_cases h24 : 24 ≤ t
      · rw [if_pos h24]
      · rw [if_neg h24]
        apply aOf_ge
        obtain ⟨j, hj, rfl⟩ := vp_in_of (hs_in24 hn0 h24) (by decide)
        rw [nI_clamp (by omega)]
        have := (nI_leI (a := n) (b := j) (by omega) (by omega)).mp h
        omega
    · unfold wi
      rw [if_neg hn0]
      rw [if_pos]
      rw [Int32.lt_iff_toInt_lt, hm]
      rw [Int32.le_iff_toInt_le, nI_toInt (by omega)] at h
      omega
  · right
    rw [nI_clamp (by omega)]
    have h0 : ¬ nI j < 0 := nI_pos (by omega)
    have h24 : ¬ (24 : Int32) ≤ nI j := nI_ge (a := j) (b := 24) (by omega) (by decide)
    refine ⟨hj, ?_, ?_, vp_in_nI (by omega) (by decide)⟩
    · unfold tAt
      rw [if_neg h0, if_neg h24, nI_clamp (by omega), aOf_lt hj]
    · unfold wi
      rw [if_neg h0]
      rw [if_neg]
      · decide
      · rw [Int32.lt_iff_toInt_lt, hm, nI_toInt (by omega)]
        omega
/-- the traces are one -/
def trRel (st sM : TS) : Prop := st.2.1 = 0 ∧ sM.2.1 = 0 ∧ ∃ c : Nat, c ≤ 8 ∧ st.1 = nI c ∧ sM.1 = nI c ∧ ∀ i, i < c → st.2.2 i = sM.2.2 i
def trOn (c : Nat) (st sM : TS) : Prop := st.2.1 = 1 ∧ sM.2.1 = 1 ∧ st.1 = nI c ∧ sM.1 = nI c ∧ ∀ i, i < c → st.2.2 i = sM.2.2 i
theorem trOn_step {c : Nat} {st sM : TS} (n : Int32) (hc : c < 8) (h : trOn c st sM) : trOn (c + 1) (lvT n st) (bdT n sM) := by
  obtain ⟨h1, h2, h3, h4, h5⟩ := h
  have e1 : lvT n st = (st.1 + 1, st.2.1, upd st.2.2 st.1.toNatClampNeg n) := lvT_c (by rw [h1]; decide) (by rw [h3]; exact nI_ge (a := c) (b := 8) hc (by decide))
  have e2 : bdT n sM = (sM.1 + 1, sM.2.1, upd sM.2.2 sM.1.toNatClampNeg n) := by unfold bdT; rw [if_neg (by rw [h2]; decide)]
  rw [e1, e2]
  refine ⟨h1, h2, by show st.1 + 1 = _; rw [h3, nI_1], by show sM.1 + 1 = _; rw [h4, nI_1], ?_⟩
  intro i hi
  show upd st.2.2 st.1.toNatClampNeg n i = upd sM.2.2 sM.1.toNatClampNeg n i
  rw [h3, h4, nI_clamp (by omega)]
  by_cases hic : i = c
  · subst hic
    rw [pk_us, pk_us]
  · rw [pk_un hic, pk_un hic]
    exact h5 i (by omega)
theorem trOn_all : ∀ (ns : List Int32) {c : Nat} {st sM : TS}, c + ns.length ≤ 8 → trOn c st sM → trOn (c + ns.length) (lvs ns st) (bds ns sM)
  | [], _, _, _, _, h => h
  | n :: ns, c, st, sM, hc, h => by
    have hl : c + (n :: ns).length = (c + 1) + ns.length := by simp only [List.length_cons]; omega
    rw [hl]
    rw [hl] at hc
    exact trOn_all ns hc (trOn_step n (by omega) h)
theorem ansN_len (k : Nat) (w : Int32) : (ansN k w).length ≤ 8 := by
  have h1 : (chN k).length ≤ 8 := by unfold chN; split <;> decide
  have h2 : (weN k).length ≤ 2 := by unfold weN; split <;> decide
  have h3 : (ckN k).length ≤ 8 := by unfold ckN; split <;> decide
  have h4 : (dpN k).length ≤ 8 := by unfold dpN; split <;> decide
  have h5 : (pmN k).length ≤ 8 := by unfold pmN; split <;> decide
  have h6 : (duN k).length ≤ 8 := by
    unfold duN
    split
    · decide
    · simp only [List.length_cons]; omega
  unfold ansN
  split
  · exact h1
  · split
    · omega
    · split
      · exact h3
      · split
        · exact h4
        · split
          · exact h5
          · split
            · exact h6
            · decide
theorem tr_ask {st sM : TS} (h : trRel st sM) (k : Nat) (w d : Int32) : trRel (askT k w d st) (askM k w d sM) := by
  unfold askT askM
  by_cases h1 : wi w 0 5 = 0
  · rw [if_pos h1, if_pos h1]; exact h
  · rw [if_neg h1, if_neg h1]
    by_cases h2 : wi d 0 400 = 0
    · rw [if_pos h2, if_pos h2]; exact h
    · rw [if_neg h2, if_neg h2]
      by_cases h3 : hasA k w = 0
      · rw [if_pos h3, if_pos h3]
        exact ⟨rfl, h.2.1, 0, by decide, nI_0.symm, nI_0.symm, fun i hi => absurd hi (by omega)⟩
      · rw [if_neg h3, if_neg h3]
        have hb : trOn 0 ((0, 1, st.2.2) : TS) ((0, 1, sM.2.2) : TS) := ⟨rfl, rfl, nI_0.symm, nI_0.symm, fun i hi => absurd hi (by omega)⟩
        obtain ⟨-, -, g3, g4, g5⟩ := trOn_all (ansN k w) (c := 0) (by have := ansN_len k w; omega) hb
        exact ⟨rfl, rfl, 0 + (ansN k w).length, by have := ansN_len k w; omega, g3, g4, g5⟩
theorem tr_ok {st sM : TS} (h : trRel st sM) : okT st := by
  obtain ⟨-, -, c, hc, h3, -, -⟩ := h
  show ¬ st.1 < 0
  rw [h3]
  exact nI_pos (by omega)
theorem tr_nAt {st sM : TS} (h : trRel st sM) (i : Int32) : nAt st i = nAtM sM i := by
  obtain ⟨-, -, c, hc, h3, h4, h5⟩ := h
  have hm := nI_m1 (n := c) (by omega)
  unfold nAt nAtM wi
  rw [h3, h4]
  by_cases h0 : i < 0
  · rw [if_pos h0, if_pos h0, if_pos rfl]
  · rw [if_neg h0, if_neg h0]
    by_cases h1 : nI c ≤ i
    · have h2 : nI c - 1 < i := by
        rw [Int32.lt_iff_toInt_lt, hm]
        rw [Int32.le_iff_toInt_le, nI_toInt (by omega)] at h1
        omega
      rw [if_pos h1, if_pos h2, if_pos rfl]
    · have h2 : ¬ nI c - 1 < i := by
        rw [Int32.lt_iff_toInt_lt, hm]
        rw [Int32.le_iff_toInt_le, nI_toInt (by omega)] at h1
        omega
      rw [if_neg h1, if_neg h2, if_neg (show ¬ (1 : Int32) = 0 by decide)]
      rcases pk_ix i (n := c) (by omega) with q | q | ⟨j, hj, rfl⟩
      · exact absurd q h0
      · exact absurd q h1
      · rw [if_neg (show ¬ (8 : Int32) ≤ nI j from nI_ge (a := j) (b := 8) (by omega) (by decide)), nI_clamp (by omega)]
        exact h5 j hj
theorem tl_lt {n : Nat} (hn : n ≤ 24) : nI n < 24 ↔ ¬ nI n = 24 := by
  have h1 := nI_ltI (a := n) (b := 24) (by omega) (by decide)
  have h2 := nI_eq (a := n) (b := 24) (by omega) (by decide)
  have e : (24 : Int32) = nI 24 := rfl
  rw [e, h1, h2]
  omega
theorem tl_ok {n : Nat} (hn : n ≤ 24) (k0 r0 v0 : Int32) : toolOk k0 r0 v0 (nI n) ↔ toolOkM k0 r0 v0 (nI n) := by
  unfold toolOk toolOkM
  rw [tl_lt hn]
theorem tl_F {n : Nat} (hn : n ≤ 24) (k0 r0 v0 : Int32) : toolF k0 r0 v0 (nI n) = toolFM k0 r0 v0 (nI n) := by
  unfold toolF toolFM
  by_cases h : nI n = 24
  · rw [if_neg (fun q => (tl_lt hn).mp q h), if_pos h]
  · rw [if_pos ((tl_lt hn).mpr h), if_neg h]
theorem cnt_eq {n : Nat} (qa : Nat → Nat) (hw : Nat → Int32) (x : Int32) : ∀ m, m ≤ n → cntF (aOf n qa) hw x m = cntM hw x m := by
  intro m
  induction m with
  | zero => intro _; rfl
  | succ m ih =>
    intro hm
    have ha : aOf n qa m = some (qa m) := aOf_lt (by omega)
    by_cases h : hw m = x
    · rw [cntF_yes ha h, ih (by omega), cntM_s, if_pos h]
    · rw [cntF_no ha h, ih (by omega), cntM_s, if_neg h]
      exact (Int32.add_zero _).symm
theorem cnt_all {n : Nat} (qa : Nat → Nat) (hw : Nat → Int32) (x : Int32) : ∀ m, n ≤ m → cntF (aOf n qa) hw x m = cntM hw x n := by
  intro m
  induction m with
  | zero =>
    intro h
    have : n = 0 := by omega
    subst this; rfl
  | succ m ih =>
    intro h
    rcases Nat.lt_or_ge m n with q | q
    · have : n = m + 1 := by omega
      subst this
      exact cnt_eq qa hw x (m + 1) (Nat.le_refl _)
    · rw [cntF_none (aOf_ge (by omega)), ih q]
theorem dpF_nI {v : Nat} (hv : v ≤ 100000) (k : Nat) : ∃ u : Nat, u ≤ 50500 ∧ dpF k (nI v) = nI u := by
  have h2 : nI v / 2 = nI (v / 2) := pk_div (a := v) (d := 2) (by omega) (by decide) (by decide)
  unfold dpF
  split
  · exact ⟨0, by omega, nI_0.symm⟩
  · refine ⟨v / 2 + 500, by omega, ?_⟩
    rw [h2]
    exact nI_add (v / 2) 500
  · exact ⟨v / 2, by omega, h2⟩
theorem neg_l {u : Nat} (hu : u ≤ 50500) (x : Int64) : x + (-nI u).toInt64 = x - (nI u).toInt64 := by
  have e : (-nI u).toInt64 = -(nI u).toInt64 := by
    apply Int64.toInt_inj.mp
    rw [Int32.toInt_toInt64, sb_negT (by omega), Int64.toInt_neg, Int32.toInt_toInt64, nI_toInt (by omega)]
    rw [Int.bmod_eq_of_le] <;> omega
  rw [e, Int64.sub_eq_add_neg]
theorem pay_hire {v : Nat} (hv : v ≤ 100000) (k : Nat) (acc : Nat → Int64) {cm : Int32} (hc : ¬ wi cm 0 5 = 0) : payF acc cm (-(dpF k (nI v))) = vp_updL acc cm.toNatClampNeg (acc cm.toNatClampNeg - (dpF k (nI v)).toInt64) := by
  obtain ⟨u, hu, e⟩ := dpF_nI hv k
  unfold payF
  rw [if_neg hc, e, neg_l hu]
theorem pay_back (acc : Nat → Int64) {cm : Int32} (x : Int32) (hc : ¬ wi cm 0 5 = 0) : payF acc cm x = vp_updL acc cm.toNatClampNeg (acc cm.toNatClampNeg + x.toInt64) := by
  unfold payF
  rw [if_neg hc]
theorem days_ok {d e : Nat} (hd : d ≤ 20000) (he : e ≤ d) : dOk (daysF (nI d) (nI e)) := by
  have hs : nI d - nI e = nI (d - e) := pk_sub he
  unfold daysF
  rw [hs]
  by_cases h : 1 < nI (d - e)
  · rw [if_pos h]
    exact dOk_of (by rw [nI_toInt (by omega)]; omega) (by rw [nI_toInt (by omega)]; omega)
  · rw [if_neg h]
    exact dOk_of (by decide) (by decide)
theorem howF_ne (k : Nat) (hr d : Int32) : ¬ howF k hr d = 1 := by
  unfold howF
  split <;> decide
theorem dayT_nI {d : Nat} (hd : d ≤ 20000) (n : Int32) : ∃ d' : Nat, d' ≤ 20000 ∧ d ≤ d' ∧ dayT (nI d) n = nI d' := by
  unfold dayT
  by_cases h : wi n 1 50 = 0
  · rw [if_pos h]; exact ⟨d, hd, Nat.le_refl _, rfl⟩
  · rw [if_neg h]
    by_cases h2 : nI d + n ≤ 20000
    · rw [if_pos h2]
      obtain ⟨b0, b1⟩ := wi_bounds h
      rw [show (1 : Int32).toInt = 1 by decide] at b0
      rw [show (50 : Int32).toInt = 50 by decide] at b1
      obtain ⟨j, hj, rfl⟩ := nI_of (x := n) (by rw [Int32.lt_iff_toInt_lt, show (0 : Int32).toInt = 0 by decide]; omega)
      rw [nI_toInt hj] at b0 b1
      rw [nI_add] at h2 ⊢
      have h3 := (nI_leI (a := d + j) (b := 20000) (by omega) (by decide)).mp h2
      exact ⟨d + j, h3, by omega, rfl⟩
    · rw [if_neg h2]; exact ⟨d, hd, Nat.le_refl _, rfl⟩
theorem wi_nI {x M : Int32} {n : Nat} (hM : M.toInt = n) (h : ¬ wi x 0 M = 0) : ∃ j : Nat, j ≤ n ∧ x = nI j := by
  obtain ⟨b0, b1⟩ := wi_bounds h
  rw [show (0 : Int32).toInt = 0 by decide] at b0
  exact nI_of2 (M := M) hM (by rw [Int32.lt_iff_toInt_lt, show (0 : Int32).toInt = 0 by decide]; omega) (by rw [Int32.le_iff_toInt_le]; exact b1)
/-! the tools as cells -/
def tcell (tr : Nat) (qa kn : Nat → Nat) (rt vl hr hw cu si : Nat → Int32) (j : Nat) : Nat × va_E := (qa j, tlE (kn j) tr (nI (kn j)) (rt j) (vl j) (hr j) (hw j) (if hw j = 1 then cu j else -1) (if hw j = 1 then si j else -1))
def poolW (tr : Nat) (qa kn : Nat → Nat) (rt vl hr hw cu si : Nat → Int32) (n : Nat) : va_W := (List.range n).map (tcell tr qa kn rt vl hr hw cu si)
theorem pool_split {g : Nat → Nat × va_E} {n j : Nat} (hj : j < n) : ((List.range n).map g).Perm (g j :: ((List.range n).erase j).map g) := by
  have h := (List.perm_cons_erase (List.mem_range.mpr hj)).map g
  exact h
theorem pool_rest {g g' : Nat → Nat × va_E} {n j : Nat} (h : ∀ i, i ≠ j → g' i = g i) : ((List.range n).erase j).map g' = ((List.range n).erase j).map g := by
  apply List.map_congr_left
  intro i hi
  exact h i ((List.Nodup.mem_erase_iff List.nodup_range).mp hi).1
theorem pool_split' {g g' : Nat → Nat × va_E} {n j : Nat} (hj : j < n) (h : ∀ i, i ≠ j → g' i = g i) : ((List.range n).map g').Perm (g' j :: ((List.range n).erase j).map g) := by
  rw [← pool_rest h]
  exact pool_split hj
theorem pool_same {g g' : Nat → Nat × va_E} {n : Nat} (h : ∀ i, i < n → g' i = g i) : (List.range n).map g' = (List.range n).map g := List.map_congr_left (fun i hi => h i (List.mem_range.mp hi))
def hsRel (n d : Nat) (kn : Nat → Nat) (st sM : TS) (kd vl hr hw cu si : Nat → Int32) : Prop :=
  n ≤ 24 ∧ d ≤ 20000 ∧ trRel st sM ∧ (∀ j, j < n → kn j < 7 ∧ kd j = nI (kn j) ∧ (∃ v : Nat, v ≤ 100000 ∧ vl j = nI v) ∧ (hw j = 1 → ¬ wi (cu j) 0 5 = 0 ∧ ∃ e : Nat, e ≤ d ∧ si j = nI e)) ∧ ∀ j, n ≤ j → hr j = 0 ∧ hw j = 0
theorem pool_ok {n : Nat} {tr : Nat} {qa kn : Nat → Nat} {rt vl hr hw cu si : Nat → Int32} : poolOk (aOf n qa) hw tr (poolW tr qa kn rt vl hr hw cu si n) := by
  intro j _ q hq
  by_cases h : j < n
  · rw [aOf_lt h] at hq
    cases hq
    exact ⟨_, _, _, _, _, _, _, List.mem_map.mpr ⟨j, List.mem_range.mpr h, rfl⟩⟩
  · rw [aOf_ge h] at hq
    cases hq
