/-! the pure words: a trace, the bodies by kind, the cells -/
abbrev TS : Type := Int32 × Int32 × (Nat → Int32)
def lvT (n : Int32) (st : TS) : TS := if st.2.1 = 0 then st else if 8 ≤ st.1 then st else (st.1 + 1, st.2.1, upd st.2.2 st.1.toNatClampNeg n)
def lvs (ns : List Int32) (st : TS) : TS := ns.foldl (fun s n => lvT n s) st
def okT (st : TS) : Prop := ¬ st.1 < 0
theorem okT_lv (n : Int32) {st : TS} (h : okT st) : okT (lvT n st) := by
  unfold lvT
  by_cases h1 : st.2.1 = 0
  · rw [if_pos h1]; exact h
  · rw [if_neg h1]
    by_cases h2 : 8 ≤ st.1
    · rw [if_pos h2]; exact h
    · rw [if_neg h2]
      intro q
      have h' : ¬ st.1 < 0 := h
      rw [Int32.lt_iff_toInt_lt] at h' q
      rw [Int32.le_iff_toInt_le] at h2
      have e8 : (8 : Int32).toInt = 8 := by decide
      have e0 : (0 : Int32).toInt = 0 := by decide
      have e1 : (1 : Int32).toInt = 1 := by decide
      rw [e8] at h2
      rw [e0] at h' q
      have q' : (st.1 + 1).toInt < 0 := q
      rw [Int32.toInt_add, e1] at q'
      have hb : (st.1.toInt + 1).bmod (2 ^ 32) = st.1.toInt + 1 := by
        rw [Int.bmod_eq_of_le] <;> omega
      rw [hb] at q'
      omega
theorem okT_lvs : ∀ (ns : List Int32) {st : TS}, okT st → okT (lvs ns st)
  | [], _, h => h
  | n :: ns, _, h => okT_lvs ns (okT_lv n h)
theorem lvT_off {n : Int32} {st : TS} (h : st.2.1 = 0) : lvT n st = st := by unfold lvT; rw [if_pos h]
theorem lvs_off : ∀ (ns : List Int32) {st : TS}, st.2.1 = 0 → lvs ns st = st
  | [], _, _ => rfl
  | n :: ns, st, h => by
    show lvs ns (lvT n st) = st
    rw [lvT_off h]
    exact lvs_off ns h
theorem okT_in {st : TS} (h : okT st) (h8 : ¬ 8 ≤ st.1) : vp_in st.1 8 := by
  rw [vp_in_iff]
  have h' : ¬ st.1 < 0 := h
  rw [Int32.lt_iff_toInt_lt] at h'
  rw [Int32.le_iff_toInt_le] at h8
  have e8 : (8 : Int32).toInt = 8 := by decide
  have e0 : (0 : Int32).toInt = 0 := by decide
  rw [e8] at h8
  rw [e0] at h'
  omega
def chN (k : Nat) : List Int32 := match k with
  | 2 => [2, 1]
  | 3 => [2, 1]
  | 4 => [3, 2, 1]
  | 6 => [4, 1]
  | _ => [1]
def chF (k : Nat) (rt vl d : Int32) : Int32 := match k with
  | 2 => rt * d + 3 * d
  | 3 => rt * d + 3 * d
  | 4 => 2 * (rt * d + 3 * d) - 5 * (if 0 < d - 7 then d - 7 else 0)
  | 6 => rt * d + vl / 100
  | _ => rt * d
def weN (k : Nat) : List Int32 := match k with
  | 4 => [12, 11]
  | 5 => [13, 11]
  | 6 => [13, 11]
  | _ => [11]
def weF (k : Nat) (hr d : Int32) : Int32 := match k with
  | 4 => d + hr / 10
  | 5 => 3 * d
  | 6 => 3 * d
  | _ => d
def ckN (k : Nat) : List Int32 := match k with
  | 0 => [20]
  | 3 => [22, 21, 20]
  | 4 => [22, 21, 20]
  | 6 => [23, 21, 20]
  | _ => [21, 20]
def ckF (k : Nat) (hr : Int32) : Int32 := match k with
  | 0 => hr / 10
  | 3 => hr / 10 + 1 + 2
  | 4 => hr / 10 + 1 + 2
  | 6 => hr / 10 + 1 + 4
  | _ => hr / 10 + 1
def dpN (k : Nat) : List Int32 := match k with
  | 0 => []
  | 4 => [32, 31]
  | _ => [31]
def dpF (k : Nat) (vl : Int32) : Int32 := match k with
  | 0 => 0
  | 4 => vl / 2 + 500
  | _ => vl / 2
def pmN (k : Nat) : List Int32 := match k with
  | 2 => [41, 31]
  | 3 => [42, 22, 21, 20, 31]
  | 4 => [42, 22, 21, 20, 32, 31]
  | _ => []
def pmF (k : Nat) (vl hr d : Int32) : Int32 := match k with
  | 2 => d * (vl / 2 / 100)
  | 3 => d * (hr / 10 + 1 + 2 + vl / 2 / 200)
  | 4 => d * (hr / 10 + 1 + 2 + (vl / 2 + 500) / 200)
  | _ => 0
def isS (k : Nat) : Int32 := match k with
  | 3 => 1
  | 4 => 1
  | 5 => 1
  | 6 => 1
  | _ => 0
def isI (k : Nat) : Int32 := match k with
  | 2 => 1
  | 3 => 1
  | 4 => 1
  | _ => 0
def hasD (k : Nat) : Int32 := match k with
  | 0 => 0
  | _ => 1
def duN (k : Nat) : List Int32 := if isS k = 0 then [] else 43 :: weN k
def duF (k : Nat) (hr d : Int32) : Int32 := if isS k = 0 then 0 else if hr + weF k hr d ≤ 60 then 0 else 1
/-- within: a from b to c -/
def wi (a b c : Int32) : Int32 := if a < b then 0 else if c < a then 0 else 1
def tAt (a : Nat → Option Nat) (t : Int32) : Option Nat := if t < 0 then none else if 24 ≤ t then none else a t.toNatClampNeg
def payF (acc : Nat → Int64) (c x : Int32) : Nat → Int64 := if wi c 0 5 = 0 then acc else vp_updL acc c.toNatClampNeg (acc c.toNatClampNeg + x.toInt64)
def hasA (k : Nat) (w : Int32) : Int32 := if w = 3 then hasD k else if w = 4 then isI k else if w = 5 then isS k else 1
def ansF (k : Nat) (w rt vl hr d : Int32) : Int32 := if w = 0 then chF k rt vl d else if w = 1 then weF k hr d else if w = 2 then ckF k hr else if w = 3 then dpF k vl else if w = 4 then pmF k vl hr d else if w = 5 then duF k hr d else -2
def ansN (k : Nat) (w : Int32) : List Int32 := if w = 0 then chN k else if w = 1 then weN k else if w = 2 then ckN k else if w = 3 then dpN k else if w = 4 then pmN k else if w = 5 then duN k else []
theorem wi_in {c x : Int32} {n : Nat} (hx : x.toInt = n) (hn : n + 1 < 2 ^ 31) (h : ¬ wi c 0 x = 0) : vp_in c (n + 1) := by
  unfold wi at h
  rw [vp_in_iff]
  by_cases h1 : c < 0
  · rw [if_pos h1] at h; exact absurd rfl h
  · rw [if_neg h1] at h
    by_cases h2 : x < c
    · rw [if_pos h2] at h; exact absurd rfl h
    · rw [Int32.lt_iff_toInt_lt] at h1 h2
      have e0 : (0 : Int32).toInt = 0 := by decide
      rw [e0] at h1
      rw [hx] at h2
      omega
theorem hs_in24 {t : Int32} (h1 : ¬ t < 0) (h2 : ¬ 24 ≤ t) : vp_in t 24 := by
  rw [vp_in_iff]
  rw [Int32.lt_iff_toInt_lt] at h1
  rw [Int32.le_iff_toInt_le] at h2
  have e8 : (24 : Int32).toInt = 24 := by decide
  have e0 : (0 : Int32).toInt = 0 := by decide
  rw [e8] at h2
  rw [e0] at h1
  omega
abbrev tyS (cN cT cJ : ClassId) : List (ClassId × FieldType) := [(cN, .int), (cT, .object RX5), (cJ, .long)]
def tlE (k tr : Nat) (kd rt vl hr hw cu si : Int32) : va_E := .inr (kc k, [.ref tr, .int kd, .int rt, .int vl, .int hr, .int hw, .int cu, .int si])
def trE (nb : Nat) (st : TS) : va_E := .inr (6, [.ref nb, .int st.1, .int st.2.1])
def nbE (cN : ClassId) (st : TS) : va_E := .inl (cN, 8, .inl st.2.2)
def shE (tr ta ac : Nat) (tc td cs hi : Int32) : va_E := .inr (8, [.ref tr, .ref ta, .ref ac, .int tc, .int td, .int cs, .int hi])
def taE (cT : ClassId) (a : Nat → Option Nat) : va_E := .inl (cT, 24, .inr (.inr (.inr (.inr a))))
def acE (cJ : ClassId) (acc : Nat → Int64) : va_E := .inl (cJ, 6, .inr (.inl acc))
/-! the reference's cells -/
def mE (ad : Nat → Nat) (tn td cs hd tc it : Int32) : va_E := .inr (9, [.int tn, .ref (ad 1), .ref (ad 2), .ref (ad 3), .ref (ad 4), .ref (ad 5), .ref (ad 6), .ref (ad 7), .ref (ad 8), .int td, .int cs, .int hd, .ref (ad 9), .int tc, .int it])
def miE (c : ClassId) (n : Nat) (f : Nat → Int32) : va_E := .inl (c, n, .inl f)
abbrev tyM (cd : Nat → ClassId) : List (ClassId × FieldType) := [(cd 1, .int), (cd 2, .int), (cd 3, .int), (cd 4, .int), (cd 5, .int), (cd 6, .int), (cd 7, .int), (cd 8, .long), (cd 9, .int)]
def mW (o : Nat) (ad : Nat → Nat) (cd : Nat → ClassId) (tn td cs hd : Int32) (kd rt vl hr hw cu si : Nat → Int32) (acc : Nat → Int64) (st : TS) : va_W :=
  [(o, mE ad tn td cs hd st.1 st.2.1), (ad 1, miE (cd 1) 24 kd), (ad 2, miE (cd 2) 24 rt), (ad 3, miE (cd 3) 24 vl), (ad 4, miE (cd 4) 24 hr), (ad 5, miE (cd 5) 24 hw), (ad 6, miE (cd 6) 24 cu), (ad 7, miE (cd 7) 24 si), (ad 8, acE (cd 8) acc), (ad 9, miE (cd 9) 16 st.2.2)]
section HSQ
variable {p : Program} {l : Launch} {e : Env} {R : Room} {s : State} {m : MethodId} {args : Array Value} {below : List Frame} {meth : Method} {c : Code} {H : Heap} {locs : List Loc} {cells slots : Nat} {Q : State → Prop}
variable {cc : ByteArray} {pc : Nat} {ls : Array Slot} {D : va_G} {A : Nat → Prop} {tys : List (ClassId × FieldType)} {ws ws' : va_W}
theorem hs_qret {C : String} {v r : Option Nat} (hx : p.tables.exec = Jvm.exec) (hb : c.code = cc) (hr : meth.sig.returnType = some (.object C)) (hlocks : meth.locks = false) (hK : va_K D hs_cl tys s) (hP : va_P D hs_cl ws H) (hD : va_D A ws) (hS : va_S A s.heap H locs) (hdg : decode cc pc = .ok (.areturn, 1)) (hv : v = r) (hw : ws = ws') :
    W p l e R s m args below meth c H locs cells slots (MQ below (hs_QQ D tys r ws' A) args s cells slots A) (F0 m pc ls [va_rf v]) := by
  subst hv; subst hw
  exact W.aret hx hb hr (Or.inl ⟨_, rfl⟩) (va_rf_or v) (fun t ht hW => ⟨⟨v, (), rfl, rfl, by rw [ht]; exact hP, va_K.moved hW.alike hK, hD⟩, hS.F ht⟩) hS.2.2 hdg hlocks
end HSQ
