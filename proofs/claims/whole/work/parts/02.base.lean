/-! the common words, contracts as one form, calls and returns as one row each -/
theorem hs_gt_good : GoodIn hs_gt hs_gt := fun _ h => ⟨h, good_of_word (List.mem_filter.mp h).2⟩
theorem hs_gt_in : ∀ w ∈ hs_gt, w ∈ lw_tbl := fun _ h => (List.mem_filter.mp h).1
abbrev hs_wo (y : MethodName) (cc : ByteArray) (n : Nat) (ret : Option FieldType) : List Cond := .code y cc n ret :: hs_gt
theorem hs_gi {y : MethodName} {cc : ByteArray} {n : Nat} {ret : Option FieldType} (h : Cond.code y cc n ret ∈ hs_gt) : GoodIn hs_gt (hs_wo y cc n ret) := by
  intro w hw
  rcases List.mem_cons.mp hw with rfl | hw
  · exact hs_gt_good _ h
  · exact hs_gt_good _ hw
theorem hs_giA {a b : List Cond} (ha : ∀ w ∈ a, w ∈ hs_gt) (hb : GoodIn hs_gt b) : GoodIn hs_gt (a ++ b) := fun w h => (List.mem_append.mp h).elim (fun h => hs_gt_good w (ha w h)) (hb w)
abbrev hs_cl : List vw_C := [(RX0, TX5, 8), (RX1, TX5, 8), (RX2, TX5, 8), (RX3, TX5, 8), (RX4, TX5, 8), (RX5, TX5, 8), (RX6, TX6, 3), (RX7, TX5, 8), (RX8, TX8, 7), (RX9, TX9, 15)]
theorem in_X0 : ∀ w ∈ u_ws RX0 TX5 8, w ∈ hs_gt := by decide +kernel
theorem in_X1 : ∀ w ∈ u_ws RX1 TX5 8, w ∈ hs_gt := by decide +kernel
theorem in_X2 : ∀ w ∈ u_ws RX2 TX5 8, w ∈ hs_gt := by decide +kernel
theorem in_X3 : ∀ w ∈ u_ws RX3 TX5 8, w ∈ hs_gt := by decide +kernel
theorem in_X4 : ∀ w ∈ u_ws RX4 TX5 8, w ∈ hs_gt := by decide +kernel
theorem in_X5 : ∀ w ∈ u_ws RX5 TX5 8, w ∈ hs_gt := by decide +kernel
theorem in_X6 : ∀ w ∈ u_ws RX6 TX6 3, w ∈ hs_gt := by decide +kernel
theorem in_X7 : ∀ w ∈ u_ws RX7 TX5 8, w ∈ hs_gt := by decide +kernel
theorem in_X8 : ∀ w ∈ u_ws RX8 TX8 7, w ∈ hs_gt := by decide +kernel
theorem in_X9 : ∀ w ∈ u_ws RX9 TX9 15, w ∈ hs_gt := by decide +kernel
/-- kinds: the class of each, its number among the classes -/
def kc (k : Nat) : Nat := match k with
  | 0 => 5
  | 1 => 2
  | 2 => 4
  | 3 => 0
  | 4 => 7
  | 5 => 3
  | _ => 1
def kR (k : Nat) : String := match k with
  | 0 => RX5
  | 1 => RX2
  | 2 => RX4
  | 3 => RX0
  | 4 => RX7
  | 5 => RX3
  | _ => RX1
theorem kc_cl (k : Nat) : hs_cl[kc k]? = some (kR k, TX5, 8) := by
  match k with
  | 0 => rfl
  | 1 => rfl
  | 2 => rfl
  | 3 => rfl
  | 4 => rfl
  | 5 => rfl
  | _ + 6 => rfl
theorem kc_in (k : Nat) : ∀ w ∈ u_ws (kR k) TX5 8, w ∈ hs_gt := by
  match k with
  | 0 => exact in_X5
  | 1 => exact in_X2
  | 2 => exact in_X4
  | 3 => exact in_X0
  | 4 => exact in_X7
  | 5 => exact in_X3
  | _ + 6 => exact in_X1
/-! contracts -/
def hs_pre (D : va_G) (tys : List (ClassId × FieldType)) (ws : va_W) (sz : Nat) (U : State) : Prop := U.heap.size = sz ∧ va_P D hs_cl ws U.heap ∧ va_K D hs_cl tys U ∧ va_D (fun _ => True) ws
def hs_end (D : va_G) (tys : List (ClassId × FieldType)) (A : Nat → Prop) (ws' : va_W) (t : State) : Prop := va_P D hs_cl ws' t.heap ∧ va_K D hs_cl tys t ∧ va_D A ws'
def hs_QI (D : va_G) (tys : List (ClassId × FieldType)) (r : Int32) (ws' : va_W) (A : Nat → Prop) : Array Value → State → Outcome → State → Prop := va_Qi (fun (r' : Int32) (_ : Unit) => r' = r) (fun _ t => hs_end D tys A ws' t) A
def hs_QL (D : va_G) (tys : List (ClassId × FieldType)) (r : Int64) (ws' : va_W) (A : Nat → Prop) : Array Value → State → Outcome → State → Prop := va_Ql (fun (r' : Int64) (_ : Unit) => r' = r) (fun _ t => hs_end D tys A ws' t) A
def hs_QV (D : va_G) (tys : List (ClassId × FieldType)) (ws' : va_W) (A : Nat → Prop) : Array Value → State → Outcome → State → Prop := va_Qv (fun (_ : Unit) => True) (fun _ t => hs_end D tys A ws' t) A
def hs_QQ (D : va_G) (tys : List (ClassId × FieldType)) (r : Option Nat) (ws' : va_W) (A : Nat → Prop) : Array Value → State → Outcome → State → Prop := va_Qq (fun (r' : Option Nat) (_ : Unit) => r' = r) (fun _ t => hs_end D tys A ws' t) A
def CM (l : Launch) (D : va_G) (y : MethodName) (cc : ByteArray) (n : Nat) (ret : Option FieldType) (rm : Room) (tys : List (ClassId × FieldType)) (av : List Value) (ws : va_W) (Qf : (Nat → Prop) → Array Value → State → Outcome → State → Prop) : Prop :=
  ∀ sz : Nat, Met l y (hs_wo y cc n ret) rm (va_Pc av (hs_pre D tys ws sz)) (Qf (va_A ws sz)) rm.cells rm.slots (va_A ws sz)
theorem CM.of {l : Launch} {D : va_G} {y : MethodName} {cc : ByteArray} {n : Nat} {ret : Option FieldType} {rm : Room} {tys : List (ClassId × FieldType)} {av : List Value} {ws : va_W} {Qf : (Nat → Prop) → Array Value → State → Outcome → State → Prop} (hy : plainName y.cls = true) (hav : (lg_sl av).length ≤ n)
    (body : ∀ (p : Program) (e : Env) (s : State) (m : MethodId) (below : List Frame) (meth : Method) (c : Code) (A : Nat → Prop) (ls : Array Slot), p.tables.exec = Jvm.exec → c.code = cc → meth.sig.returnType = ret → c.maxLocals = n → (∀ w ∈ hs_gt, w.before av.toArray s = true) → s.vm.findClass y.cls = some m.cls → meth.locks = false → meth.name = y.name →
      (∀ q : Nat, s.heap.size ≤ q → A q) → va_K D hs_cl tys s → va_P D hs_cl ws s.heap → va_D A ws → va_S A s.heap s.heap [] → lv_has ls n (lv_args 0 av) → W p l e rm s m av.toArray below meth c s.heap [] 0 0 (MQ below (Qf A) av.toArray s rm.cells rm.slots A) (F0 m 0 ls [])) : CM l D y cc n ret rm tys av ws Qf := by
  intro sz
  refine Met.ofW (cc := cc) (maxL := n) (ret := ret) hy rfl ?_
  intro p e s m args below meth c s₁ B hml hv
  obtain ⟨rfl, hsz, hP, hK, hD0⟩ := hv
  subst hsz
  have hts := atoms_spec (ws := hs_wo y cc n ret) B.pre
  have hl := lv_entry av hav
  rw [lg_entry_eq]
  exact body p e s m below meth c (va_A ws s.heap.size) _ B.exec B.bytes B.returns hml (fun w h => hts w (List.mem_cons_of_mem _ h)) (findClass_of_methodNamed B.named) B.notSynchronized (name_of_methodNamed B.named B.method).1 (fun q h => Or.inr h) hK hP hD0.self va_S.rf hl
section HSR
variable {p : Program} {l : Launch} {e : Env} {R : Room} {s : State} {m : MethodId} {args : Array Value} {below : List Frame} {meth : Method} {c : Code} {H : Heap} {locs : List Loc} {cells slots : Nat} {Q : State → Prop}
variable {cc : ByteArray} {pc : Nat} {ls : Array Slot} {rest st0 : List Value} {D : va_G} {A : Nat → Prop} {a : Array Value} {tys tc : List (ClassId × FieldType)} {ws wc w1 wr ws2 ws' : va_W} {H0 : Heap}
theorem hs_iret {v r : Int32} (hx : p.tables.exec = Jvm.exec) (hb : c.code = cc) (hr : meth.sig.returnType = some .int) (hlocks : meth.locks = false) (hK : va_K D hs_cl tys s) (hP : va_P D hs_cl ws H) (hD : va_D A ws) (hS : va_S A s.heap H locs) (hdg : decode cc pc = .ok (.ireturn, 1)) (hv : v = r) (hw : ws = ws') :
    W p l e R s m args below meth c H locs cells slots (MQ below (hs_QI D tys r ws' A) args s cells slots A) (F0 m pc ls [.int v]) := by
  subst hv; subst hw
  exact W.iret hx hb hr (fun t ht hW => ⟨⟨v, (), rfl, rfl, by rw [ht]; exact hP, va_K.moved hW.alike hK, hD⟩, hS.F ht⟩) hS.2.2 hdg hlocks
theorem hs_zret {v r : Int32} (hx : p.tables.exec = Jvm.exec) (hb : c.code = cc) (hr : meth.sig.returnType = some .boolean) (hlocks : meth.locks = false) (hK : va_K D hs_cl tys s) (hP : va_P D hs_cl ws H) (hD : va_D A ws) (hS : va_S A s.heap H locs) (hdg : decode cc pc = .ok (.ireturn, 1)) (hn : narrow .boolean (.int v) = .int v) (hv : v = r) (hw : ws = ws') :
    W p l e R s m args below meth c H locs cells slots (MQ below (hs_QI D tys r ws' A) args s cells slots A) (F0 m pc ls [.int v]) := by
  subst hv; subst hw
  exact W.zret hx hb hr hn (fun t ht hW => ⟨⟨v, (), rfl, rfl, by rw [ht]; exact hP, va_K.moved hW.alike hK, hD⟩, hS.F ht⟩) hS.2.2 hdg hlocks
theorem hs_lret {v r : Int64} (hx : p.tables.exec = Jvm.exec) (hb : c.code = cc) (hr : meth.sig.returnType = some .long) (hlocks : meth.locks = false) (hK : va_K D hs_cl tys s) (hP : va_P D hs_cl ws H) (hD : va_D A ws) (hS : va_S A s.heap H locs) (hdg : decode cc pc = .ok (.lreturn, 1)) (hv : v = r) (hw : ws = ws') :
    W p l e R s m args below meth c H locs cells slots (MQ below (hs_QL D tys r ws' A) args s cells slots A) (F0 m pc ls [.long v]) := by
  subst hv; subst hw
  exact W.lret hx hb hr (fun t ht hW => ⟨⟨v, (), rfl, rfl, by rw [ht]; exact hP, va_K.moved hW.alike hK, hD⟩, hS.F ht⟩) hS.2.2 hdg hlocks
theorem hs_vret (hx : p.tables.exec = Jvm.exec) (hb : c.code = cc) (hr : meth.sig.returnType = none) (hlocks : meth.locks = false) (hK : va_K D hs_cl tys s) (hP : va_P D hs_cl ws H) (hD : va_D A ws) (hS : va_S A s.heap H locs) (hdg : decode cc pc = .ok (.return_, 1)) (hw : ws = ws') :
    W p l e R s m args below meth c H locs cells slots (MQ below (hs_QV D tys ws' A) args s cells slots A) (F0 m pc ls []) := by
  subst hw
  exact W.vret hx hb hr (fun t ht hW => ⟨⟨(), rfl, trivial, by rw [ht]; exact hP, va_K.moved hW.alike hK, hD⟩, hS.F ht⟩) hS.2.2 hdg hlocks
/-- behind a call: the callee's cells are back among the caller's, in the order ws2 -/
theorem hs_back {H1 : Heap} (hP : va_P D hs_cl ws H) (hD : va_D A ws) (hF : ∀ q, va_A wc H.size q → A q) (isC isR isB : List Nat) (hC : isC.map (fun i => ws[i]?) = wc.map some) (hR : isR.map (fun i => ws[i]?) = wr.map some) (hn : va_nd isR = true) (hdis : ∀ i ∈ isR, i ∉ isC) (hB : isB.map (fun i => (wr ++ w1)[i]?) = ws2.map some) (hnB : va_nd isB = true)
    (hk : ∀ q : Nat, q < H.size → ¬ va_A wc H.size q → H1[q]? = H[q]?) (hP1 : va_P D hs_cl w1 H1) (hD1 : va_D (va_A wc H.size) w1) : va_P D hs_cl ws2 H1 ∧ va_D A ws2 := by
  obtain ⟨hP2, hD2⟩ := va_join (wr := wr) (w1 := w1) hP hD isC isR hC hR hn hdis hk hF hP1 hD1
  refine ⟨?_, hD2.sub isB hnB hB⟩
  intro k q hq
  obtain ⟨i, -, h2⟩ := va_in_of isB hB hq
  exact hP2 i q h2
theorem hs_calli {r : Int32} (hr : va_Run p l e R s m args below meth c H locs cells slots 0 0 (F0 m pc ls st0) rest (hs_QI D tc r w1 (va_A wc H.size) a) (va_A wc H.size)) (hP : va_P D hs_cl ws H) (hD : va_D A ws) (hS : va_S A H0 H locs) (hA : ∀ q, H0.size ≤ q → A q) (isC isR isB : List Nat) (hC : isC.map (fun i => ws[i]?) = wc.map some) (hR : isR.map (fun i => ws[i]?) = wr.map some) (hn : va_nd isR = true) (hdis : ∀ i ∈ isR, i ∉ isC) (hB : isB.map (fun i => (wr ++ w1)[i]?) = ws2.map some) (hnB : va_nd isB = true)
    (kk : ∀ (H1 : Heap) (locs1 : List Loc), va_P D hs_cl ws2 H1 → va_D A ws2 → va_S A H0 H1 locs1 → W p l e R s m args below meth c H1 locs1 cells slots Q (F0 m (pc + 3) ls (.int r :: rest))) : W p l e R s m args below meth c H locs cells slots Q (F0 m pc ls st0) := by
  have hF := va_free (wc := wc) hD hS hA isC hC
  refine va_calli hr hS (fun q _ h => hF q h) hF (fun r' u t H1 locs1 ht hvm hw hB1 hz1 hk1 hS1 => ?_)
  obtain ⟨hP1, -, hD1⟩ := hB1
  rw [ht] at hP1
  obtain ⟨hP2, hD2⟩ := hs_back hP hD hF isC isR isB hC hR hn hdis hB hnB hk1 hP1 hD1
  have hw' : r' = r := hw
  subst hw'
  exact kk H1 locs1 hP2 hD2 hS1
theorem hs_calll {r : Int64} (hr : va_Run p l e R s m args below meth c H locs cells slots 0 0 (F0 m pc ls st0) rest (hs_QL D tc r w1 (va_A wc H.size) a) (va_A wc H.size)) (hP : va_P D hs_cl ws H) (hD : va_D A ws) (hS : va_S A H0 H locs) (hA : ∀ q, H0.size ≤ q → A q) (isC isR isB : List Nat) (hC : isC.map (fun i => ws[i]?) = wc.map some) (hR : isR.map (fun i => ws[i]?) = wr.map some) (hn : va_nd isR = true) (hdis : ∀ i ∈ isR, i ∉ isC) (hB : isB.map (fun i => (wr ++ w1)[i]?) = ws2.map some) (hnB : va_nd isB = true)
    (kk : ∀ (H1 : Heap) (locs1 : List Loc), va_P D hs_cl ws2 H1 → va_D A ws2 → va_S A H0 H1 locs1 → W p l e R s m args below meth c H1 locs1 cells slots Q (F0 m (pc + 3) ls (.long r :: rest))) : W p l e R s m args below meth c H locs cells slots Q (F0 m pc ls st0) := by
  have hF := va_free (wc := wc) hD hS hA isC hC
  refine va_calll hr hS (fun q _ h => hF q h) hF (fun r' u t H1 locs1 ht hvm hw hB1 hz1 hk1 hS1 => ?_)
  obtain ⟨hP1, -, hD1⟩ := hB1
  rw [ht] at hP1
  obtain ⟨hP2, hD2⟩ := hs_back hP hD hF isC isR isB hC hR hn hdis hB hnB hk1 hP1 hD1
  have hw' : r' = r := hw
  subst hw'
  exact kk H1 locs1 hP2 hD2 hS1
theorem hs_callv (hr : va_Run p l e R s m args below meth c H locs cells slots 0 0 (F0 m pc ls st0) rest (hs_QV D tc w1 (va_A wc H.size) a) (va_A wc H.size)) (hP : va_P D hs_cl ws H) (hD : va_D A ws) (hS : va_S A H0 H locs) (hA : ∀ q, H0.size ≤ q → A q) (isC isR isB : List Nat) (hC : isC.map (fun i => ws[i]?) = wc.map some) (hR : isR.map (fun i => ws[i]?) = wr.map some) (hn : va_nd isR = true) (hdis : ∀ i ∈ isR, i ∉ isC) (hB : isB.map (fun i => (wr ++ w1)[i]?) = ws2.map some) (hnB : va_nd isB = true)
    (kk : ∀ (H1 : Heap) (locs1 : List Loc), va_P D hs_cl ws2 H1 → va_D A ws2 → va_S A H0 H1 locs1 → W p l e R s m args below meth c H1 locs1 cells slots Q (F0 m (pc + 3) ls rest)) : W p l e R s m args below meth c H locs cells slots Q (F0 m pc ls st0) := by
  have hF := va_free (wc := wc) hD hS hA isC hC
  refine va_callv hr hS (fun q _ h => hF q h) hF (fun u t H1 locs1 ht hvm hw hB1 hz1 hk1 hS1 => ?_)
  obtain ⟨hP1, -, hD1⟩ := hB1
  rw [ht] at hP1
  obtain ⟨hP2, hD2⟩ := hs_back hP hD hF isC isR isB hC hR hn hdis hB hnB hk1 hP1 hD1
  exact kk H1 locs1 hP2 hD2 hS1
theorem hs_callq {r : Option Nat} (hr : va_Run p l e R s m args below meth c H locs cells slots 0 0 (F0 m pc ls st0) rest (hs_QQ D tc r w1 (va_A wc H.size) a) (va_A wc H.size)) (hP : va_P D hs_cl ws H) (hD : va_D A ws) (hS : va_S A H0 H locs) (hA : ∀ q, H0.size ≤ q → A q) (isC isR isB : List Nat) (hC : isC.map (fun i => ws[i]?) = wc.map some) (hR : isR.map (fun i => ws[i]?) = wr.map some) (hn : va_nd isR = true) (hdis : ∀ i ∈ isR, i ∉ isC) (hB : isB.map (fun i => (wr ++ w1)[i]?) = ws2.map some) (hnB : va_nd isB = true)
    (kk : ∀ (H1 : Heap) (locs1 : List Loc), va_P D hs_cl ws2 H1 → va_D A ws2 → va_S A H0 H1 locs1 → W p l e R s m args below meth c H1 locs1 cells slots Q (F0 m (pc + 3) ls (va_rf r :: rest))) : W p l e R s m args below meth c H locs cells slots Q (F0 m pc ls st0) := by
  have hF := va_free (wc := wc) hD hS hA isC hC
  refine va_callq hr hS (fun q _ h => hF q h) hF (fun r' u t H1 locs1 ht hvm hw hB1 hz1 hk1 hS1 => ?_)
  obtain ⟨hP1, -, hD1⟩ := hB1
  rw [ht] at hP1
  obtain ⟨hP2, hD2⟩ := hs_back hP hD hF isC isR isB hC hR hn hdis hB hnB hk1 hP1 hD1
  have hw' : r' = r := hw
  subst hw'
  exact kk H1 locs1 hP2 hD2 hS1
/-! a call whose callee has the caller's whole world -/
theorem hs_free0 (hD : va_D A ws) (hS : va_S A H0 H locs) (hA : ∀ q, H0.size ≤ q → A q) : ∀ q, va_A ws H.size q → A q := by
  intro q h
  rcases h with ⟨k, e, h⟩ | h
  · exact hD.2 k _ h
  · exact hA q (Nat.le_trans hS.1 h)
theorem hs_calli0 {r : Int32} (hr : va_Run p l e R s m args below meth c H locs cells slots 0 0 (F0 m pc ls st0) rest (hs_QI D tc r w1 (va_A ws H.size) a) (va_A ws H.size)) (hD : va_D A ws) (hS : va_S A H0 H locs) (hA : ∀ q, H0.size ≤ q → A q)
    (kk : ∀ (H1 : Heap) (locs1 : List Loc), va_P D hs_cl w1 H1 → va_D A w1 → va_S A H0 H1 locs1 → W p l e R s m args below meth c H1 locs1 cells slots Q (F0 m (pc + 3) ls (.int r :: rest))) : W p l e R s m args below meth c H locs cells slots Q (F0 m pc ls st0) := by
  have hF := hs_free0 hD hS hA
  refine va_calli hr hS (fun q _ h => hF q h) hF (fun r' u t H1 locs1 ht hvm hw hB1 hz1 hk1 hS1 => ?_)
  obtain ⟨hP1, -, hD1⟩ := hB1
  rw [ht] at hP1
  have hw' : r' = r := hw
  subst hw'
  exact kk H1 locs1 hP1 (hD1.weaken (fun k q _ h => hF q.1 h)) hS1
theorem hs_callv0 (hr : va_Run p l e R s m args below meth c H locs cells slots 0 0 (F0 m pc ls st0) rest (hs_QV D tc w1 (va_A ws H.size) a) (va_A ws H.size)) (hD : va_D A ws) (hS : va_S A H0 H locs) (hA : ∀ q, H0.size ≤ q → A q)
    (kk : ∀ (H1 : Heap) (locs1 : List Loc), va_P D hs_cl w1 H1 → va_D A w1 → va_S A H0 H1 locs1 → W p l e R s m args below meth c H1 locs1 cells slots Q (F0 m (pc + 3) ls rest)) : W p l e R s m args below meth c H locs cells slots Q (F0 m pc ls st0) := by
  have hF := hs_free0 hD hS hA
  refine va_callv hr hS (fun q _ h => hF q h) hF (fun u t H1 locs1 ht hvm hw hB1 hz1 hk1 hS1 => ?_)
  obtain ⟨hP1, -, hD1⟩ := hB1
  rw [ht] at hP1
  exact kk H1 locs1 hP1 (hD1.weaken (fun k q _ h => hF q.1 h)) hS1
/-! what a callee asks of the tables, once for each -/
def hs_cV (y : MethodName) (cc : ByteArray) (n : Nat) (ret : Option FieldType) (k : Nat) : Prop := Cond.code y cc n ret ∈ hs_gt ∧ Cond.instanceMethod y ∈ hs_gt ∧ Cond.selects y.cls y y ∈ hs_gt ∧ Cond.initialized y.cls ∈ hs_gt ∧ (y.cls ≠ "java/lang/invoke/MethodHandle" ∧ y.cls ≠ "java/lang/invoke/VarHandle" ∧ (parseMethodDescriptor y.desc).map (fun d => d.parameters.length) = some k)
def hs_cS (y : MethodName) (cc : ByteArray) (n : Nat) (ret : Option FieldType) (k : Nat) : Prop := Cond.code y cc n ret ∈ hs_gt ∧ Cond.static y ∈ hs_gt ∧ Cond.initialized y.cls ∈ hs_gt ∧ (y.cls ≠ "java/lang/invoke/MethodHandle" ∧ y.cls ≠ "java/lang/invoke/VarHandle" ∧ (parseMethodDescriptor y.desc).map (fun d => d.parameters.length) = some k)
def hs_cN (y : MethodName) (cc : ByteArray) (n : Nat) (k : Nat) : Prop := Cond.code y cc n none ∈ hs_gt ∧ Cond.instanceMethod y ∈ hs_gt ∧ Cond.initialized y.cls ∈ hs_gt ∧ y.name = "<init>" ∧ (y.cls ≠ "java/lang/invoke/MethodHandle" ∧ y.cls ≠ "java/lang/invoke/VarHandle" ∧ (parseMethodDescriptor y.desc).map (fun d => d.parameters.length) = some k)
/-- a method by the name x, declared by owner, that a receiver of the class C answers by y -/
def hs_cU (C owner : String) (x y : MethodName) (cc : ByteArray) (n : Nat) (ret : Option FieldType) (k : Nat) : Prop := Cond.code y cc n ret ∈ hs_gt ∧ Cond.instanceMethod y ∈ hs_gt ∧ Cond.selects C x y ∈ hs_gt ∧ Cond.initialized y.cls ∈ hs_gt ∧ Cond.sameMethod x.cls owner x.name x.desc ∈ hs_gt ∧ Cond.instanceMethod ⟨owner, x.name, x.desc⟩ ∈ hs_gt ∧ (∃ b0 m0 r0, Cond.code ⟨owner, x.name, x.desc⟩ b0 m0 r0 ∈ hs_gt) ∧
  (owner ≠ "java/lang/invoke/MethodHandle" ∧ owner ≠ "java/lang/invoke/VarHandle" ∧ (parseMethodDescriptor x.desc).map (fun d => d.parameters.length) = some k)
theorem hs_blind {D : va_G} {tys : List (ClassId × FieldType)} {av : List Value} {ws : va_W} {sz : Nat} : FrameBlind (va_Pc av (hs_pre D tys ws sz)) := fun a U g mk q => by
  obtain ⟨q0, q1, qP, qK, qD⟩ := q
  exact ⟨q0, q1, qP, va_K.moved (u := U) (U := U.calling g mk a) (Vm.Alike.refl U.vm) qK, qD⟩
theorem hs_enter {H : Heap} (hK : va_K D hs_cl tc s) (hP : va_P D hs_cl wc H) (hD : va_D A wc) {av : List Value} : ∀ U : State, U.heap = H → s.WarmedH U.vm → va_Pc av (hs_pre D tc wc H.size) av.toArray U := fun U hU hW => ⟨rfl, by rw [hU], by rw [hU]; exact hP, va_K.moved hW.alike hK, hD.weaken (fun _ _ _ _ => trivial)⟩
theorem hs_runV {y : MethodName} {cy : ByteArray} {n nL k index q0 ci N : Nat} {ret : Option FieldType} {rm : Room} {As rest : List Value} {b : Nat} {Qf : (Nat → Prop) → Array Value → State → Outcome → State → Prop} {own : String} {T : u_T} {fs : List Value} (S : CallFix p m c cc nL s args hs_gt own) (hc : hs_cV y cy n ret k) (hlink : Cond.methodLink own index y ∈ hs_gt)
    (hM : CM l D y cy n ret rm tc (.ref b :: As) wc Qf) (hK : va_K D hs_cl tc s) (hP : va_P D hs_cl wc H) (hD : va_D A wc) (he : wc[q0]? = some (b, .inr (ci, fs))) (hcl : hs_cl[ci]? = some (y.cls, T, N)) (hR : rm.frames + 1 ≤ R.frames ∧ 8 + (n + 11) + rm.locals ≤ R.locals)
    (hn : As.length = k) (hsize : ls.size = nL) (hst : st0 = As.reverse ++ .ref b :: rest) (hW : (rest.map fun v => v.category).sum ≤ 8) (hdg : decode cc pc = .ok (.invokevirtual index, 3)) (hf : cells + rm.cells ≤ R.cells ∧ slots + rm.slots ≤ R.slots) :
    va_Run p l e R s m args below meth c H locs cells slots rm.cells rm.slots (F0 m pc ls st0) rest (Qf (va_A wc H.size) (Value.ref b :: As).toArray) (va_A wc H.size) := by
  obtain ⟨h1, h2, h3, h4, h5⟩ := hc
  refine va_runV (C := y.cls) S (hM H.size) (cwV k S.2.2.2.2 (hs_giA ?_ (hs_gi h1)) rfl rfl rfl ⟨rfl, h5⟩ hR) ⟨hs_blind, va_recv hK hP hcl he, hs_enter hK hP hD⟩ rfl hn hsize hst (lv_room hW) hdg hf
  intro w hw
  simp only [List.mem_cons, List.not_mem_nil, or_false] at hw
  rcases hw with rfl | rfl | rfl | rfl
  · exact hlink
  · exact h2
  · exact h3
  · exact h4
theorem hs_runS {y : MethodName} {cy : ByteArray} {n nL k index : Nat} {ret : Option FieldType} {rm : Room} {As rest : List Value} {Qf : (Nat → Prop) → Array Value → State → Outcome → State → Prop} {own : String} (S : CallFix p m c cc nL s args hs_gt own) (hc : hs_cS y cy n ret k) (hlink : Cond.methodLink own index y ∈ hs_gt)
    (hM : CM l D y cy n ret rm tc As wc Qf) (hK : va_K D hs_cl tc s) (hP : va_P D hs_cl wc H) (hD : va_D A wc) (hR : rm.frames + 1 ≤ R.frames ∧ 8 + (n + 11) + rm.locals ≤ R.locals)
    (hn : As.length = k) (hsize : ls.size = nL) (hst : st0 = As.reverse ++ rest) (hW : (rest.map fun v => v.category).sum ≤ 8) (hdg : decode cc pc = .ok (.invokestatic index, 3)) (hf : cells + rm.cells ≤ R.cells ∧ slots + rm.slots ≤ R.slots) :
    va_Run p l e R s m args below meth c H locs cells slots rm.cells rm.slots (F0 m pc ls st0) rest (Qf (va_A wc H.size) As.toArray) (va_A wc H.size) := by
  obtain ⟨h1, h2, h4, h5⟩ := hc
  refine va_runS S (hM H.size) (va_cwS k S.2.2.2.2 (hs_giA ?_ (hs_gi h1)) rfl rfl rfl h5 hR) ⟨hs_blind, hs_enter hK hP hD⟩ rfl hn hsize hst (lv_room hW) hdg hf
  intro w hw
  simp only [List.mem_cons, List.not_mem_nil, or_false] at hw
  rcases hw with rfl | rfl | rfl
  · exact hlink
  · exact h2
  · exact h4
theorem hs_runI {y : MethodName} {cy : ByteArray} {n nL k index : Nat} {rm : Room} {As rest : List Value} {b : Nat} {Qf : (Nat → Prop) → Array Value → State → Outcome → State → Prop} {own : String} (S : CallFix p m c cc nL s args hs_gt own) (hc : hs_cN y cy n k) (hlink : Cond.methodLink own index y ∈ hs_gt)
    (hM : CM l D y cy n none rm tc (.ref b :: As) wc Qf) (hK : va_K D hs_cl tc s) (hP : va_P D hs_cl wc H) (hD : va_D A wc) (hR : rm.frames + 1 ≤ R.frames ∧ 8 + (n + 11) + rm.locals ≤ R.locals)
    (hn : As.length = k) (hsize : ls.size = nL) (hst : st0 = As.reverse ++ .ref b :: rest) (hW : (rest.map fun v => v.category).sum ≤ 8) (hdg : decode cc pc = .ok (.invokespecial index, 3)) (hf : cells + rm.cells ≤ R.cells ∧ slots + rm.slots ≤ R.slots) :
    va_Run p l e R s m args below meth c H locs cells slots rm.cells rm.slots (F0 m pc ls st0) rest (Qf (va_A wc H.size) (Value.ref b :: As).toArray) (va_A wc H.size) := by
  obtain ⟨h1, h2, h4, h5, h6⟩ := hc
  have ht := S.2.2.2.2
  exact va_runI S (hM H.size) (cwI k ht (hs_gi h1) rfl rfl rfl (ht _ h4) (ht _ hlink) (ht _ h2) h5 h6 hR) ⟨hs_blind, hs_enter hK hP hD⟩ rfl hn hsize hst (lv_room hW) hdg hf
theorem hs_runU {C owner : String} {x y : MethodName} {cy : ByteArray} {n nL k index q0 ci N : Nat} {ret : Option FieldType} {rm : Room} {As rest : List Value} {b : Nat} {Qf : (Nat → Prop) → Array Value → State → Outcome → State → Prop} {own : String} {T : u_T} {fs : List Value} (S : CallFix p m c cc nL s args hs_gt own) (hc : hs_cU C owner x y cy n ret k) (hlink : Cond.methodLink own index x ∈ hs_gt)
    (hM : CM l D y cy n ret rm tc (.ref b :: As) wc Qf) (hK : va_K D hs_cl tc s) (hP : va_P D hs_cl wc H) (hD : va_D A wc) (he : wc[q0]? = some (b, .inr (ci, fs))) (hcl : hs_cl[ci]? = some (C, T, N)) (hR : rm.frames + 1 ≤ R.frames ∧ 8 + (n + 11) + rm.locals ≤ R.locals)
    (hn : As.length = k) (hsize : ls.size = nL) (hst : st0 = As.reverse ++ .ref b :: rest) (hW : (rest.map fun v => v.category).sum ≤ 8) (hdg : decode cc pc = .ok (.invokevirtual index, 3)) (hf : cells + rm.cells ≤ R.cells ∧ slots + rm.slots ≤ R.slots) :
    va_Run p l e R s m args below meth c H locs cells slots rm.cells rm.slots (F0 m pc ls st0) rest (Qf (va_A wc H.size) (Value.ref b :: As).toArray) (va_A wc H.size) := by
  obtain ⟨h1, h2, h3, h4, h5, h6, ⟨b0, m0, r0, h7⟩, h8⟩ := hc
  refine va_runU (C := C) (owner := owner) S (hM H.size) (va_cwO k S.2.2.2.2 (hs_giA ?_ (hs_gi h1)) rfl rfl rfl h7 h8 hR) ⟨hs_blind, va_recv hK hP hcl he, hs_enter hK hP hD⟩ rfl hn hsize hst (lv_room hW) hdg hf
  intro w hw
  simp only [List.mem_cons, List.not_mem_nil, or_false] at hw
  rcases hw with rfl | rfl | rfl | rfl | rfl | rfl
  · exact hlink
  · exact h5
  · exact h6
  · exact h3
  · exact h2
  · exact h4
end HSR
/-! a super call whose method is declared further up -/
theorem hs_subMono (vm : Vm) : ∀ (n : Nat) (c t : ClassId), vm.isSubclassAux n c t = true → ∀ m, n ≤ m → vm.isSubclassAux m c t = true := by
  intro n
  induction n with
  | zero => intro c t h; simp [Vm.isSubclassAux] at h
  | succ n ih =>
    intro c t h m hm
    obtain ⟨m, rfl⟩ : ∃ k, m = k + 1 := ⟨m - 1, by omega⟩
    unfold Vm.isSubclassAux at h ⊢
    by_cases hct : c = t
    · subst hct
      simp
    · have hne : (c == t) = false := by simpa using hct
      simp only [hne, Bool.false_or] at h ⊢
      cases hk : vm.classes[c]? with
      | none => simp [hk] at h
      | some k =>
        simp only [hk] at h ⊢
        cases hs : k.super with
        | none => simp [hs] at h
        | some q =>
          simp only [hs] at h ⊢
          exact ih q t h m (by omega)
theorem hs_subStep {vm : Vm} {n : Nat} {c q t : ClassId} {k : Class} (hk : vm.classes[c]? = some k) (hs : k.super = some q) (h : vm.isSubclassAux n q t = true) : vm.isSubclassAux (n + 1) c t = true := by
  unfold Vm.isSubclassAux
  simp [hk, hs, h]
theorem hs_lt {s : State} {A : String} {a : Nat} (h : s.vm.findClass A = some a) : a < s.vm.classes.size := by
  obtain ⟨k, hk, -⟩ := Vm.findClass_spec h
  exact (Array.getElem?_eq_some_iff.mp hk).1
theorem hs_apart {s : State} {A B : String} {a b : Nat} (ha : s.vm.findClass A = some a) (hb : s.vm.findClass B = some b) (h : A ≠ B) : a ≠ b := by
  intro e
  subst e
  obtain ⟨k, hk, hn⟩ := Vm.findClass_spec ha
  obtain ⟨k', hk', hn'⟩ := Vm.findClass_spec hb
  cases hk.symm.trans hk'
  exact h (hn.symm.trans hn')
/-- A is below B by the words of the tables -/
def hs_below (s : State) (A B : String) : Prop := ∀ a b : Nat, s.vm.findClass A = some a → s.vm.findClass B = some b → s.vm.isSubclass a b = true
theorem hs_below0 {s : State} {A : String} : hs_below s A A := fun a b ha hb => by
  cases ha.symm.trans hb
  simp [Vm.isSubclass, Vm.isSubclassAux]
theorem hs_below1 {s : State} {args : Array Value} {A B : String} (h : (Cond.superclass A B).before args s = true) : hs_below s A B := fun a b ha hb => by
  obtain ⟨q, k, kp, hq, hk, -, hs, -⟩ := Cond.superclass_spec ha h
  cases hq.symm.trans hb
  have h1 : s.vm.isSubclassAux 1 b b = true := by simp [Vm.isSubclassAux]
  exact hs_subMono _ _ _ _ (hs_subStep hk hs h1) _ (by have := hs_lt ha; omega)
theorem hs_below2 {s : State} {args : Array Value} {A B C : String} (h : (Cond.superclass A B).before args s = true) (h2 : (Cond.superclass B C).before args s = true) (hAB : A ≠ B) : hs_below s A C := fun a c ha hc => by
  obtain ⟨q, k, kp, hq, hk, -, hs, -⟩ := Cond.superclass_spec ha h
  obtain ⟨q2, k2, kp2, hq2, hk2, -, hs2, -⟩ := Cond.superclass_spec hq h2
  cases hq2.symm.trans hc
  have h1 : s.vm.isSubclassAux 1 c c = true := by simp [Vm.isSubclassAux]
  exact hs_subMono _ _ _ _ (hs_subStep hk hs (hs_subStep hk2 hs2 h1)) _ (by have := hs_lt ha; have := hs_lt hq; have := hs_apart ha hq hAB; omega)
theorem hs_below3 {s : State} {args : Array Value} {A B C E : String} (h : (Cond.superclass A B).before args s = true) (h2 : (Cond.superclass B C).before args s = true) (h3 : (Cond.superclass C E).before args s = true) (hAB : A ≠ B) (hAC : A ≠ C) (hBC : B ≠ C) : hs_below s A E := fun a c ha hc => by
  obtain ⟨q, k, kp, hq, hk, -, hs, -⟩ := Cond.superclass_spec ha h
  obtain ⟨q2, k2, kp2, hq2, hk2, -, hs2, -⟩ := Cond.superclass_spec hq h2
  obtain ⟨q3, k3, kp3, hq3, hk3, -, hs3, -⟩ := Cond.superclass_spec hq2 h3
  cases hq3.symm.trans hc
  have h1 : s.vm.isSubclassAux 1 c c = true := by simp [Vm.isSubclassAux]
  exact hs_subMono _ _ _ _ (hs_subStep hk hs (hs_subStep hk2 hs2 (hs_subStep hk3 hs3 h1))) _ (by have := hs_lt ha; have := hs_lt hq; have := hs_lt hq2; have := hs_apart ha hq hAB; have := hs_apart ha hq2 hAC; have := hs_apart hq hq2 hBC; omega)
def hs_cU2 (own owner : String) (x y : MethodName) (cc : ByteArray) (n : Nat) (ret : Option FieldType) (k : Nat) : Prop := Cond.code y cc n ret ∈ hs_gt ∧ Cond.instanceMethod y ∈ hs_gt ∧ Cond.initialized y.cls ∈ hs_gt ∧ Cond.sameMethod x.cls owner x.name x.desc ∈ hs_gt ∧ Cond.superclass own x.cls ∈ hs_gt ∧ y = ⟨owner, x.name, x.desc⟩ ∧ x.name ≠ "<init>" ∧ (parseMethodDescriptor y.desc).map (fun d => d.parameters.length) = some k
section HSU
variable {p : Program} {l : Launch} {e : Env} {R : Room} {s : State} {m : MethodId} {args : Array Value} {below : List Frame} {meth : Method} {c : Code} {H : Heap} {locs : List Loc} {cells slots : Nat} {Q : State → Prop}
variable {cc : ByteArray} {pc : Nat} {ls : Array Slot} {rest st0 : List Value} {D : va_G} {A : Nat → Prop} {tc : List (ClassId × FieldType)} {wc : va_W}
theorem hs_runSU {own owner C : String} {x y : MethodName} {cy : ByteArray} {n nL k index q0 ci N : Nat} {ret : Option FieldType} {rm : Room} {As rest : List Value} {b : Nat} {Qf : (Nat → Prop) → Array Value → State → Outcome → State → Prop} {T : u_T} {fs : List Value} (S : CallFix p m c cc nL s args hs_gt own) (hc : hs_cU2 own owner x y cy n ret k) (hbel : hs_below s x.cls owner) (hlink : Cond.methodLink own index x ∈ hs_gt)
    (hM : CM l D y cy n ret rm tc (.ref b :: As) wc Qf) (hK : va_K D hs_cl tc s) (hP : va_P D hs_cl wc H) (hD : va_D A wc) (he : wc[q0]? = some (b, .inr (ci, fs))) (hcl : hs_cl[ci]? = some (C, T, N)) (hR : rm.frames + 1 ≤ R.frames ∧ 8 + (n + 11) + rm.locals ≤ R.locals)
    (hn : As.length = k) (hsize : ls.size = nL) (hst : st0 = As.reverse ++ .ref b :: rest) (hW : (rest.map fun v => v.category).sum ≤ 8) (hdg : decode cc pc = .ok (.invokespecial index, 3)) (hf : cells + rm.cells ≤ R.cells ∧ slots + rm.slots ≤ R.slots) :
    va_Run p l e R s m args below meth c H locs cells slots rm.cells rm.slots (F0 m pc ls st0) rest (Qf (va_A wc H.size) (Value.ref b :: As).toArray) (va_A wc H.size) := by
  obtain ⟨h1, h2, h4, h5, h6, hyx, hno, hd⟩ := hc
  obtain ⟨hx, hb, hml, ho, ht⟩ := S
  have hini := ht _ h4
  have hcode := ht _ h1
  have hws : ∀ w ∈ hs_wo y cy n ret, ∀ (a' : Array Value) (U : State), s.WarmedH U.vm → w.before a' U = true := pay_in ht (hs_gi h1)
  have hKb : Back l R p e below s args y 3 8 (PreOf R rm.cells rm.slots (va_Pc (.ref b :: As) (hs_pre D tc wc H.size))) (PostOf (Qf (va_A wc H.size)) rm.cells rm.slots (va_A wc H.size)) := back_of (bytes := cy) (maxL := n) (ret := ret) (hM H.size) hs_blind rfl rfl hR.1 hR.2 hws List.mem_cons_self (fun a' U hW => word_at hW (Or.inl (by first | rfl | simp [Cond.onTables, Cond.keeps, Cond.steady])) hini)
  obtain ⟨cellB, hcB, hoB, hclB⟩ := va_recv hK hP hcl he
  obtain ⟨kB, hkB, -⟩ := Vm.findClass_spec hclB
  obtain ⟨mk, methM, hnamed, hmethM, hstM, habM⟩ := Cond.instanceMethod_spec (ht _ h2)
  obtain ⟨methM', cM, hmethM', -, -, -, -, -, -, hsigM⟩ := Cond.code_spec hnamed hcode
  cases hmethM.symm.trans hmethM'
  obtain ⟨ps, dk, kp, hps, hdk, hkp, hsuper, -, -, hnid⟩ := Cond.superclass_spec ho (ht _ h6)
  have hn2 : s.methodNamed? ⟨owner, x.name, x.desc⟩ = some mk := by rw [← hyx]; exact hnamed
  have hsub : s.vm.isSubclass ps mk.cls = true := hbel ps mk.cls hps (findClass_of_methodNamed hn2)
  have hlen : As.length = methM.sig.parameters.length := by
    rw [hsigM] at hd
    exact hn.trans (Option.some.inj hd).symm
  intro T0 hT X
  obtain ⟨vm₁, X₁, hstep₁⟩ := X.invokespecialUp hx ho (ht _ hlink) (ht _ h5) hn2 hmethM hstM habM hno hdk hnid hps hsuper hsub (a := b) (cell := cellB) (by rw [hT]; exact hcB)
    (fun z h => by rw [h] at hoB; cases hoB) hkB (g := F0 m pc ls st0) rfl (argsL := As) (rest := rest) hlen hst (by rw [hb]; exact hdg)
  obtain ⟨v, ⟨U', l2, c2, s2⟩, X', hpost, hsteps⟩ := hKb m meth c ⟨T0.setVm vm₁, locs, cells, slots⟩ { F0 m pc ls st0 with stack := rest } (.invokespecial index) mk (Value.ref b :: As).toArray X₁ rfl (hsize.trans hml.symm) (by rw [hb]; exact hdg) (lv_room (m := m) (pc := pc) (ls := ls) (rest := rest) hW) (X₁.named hnamed) ⟨hf.1, hf.2, hs_enter hK hP hD (T0.setVm vm₁) hT X₁.warmed⟩
  obtain ⟨g', mk', t, L, e1, e2, hq, r1, hL, r2, r3⟩ := hpost
  dsimp only [Pt.U, Pt.locs, Pt.cells, Pt.slots] at X' e1 e2 r1 r2 r3 hsteps hq
  subst r1; subst r2; subst r3
  exact ⟨v, (T0.setVm vm₁).calling g' mk' (Value.ref b :: As).toArray, t, U', L, hT, X', hL, e1, e2, hq, fun target h => hstep₁ _ (by rw [doInvoke_state]; exact hsteps.trans h)⟩
end HSU
