/-! an object of a kind may lie in the row of tools; contracts with a premise on the tables; the counts -/
theorem hs_below4 {s : State} {args : Array Value} {A B C E F : String} (h : (Cond.superclass A B).before args s = true) (h2 : (Cond.superclass B C).before args s = true) (h3 : (Cond.superclass C E).before args s = true) (h4 : (Cond.superclass E F).before args s = true) (hAB : A ≠ B) (hAC : A ≠ C) (hBC : B ≠ C) (hAE : A ≠ E) (hBE : B ≠ E) (hCE : C ≠ E) : hs_below s A F := fun a c ha hc => by
  obtain ⟨q, k, kp, hq, hk, -, hs, -⟩ := Cond.superclass_spec ha h
  obtain ⟨q2, k2, kp2, hq2, hk2, -, hs2, -⟩ := Cond.superclass_spec hq h2
  obtain ⟨q3, k3, kp3, hq3, hk3, -, hs3, -⟩ := Cond.superclass_spec hq2 h3
  obtain ⟨q4, k4, kp4, hq4, hk4, -, hs4, -⟩ := Cond.superclass_spec hq3 h4
  cases hq4.symm.trans hc
  have h1 : s.vm.isSubclassAux 1 c c = true := by simp [Vm.isSubclassAux]
  exact hs_subMono _ _ _ _ (hs_subStep hk hs (hs_subStep hk2 hs2 (hs_subStep hk3 hs3 (hs_subStep hk4 hs4 h1)))) _ (by have := hs_lt ha; have := hs_lt hq; have := hs_lt hq2; have := hs_lt hq3; have := hs_apart ha hq hAB; have := hs_apart ha hq2 hAC; have := hs_apart hq hq2 hBC; have := hs_apart ha hq3 hAE; have := hs_apart hq hq3 hBE; have := hs_apart hq2 hq3 hCE; omega)
theorem hs_asg {s : State} {args : Array Value} {A A' B B' : String} (hbel : hs_below s A B) (wA : (Cond.superclass A A').before args s = true) (wB : (Cond.superclass B B').before args s = true) : ∀ comp c0 : ClassId, s.vm.findClass B = some comp → s.vm.findClass A = some c0 → s.vm.assignable c0 comp = true := by
  intro b a hb ha
  obtain ⟨-, kA, -, -, hkA, -, -, oA, -, -⟩ := Cond.superclass_spec ha wA
  obtain ⟨-, kB, -, -, hkB, -, -, oB, -, nB⟩ := Cond.superclass_spec hb wB
  have hs := hbel a b ha hb
  unfold Vm.assignable Vm.assignableAux
  simp [hkA, hkB, oA, oB, nB, hs]
theorem hs_assign {s : State} {args : Array Value} (htg : ∀ w ∈ hs_gt, w.before args s = true) (k : Nat) : ∀ comp c0 : ClassId, s.vm.findClass RX5 = some comp → s.vm.findClass (kR k) = some c0 → s.vm.assignable c0 comp = true := by
  have t0 := htg _ tw_232
  have t2 := htg _ tw_146
  have t4 := htg _ tw_161
  have t0b := htg _ tw_176
  have t7 := htg _ tw_191
  have t3 := htg _ tw_206
  have t1 := htg _ tw_221
  match k with
  | 0 => exact hs_asg hs_below0 t0 t0
  | 1 => exact hs_asg (hs_below1 t2) t2 t0
  | 2 => exact hs_asg (hs_below2 t4 t2 (by decide)) t4 t0
  | 3 => exact hs_asg (hs_below3 t0b t4 t2 (by decide) (by decide) (by decide)) t0b t0
  | 4 => exact hs_asg (hs_below4 t7 t0b t4 t2 (by decide) (by decide) (by decide) (by decide) (by decide) (by decide)) t7 t0
  | 5 => exact hs_asg (hs_below2 t3 t2 (by decide)) t3 t0
  | _ + 6 =>
    have h := hs_asg (A := RX1) (hs_below3 (A := RX1) t1 t3 t2 (by decide) (by decide) (by decide)) t1 t0
    exact h
def CME (l : Launch) (D : va_G) (y : MethodName) (cc : ByteArray) (n : Nat) (ret : Option FieldType) (rm : Room) (tys : List (ClassId × FieldType)) (av : List Value) (ws : va_W) (E : State → Prop) (Qf : (Nat → Prop) → Array Value → State → Outcome → State → Prop) : Prop :=
  ∀ sz : Nat, Met l y (hs_wo y cc n ret) rm (va_Pc av (fun U => hs_pre D tys ws sz U ∧ E U)) (Qf (va_A ws sz)) rm.cells rm.slots (va_A ws sz)
theorem CME.of {l : Launch} {D : va_G} {y : MethodName} {cc : ByteArray} {n : Nat} {ret : Option FieldType} {rm : Room} {tys : List (ClassId × FieldType)} {av : List Value} {ws : va_W} {E : State → Prop} {Qf : (Nat → Prop) → Array Value → State → Outcome → State → Prop} (hy : plainName y.cls = true) (hav : (lg_sl av).length ≤ n)
    (body : ∀ (p : Program) (e : Env) (s : State) (m : MethodId) (below : List Frame) (meth : Method) (c : Code) (A : Nat → Prop) (ls : Array Slot), p.tables.exec = Jvm.exec → c.code = cc → meth.sig.returnType = ret → c.maxLocals = n → (∀ w ∈ hs_gt, w.before av.toArray s = true) → s.vm.findClass y.cls = some m.cls → meth.locks = false → meth.name = y.name →
      (∀ q : Nat, s.heap.size ≤ q → A q) → va_K D hs_cl tys s → va_P D hs_cl ws s.heap → va_D A ws → va_S A s.heap s.heap [] → lv_has ls n (lv_args 0 av) → E s → W p l e rm s m av.toArray below meth c s.heap [] 0 0 (MQ below (Qf A) av.toArray s rm.cells rm.slots A) (F0 m 0 ls [])) : CME l D y cc n ret rm tys av ws E Qf := by
  intro sz
  refine Met.ofW (cc := cc) (maxL := n) (ret := ret) hy rfl ?_
  intro p e s m args below meth c s₁ B hml hv
  obtain ⟨rfl, ⟨hsz, hP, hK, hD0⟩, hE⟩ := hv
  subst hsz
  have hts := atoms_spec (ws := hs_wo y cc n ret) B.pre
  have hl := lv_entry av hav
  rw [lg_entry_eq]
  exact body p e s m below meth c (va_A ws s.heap.size) _ B.exec B.bytes B.returns hml (fun w h => hts w (List.mem_cons_of_mem _ h)) (findClass_of_methodNamed B.named) B.notSynchronized (name_of_methodNamed B.named B.method).1 (fun q h => Or.inr h) hK hP hD0.self va_S.rf hl hE
section HSE
variable {p : Program} {l : Launch} {e : Env} {R : Room} {s : State} {m : MethodId} {args : Array Value} {below : List Frame} {meth : Method} {c : Code} {H : Heap} {locs : List Loc} {cells slots : Nat} {Q : State → Prop}
variable {cc : ByteArray} {pc : Nat} {ls : Array Slot} {st0 : List Value} {D : va_G} {A : Nat → Prop} {tc : List (ClassId × FieldType)} {wc : va_W}
theorem hs_runIE {y : MethodName} {cy : ByteArray} {n nL k index : Nat} {rm : Room} {As rest : List Value} {b : Nat} {E : State → Prop} {Qf : (Nat → Prop) → Array Value → State → Outcome → State → Prop} {own : String} (S : CallFix p m c cc nL s args hs_gt own) (hc : hs_cN y cy n k) (hlink : Cond.methodLink own index y ∈ hs_gt)
    (hM : CME l D y cy n none rm tc (.ref b :: As) wc E Qf) (hEw : ∀ U : State, s.WarmedH U.vm → E U) (hEb : ∀ (a : Array Value) (U : State) (g : JFrame) (mk : MethodId), E U → E (U.calling g mk a)) (hK : va_K D hs_cl tc s) (hP : va_P D hs_cl wc H) (hD : va_D A wc) (hR : rm.frames + 1 ≤ R.frames ∧ 8 + (n + 11) + rm.locals ≤ R.locals)
    (hn : As.length = k) (hsize : ls.size = nL) (hst : st0 = As.reverse ++ .ref b :: rest) (hW : (rest.map fun v => v.category).sum ≤ 8) (hdg : decode cc pc = .ok (.invokespecial index, 3)) (hf : cells + rm.cells ≤ R.cells ∧ slots + rm.slots ≤ R.slots) :
    va_Run p l e R s m args below meth c H locs cells slots rm.cells rm.slots (F0 m pc ls st0) rest (Qf (va_A wc H.size) (Value.ref b :: As).toArray) (va_A wc H.size) := by
  obtain ⟨h1, h2, h4, h5, h6⟩ := hc
  have ht := S.2.2.2.2
  exact va_runI S (hM H.size) (cwI k ht (hs_gi h1) rfl rfl rfl (ht _ h4) (ht _ hlink) (ht _ h2) h5 h6 hR) ⟨fun a U g mk q => by
    obtain ⟨q0, ⟨q1, qP, qK, qD⟩, qE⟩ := q
    exact ⟨q0, ⟨q1, qP, va_K.moved (u := U) (U := U.calling g mk a) (Vm.Alike.refl U.vm) qK, qD⟩, hEb a U g mk qE⟩, fun U hU hW => ⟨rfl, ⟨by rw [hU], by rw [hU]; exact hP, va_K.moved hW.alike hK, hD.weaken (fun _ _ _ _ => trivial)⟩, hEw U hW⟩⟩ rfl hn hsize hst (lv_room hW) hdg hf
theorem hs_runIN {y : MethodName} {cy : ByteArray} {n nL k index : Nat} {rm : Room} {As rest : List Value} {b : Nat} {Qf : (Nat → Prop) → Array Value → State → Outcome → State → Prop} {own host : String} (S : CallFix p m c cc nL s args hs_gt own) (hc : hs_cN y cy n k) (hlink : va_Nw (.methodLinkNest own index y host) s)
    (hM : CM l D y cy n none rm tc (.ref b :: As) wc Qf) (hK : va_K D hs_cl tc s) (hP : va_P D hs_cl wc H) (hD : va_D A wc) (hR : rm.frames + 1 ≤ R.frames ∧ 8 + (n + 11) + rm.locals ≤ R.locals)
    (hn : As.length = k) (hsize : ls.size = nL) (hst : st0 = As.reverse ++ .ref b :: rest) (hW : (rest.map fun v => v.category).sum ≤ 8) (hdg : decode cc pc = .ok (.invokespecial index, 3)) (hf : cells + rm.cells ≤ R.cells ∧ slots + rm.slots ≤ R.slots) :
    va_Run p l e R s m args below meth c H locs cells slots rm.cells rm.slots (F0 m pc ls st0) rest (Qf (va_A wc H.size) (Value.ref b :: As).toArray) (va_A wc H.size) := by
  obtain ⟨h1, h2, h4, h5, h6⟩ := hc
  have ht := S.2.2.2.2
  exact va_runIN S (hM H.size) ⟨va_cnB k ht (hs_gi h1) rfl rfl rfl hlink (ht _ h4) h6 hR, h5, ht _ h2⟩ ⟨hs_blind, hs_enter hK hP hD⟩ rfl hn hsize hst (lv_room hW) hdg hf
end HSE
def hs_QIx (D : va_G) (tys : List (ClassId × FieldType)) (r : Int32) (wf : Nat → va_W) (A : Nat → Prop) : Array Value → State → Outcome → State → Prop := va_Qi (fun (r' : Int32) (_ : Unit) => r' = r) (fun _ t => ∃ q : Nat, hs_end D tys A (wf q) t) A
def hs_QVx (Pf : (Nat → Prop) → State → Prop) (A : Nat → Prop) : Array Value → State → Outcome → State → Prop := va_Qv (fun (_ : Unit) => True) (fun _ t => Pf A t) A
def toolOk (kd rt vl tc : Int32) : Prop := ¬ wi kd 0 6 = 0 ∧ ¬ wi rt 1 1000 = 0 ∧ ¬ wi vl 0 100000 = 0 ∧ tc < 24
def toolF (kd rt vl tc : Int32) : Int32 := if wi kd 0 6 = 0 then -2 else if wi rt 1 1000 = 0 then -2 else if wi vl 0 100000 = 0 then -2 else if tc < 24 then tc else -4
def toolOkM (kd rt vl tc : Int32) : Prop := ¬ wi kd 0 6 = 0 ∧ ¬ wi rt 1 1000 = 0 ∧ ¬ wi vl 0 100000 = 0 ∧ ¬ tc = 24
def toolFM (kd rt vl tc : Int32) : Int32 := if wi kd 0 6 = 0 then -2 else if wi rt 1 1000 = 0 then -2 else if wi vl 0 100000 = 0 then -2 else if tc = 24 then -4 else tc
/-- how many of the first n tools are x -/
def cntF (a : Nat → Option Nat) (hw : Nat → Int32) (x : Int32) : Nat → Int32
  | 0 => 0
  | j + 1 => match a j with
    | none => cntF a hw x j
    | some _ => if hw j = x then cntF a hw x j + 1 else cntF a hw x j
def cntM (hw : Nat → Int32) (x : Int32) : Nat → Int32
  | 0 => 0
  | j + 1 => cntM hw x j + (if hw j = x then 1 else 0)
theorem cntF_none {a : Nat → Option Nat} {hw : Nat → Int32} {x : Int32} {j : Nat} (h : a j = none) : cntF a hw x (j + 1) = cntF a hw x j := by
  show (match a j with | none => cntF a hw x j | some _ => if hw j = x then cntF a hw x j + 1 else cntF a hw x j) = _
  rw [h]
theorem cntF_yes {a : Nat → Option Nat} {hw : Nat → Int32} {x : Int32} {j q : Nat} (h : a j = some q) (hx : hw j = x) : cntF a hw x (j + 1) = cntF a hw x j + 1 := by
  show (match a j with | none => cntF a hw x j | some _ => if hw j = x then cntF a hw x j + 1 else cntF a hw x j) = _
  rw [h]
  exact if_pos hx
theorem cntF_no {a : Nat → Option Nat} {hw : Nat → Int32} {x : Int32} {j q : Nat} (h : a j = some q) (hx : ¬ hw j = x) : cntF a hw x (j + 1) = cntF a hw x j := by
  show (match a j with | none => cntF a hw x j | some _ => if hw j = x then cntF a hw x j + 1 else cntF a hw x j) = _
  rw [h]
  exact if_neg hx
def countF (cnt : Int32 → Int32) (td cs hi w : Int32) : Int32 := if w = 0 then cnt 0 else if w = 1 then cnt 1 else if w = 2 then cnt 2 else if w = 3 then td else if w = 4 then cs else if w = 5 then hi else -2

