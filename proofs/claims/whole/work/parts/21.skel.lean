def R_law : String := "HireShedLaw"
def lw_P (b : Addr) (xs : List Int32) (args : Array Value) (s : State) : Prop := args = #[.ref b] ∧ s.IntsAt b xs ∧ xs.length ≤ 2048 ∧ (Jvm.Cond.and given_1 narrow_1).before args s = true
def lw_Q (_ : Array Value) (s : State) (o : Outcome) (t : State) : Prop := o = .returned (some (.int 1)) ∧ Framed s o t [] 600000 7302250
def lw_Z (below : List Frame) (a : Array Value) (s : State) : State → Prop := fun t => ∃ o, t.status = .running ∧ Ended t below o ∧ lw_Q a s o t
/-- the law's own end, with 1 on the stack, nothing written that was there before, its room as the claim has it -/
theorem lw_ret {p : Program} {l : Launch} {e : Env} {s : State} {m : MethodId} {below : List Frame} {meth : Method} {c : Code} {b : Nat} (hx : p.tables.exec = Jvm.exec) (hb : c.code = code) (hr : meth.sig.returnType = ret) (hlocks : meth.locks = false) {pc : Nat} {H : Heap} {ls : Array Slot} (hdg : decode code pc = .ok (.ireturn, 1)) : W p l e room_1 s m #[Value.ref b] below meth c H [] 600000 7302250 (lw_Z below #[Value.ref b] s) (F0 m pc ls [.int 1]) := by
  intro T hT X
  obtain ⟨fs, hret, hrun, hended, hW, hframe⟩ := X.leave (v := some (.int 1)) (hlocks := hlocks) (fun h => by rw [hr] at h; cases h)
  have hmeth' : T.vm.method? m = some meth := X.method'
  refine ⟨T.setFrames fs, ?_, .returned (some (.int 1)), hrun, hended, rfl, ⟨_, rfl⟩, hW, hframe⟩
  jvm_step X.here [X.here.top, hx, hb, hdg, hmeth', hr, ret, narrow_b1]
  (try refine ⟨rfl, ?_⟩); (try refine ⟨rfl, ?_⟩)
  first | (intro acts; rw [hret _ acts rfl rfl rfl]) | rw [hret _ _ rfl rfl rfl]
  exact Steps.refl _
/-- what holds at the law's entry: the machine, the code, the tables' words (any of lw_tbl by 'hts w (by decide +kernel)'), the script of L ints xs at the cell b, what the Statement gives of the start (any of its parts by flat_of_before) -/
def lw_At (p : Program) (s : State) (m : MethodId) (meth : Method) (c : Code) (b L : Nat) (xs : Nat → Int32) : Prop :=
  p.tables.exec = Jvm.exec ∧ c.code = code ∧ meth.sig.returnType = ret ∧ c.maxLocals = 4 ∧ s.vm.findClass R_law = some m.cls ∧ (∀ w ∈ lw_tbl, w.before #[Value.ref b] s = true) ∧ va_X b L xs s s.heap ∧ b < s.heap.size ∧ meth.locks = false ∧ (Jvm.Cond.and given_1 narrow_1).before #[Value.ref b] s = true

def lwA (s : State) : Nat → Prop := fun q => s.heap.size ≤ q
def shW5 (o ta ac tr nb : Nat) (cN cT cJ : ClassId) (tc td cs hi : Int32) (a : Nat → Option Nat) (acc : Nat → Int64) (st : TS) : va_W := [(o, shE tr ta ac tc td cs hi), (ta, taE cT a), (ac, acE cJ acc), (tr, trE nb st), (nb, nbE cN st)]
def lwW (o ta ac tr nb om : Nat) (ad : Nat → Nat) (cN cT cJ : ClassId) (cd : Nat → ClassId) (n d : Nat) (cs hi : Int32) (qa kn : Nat → Nat) (acc : Nat → Int64) (st sM : TS) (kd rt vl hr hw cu si : Nat → Int32) : va_W := shW5 o ta ac tr nb cN cT cJ (nI n) (nI d) cs hi (aOf n qa) acc st ++ (mW om ad cd (nI n) (nI d) cs hi kd rt vl hr hw cu si acc sM ++ poolW tr qa kn rt vl hr hw cu si n)
/-- class and reference side by side, their states tied -/
def lwI (D : va_G) (A : Nat → Prop) (o ta ac tr nb om : Nat) (ad : Nat → Nat) (cN cT cJ : ClassId) (cd : Nat → ClassId) (H : Heap) : Prop := ∃ (n d : Nat) (cs hi : Int32) (qa kn : Nat → Nat) (acc : Nat → Int64) (st sM : TS) (kd rt vl hr hw cu si : Nat → Int32), hsRel n d kn st sM kd vl hr hw cu si ∧ va_P D hs_cl (lwW o ta ac tr nb om ad cN cT cJ cd n d cs hi qa kn acc st sM kd rt vl hr hw cu si) H ∧ va_D A (lwW o ta ac tr nb om ad cN cT cJ cd n d cs hi qa kn acc st sM kd rt vl hr hw cu si)
def lwC (p : Program) (s : State) (m : MethodId) (c : Code) (b L : Nat) (xs : Nat → Int32) (D : va_G) (cN cT cJ : ClassId) (cd : Nat → ClassId) : Prop := p.tables.exec = Jvm.exec ∧ c.code = code ∧ c.maxLocals = 4 ∧ s.vm.findClass RL = some m.cls ∧ (∀ w ∈ hs_gt, w.before #[Value.ref b] s = true) ∧ va_X b L xs s s.heap ∧ b < s.heap.size ∧ va_K D hs_cl (tyS cN cT cJ) s ∧ va_K D hs_cl (tyM cd) s
theorem lg_self (x : Int64) : lg_cmp x x = 0 := by
  unfold lg_cmp
  rw [if_neg (fun h => absurd h (Int64.lt_irrefl)), if_pos rfl]
theorem tcell_out {tr : Nat} {qa kn : Nat → Nat} {rt vl hr hw cu si : Nat → Int32} {j : Nat} (h : hw j = 1) : tcell tr qa kn rt vl hr hw cu si j = (qa j, tlE (kn j) tr (nI (kn j)) (rt j) (vl j) (hr j) (hw j) (cu j) (si j)) := by
  unfold tcell
  rw [if_pos h, if_pos h]
theorem tcell_in {tr : Nat} {qa kn : Nat → Nat} {rt vl hr hw cu si : Nat → Int32} {j : Nat} (h : ¬ hw j = 1) : tcell tr qa kn rt vl hr hw cu si j = (qa j, tlE (kn j) tr (nI (kn j)) (rt j) (vl j) (hr j) (hw j) (-1) (-1)) := by
  unfold tcell
  rw [if_neg h, if_neg h]
section LWA
variable {p : Program} {l : Launch} {e : Env} {s : State} {m : MethodId} {below : List Frame} {meth : Method} {c : Code} {H : Heap} {locs : List Loc} {cells slots : Nat} {Q : State → Prop} {R : Room}
theorem lw_arg {P cn i b L o om : Nat} {k : Int} {xs : Nat → Int32} {ls : Array Slot} {rest : List Value} (hx : p.tables.exec = Jvm.exec) (hb : c.code = code) (hX : va_X b L xs s s.heap) (hbl : b < s.heap.size) (hS : va_S (lwA s) s.heap H locs) (d0 : decode code P = .ok (.aload_n 0, 1)) (d1 : decode code (P + 1) = .ok (.iload_n 3, 1)) (d2 : decode code (P + 1 + 1) = .ok (.iconst k, 1)) (d3 : decode code (P + 1 + 1 + 1) = .ok (.iadd, 1)) (d4 : decode code (P + 1 + 1 + 1 + 1) = .ok (.iaload, 1)) (hl : lv_has ls 4 [(3, .int (nI i)), (2, .ref om), (1, .ref o), (0, .ref b)]) (hi : i + cn < L) (hL : L ≤ 2048) (ek : Int32.ofInt k = nI cn)
    (kk : W p l e R s m #[Value.ref b] below meth c H locs cells slots Q (F0 m (P + 5) ls (.int (xs (i + cn)) :: rest))) : W p l e R s m #[Value.ref b] below meth c H locs cells slots Q (F0 m P ls rest) := by
  refine lv_aload_n hx hb d0 rfl (lv_at hl 3 rfl) ?_
  refine lv_iload_n hx hb d1 rfl (lv_at hl 0 rfl) ?_
  refine lv_iconst (v := nI cn) hx hb d2 ek ?_
  refine lv_iadd hx hb d3 ?_
  rw [nI_add]
  refine va_sld hx hb hX hbl (fun h => Nat.not_le.mpr hbl h) hS (vp_in_nI hi (by omega)) d4 ?_
  rw [nI_clamp (by omega)]
  exact kk
end LWA

