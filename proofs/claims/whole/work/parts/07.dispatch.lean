theorem cu_hasDeposit_0 : hs_cU RX5 "HireShed$Tool" ⟨"HireShed$Tool", "hasDeposit", "()Z"⟩ yX5_hasDeposit cX5_hasDeposit 1 (some .boolean) 0 := ⟨tw_260, tw_249, tw_250, tw_20, tw_251, tw_249, ⟨_, _, _, tw_260⟩, by decide +kernel⟩

theorem cu_hasDeposit_1 : hs_cU RX2 "HireShed$Tool" ⟨"HireShed$Tool", "hasDeposit", "()Z"⟩ yX2_hasDeposit cX2_hasDeposit 1 (some .boolean) 0 := ⟨tw_254, tw_253, tw_256, tw_21, tw_251, tw_249, ⟨_, _, _, tw_260⟩, by decide +kernel⟩

theorem cu_hasDeposit_2 : hs_cU RX4 "HireShed$Tool" ⟨"HireShed$Tool", "hasDeposit", "()Z"⟩ yX2_hasDeposit cX2_hasDeposit 1 (some .boolean) 0 := ⟨tw_254, tw_253, tw_258, tw_21, tw_251, tw_249, ⟨_, _, _, tw_260⟩, by decide +kernel⟩

theorem cu_hasDeposit_3 : hs_cU RX0 "HireShed$Tool" ⟨"HireShed$Tool", "hasDeposit", "()Z"⟩ yX2_hasDeposit cX2_hasDeposit 1 (some .boolean) 0 := ⟨tw_254, tw_253, tw_252, tw_21, tw_251, tw_249, ⟨_, _, _, tw_260⟩, by decide +kernel⟩

theorem cu_hasDeposit_4 : hs_cU RX7 "HireShed$Tool" ⟨"HireShed$Tool", "hasDeposit", "()Z"⟩ yX2_hasDeposit cX2_hasDeposit 1 (some .boolean) 0 := ⟨tw_254, tw_253, tw_259, tw_21, tw_251, tw_249, ⟨_, _, _, tw_260⟩, by decide +kernel⟩

theorem cu_hasDeposit_5 : hs_cU RX3 "HireShed$Tool" ⟨"HireShed$Tool", "hasDeposit", "()Z"⟩ yX2_hasDeposit cX2_hasDeposit 1 (some .boolean) 0 := ⟨tw_254, tw_253, tw_257, tw_21, tw_251, tw_249, ⟨_, _, _, tw_260⟩, by decide +kernel⟩

theorem cu_hasDeposit_6 : hs_cU RX1 "HireShed$Tool" ⟨"HireShed$Tool", "hasDeposit", "()Z"⟩ yX2_hasDeposit cX2_hasDeposit 1 (some .boolean) 0 := ⟨tw_254, tw_253, tw_255, tw_21, tw_251, tw_249, ⟨_, _, _, tw_260⟩, by decide +kernel⟩

set_option maxHeartbeats 400000 in
set_option maxRecDepth 100000 in
theorem V_hasDeposit {p : Program} {l : Launch} {e : Env} {R : Room} {s : State} {m : MethodId} {args : Array Value} {below : List Frame} {meth : Method} {c : Code} {H : Heap} {locs : List Loc} {cells slots nL index pc : Nat} {cc0 : ByteArray} {own : String} {ls : Array Slot} {rest : List Value} {D : va_G} {A : Nat → Prop} (cN cT cJ : ClassId) (h tr nb k : Nat) (hk : k < 7) (kd rt vl hr hw cu si : Int32) (st : TS) (hst : okT st) (SF : CallFix p m c cc0 nL s args hs_gt own) (hlink : Cond.methodLink own index ⟨"HireShed$Tool", "hasDeposit", "()Z"⟩ ∈ hs_gt) (hK : va_K D hs_cl (tyS cN cT cJ) s) (hP : va_P D hs_cl [(h, tlE k tr kd rt vl hr hw cu si), (tr, trE nb st), (nb, nbE cN st)] H) (hD : va_D A [(h, tlE k tr kd rt vl hr hw cu si), (tr, trE nb st), (nb, nbE cN st)]) (hR : 1 ≤ R.frames ∧ 20 ≤ R.locals) (hsize : ls.size = nL) (hW : (rest.map fun v => v.category).sum ≤ 8) (hdg : decode cc0 pc = .ok (.invokevirtual index, 3)) (hf : cells ≤ R.cells ∧ slots ≤ R.slots) :
    va_Run p l e R s m args below meth c H locs cells slots 0 0 (F0 m pc ls (.ref h :: rest)) rest (hs_QI D (tyS cN cT cJ) (hasD k) [(h, tlE k tr kd rt vl hr hw cu si), (tr, trE nb st), (nb, nbE cN st)] (va_A [(h, tlE k tr kd rt vl hr hw cu si), (tr, trE nb st), (nb, nbE cN st)] H.size) (Value.ref h :: []).toArray) (va_A [(h, tlE k tr kd rt vl hr hw cu si), (tr, trE nb st), (nb, nbE cN st)] H.size) := by
  match k, hk with

  | 0, hk => exact hs_runU (q0 := 0) (ci := 5) (T := TX5) (N := 8) SF cu_hasDeposit_0 hlink (c_X5_hasDeposit l D cN cT cJ h tr nb 0 kd rt vl hr hw cu si st hst) hK hP hD rfl rfl ⟨Nat.le_trans (Nat.le_of_ble_eq_true rfl) hR.1, Nat.le_trans (Nat.le_of_ble_eq_true rfl) hR.2⟩ rfl hsize rfl hW hdg hf

  | 1, hk => exact hs_runU (q0 := 0) (ci := 2) (T := TX5) (N := 8) SF cu_hasDeposit_1 hlink (c_X2_hasDeposit l D cN cT cJ h tr nb 1 kd rt vl hr hw cu si st hst) hK hP hD rfl rfl ⟨Nat.le_trans (Nat.le_of_ble_eq_true rfl) hR.1, Nat.le_trans (Nat.le_of_ble_eq_true rfl) hR.2⟩ rfl hsize rfl hW hdg hf

  | 2, hk => exact hs_runU (q0 := 0) (ci := 4) (T := TX5) (N := 8) SF cu_hasDeposit_2 hlink (c_X2_hasDeposit l D cN cT cJ h tr nb 2 kd rt vl hr hw cu si st hst) hK hP hD rfl rfl ⟨Nat.le_trans (Nat.le_of_ble_eq_true rfl) hR.1, Nat.le_trans (Nat.le_of_ble_eq_true rfl) hR.2⟩ rfl hsize rfl hW hdg hf

  | 3, hk => exact hs_runU (q0 := 0) (ci := 0) (T := TX5) (N := 8) SF cu_hasDeposit_3 hlink (c_X2_hasDeposit l D cN cT cJ h tr nb 3 kd rt vl hr hw cu si st hst) hK hP hD rfl rfl ⟨Nat.le_trans (Nat.le_of_ble_eq_true rfl) hR.1, Nat.le_trans (Nat.le_of_ble_eq_true rfl) hR.2⟩ rfl hsize rfl hW hdg hf

  | 4, hk => exact hs_runU (q0 := 0) (ci := 7) (T := TX5) (N := 8) SF cu_hasDeposit_4 hlink (c_X2_hasDeposit l D cN cT cJ h tr nb 4 kd rt vl hr hw cu si st hst) hK hP hD rfl rfl ⟨Nat.le_trans (Nat.le_of_ble_eq_true rfl) hR.1, Nat.le_trans (Nat.le_of_ble_eq_true rfl) hR.2⟩ rfl hsize rfl hW hdg hf

  | 5, hk => exact hs_runU (q0 := 0) (ci := 3) (T := TX5) (N := 8) SF cu_hasDeposit_5 hlink (c_X2_hasDeposit l D cN cT cJ h tr nb 5 kd rt vl hr hw cu si st hst) hK hP hD rfl rfl ⟨Nat.le_trans (Nat.le_of_ble_eq_true rfl) hR.1, Nat.le_trans (Nat.le_of_ble_eq_true rfl) hR.2⟩ rfl hsize rfl hW hdg hf

  | 6, hk => exact hs_runU (q0 := 0) (ci := 1) (T := TX5) (N := 8) SF cu_hasDeposit_6 hlink (c_X2_hasDeposit l D cN cT cJ h tr nb 6 kd rt vl hr hw cu si st hst) hK hP hD rfl rfl ⟨Nat.le_trans (Nat.le_of_ble_eq_true rfl) hR.1, Nat.le_trans (Nat.le_of_ble_eq_true rfl) hR.2⟩ rfl hsize rfl hW hdg hf

  | k + 7, hk => exact absurd hk (by omega)

theorem cu_isInsured_0 : hs_cU RX5 "HireShed$Tool" ⟨"HireShed$Tool", "isInsured", "()Z"⟩ yX5_isInsured cX5_isInsured 1 (some .boolean) 0 := ⟨tw_273, tw_262, tw_263, tw_20, tw_264, tw_262, ⟨_, _, _, tw_273⟩, by decide +kernel⟩

theorem cu_isInsured_1 : hs_cU RX2 "HireShed$Tool" ⟨"HireShed$Tool", "isInsured", "()Z"⟩ yX5_isInsured cX5_isInsured 1 (some .boolean) 0 := ⟨tw_273, tw_262, tw_269, tw_20, tw_264, tw_262, ⟨_, _, _, tw_273⟩, by decide +kernel⟩

theorem cu_isInsured_2 : hs_cU RX4 "HireShed$Tool" ⟨"HireShed$Tool", "isInsured", "()Z"⟩ yX4_isInsured cX4_isInsured 1 (some .boolean) 0 := ⟨tw_267, tw_266, tw_271, tw_22, tw_264, tw_262, ⟨_, _, _, tw_273⟩, by decide +kernel⟩

theorem cu_isInsured_3 : hs_cU RX0 "HireShed$Tool" ⟨"HireShed$Tool", "isInsured", "()Z"⟩ yX4_isInsured cX4_isInsured 1 (some .boolean) 0 := ⟨tw_267, tw_266, tw_265, tw_22, tw_264, tw_262, ⟨_, _, _, tw_273⟩, by decide +kernel⟩

theorem cu_isInsured_4 : hs_cU RX7 "HireShed$Tool" ⟨"HireShed$Tool", "isInsured", "()Z"⟩ yX4_isInsured cX4_isInsured 1 (some .boolean) 0 := ⟨tw_267, tw_266, tw_272, tw_22, tw_264, tw_262, ⟨_, _, _, tw_273⟩, by decide +kernel⟩

theorem cu_isInsured_5 : hs_cU RX3 "HireShed$Tool" ⟨"HireShed$Tool", "isInsured", "()Z"⟩ yX5_isInsured cX5_isInsured 1 (some .boolean) 0 := ⟨tw_273, tw_262, tw_270, tw_20, tw_264, tw_262, ⟨_, _, _, tw_273⟩, by decide +kernel⟩

theorem cu_isInsured_6 : hs_cU RX1 "HireShed$Tool" ⟨"HireShed$Tool", "isInsured", "()Z"⟩ yX5_isInsured cX5_isInsured 1 (some .boolean) 0 := ⟨tw_273, tw_262, tw_268, tw_20, tw_264, tw_262, ⟨_, _, _, tw_273⟩, by decide +kernel⟩

set_option maxHeartbeats 400000 in
set_option maxRecDepth 100000 in
theorem V_isInsured {p : Program} {l : Launch} {e : Env} {R : Room} {s : State} {m : MethodId} {args : Array Value} {below : List Frame} {meth : Method} {c : Code} {H : Heap} {locs : List Loc} {cells slots nL index pc : Nat} {cc0 : ByteArray} {own : String} {ls : Array Slot} {rest : List Value} {D : va_G} {A : Nat → Prop} (cN cT cJ : ClassId) (h tr nb k : Nat) (hk : k < 7) (kd rt vl hr hw cu si : Int32) (st : TS) (hst : okT st) (SF : CallFix p m c cc0 nL s args hs_gt own) (hlink : Cond.methodLink own index ⟨"HireShed$Tool", "isInsured", "()Z"⟩ ∈ hs_gt) (hK : va_K D hs_cl (tyS cN cT cJ) s) (hP : va_P D hs_cl [(h, tlE k tr kd rt vl hr hw cu si), (tr, trE nb st), (nb, nbE cN st)] H) (hD : va_D A [(h, tlE k tr kd rt vl hr hw cu si), (tr, trE nb st), (nb, nbE cN st)]) (hR : 1 ≤ R.frames ∧ 20 ≤ R.locals) (hsize : ls.size = nL) (hW : (rest.map fun v => v.category).sum ≤ 8) (hdg : decode cc0 pc = .ok (.invokevirtual index, 3)) (hf : cells ≤ R.cells ∧ slots ≤ R.slots) :
    va_Run p l e R s m args below meth c H locs cells slots 0 0 (F0 m pc ls (.ref h :: rest)) rest (hs_QI D (tyS cN cT cJ) (isI k) [(h, tlE k tr kd rt vl hr hw cu si), (tr, trE nb st), (nb, nbE cN st)] (va_A [(h, tlE k tr kd rt vl hr hw cu si), (tr, trE nb st), (nb, nbE cN st)] H.size) (Value.ref h :: []).toArray) (va_A [(h, tlE k tr kd rt vl hr hw cu si), (tr, trE nb st), (nb, nbE cN st)] H.size) := by
  match k, hk with

  | 0, hk => exact hs_runU (q0 := 0) (ci := 5) (T := TX5) (N := 8) SF cu_isInsured_0 hlink (c_X5_isInsured l D cN cT cJ h tr nb 0 kd rt vl hr hw cu si st hst) hK hP hD rfl rfl ⟨Nat.le_trans (Nat.le_of_ble_eq_true rfl) hR.1, Nat.le_trans (Nat.le_of_ble_eq_true rfl) hR.2⟩ rfl hsize rfl hW hdg hf

  | 1, hk => exact hs_runU (q0 := 0) (ci := 2) (T := TX5) (N := 8) SF cu_isInsured_1 hlink (c_X5_isInsured l D cN cT cJ h tr nb 1 kd rt vl hr hw cu si st hst) hK hP hD rfl rfl ⟨Nat.le_trans (Nat.le_of_ble_eq_true rfl) hR.1, Nat.le_trans (Nat.le_of_ble_eq_true rfl) hR.2⟩ rfl hsize rfl hW hdg hf

  | 2, hk => exact hs_runU (q0 := 0) (ci := 4) (T := TX5) (N := 8) SF cu_isInsured_2 hlink (c_X4_isInsured l D cN cT cJ h tr nb 2 kd rt vl hr hw cu si st hst) hK hP hD rfl rfl ⟨Nat.le_trans (Nat.le_of_ble_eq_true rfl) hR.1, Nat.le_trans (Nat.le_of_ble_eq_true rfl) hR.2⟩ rfl hsize rfl hW hdg hf

  | 3, hk => exact hs_runU (q0 := 0) (ci := 0) (T := TX5) (N := 8) SF cu_isInsured_3 hlink (c_X4_isInsured l D cN cT cJ h tr nb 3 kd rt vl hr hw cu si st hst) hK hP hD rfl rfl ⟨Nat.le_trans (Nat.le_of_ble_eq_true rfl) hR.1, Nat.le_trans (Nat.le_of_ble_eq_true rfl) hR.2⟩ rfl hsize rfl hW hdg hf

  | 4, hk => exact hs_runU (q0 := 0) (ci := 7) (T := TX5) (N := 8) SF cu_isInsured_4 hlink (c_X4_isInsured l D cN cT cJ h tr nb 4 kd rt vl hr hw cu si st hst) hK hP hD rfl rfl ⟨Nat.le_trans (Nat.le_of_ble_eq_true rfl) hR.1, Nat.le_trans (Nat.le_of_ble_eq_true rfl) hR.2⟩ rfl hsize rfl hW hdg hf

  | 5, hk => exact hs_runU (q0 := 0) (ci := 3) (T := TX5) (N := 8) SF cu_isInsured_5 hlink (c_X5_isInsured l D cN cT cJ h tr nb 5 kd rt vl hr hw cu si st hst) hK hP hD rfl rfl ⟨Nat.le_trans (Nat.le_of_ble_eq_true rfl) hR.1, Nat.le_trans (Nat.le_of_ble_eq_true rfl) hR.2⟩ rfl hsize rfl hW hdg hf

  | 6, hk => exact hs_runU (q0 := 0) (ci := 1) (T := TX5) (N := 8) SF cu_isInsured_6 hlink (c_X5_isInsured l D cN cT cJ h tr nb 6 kd rt vl hr hw cu si st hst) hK hP hD rfl rfl ⟨Nat.le_trans (Nat.le_of_ble_eq_true rfl) hR.1, Nat.le_trans (Nat.le_of_ble_eq_true rfl) hR.2⟩ rfl hsize rfl hW hdg hf

  | k + 7, hk => exact absurd hk (by omega)

theorem cu_isServiced_0 : hs_cU RX5 "HireShed$Tool" ⟨"HireShed$Tool", "isServiced", "()Z"⟩ yX5_isServiced cX5_isServiced 1 (some .boolean) 0 := ⟨tw_288, tw_275, tw_276, tw_20, tw_277, tw_275, ⟨_, _, _, tw_288⟩, by decide +kernel⟩

theorem cu_isServiced_1 : hs_cU RX2 "HireShed$Tool" ⟨"HireShed$Tool", "isServiced", "()Z"⟩ yX5_isServiced cX5_isServiced 1 (some .boolean) 0 := ⟨tw_288, tw_275, tw_284, tw_20, tw_277, tw_275, ⟨_, _, _, tw_288⟩, by decide +kernel⟩

theorem cu_isServiced_2 : hs_cU RX4 "HireShed$Tool" ⟨"HireShed$Tool", "isServiced", "()Z"⟩ yX5_isServiced cX5_isServiced 1 (some .boolean) 0 := ⟨tw_288, tw_275, tw_286, tw_20, tw_277, tw_275, ⟨_, _, _, tw_288⟩, by decide +kernel⟩

theorem cu_isServiced_3 : hs_cU RX0 "HireShed$Tool" ⟨"HireShed$Tool", "isServiced", "()Z"⟩ yX0_isServiced cX0_isServiced 1 (some .boolean) 0 := ⟨tw_280, tw_279, tw_278, tw_23, tw_277, tw_275, ⟨_, _, _, tw_288⟩, by decide +kernel⟩

theorem cu_isServiced_4 : hs_cU RX7 "HireShed$Tool" ⟨"HireShed$Tool", "isServiced", "()Z"⟩ yX0_isServiced cX0_isServiced 1 (some .boolean) 0 := ⟨tw_280, tw_279, tw_287, tw_23, tw_277, tw_275, ⟨_, _, _, tw_288⟩, by decide +kernel⟩

theorem cu_isServiced_5 : hs_cU RX3 "HireShed$Tool" ⟨"HireShed$Tool", "isServiced", "()Z"⟩ yX3_isServiced cX3_isServiced 1 (some .boolean) 0 := ⟨tw_283, tw_282, tw_285, tw_25, tw_277, tw_275, ⟨_, _, _, tw_288⟩, by decide +kernel⟩

theorem cu_isServiced_6 : hs_cU RX1 "HireShed$Tool" ⟨"HireShed$Tool", "isServiced", "()Z"⟩ yX3_isServiced cX3_isServiced 1 (some .boolean) 0 := ⟨tw_283, tw_282, tw_281, tw_25, tw_277, tw_275, ⟨_, _, _, tw_288⟩, by decide +kernel⟩

set_option maxHeartbeats 400000 in
set_option maxRecDepth 100000 in
theorem V_isServiced {p : Program} {l : Launch} {e : Env} {R : Room} {s : State} {m : MethodId} {args : Array Value} {below : List Frame} {meth : Method} {c : Code} {H : Heap} {locs : List Loc} {cells slots nL index pc : Nat} {cc0 : ByteArray} {own : String} {ls : Array Slot} {rest : List Value} {D : va_G} {A : Nat → Prop} (cN cT cJ : ClassId) (h tr nb k : Nat) (hk : k < 7) (kd rt vl hr hw cu si : Int32) (st : TS) (hst : okT st) (SF : CallFix p m c cc0 nL s args hs_gt own) (hlink : Cond.methodLink own index ⟨"HireShed$Tool", "isServiced", "()Z"⟩ ∈ hs_gt) (hK : va_K D hs_cl (tyS cN cT cJ) s) (hP : va_P D hs_cl [(h, tlE k tr kd rt vl hr hw cu si), (tr, trE nb st), (nb, nbE cN st)] H) (hD : va_D A [(h, tlE k tr kd rt vl hr hw cu si), (tr, trE nb st), (nb, nbE cN st)]) (hR : 1 ≤ R.frames ∧ 20 ≤ R.locals) (hsize : ls.size = nL) (hW : (rest.map fun v => v.category).sum ≤ 8) (hdg : decode cc0 pc = .ok (.invokevirtual index, 3)) (hf : cells ≤ R.cells ∧ slots ≤ R.slots) :
    va_Run p l e R s m args below meth c H locs cells slots 0 0 (F0 m pc ls (.ref h :: rest)) rest (hs_QI D (tyS cN cT cJ) (isS k) [(h, tlE k tr kd rt vl hr hw cu si), (tr, trE nb st), (nb, nbE cN st)] (va_A [(h, tlE k tr kd rt vl hr hw cu si), (tr, trE nb st), (nb, nbE cN st)] H.size) (Value.ref h :: []).toArray) (va_A [(h, tlE k tr kd rt vl hr hw cu si), (tr, trE nb st), (nb, nbE cN st)] H.size) := by
  match k, hk with

  | 0, hk => exact hs_runU (q0 := 0) (ci := 5) (T := TX5) (N := 8) SF cu_isServiced_0 hlink (c_X5_isServiced l D cN cT cJ h tr nb 0 kd rt vl hr hw cu si st hst) hK hP hD rfl rfl ⟨Nat.le_trans (Nat.le_of_ble_eq_true rfl) hR.1, Nat.le_trans (Nat.le_of_ble_eq_true rfl) hR.2⟩ rfl hsize rfl hW hdg hf

  | 1, hk => exact hs_runU (q0 := 0) (ci := 2) (T := TX5) (N := 8) SF cu_isServiced_1 hlink (c_X5_isServiced l D cN cT cJ h tr nb 1 kd rt vl hr hw cu si st hst) hK hP hD rfl rfl ⟨Nat.le_trans (Nat.le_of_ble_eq_true rfl) hR.1, Nat.le_trans (Nat.le_of_ble_eq_true rfl) hR.2⟩ rfl hsize rfl hW hdg hf

  | 2, hk => exact hs_runU (q0 := 0) (ci := 4) (T := TX5) (N := 8) SF cu_isServiced_2 hlink (c_X5_isServiced l D cN cT cJ h tr nb 2 kd rt vl hr hw cu si st hst) hK hP hD rfl rfl ⟨Nat.le_trans (Nat.le_of_ble_eq_true rfl) hR.1, Nat.le_trans (Nat.le_of_ble_eq_true rfl) hR.2⟩ rfl hsize rfl hW hdg hf

  | 3, hk => exact hs_runU (q0 := 0) (ci := 0) (T := TX5) (N := 8) SF cu_isServiced_3 hlink (c_X0_isServiced l D cN cT cJ h tr nb 3 kd rt vl hr hw cu si st hst) hK hP hD rfl rfl ⟨Nat.le_trans (Nat.le_of_ble_eq_true rfl) hR.1, Nat.le_trans (Nat.le_of_ble_eq_true rfl) hR.2⟩ rfl hsize rfl hW hdg hf

  | 4, hk => exact hs_runU (q0 := 0) (ci := 7) (T := TX5) (N := 8) SF cu_isServiced_4 hlink (c_X0_isServiced l D cN cT cJ h tr nb 4 kd rt vl hr hw cu si st hst) hK hP hD rfl rfl ⟨Nat.le_trans (Nat.le_of_ble_eq_true rfl) hR.1, Nat.le_trans (Nat.le_of_ble_eq_true rfl) hR.2⟩ rfl hsize rfl hW hdg hf

  | 5, hk => exact hs_runU (q0 := 0) (ci := 3) (T := TX5) (N := 8) SF cu_isServiced_5 hlink (c_X3_isServiced l D cN cT cJ h tr nb 5 kd rt vl hr hw cu si st hst) hK hP hD rfl rfl ⟨Nat.le_trans (Nat.le_of_ble_eq_true rfl) hR.1, Nat.le_trans (Nat.le_of_ble_eq_true rfl) hR.2⟩ rfl hsize rfl hW hdg hf

  | 6, hk => exact hs_runU (q0 := 0) (ci := 1) (T := TX5) (N := 8) SF cu_isServiced_6 hlink (c_X3_isServiced l D cN cT cJ h tr nb 6 kd rt vl hr hw cu si st hst) hK hP hD rfl rfl ⟨Nat.le_trans (Nat.le_of_ble_eq_true rfl) hR.1, Nat.le_trans (Nat.le_of_ble_eq_true rfl) hR.2⟩ rfl hsize rfl hW hdg hf

  | k + 7, hk => exact absurd hk (by omega)

theorem cu_charge_0 : hs_cU RX5 "HireShed$Tool" ⟨"HireShed$Tool", "charge", "(I)I"⟩ yX5_charge cX5_charge 2 (some .int) 1 := ⟨tw_325, tw_293, tw_294, tw_20, tw_295, tw_293, ⟨_, _, _, tw_325⟩, by decide +kernel⟩

theorem cu_charge_1 : hs_cU RX2 "HireShed$Tool" ⟨"HireShed$Tool", "charge", "(I)I"⟩ yX5_charge cX5_charge 2 (some .int) 1 := ⟨tw_325, tw_293, tw_312, tw_20, tw_295, tw_293, ⟨_, _, _, tw_325⟩, by decide +kernel⟩

theorem cu_charge_2 : hs_cU RX4 "HireShed$Tool" ⟨"HireShed$Tool", "charge", "(I)I"⟩ yX4_charge cX4_charge 2 (some .int) 1 := ⟨tw_298, tw_297, tw_314, tw_22, tw_295, tw_293, ⟨_, _, _, tw_325⟩, by decide +kernel⟩

theorem cu_charge_3 : hs_cU RX0 "HireShed$Tool" ⟨"HireShed$Tool", "charge", "(I)I"⟩ yX4_charge cX4_charge 2 (some .int) 1 := ⟨tw_298, tw_297, tw_296, tw_22, tw_295, tw_293, ⟨_, _, _, tw_325⟩, by decide +kernel⟩

theorem cu_charge_4 : hs_cU RX7 "HireShed$Tool" ⟨"HireShed$Tool", "charge", "(I)I"⟩ yX7_charge cX7_charge 2 (some .int) 1 := ⟨tw_317, tw_316, tw_315, tw_24, tw_295, tw_293, ⟨_, _, _, tw_325⟩, by decide +kernel⟩

theorem cu_charge_5 : hs_cU RX3 "HireShed$Tool" ⟨"HireShed$Tool", "charge", "(I)I"⟩ yX5_charge cX5_charge 2 (some .int) 1 := ⟨tw_325, tw_293, tw_313, tw_20, tw_295, tw_293, ⟨_, _, _, tw_325⟩, by decide +kernel⟩

theorem cu_charge_6 : hs_cU RX1 "HireShed$Tool" ⟨"HireShed$Tool", "charge", "(I)I"⟩ yX1_charge cX1_charge 2 (some .int) 1 := ⟨tw_308, tw_307, tw_306, tw_26, tw_295, tw_293, ⟨_, _, _, tw_325⟩, by decide +kernel⟩

set_option maxHeartbeats 400000 in
set_option maxRecDepth 100000 in
theorem V_charge {p : Program} {l : Launch} {e : Env} {R : Room} {s : State} {m : MethodId} {args : Array Value} {below : List Frame} {meth : Method} {c : Code} {H : Heap} {locs : List Loc} {cells slots nL index pc : Nat} {cc0 : ByteArray} {own : String} {ls : Array Slot} {rest : List Value} {D : va_G} {A : Nat → Prop} (cN cT cJ : ClassId) (h tr nb k : Nat) (hk : k < 7) (kd rt vl hr hw cu si : Int32) (st : TS) (hst : okT st) (d : Int32) (SF : CallFix p m c cc0 nL s args hs_gt own) (hlink : Cond.methodLink own index ⟨"HireShed$Tool", "charge", "(I)I"⟩ ∈ hs_gt) (hK : va_K D hs_cl (tyS cN cT cJ) s) (hP : va_P D hs_cl [(h, tlE k tr kd rt vl hr hw cu si), (tr, trE nb st), (nb, nbE cN st)] H) (hD : va_D A [(h, tlE k tr kd rt vl hr hw cu si), (tr, trE nb st), (nb, nbE cN st)]) (hR : 4 ≤ R.frames ∧ 84 ≤ R.locals) (hsize : ls.size = nL) (hW : (rest.map fun v => v.category).sum ≤ 8) (hdg : decode cc0 pc = .ok (.invokevirtual index, 3)) (hf : cells ≤ R.cells ∧ slots ≤ R.slots) :
    va_Run p l e R s m args below meth c H locs cells slots 0 0 (F0 m pc ls (.int d :: .ref h :: rest)) rest (hs_QI D (tyS cN cT cJ) (chF k rt vl d) [(h, tlE k tr kd rt vl hr hw cu si), (tr, trE nb (lvs (chN k) st)), (nb, nbE cN (lvs (chN k) st))] (va_A [(h, tlE k tr kd rt vl hr hw cu si), (tr, trE nb st), (nb, nbE cN st)] H.size) (Value.ref h :: [.int d]).toArray) (va_A [(h, tlE k tr kd rt vl hr hw cu si), (tr, trE nb st), (nb, nbE cN st)] H.size) := by
  match k, hk with

  | 0, hk => exact hs_runU (q0 := 0) (ci := 5) (T := TX5) (N := 8) SF cu_charge_0 hlink (c_X5_charge l D cN cT cJ h tr nb 0 kd rt vl hr hw cu si st hst d) hK hP hD rfl rfl ⟨Nat.le_trans (Nat.le_of_ble_eq_true rfl) hR.1, Nat.le_trans (Nat.le_of_ble_eq_true rfl) hR.2⟩ rfl hsize rfl hW hdg hf

  | 1, hk => exact hs_runU (q0 := 0) (ci := 2) (T := TX5) (N := 8) SF cu_charge_1 hlink (c_X5_charge l D cN cT cJ h tr nb 1 kd rt vl hr hw cu si st hst d) hK hP hD rfl rfl ⟨Nat.le_trans (Nat.le_of_ble_eq_true rfl) hR.1, Nat.le_trans (Nat.le_of_ble_eq_true rfl) hR.2⟩ rfl hsize rfl hW hdg hf

  | 2, hk => exact hs_runU (q0 := 0) (ci := 4) (T := TX5) (N := 8) SF cu_charge_2 hlink (c_X4_charge l D cN cT cJ h tr nb 2 kd rt vl hr hw cu si st hst d) hK hP hD rfl rfl ⟨Nat.le_trans (Nat.le_of_ble_eq_true rfl) hR.1, Nat.le_trans (Nat.le_of_ble_eq_true rfl) hR.2⟩ rfl hsize rfl hW hdg hf

  | 3, hk => exact hs_runU (q0 := 0) (ci := 0) (T := TX5) (N := 8) SF cu_charge_3 hlink (c_X4_charge l D cN cT cJ h tr nb 3 kd rt vl hr hw cu si st hst d) hK hP hD rfl rfl ⟨Nat.le_trans (Nat.le_of_ble_eq_true rfl) hR.1, Nat.le_trans (Nat.le_of_ble_eq_true rfl) hR.2⟩ rfl hsize rfl hW hdg hf

  | 4, hk => exact hs_runU (q0 := 0) (ci := 7) (T := TX5) (N := 8) SF cu_charge_4 hlink (c_X7_charge l D cN cT cJ h tr nb 4 kd rt vl hr hw cu si st hst d) hK hP hD rfl rfl ⟨Nat.le_trans (Nat.le_of_ble_eq_true rfl) hR.1, Nat.le_trans (Nat.le_of_ble_eq_true rfl) hR.2⟩ rfl hsize rfl hW hdg hf

  | 5, hk => exact hs_runU (q0 := 0) (ci := 3) (T := TX5) (N := 8) SF cu_charge_5 hlink (c_X5_charge l D cN cT cJ h tr nb 5 kd rt vl hr hw cu si st hst d) hK hP hD rfl rfl ⟨Nat.le_trans (Nat.le_of_ble_eq_true rfl) hR.1, Nat.le_trans (Nat.le_of_ble_eq_true rfl) hR.2⟩ rfl hsize rfl hW hdg hf

  | 6, hk => exact hs_runU (q0 := 0) (ci := 1) (T := TX5) (N := 8) SF cu_charge_6 hlink (c_X1_charge l D cN cT cJ h tr nb 6 kd rt vl hr hw cu si st hst d) hK hP hD rfl rfl ⟨Nat.le_trans (Nat.le_of_ble_eq_true rfl) hR.1, Nat.le_trans (Nat.le_of_ble_eq_true rfl) hR.2⟩ rfl hsize rfl hW hdg hf

  | k + 7, hk => exact absurd hk (by omega)

theorem cu_wear_0 : hs_cU RX5 "HireShed$Tool" ⟨"HireShed$Tool", "wear", "(I)I"⟩ yX5_wear cX5_wear 2 (some .int) 1 := ⟨tw_347, tw_328, tw_329, tw_20, tw_330, tw_328, ⟨_, _, _, tw_347⟩, by decide +kernel⟩

theorem cu_wear_1 : hs_cU RX2 "HireShed$Tool" ⟨"HireShed$Tool", "wear", "(I)I"⟩ yX5_wear cX5_wear 2 (some .int) 1 := ⟨tw_347, tw_328, tw_339, tw_20, tw_330, tw_328, ⟨_, _, _, tw_347⟩, by decide +kernel⟩

theorem cu_wear_2 : hs_cU RX4 "HireShed$Tool" ⟨"HireShed$Tool", "wear", "(I)I"⟩ yX5_wear cX5_wear 2 (some .int) 1 := ⟨tw_347, tw_328, tw_341, tw_20, tw_330, tw_328, ⟨_, _, _, tw_347⟩, by decide +kernel⟩

theorem cu_wear_3 : hs_cU RX0 "HireShed$Tool" ⟨"HireShed$Tool", "wear", "(I)I"⟩ yX5_wear cX5_wear 2 (some .int) 1 := ⟨tw_347, tw_328, tw_331, tw_20, tw_330, tw_328, ⟨_, _, _, tw_347⟩, by decide +kernel⟩

theorem cu_wear_4 : hs_cU RX7 "HireShed$Tool" ⟨"HireShed$Tool", "wear", "(I)I"⟩ yX7_wear cX7_wear 2 (some .int) 1 := ⟨tw_344, tw_343, tw_342, tw_24, tw_330, tw_328, ⟨_, _, _, tw_347⟩, by decide +kernel⟩

theorem cu_wear_5 : hs_cU RX3 "HireShed$Tool" ⟨"HireShed$Tool", "wear", "(I)I"⟩ yX3_wear cX3_wear 2 (some .int) 1 := ⟨tw_334, tw_333, tw_340, tw_25, tw_330, tw_328, ⟨_, _, _, tw_347⟩, by decide +kernel⟩

theorem cu_wear_6 : hs_cU RX1 "HireShed$Tool" ⟨"HireShed$Tool", "wear", "(I)I"⟩ yX3_wear cX3_wear 2 (some .int) 1 := ⟨tw_334, tw_333, tw_332, tw_25, tw_330, tw_328, ⟨_, _, _, tw_347⟩, by decide +kernel⟩

set_option maxHeartbeats 400000 in
set_option maxRecDepth 100000 in
theorem V_wear {p : Program} {l : Launch} {e : Env} {R : Room} {s : State} {m : MethodId} {args : Array Value} {below : List Frame} {meth : Method} {c : Code} {H : Heap} {locs : List Loc} {cells slots nL index pc : Nat} {cc0 : ByteArray} {own : String} {ls : Array Slot} {rest : List Value} {D : va_G} {A : Nat → Prop} (cN cT cJ : ClassId) (h tr nb k : Nat) (hk : k < 7) (kd rt vl hr hw cu si : Int32) (st : TS) (hst : okT st) (d : Int32) (SF : CallFix p m c cc0 nL s args hs_gt own) (hlink : Cond.methodLink own index ⟨"HireShed$Tool", "wear", "(I)I"⟩ ∈ hs_gt) (hK : va_K D hs_cl (tyS cN cT cJ) s) (hP : va_P D hs_cl [(h, tlE k tr kd rt vl hr hw cu si), (tr, trE nb st), (nb, nbE cN st)] H) (hD : va_D A [(h, tlE k tr kd rt vl hr hw cu si), (tr, trE nb st), (nb, nbE cN st)]) (hR : 3 ≤ R.frames ∧ 63 ≤ R.locals) (hsize : ls.size = nL) (hW : (rest.map fun v => v.category).sum ≤ 8) (hdg : decode cc0 pc = .ok (.invokevirtual index, 3)) (hf : cells ≤ R.cells ∧ slots ≤ R.slots) :
    va_Run p l e R s m args below meth c H locs cells slots 0 0 (F0 m pc ls (.int d :: .ref h :: rest)) rest (hs_QI D (tyS cN cT cJ) (weF k hr d) [(h, tlE k tr kd rt vl hr hw cu si), (tr, trE nb (lvs (weN k) st)), (nb, nbE cN (lvs (weN k) st))] (va_A [(h, tlE k tr kd rt vl hr hw cu si), (tr, trE nb st), (nb, nbE cN st)] H.size) (Value.ref h :: [.int d]).toArray) (va_A [(h, tlE k tr kd rt vl hr hw cu si), (tr, trE nb st), (nb, nbE cN st)] H.size) := by
  match k, hk with

  | 0, hk => exact hs_runU (q0 := 0) (ci := 5) (T := TX5) (N := 8) SF cu_wear_0 hlink (c_X5_wear l D cN cT cJ h tr nb 0 kd rt vl hr hw cu si st hst d) hK hP hD rfl rfl ⟨Nat.le_trans (Nat.le_of_ble_eq_true rfl) hR.1, Nat.le_trans (Nat.le_of_ble_eq_true rfl) hR.2⟩ rfl hsize rfl hW hdg hf

  | 1, hk => exact hs_runU (q0 := 0) (ci := 2) (T := TX5) (N := 8) SF cu_wear_1 hlink (c_X5_wear l D cN cT cJ h tr nb 1 kd rt vl hr hw cu si st hst d) hK hP hD rfl rfl ⟨Nat.le_trans (Nat.le_of_ble_eq_true rfl) hR.1, Nat.le_trans (Nat.le_of_ble_eq_true rfl) hR.2⟩ rfl hsize rfl hW hdg hf

  | 2, hk => exact hs_runU (q0 := 0) (ci := 4) (T := TX5) (N := 8) SF cu_wear_2 hlink (c_X5_wear l D cN cT cJ h tr nb 2 kd rt vl hr hw cu si st hst d) hK hP hD rfl rfl ⟨Nat.le_trans (Nat.le_of_ble_eq_true rfl) hR.1, Nat.le_trans (Nat.le_of_ble_eq_true rfl) hR.2⟩ rfl hsize rfl hW hdg hf

  | 3, hk => exact hs_runU (q0 := 0) (ci := 0) (T := TX5) (N := 8) SF cu_wear_3 hlink (c_X5_wear l D cN cT cJ h tr nb 3 kd rt vl hr hw cu si st hst d) hK hP hD rfl rfl ⟨Nat.le_trans (Nat.le_of_ble_eq_true rfl) hR.1, Nat.le_trans (Nat.le_of_ble_eq_true rfl) hR.2⟩ rfl hsize rfl hW hdg hf

  | 4, hk => exact hs_runU (q0 := 0) (ci := 7) (T := TX5) (N := 8) SF cu_wear_4 hlink (c_X7_wear l D cN cT cJ h tr nb 4 kd rt vl hr hw cu si st hst d) hK hP hD rfl rfl ⟨Nat.le_trans (Nat.le_of_ble_eq_true rfl) hR.1, Nat.le_trans (Nat.le_of_ble_eq_true rfl) hR.2⟩ rfl hsize rfl hW hdg hf

  | 5, hk => exact hs_runU (q0 := 0) (ci := 3) (T := TX5) (N := 8) SF cu_wear_5 hlink (c_X3_wear l D cN cT cJ h tr nb 5 kd rt vl hr hw cu si st hst d) hK hP hD rfl rfl ⟨Nat.le_trans (Nat.le_of_ble_eq_true rfl) hR.1, Nat.le_trans (Nat.le_of_ble_eq_true rfl) hR.2⟩ rfl hsize rfl hW hdg hf

  | 6, hk => exact hs_runU (q0 := 0) (ci := 1) (T := TX5) (N := 8) SF cu_wear_6 hlink (c_X3_wear l D cN cT cJ h tr nb 6 kd rt vl hr hw cu si st hst d) hK hP hD rfl rfl ⟨Nat.le_trans (Nat.le_of_ble_eq_true rfl) hR.1, Nat.le_trans (Nat.le_of_ble_eq_true rfl) hR.2⟩ rfl hsize rfl hW hdg hf

  | k + 7, hk => exact absurd hk (by omega)

theorem cu_check_0 : hs_cU RX5 "HireShed$Tool" ⟨"HireShed$Tool", "check", "()I"⟩ yX5_check cX5_check 1 (some .int) 0 := ⟨tw_372, tw_349, tw_350, tw_20, tw_351, tw_349, ⟨_, _, _, tw_372⟩, by decide +kernel⟩

theorem cu_check_1 : hs_cU RX2 "HireShed$Tool" ⟨"HireShed$Tool", "check", "()I"⟩ yX2_check cX2_check 1 (some .int) 0 := ⟨tw_360, tw_359, tw_368, tw_21, tw_351, tw_349, ⟨_, _, _, tw_372⟩, by decide +kernel⟩

theorem cu_check_2 : hs_cU RX4 "HireShed$Tool" ⟨"HireShed$Tool", "check", "()I"⟩ yX2_check cX2_check 1 (some .int) 0 := ⟨tw_360, tw_359, tw_370, tw_21, tw_351, tw_349, ⟨_, _, _, tw_372⟩, by decide +kernel⟩

theorem cu_check_3 : hs_cU RX0 "HireShed$Tool" ⟨"HireShed$Tool", "check", "()I"⟩ yX0_check cX0_check 1 (some .int) 0 := ⟨tw_354, tw_353, tw_352, tw_23, tw_351, tw_349, ⟨_, _, _, tw_372⟩, by decide +kernel⟩

theorem cu_check_4 : hs_cU RX7 "HireShed$Tool" ⟨"HireShed$Tool", "check", "()I"⟩ yX0_check cX0_check 1 (some .int) 0 := ⟨tw_354, tw_353, tw_371, tw_23, tw_351, tw_349, ⟨_, _, _, tw_372⟩, by decide +kernel⟩

theorem cu_check_5 : hs_cU RX3 "HireShed$Tool" ⟨"HireShed$Tool", "check", "()I"⟩ yX2_check cX2_check 1 (some .int) 0 := ⟨tw_360, tw_359, tw_369, tw_21, tw_351, tw_349, ⟨_, _, _, tw_372⟩, by decide +kernel⟩

theorem cu_check_6 : hs_cU RX1 "HireShed$Tool" ⟨"HireShed$Tool", "check", "()I"⟩ yX1_check cX1_check 1 (some .int) 0 := ⟨tw_365, tw_364, tw_363, tw_26, tw_351, tw_349, ⟨_, _, _, tw_372⟩, by decide +kernel⟩

set_option maxHeartbeats 400000 in
set_option maxRecDepth 100000 in
theorem V_check {p : Program} {l : Launch} {e : Env} {R : Room} {s : State} {m : MethodId} {args : Array Value} {below : List Frame} {meth : Method} {c : Code} {H : Heap} {locs : List Loc} {cells slots nL index pc : Nat} {cc0 : ByteArray} {own : String} {ls : Array Slot} {rest : List Value} {D : va_G} {A : Nat → Prop} (cN cT cJ : ClassId) (h tr nb k : Nat) (hk : k < 7) (kd rt vl hr hw cu si : Int32) (st : TS) (hst : okT st) (SF : CallFix p m c cc0 nL s args hs_gt own) (hlink : Cond.methodLink own index ⟨"HireShed$Tool", "check", "()I"⟩ ∈ hs_gt) (hK : va_K D hs_cl (tyS cN cT cJ) s) (hP : va_P D hs_cl [(h, tlE k tr kd rt vl hr hw cu si), (tr, trE nb st), (nb, nbE cN st)] H) (hD : va_D A [(h, tlE k tr kd rt vl hr hw cu si), (tr, trE nb st), (nb, nbE cN st)]) (hR : 4 ≤ R.frames ∧ 81 ≤ R.locals) (hsize : ls.size = nL) (hW : (rest.map fun v => v.category).sum ≤ 8) (hdg : decode cc0 pc = .ok (.invokevirtual index, 3)) (hf : cells ≤ R.cells ∧ slots ≤ R.slots) :
    va_Run p l e R s m args below meth c H locs cells slots 0 0 (F0 m pc ls (.ref h :: rest)) rest (hs_QI D (tyS cN cT cJ) (ckF k hr) [(h, tlE k tr kd rt vl hr hw cu si), (tr, trE nb (lvs (ckN k) st)), (nb, nbE cN (lvs (ckN k) st))] (va_A [(h, tlE k tr kd rt vl hr hw cu si), (tr, trE nb st), (nb, nbE cN st)] H.size) (Value.ref h :: []).toArray) (va_A [(h, tlE k tr kd rt vl hr hw cu si), (tr, trE nb st), (nb, nbE cN st)] H.size) := by
  match k, hk with

  | 0, hk => exact hs_runU (q0 := 0) (ci := 5) (T := TX5) (N := 8) SF cu_check_0 hlink (c_X5_check l D cN cT cJ h tr nb 0 kd rt vl hr hw cu si st hst) hK hP hD rfl rfl ⟨Nat.le_trans (Nat.le_of_ble_eq_true rfl) hR.1, Nat.le_trans (Nat.le_of_ble_eq_true rfl) hR.2⟩ rfl hsize rfl hW hdg hf

  | 1, hk => exact hs_runU (q0 := 0) (ci := 2) (T := TX5) (N := 8) SF cu_check_1 hlink (c_X2_check l D cN cT cJ h tr nb 1 kd rt vl hr hw cu si st hst) hK hP hD rfl rfl ⟨Nat.le_trans (Nat.le_of_ble_eq_true rfl) hR.1, Nat.le_trans (Nat.le_of_ble_eq_true rfl) hR.2⟩ rfl hsize rfl hW hdg hf

  | 2, hk => exact hs_runU (q0 := 0) (ci := 4) (T := TX5) (N := 8) SF cu_check_2 hlink (c_X2_check l D cN cT cJ h tr nb 2 kd rt vl hr hw cu si st hst) hK hP hD rfl rfl ⟨Nat.le_trans (Nat.le_of_ble_eq_true rfl) hR.1, Nat.le_trans (Nat.le_of_ble_eq_true rfl) hR.2⟩ rfl hsize rfl hW hdg hf

  | 3, hk => exact hs_runU (q0 := 0) (ci := 0) (T := TX5) (N := 8) SF cu_check_3 hlink (c_X0_check l D cN cT cJ h tr nb 3 kd rt vl hr hw cu si st hst) hK hP hD rfl rfl ⟨Nat.le_trans (Nat.le_of_ble_eq_true rfl) hR.1, Nat.le_trans (Nat.le_of_ble_eq_true rfl) hR.2⟩ rfl hsize rfl hW hdg hf

  | 4, hk => exact hs_runU (q0 := 0) (ci := 7) (T := TX5) (N := 8) SF cu_check_4 hlink (c_X0_check l D cN cT cJ h tr nb 4 kd rt vl hr hw cu si st hst) hK hP hD rfl rfl ⟨Nat.le_trans (Nat.le_of_ble_eq_true rfl) hR.1, Nat.le_trans (Nat.le_of_ble_eq_true rfl) hR.2⟩ rfl hsize rfl hW hdg hf

  | 5, hk => exact hs_runU (q0 := 0) (ci := 3) (T := TX5) (N := 8) SF cu_check_5 hlink (c_X2_check l D cN cT cJ h tr nb 5 kd rt vl hr hw cu si st hst) hK hP hD rfl rfl ⟨Nat.le_trans (Nat.le_of_ble_eq_true rfl) hR.1, Nat.le_trans (Nat.le_of_ble_eq_true rfl) hR.2⟩ rfl hsize rfl hW hdg hf

  | 6, hk => exact hs_runU (q0 := 0) (ci := 1) (T := TX5) (N := 8) SF cu_check_6 hlink (c_X1_check l D cN cT cJ h tr nb 6 kd rt vl hr hw cu si st hst) hK hP hD rfl rfl ⟨Nat.le_trans (Nat.le_of_ble_eq_true rfl) hR.1, Nat.le_trans (Nat.le_of_ble_eq_true rfl) hR.2⟩ rfl hsize rfl hW hdg hf

  | k + 7, hk => exact absurd hk (by omega)

theorem cu_deposit_0 : hs_cU RX5 "HireShed$Tool" ⟨"HireShed$Tool", "deposit", "()I"⟩ yX5_deposit cX5_deposit 1 (some .int) 0 := ⟨tw_390, tw_374, tw_375, tw_20, tw_376, tw_374, ⟨_, _, _, tw_390⟩, by decide +kernel⟩

theorem cu_deposit_1 : hs_cU RX2 "HireShed$Tool" ⟨"HireShed$Tool", "deposit", "()I"⟩ yX2_deposit cX2_deposit 1 (some .int) 0 := ⟨tw_379, tw_378, tw_381, tw_21, tw_376, tw_374, ⟨_, _, _, tw_390⟩, by decide +kernel⟩

theorem cu_deposit_2 : hs_cU RX4 "HireShed$Tool" ⟨"HireShed$Tool", "deposit", "()I"⟩ yX2_deposit cX2_deposit 1 (some .int) 0 := ⟨tw_379, tw_378, tw_383, tw_21, tw_376, tw_374, ⟨_, _, _, tw_390⟩, by decide +kernel⟩

theorem cu_deposit_3 : hs_cU RX0 "HireShed$Tool" ⟨"HireShed$Tool", "deposit", "()I"⟩ yX2_deposit cX2_deposit 1 (some .int) 0 := ⟨tw_379, tw_378, tw_377, tw_21, tw_376, tw_374, ⟨_, _, _, tw_390⟩, by decide +kernel⟩

theorem cu_deposit_4 : hs_cU RX7 "HireShed$Tool" ⟨"HireShed$Tool", "deposit", "()I"⟩ yX7_deposit cX7_deposit 1 (some .int) 0 := ⟨tw_386, tw_385, tw_384, tw_24, tw_376, tw_374, ⟨_, _, _, tw_390⟩, by decide +kernel⟩

theorem cu_deposit_5 : hs_cU RX3 "HireShed$Tool" ⟨"HireShed$Tool", "deposit", "()I"⟩ yX2_deposit cX2_deposit 1 (some .int) 0 := ⟨tw_379, tw_378, tw_382, tw_21, tw_376, tw_374, ⟨_, _, _, tw_390⟩, by decide +kernel⟩

theorem cu_deposit_6 : hs_cU RX1 "HireShed$Tool" ⟨"HireShed$Tool", "deposit", "()I"⟩ yX2_deposit cX2_deposit 1 (some .int) 0 := ⟨tw_379, tw_378, tw_380, tw_21, tw_376, tw_374, ⟨_, _, _, tw_390⟩, by decide +kernel⟩

set_option maxHeartbeats 400000 in
set_option maxRecDepth 100000 in
theorem V_deposit {p : Program} {l : Launch} {e : Env} {R : Room} {s : State} {m : MethodId} {args : Array Value} {below : List Frame} {meth : Method} {c : Code} {H : Heap} {locs : List Loc} {cells slots nL index pc : Nat} {cc0 : ByteArray} {own : String} {ls : Array Slot} {rest : List Value} {D : va_G} {A : Nat → Prop} (cN cT cJ : ClassId) (h tr nb k : Nat) (hk : k < 7) (kd rt vl hr hw cu si : Int32) (st : TS) (hst : okT st) (SF : CallFix p m c cc0 nL s args hs_gt own) (hlink : Cond.methodLink own index ⟨"HireShed$Tool", "deposit", "()I"⟩ ∈ hs_gt) (hK : va_K D hs_cl (tyS cN cT cJ) s) (hP : va_P D hs_cl [(h, tlE k tr kd rt vl hr hw cu si), (tr, trE nb st), (nb, nbE cN st)] H) (hD : va_D A [(h, tlE k tr kd rt vl hr hw cu si), (tr, trE nb st), (nb, nbE cN st)]) (hR : 3 ≤ R.frames ∧ 61 ≤ R.locals) (hsize : ls.size = nL) (hW : (rest.map fun v => v.category).sum ≤ 8) (hdg : decode cc0 pc = .ok (.invokevirtual index, 3)) (hf : cells ≤ R.cells ∧ slots ≤ R.slots) :
    va_Run p l e R s m args below meth c H locs cells slots 0 0 (F0 m pc ls (.ref h :: rest)) rest (hs_QI D (tyS cN cT cJ) (dpF k vl) [(h, tlE k tr kd rt vl hr hw cu si), (tr, trE nb (lvs (dpN k) st)), (nb, nbE cN (lvs (dpN k) st))] (va_A [(h, tlE k tr kd rt vl hr hw cu si), (tr, trE nb st), (nb, nbE cN st)] H.size) (Value.ref h :: []).toArray) (va_A [(h, tlE k tr kd rt vl hr hw cu si), (tr, trE nb st), (nb, nbE cN st)] H.size) := by
  match k, hk with

  | 0, hk => exact hs_runU (q0 := 0) (ci := 5) (T := TX5) (N := 8) SF cu_deposit_0 hlink (c_X5_deposit l D cN cT cJ h tr nb 0 kd rt vl hr hw cu si st hst) hK hP hD rfl rfl ⟨Nat.le_trans (Nat.le_of_ble_eq_true rfl) hR.1, Nat.le_trans (Nat.le_of_ble_eq_true rfl) hR.2⟩ rfl hsize rfl hW hdg hf

  | 1, hk => exact hs_runU (q0 := 0) (ci := 2) (T := TX5) (N := 8) SF cu_deposit_1 hlink (c_X2_deposit l D cN cT cJ h tr nb 1 kd rt vl hr hw cu si st hst) hK hP hD rfl rfl ⟨Nat.le_trans (Nat.le_of_ble_eq_true rfl) hR.1, Nat.le_trans (Nat.le_of_ble_eq_true rfl) hR.2⟩ rfl hsize rfl hW hdg hf

  | 2, hk => exact hs_runU (q0 := 0) (ci := 4) (T := TX5) (N := 8) SF cu_deposit_2 hlink (c_X2_deposit l D cN cT cJ h tr nb 2 kd rt vl hr hw cu si st hst) hK hP hD rfl rfl ⟨Nat.le_trans (Nat.le_of_ble_eq_true rfl) hR.1, Nat.le_trans (Nat.le_of_ble_eq_true rfl) hR.2⟩ rfl hsize rfl hW hdg hf

  | 3, hk => exact hs_runU (q0 := 0) (ci := 0) (T := TX5) (N := 8) SF cu_deposit_3 hlink (c_X2_deposit l D cN cT cJ h tr nb 3 kd rt vl hr hw cu si st hst) hK hP hD rfl rfl ⟨Nat.le_trans (Nat.le_of_ble_eq_true rfl) hR.1, Nat.le_trans (Nat.le_of_ble_eq_true rfl) hR.2⟩ rfl hsize rfl hW hdg hf

  | 4, hk => exact hs_runU (q0 := 0) (ci := 7) (T := TX5) (N := 8) SF cu_deposit_4 hlink (c_X7_deposit l D cN cT cJ h tr nb 4 kd rt vl hr hw cu si st hst) hK hP hD rfl rfl ⟨Nat.le_trans (Nat.le_of_ble_eq_true rfl) hR.1, Nat.le_trans (Nat.le_of_ble_eq_true rfl) hR.2⟩ rfl hsize rfl hW hdg hf

  | 5, hk => exact hs_runU (q0 := 0) (ci := 3) (T := TX5) (N := 8) SF cu_deposit_5 hlink (c_X2_deposit l D cN cT cJ h tr nb 5 kd rt vl hr hw cu si st hst) hK hP hD rfl rfl ⟨Nat.le_trans (Nat.le_of_ble_eq_true rfl) hR.1, Nat.le_trans (Nat.le_of_ble_eq_true rfl) hR.2⟩ rfl hsize rfl hW hdg hf

  | 6, hk => exact hs_runU (q0 := 0) (ci := 1) (T := TX5) (N := 8) SF cu_deposit_6 hlink (c_X2_deposit l D cN cT cJ h tr nb 6 kd rt vl hr hw cu si st hst) hK hP hD rfl rfl ⟨Nat.le_trans (Nat.le_of_ble_eq_true rfl) hR.1, Nat.le_trans (Nat.le_of_ble_eq_true rfl) hR.2⟩ rfl hsize rfl hW hdg hf

  | k + 7, hk => exact absurd hk (by omega)

theorem cu_premium_0 : hs_cU RX5 "HireShed$Tool" ⟨"HireShed$Tool", "premium", "(I)I"⟩ yX5_premium cX5_premium 2 (some .int) 1 := ⟨tw_414, tw_392, tw_393, tw_20, tw_394, tw_392, ⟨_, _, _, tw_414⟩, by decide +kernel⟩

theorem cu_premium_1 : hs_cU RX2 "HireShed$Tool" ⟨"HireShed$Tool", "premium", "(I)I"⟩ yX5_premium cX5_premium 2 (some .int) 1 := ⟨tw_414, tw_392, tw_403, tw_20, tw_394, tw_392, ⟨_, _, _, tw_414⟩, by decide +kernel⟩

theorem cu_premium_2 : hs_cU RX4 "HireShed$Tool" ⟨"HireShed$Tool", "premium", "(I)I"⟩ yX4_premium cX4_premium 2 (some .int) 1 := ⟨tw_407, tw_406, tw_405, tw_22, tw_394, tw_392, ⟨_, _, _, tw_414⟩, by decide +kernel⟩

theorem cu_premium_3 : hs_cU RX0 "HireShed$Tool" ⟨"HireShed$Tool", "premium", "(I)I"⟩ yX0_premium cX0_premium 2 (some .int) 1 := ⟨tw_397, tw_396, tw_395, tw_23, tw_394, tw_392, ⟨_, _, _, tw_414⟩, by decide +kernel⟩

theorem cu_premium_4 : hs_cU RX7 "HireShed$Tool" ⟨"HireShed$Tool", "premium", "(I)I"⟩ yX0_premium cX0_premium 2 (some .int) 1 := ⟨tw_397, tw_396, tw_413, tw_23, tw_394, tw_392, ⟨_, _, _, tw_414⟩, by decide +kernel⟩

theorem cu_premium_5 : hs_cU RX3 "HireShed$Tool" ⟨"HireShed$Tool", "premium", "(I)I"⟩ yX5_premium cX5_premium 2 (some .int) 1 := ⟨tw_414, tw_392, tw_404, tw_20, tw_394, tw_392, ⟨_, _, _, tw_414⟩, by decide +kernel⟩

theorem cu_premium_6 : hs_cU RX1 "HireShed$Tool" ⟨"HireShed$Tool", "premium", "(I)I"⟩ yX5_premium cX5_premium 2 (some .int) 1 := ⟨tw_414, tw_392, tw_402, tw_20, tw_394, tw_392, ⟨_, _, _, tw_414⟩, by decide +kernel⟩

set_option maxHeartbeats 400000 in
set_option maxRecDepth 100000 in
theorem V_premium {p : Program} {l : Launch} {e : Env} {R : Room} {s : State} {m : MethodId} {args : Array Value} {below : List Frame} {meth : Method} {c : Code} {H : Heap} {locs : List Loc} {cells slots nL index pc : Nat} {cc0 : ByteArray} {own : String} {ls : Array Slot} {rest : List Value} {D : va_G} {A : Nat → Prop} (cN cT cJ : ClassId) (h tr nb k : Nat) (hk : k < 7) (kd rt vl hr hw cu si : Int32) (st : TS) (hst : okT st) (d : Int32) (SF : CallFix p m c cc0 nL s args hs_gt own) (hlink : Cond.methodLink own index ⟨"HireShed$Tool", "premium", "(I)I"⟩ ∈ hs_gt) (hK : va_K D hs_cl (tyS cN cT cJ) s) (hP : va_P D hs_cl [(h, tlE k tr kd rt vl hr hw cu si), (tr, trE nb st), (nb, nbE cN st)] H) (hD : va_D A [(h, tlE k tr kd rt vl hr hw cu si), (tr, trE nb st), (nb, nbE cN st)]) (hR : 5 ≤ R.frames ∧ 102 ≤ R.locals) (hsize : ls.size = nL) (hW : (rest.map fun v => v.category).sum ≤ 8) (hdg : decode cc0 pc = .ok (.invokevirtual index, 3)) (hf : cells ≤ R.cells ∧ slots ≤ R.slots) :
    va_Run p l e R s m args below meth c H locs cells slots 0 0 (F0 m pc ls (.int d :: .ref h :: rest)) rest (hs_QI D (tyS cN cT cJ) (pmF k vl hr d) [(h, tlE k tr kd rt vl hr hw cu si), (tr, trE nb (lvs (pmN k) st)), (nb, nbE cN (lvs (pmN k) st))] (va_A [(h, tlE k tr kd rt vl hr hw cu si), (tr, trE nb st), (nb, nbE cN st)] H.size) (Value.ref h :: [.int d]).toArray) (va_A [(h, tlE k tr kd rt vl hr hw cu si), (tr, trE nb st), (nb, nbE cN st)] H.size) := by
  match k, hk with

  | 0, hk => exact hs_runU (q0 := 0) (ci := 5) (T := TX5) (N := 8) SF cu_premium_0 hlink (c_X5_premium l D cN cT cJ h tr nb 0 kd rt vl hr hw cu si st hst d) hK hP hD rfl rfl ⟨Nat.le_trans (Nat.le_of_ble_eq_true rfl) hR.1, Nat.le_trans (Nat.le_of_ble_eq_true rfl) hR.2⟩ rfl hsize rfl hW hdg hf

  | 1, hk => exact hs_runU (q0 := 0) (ci := 2) (T := TX5) (N := 8) SF cu_premium_1 hlink (c_X5_premium l D cN cT cJ h tr nb 1 kd rt vl hr hw cu si st hst d) hK hP hD rfl rfl ⟨Nat.le_trans (Nat.le_of_ble_eq_true rfl) hR.1, Nat.le_trans (Nat.le_of_ble_eq_true rfl) hR.2⟩ rfl hsize rfl hW hdg hf

  | 2, hk => exact hs_runU (q0 := 0) (ci := 4) (T := TX5) (N := 8) SF cu_premium_2 hlink (c_X4_premium l D cN cT cJ h tr nb kd rt vl hr hw cu si st hst d) hK hP hD rfl rfl ⟨Nat.le_trans (Nat.le_of_ble_eq_true rfl) hR.1, Nat.le_trans (Nat.le_of_ble_eq_true rfl) hR.2⟩ rfl hsize rfl hW hdg hf

  | 3, hk => exact hs_runU (q0 := 0) (ci := 0) (T := TX5) (N := 8) SF cu_premium_3 hlink (c_X0_premium_3 l D cN cT cJ h tr nb kd rt vl hr hw cu si st hst d) hK hP hD rfl rfl ⟨Nat.le_trans (Nat.le_of_ble_eq_true rfl) hR.1, Nat.le_trans (Nat.le_of_ble_eq_true rfl) hR.2⟩ rfl hsize rfl hW hdg hf

  | 4, hk => exact hs_runU (q0 := 0) (ci := 7) (T := TX5) (N := 8) SF cu_premium_4 hlink (c_X0_premium_4 l D cN cT cJ h tr nb kd rt vl hr hw cu si st hst d) hK hP hD rfl rfl ⟨Nat.le_trans (Nat.le_of_ble_eq_true rfl) hR.1, Nat.le_trans (Nat.le_of_ble_eq_true rfl) hR.2⟩ rfl hsize rfl hW hdg hf

  | 5, hk => exact hs_runU (q0 := 0) (ci := 3) (T := TX5) (N := 8) SF cu_premium_5 hlink (c_X5_premium l D cN cT cJ h tr nb 5 kd rt vl hr hw cu si st hst d) hK hP hD rfl rfl ⟨Nat.le_trans (Nat.le_of_ble_eq_true rfl) hR.1, Nat.le_trans (Nat.le_of_ble_eq_true rfl) hR.2⟩ rfl hsize rfl hW hdg hf

  | 6, hk => exact hs_runU (q0 := 0) (ci := 1) (T := TX5) (N := 8) SF cu_premium_6 hlink (c_X5_premium l D cN cT cJ h tr nb 6 kd rt vl hr hw cu si st hst d) hK hP hD rfl rfl ⟨Nat.le_trans (Nat.le_of_ble_eq_true rfl) hR.1, Nat.le_trans (Nat.le_of_ble_eq_true rfl) hR.2⟩ rfl hsize rfl hW hdg hf

  | k + 7, hk => exact absurd hk (by omega)

