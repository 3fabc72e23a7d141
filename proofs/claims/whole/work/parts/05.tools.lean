theorem su_X2_check_X5_check : hs_cU2 RX2 "HireShed$Tool" ⟨"HireShed$Tool", "check", "()I"⟩ yX5_check cX5_check 1 (some .int) 0 := ⟨tw_372, tw_349, tw_20, tw_351, tw_146, rfl, by decide, by decide +kernel⟩

theorem su_X4_charge_X5_charge : hs_cU2 RX4 "HireShed$Tool" ⟨"HireShed$Powered", "charge", "(I)I"⟩ yX5_charge cX5_charge 2 (some .int) 1 := ⟨tw_325, tw_293, tw_20, tw_304, tw_161, rfl, by decide, by decide +kernel⟩

theorem su_X1_charge_X5_charge : hs_cU2 RX1 "HireShed$Tool" ⟨"HireShed$Pump", "charge", "(I)I"⟩ yX5_charge cX5_charge 2 (some .int) 1 := ⟨tw_325, tw_293, tw_20, tw_311, tw_221, rfl, by decide, by decide +kernel⟩

theorem su_X7_charge_X4_charge : hs_cU2 RX7 "HireShed$Saw" ⟨"HireShed$BenchSaw", "charge", "(I)I"⟩ yX4_charge cX4_charge 2 (some .int) 1 := ⟨tw_298, tw_297, tw_22, tw_320, tw_191, rfl, by decide, by decide +kernel⟩

theorem su_X3_wear_X5_wear : hs_cU2 RX3 "HireShed$Tool" ⟨"HireShed$Powered", "wear", "(I)I"⟩ yX5_wear cX5_wear 2 (some .int) 1 := ⟨tw_347, tw_328, tw_20, tw_337, tw_206, rfl, by decide, by decide +kernel⟩

theorem su_X7_wear_X5_wear : hs_cU2 RX7 "HireShed$Tool" ⟨"HireShed$BenchSaw", "wear", "(I)I"⟩ yX5_wear cX5_wear 2 (some .int) 1 := ⟨tw_347, tw_328, tw_20, tw_346, tw_191, rfl, by decide, by decide +kernel⟩

theorem su_X0_check_X2_check : hs_cU2 RX0 "HireShed$Powered" ⟨"HireShed$Saw", "check", "()I"⟩ yX2_check cX2_check 1 (some .int) 0 := ⟨tw_360, tw_359, tw_21, tw_357, tw_176, rfl, by decide, by decide +kernel⟩

theorem su_X1_check_X2_check : hs_cU2 RX1 "HireShed$Powered" ⟨"HireShed$Pump", "check", "()I"⟩ yX2_check cX2_check 1 (some .int) 0 := ⟨tw_360, tw_359, tw_21, tw_367, tw_221, rfl, by decide, by decide +kernel⟩

theorem su_X7_deposit_X2_deposit : hs_cU2 RX7 "HireShed$Powered" ⟨"HireShed$BenchSaw", "deposit", "()I"⟩ yX2_deposit cX2_deposit 1 (some .int) 0 := ⟨tw_379, tw_378, tw_21, tw_388, tw_191, rfl, by decide, by decide +kernel⟩

set_option maxHeartbeats 400000 in
set_option maxRecDepth 100000 in
theorem c_X5_hasDeposit (l : Launch) (D : va_G) (cN cT cJ : ClassId) (h tr nb k : Nat) (kd rt vl hr hw cu si : Int32) (st : TS) (hst : okT st) : CM l D yX5_hasDeposit cX5_hasDeposit 1 (some .boolean) { frames := 0, cells := 0, slots := 0, locals := 0 } (tyS cN cT cJ) [.ref h] [(h, tlE k tr kd rt vl hr hw cu si), (tr, trE nb st), (nb, nbE cN st)] (hs_QI D (tyS cN cT cJ) 0 [(h, tlE k tr kd rt vl hr hw cu si), (tr, trE nb st), (nb, nbE cN st)]) := by
  refine CM.of (by decide) (Nat.le_of_ble_eq_true rfl) ?_
  intro p e s m below meth c A ls hx hb hrt hml htg hown hlocks hnm hA hK hP hD hS hl
  have hown : s.vm.findClass RX5 = some m.cls := hown
  have hl : lv_has ls 1 [(0, .ref h)] := hl
  have SF : CallFix p m c cX5_hasDeposit 1 s _ hs_gt RX5 := ⟨hx, hb, hml, hown, htg⟩
  refine lv_iconst (v := 0) hx hb dX5_hasDeposit_0 (by decide) ?_
  exact hs_zret hx hb hrt hlocks hK hP hD hS dX5_hasDeposit_1 rfl (rfl) (rfl)

set_option maxHeartbeats 400000 in
set_option maxRecDepth 100000 in
theorem c_X5_isInsured (l : Launch) (D : va_G) (cN cT cJ : ClassId) (h tr nb k : Nat) (kd rt vl hr hw cu si : Int32) (st : TS) (hst : okT st) : CM l D yX5_isInsured cX5_isInsured 1 (some .boolean) { frames := 0, cells := 0, slots := 0, locals := 0 } (tyS cN cT cJ) [.ref h] [(h, tlE k tr kd rt vl hr hw cu si), (tr, trE nb st), (nb, nbE cN st)] (hs_QI D (tyS cN cT cJ) 0 [(h, tlE k tr kd rt vl hr hw cu si), (tr, trE nb st), (nb, nbE cN st)]) := by
  refine CM.of (by decide) (Nat.le_of_ble_eq_true rfl) ?_
  intro p e s m below meth c A ls hx hb hrt hml htg hown hlocks hnm hA hK hP hD hS hl
  have hown : s.vm.findClass RX5 = some m.cls := hown
  have hl : lv_has ls 1 [(0, .ref h)] := hl
  have SF : CallFix p m c cX5_isInsured 1 s _ hs_gt RX5 := ⟨hx, hb, hml, hown, htg⟩
  refine lv_iconst (v := 0) hx hb dX5_isInsured_0 (by decide) ?_
  exact hs_zret hx hb hrt hlocks hK hP hD hS dX5_isInsured_1 rfl (rfl) (rfl)

set_option maxHeartbeats 400000 in
set_option maxRecDepth 100000 in
theorem c_X5_isServiced (l : Launch) (D : va_G) (cN cT cJ : ClassId) (h tr nb k : Nat) (kd rt vl hr hw cu si : Int32) (st : TS) (hst : okT st) : CM l D yX5_isServiced cX5_isServiced 1 (some .boolean) { frames := 0, cells := 0, slots := 0, locals := 0 } (tyS cN cT cJ) [.ref h] [(h, tlE k tr kd rt vl hr hw cu si), (tr, trE nb st), (nb, nbE cN st)] (hs_QI D (tyS cN cT cJ) 0 [(h, tlE k tr kd rt vl hr hw cu si), (tr, trE nb st), (nb, nbE cN st)]) := by
  refine CM.of (by decide) (Nat.le_of_ble_eq_true rfl) ?_
  intro p e s m below meth c A ls hx hb hrt hml htg hown hlocks hnm hA hK hP hD hS hl
  have hown : s.vm.findClass RX5 = some m.cls := hown
  have hl : lv_has ls 1 [(0, .ref h)] := hl
  have SF : CallFix p m c cX5_isServiced 1 s _ hs_gt RX5 := ⟨hx, hb, hml, hown, htg⟩
  refine lv_iconst (v := 0) hx hb dX5_isServiced_0 (by decide) ?_
  exact hs_zret hx hb hrt hlocks hK hP hD hS dX5_isServiced_1 rfl (rfl) (rfl)

set_option maxHeartbeats 400000 in
set_option maxRecDepth 100000 in
theorem c_X2_hasDeposit (l : Launch) (D : va_G) (cN cT cJ : ClassId) (h tr nb k : Nat) (kd rt vl hr hw cu si : Int32) (st : TS) (hst : okT st) : CM l D yX2_hasDeposit cX2_hasDeposit 1 (some .boolean) { frames := 0, cells := 0, slots := 0, locals := 0 } (tyS cN cT cJ) [.ref h] [(h, tlE k tr kd rt vl hr hw cu si), (tr, trE nb st), (nb, nbE cN st)] (hs_QI D (tyS cN cT cJ) 1 [(h, tlE k tr kd rt vl hr hw cu si), (tr, trE nb st), (nb, nbE cN st)]) := by
  refine CM.of (by decide) (Nat.le_of_ble_eq_true rfl) ?_
  intro p e s m below meth c A ls hx hb hrt hml htg hown hlocks hnm hA hK hP hD hS hl
  have hown : s.vm.findClass RX2 = some m.cls := hown
  have hl : lv_has ls 1 [(0, .ref h)] := hl
  have SF : CallFix p m c cX2_hasDeposit 1 s _ hs_gt RX2 := ⟨hx, hb, hml, hown, htg⟩
  refine lv_iconst (v := 1) hx hb dX2_hasDeposit_0 (by decide) ?_
  exact hs_zret hx hb hrt hlocks hK hP hD hS dX2_hasDeposit_1 rfl (rfl) (rfl)

set_option maxHeartbeats 400000 in
set_option maxRecDepth 100000 in
theorem c_X4_isInsured (l : Launch) (D : va_G) (cN cT cJ : ClassId) (h tr nb k : Nat) (kd rt vl hr hw cu si : Int32) (st : TS) (hst : okT st) : CM l D yX4_isInsured cX4_isInsured 1 (some .boolean) { frames := 0, cells := 0, slots := 0, locals := 0 } (tyS cN cT cJ) [.ref h] [(h, tlE k tr kd rt vl hr hw cu si), (tr, trE nb st), (nb, nbE cN st)] (hs_QI D (tyS cN cT cJ) 1 [(h, tlE k tr kd rt vl hr hw cu si), (tr, trE nb st), (nb, nbE cN st)]) := by
  refine CM.of (by decide) (Nat.le_of_ble_eq_true rfl) ?_
  intro p e s m below meth c A ls hx hb hrt hml htg hown hlocks hnm hA hK hP hD hS hl
  have hown : s.vm.findClass RX4 = some m.cls := hown
  have hl : lv_has ls 1 [(0, .ref h)] := hl
  have SF : CallFix p m c cX4_isInsured 1 s _ hs_gt RX4 := ⟨hx, hb, hml, hown, htg⟩
  refine lv_iconst (v := 1) hx hb dX4_isInsured_0 (by decide) ?_
  exact hs_zret hx hb hrt hlocks hK hP hD hS dX4_isInsured_1 rfl (rfl) (rfl)

set_option maxHeartbeats 400000 in
set_option maxRecDepth 100000 in
theorem c_X0_isServiced (l : Launch) (D : va_G) (cN cT cJ : ClassId) (h tr nb k : Nat) (kd rt vl hr hw cu si : Int32) (st : TS) (hst : okT st) : CM l D yX0_isServiced cX0_isServiced 1 (some .boolean) { frames := 0, cells := 0, slots := 0, locals := 0 } (tyS cN cT cJ) [.ref h] [(h, tlE k tr kd rt vl hr hw cu si), (tr, trE nb st), (nb, nbE cN st)] (hs_QI D (tyS cN cT cJ) 1 [(h, tlE k tr kd rt vl hr hw cu si), (tr, trE nb st), (nb, nbE cN st)]) := by
  refine CM.of (by decide) (Nat.le_of_ble_eq_true rfl) ?_
  intro p e s m below meth c A ls hx hb hrt hml htg hown hlocks hnm hA hK hP hD hS hl
  have hown : s.vm.findClass RX0 = some m.cls := hown
  have hl : lv_has ls 1 [(0, .ref h)] := hl
  have SF : CallFix p m c cX0_isServiced 1 s _ hs_gt RX0 := ⟨hx, hb, hml, hown, htg⟩
  refine lv_iconst (v := 1) hx hb dX0_isServiced_0 (by decide) ?_
  exact hs_zret hx hb hrt hlocks hK hP hD hS dX0_isServiced_1 rfl (rfl) (rfl)

set_option maxHeartbeats 400000 in
set_option maxRecDepth 100000 in
theorem c_X3_isServiced (l : Launch) (D : va_G) (cN cT cJ : ClassId) (h tr nb k : Nat) (kd rt vl hr hw cu si : Int32) (st : TS) (hst : okT st) : CM l D yX3_isServiced cX3_isServiced 1 (some .boolean) { frames := 0, cells := 0, slots := 0, locals := 0 } (tyS cN cT cJ) [.ref h] [(h, tlE k tr kd rt vl hr hw cu si), (tr, trE nb st), (nb, nbE cN st)] (hs_QI D (tyS cN cT cJ) 1 [(h, tlE k tr kd rt vl hr hw cu si), (tr, trE nb st), (nb, nbE cN st)]) := by
  refine CM.of (by decide) (Nat.le_of_ble_eq_true rfl) ?_
  intro p e s m below meth c A ls hx hb hrt hml htg hown hlocks hnm hA hK hP hD hS hl
  have hown : s.vm.findClass RX3 = some m.cls := hown
  have hl : lv_has ls 1 [(0, .ref h)] := hl
  have SF : CallFix p m c cX3_isServiced 1 s _ hs_gt RX3 := ⟨hx, hb, hml, hown, htg⟩
  refine lv_iconst (v := 1) hx hb dX3_isServiced_0 (by decide) ?_
  exact hs_zret hx hb hrt hlocks hK hP hD hS dX3_isServiced_1 rfl (rfl) (rfl)

set_option maxHeartbeats 400000 in
set_option maxRecDepth 100000 in
theorem c_X5_deposit (l : Launch) (D : va_G) (cN cT cJ : ClassId) (h tr nb k : Nat) (kd rt vl hr hw cu si : Int32) (st : TS) (hst : okT st) : CM l D yX5_deposit cX5_deposit 1 (some .int) { frames := 0, cells := 0, slots := 0, locals := 0 } (tyS cN cT cJ) [.ref h] [(h, tlE k tr kd rt vl hr hw cu si), (tr, trE nb st), (nb, nbE cN st)] (hs_QI D (tyS cN cT cJ) 0 [(h, tlE k tr kd rt vl hr hw cu si), (tr, trE nb st), (nb, nbE cN st)]) := by
  refine CM.of (by decide) (Nat.le_of_ble_eq_true rfl) ?_
  intro p e s m below meth c A ls hx hb hrt hml htg hown hlocks hnm hA hK hP hD hS hl
  have hown : s.vm.findClass RX5 = some m.cls := hown
  have hl : lv_has ls 1 [(0, .ref h)] := hl
  have SF : CallFix p m c cX5_deposit 1 s _ hs_gt RX5 := ⟨hx, hb, hml, hown, htg⟩
  refine lv_iconst (v := 0) hx hb dX5_deposit_0 (by decide) ?_
  exact hs_iret hx hb hrt hlocks hK hP hD hS dX5_deposit_1 (rfl) (rfl)

set_option maxHeartbeats 400000 in
set_option maxRecDepth 100000 in
theorem c_X5_premium (l : Launch) (D : va_G) (cN cT cJ : ClassId) (h tr nb k : Nat) (kd rt vl hr hw cu si : Int32) (st : TS) (hst : okT st) (d : Int32) : CM l D yX5_premium cX5_premium 2 (some .int) { frames := 0, cells := 0, slots := 0, locals := 0 } (tyS cN cT cJ) [.ref h, .int d] [(h, tlE k tr kd rt vl hr hw cu si), (tr, trE nb st), (nb, nbE cN st)] (hs_QI D (tyS cN cT cJ) 0 [(h, tlE k tr kd rt vl hr hw cu si), (tr, trE nb st), (nb, nbE cN st)]) := by
  refine CM.of (by decide) (Nat.le_of_ble_eq_true rfl) ?_
  intro p e s m below meth c A ls hx hb hrt hml htg hown hlocks hnm hA hK hP hD hS hl
  have hown : s.vm.findClass RX5 = some m.cls := hown
  have hl : lv_has ls 2 [(0, .ref h), (1, .int d)] := hl
  have SF : CallFix p m c cX5_premium 2 s _ hs_gt RX5 := ⟨hx, hb, hml, hown, htg⟩
  refine lv_iconst (v := 0) hx hb dX5_premium_0 (by decide) ?_
  exact hs_iret hx hb hrt hlocks hK hP hD hS dX5_premium_1 (rfl) (rfl)

set_option maxHeartbeats 400000 in
set_option maxRecDepth 100000 in
theorem c_X5_charge (l : Launch) (D : va_G) (cN cT cJ : ClassId) (h tr nb k : Nat) (kd rt vl hr hw cu si : Int32) (st : TS) (hst : okT st) (d : Int32) : CM l D yX5_charge cX5_charge 2 (some .int) { frames := 1, cells := 0, slots := 0, locals := 21 } (tyS cN cT cJ) [.ref h, .int d] [(h, tlE k tr kd rt vl hr hw cu si), (tr, trE nb st), (nb, nbE cN st)] (hs_QI D (tyS cN cT cJ) (rt * d) [(h, tlE k tr kd rt vl hr hw cu si), (tr, trE nb (lvs [1] st)), (nb, nbE cN (lvs [1] st))]) := by
  refine CM.of (by decide) (Nat.le_of_ble_eq_true rfl) ?_
  intro p e s m below meth c A ls hx hb hrt hml htg hown hlocks hnm hA hK hP hD hS hl
  have hown : s.vm.findClass RX5 = some m.cls := hown
  have hl : lv_has ls 2 [(0, .ref h), (1, .int d)] := hl
  have SF : CallFix p m c cX5_charge 2 s _ hs_gt RX5 := ⟨hx, hb, hml, hown, htg⟩
  refine lv_aload_n hx hb dX5_charge_0 rfl (lv_at hl 0 rfl) ?_
  refine va_get (D := D) (ci := (kc k)) (v := .ref tr) (C := (kR k)) (T := TX5) (N := 8) hx hb htg (kc_in k) hown hK hP 0 rfl (kc_cl k) 0 (by decide) (htg _ tw_99) (fun _ h9 => h9) rfl dX5_charge_1 ?_
  refine lv_iconst (v := 1) hx hb dX5_charge_4 (by decide) ?_
  refine hs_callv (wc := [(tr, trE nb st), (nb, nbE cN st)]) (w1 := [(tr, trE nb (lvT 1 st)), (nb, nbE cN (lvT 1 st))]) (wr := [(h, tlE k tr kd rt vl hr hw cu si)]) (ws2 := [(h, tlE k tr kd rt vl hr hw cu si), (tr, trE nb (lvT 1 st)), (nb, nbE cN (lvT 1 st))]) (hs_runV (q0 := 0) SF cal_X6_leave tw_326 (c_X6_leave l D cN cT cJ tr nb st hst 1) hK (hP.sub (ws' := [(tr, trE nb st), (nb, nbE cN st)]) [1, 2] rfl) (hD.sub (ws' := [(tr, trE nb st), (nb, nbE cN st)]) [1, 2] (by decide) rfl) rfl rfl ⟨Nat.le_of_ble_eq_true rfl, Nat.le_of_ble_eq_true rfl⟩ rfl hl.1 rfl (Nat.le_of_ble_eq_true rfl) dX5_charge_5 ⟨Nat.le_of_ble_eq_true rfl, Nat.le_of_ble_eq_true rfl⟩) hP hD hS hA [1, 2] [0] [0, 1, 2] rfl rfl (by decide) (by decide) rfl (by decide) (fun H locs hP hD hS => ?_)
  refine lv_aload_n hx hb dX5_charge_8 rfl (lv_at hl 0 rfl) ?_
  refine va_get (D := D) (ci := (kc k)) (v := .int rt) (C := (kR k)) (T := TX5) (N := 8) hx hb htg (kc_in k) hown hK hP 0 rfl (kc_cl k) 2 (by decide) (htg _ tw_114) (fun _ h9 => h9) rfl dX5_charge_9 ?_
  refine lv_iload_n hx hb dX5_charge_12 rfl (lv_at hl 1 rfl) ?_
  refine lv_imul hx hb dX5_charge_13 ?_
  exact hs_iret hx hb hrt hlocks hK hP hD hS dX5_charge_14 (rfl) (by first | (simp only [lvs, List.foldl_cons, List.foldl_nil]; done) | rfl)

set_option maxHeartbeats 400000 in
set_option maxRecDepth 100000 in
theorem c_X5_wear (l : Launch) (D : va_G) (cN cT cJ : ClassId) (h tr nb k : Nat) (kd rt vl hr hw cu si : Int32) (st : TS) (hst : okT st) (d : Int32) : CM l D yX5_wear cX5_wear 2 (some .int) { frames := 1, cells := 0, slots := 0, locals := 21 } (tyS cN cT cJ) [.ref h, .int d] [(h, tlE k tr kd rt vl hr hw cu si), (tr, trE nb st), (nb, nbE cN st)] (hs_QI D (tyS cN cT cJ) d [(h, tlE k tr kd rt vl hr hw cu si), (tr, trE nb (lvs [11] st)), (nb, nbE cN (lvs [11] st))]) := by
  refine CM.of (by decide) (Nat.le_of_ble_eq_true rfl) ?_
  intro p e s m below meth c A ls hx hb hrt hml htg hown hlocks hnm hA hK hP hD hS hl
  have hown : s.vm.findClass RX5 = some m.cls := hown
  have hl : lv_has ls 2 [(0, .ref h), (1, .int d)] := hl
  have SF : CallFix p m c cX5_wear 2 s _ hs_gt RX5 := ⟨hx, hb, hml, hown, htg⟩
  refine lv_aload_n hx hb dX5_wear_0 rfl (lv_at hl 0 rfl) ?_
  refine va_get (D := D) (ci := (kc k)) (v := .ref tr) (C := (kR k)) (T := TX5) (N := 8) hx hb htg (kc_in k) hown hK hP 0 rfl (kc_cl k) 0 (by decide) (htg _ tw_99) (fun _ h9 => h9) rfl dX5_wear_1 ?_
  refine lv_bipush (v := 11) hx hb dX5_wear_4 (by decide) ?_
  refine hs_callv (wc := [(tr, trE nb st), (nb, nbE cN st)]) (w1 := [(tr, trE nb (lvT 11 st)), (nb, nbE cN (lvT 11 st))]) (wr := [(h, tlE k tr kd rt vl hr hw cu si)]) (ws2 := [(h, tlE k tr kd rt vl hr hw cu si), (tr, trE nb (lvT 11 st)), (nb, nbE cN (lvT 11 st))]) (hs_runV (q0 := 0) SF cal_X6_leave tw_326 (c_X6_leave l D cN cT cJ tr nb st hst 11) hK (hP.sub (ws' := [(tr, trE nb st), (nb, nbE cN st)]) [1, 2] rfl) (hD.sub (ws' := [(tr, trE nb st), (nb, nbE cN st)]) [1, 2] (by decide) rfl) rfl rfl ⟨Nat.le_of_ble_eq_true rfl, Nat.le_of_ble_eq_true rfl⟩ rfl hl.1 rfl (Nat.le_of_ble_eq_true rfl) dX5_wear_6 ⟨Nat.le_of_ble_eq_true rfl, Nat.le_of_ble_eq_true rfl⟩) hP hD hS hA [1, 2] [0] [0, 1, 2] rfl rfl (by decide) (by decide) rfl (by decide) (fun H locs hP hD hS => ?_)
  refine lv_iload_n hx hb dX5_wear_9 rfl (lv_at hl 1 rfl) ?_
  exact hs_iret hx hb hrt hlocks hK hP hD hS dX5_wear_10 (rfl) (by first | (simp only [lvs, List.foldl_cons, List.foldl_nil]; done) | rfl)

set_option maxHeartbeats 400000 in
set_option maxRecDepth 100000 in
theorem c_X5_check (l : Launch) (D : va_G) (cN cT cJ : ClassId) (h tr nb k : Nat) (kd rt vl hr hw cu si : Int32) (st : TS) (hst : okT st) : CM l D yX5_check cX5_check 1 (some .int) { frames := 1, cells := 0, slots := 0, locals := 21 } (tyS cN cT cJ) [.ref h] [(h, tlE k tr kd rt vl hr hw cu si), (tr, trE nb st), (nb, nbE cN st)] (hs_QI D (tyS cN cT cJ) (hr / 10) [(h, tlE k tr kd rt vl hr hw cu si), (tr, trE nb (lvs [20] st)), (nb, nbE cN (lvs [20] st))]) := by
  refine CM.of (by decide) (Nat.le_of_ble_eq_true rfl) ?_
  intro p e s m below meth c A ls hx hb hrt hml htg hown hlocks hnm hA hK hP hD hS hl
  have hown : s.vm.findClass RX5 = some m.cls := hown
  have hl : lv_has ls 1 [(0, .ref h)] := hl
  have SF : CallFix p m c cX5_check 1 s _ hs_gt RX5 := ⟨hx, hb, hml, hown, htg⟩
  refine lv_aload_n hx hb dX5_check_0 rfl (lv_at hl 0 rfl) ?_
  refine va_get (D := D) (ci := (kc k)) (v := .ref tr) (C := (kR k)) (T := TX5) (N := 8) hx hb htg (kc_in k) hown hK hP 0 rfl (kc_cl k) 0 (by decide) (htg _ tw_99) (fun _ h9 => h9) rfl dX5_check_1 ?_
  refine lv_bipush (v := 20) hx hb dX5_check_4 (by decide) ?_
  refine hs_callv (wc := [(tr, trE nb st), (nb, nbE cN st)]) (w1 := [(tr, trE nb (lvT 20 st)), (nb, nbE cN (lvT 20 st))]) (wr := [(h, tlE k tr kd rt vl hr hw cu si)]) (ws2 := [(h, tlE k tr kd rt vl hr hw cu si), (tr, trE nb (lvT 20 st)), (nb, nbE cN (lvT 20 st))]) (hs_runV (q0 := 0) SF cal_X6_leave tw_326 (c_X6_leave l D cN cT cJ tr nb st hst 20) hK (hP.sub (ws' := [(tr, trE nb st), (nb, nbE cN st)]) [1, 2] rfl) (hD.sub (ws' := [(tr, trE nb st), (nb, nbE cN st)]) [1, 2] (by decide) rfl) rfl rfl ⟨Nat.le_of_ble_eq_true rfl, Nat.le_of_ble_eq_true rfl⟩ rfl hl.1 rfl (Nat.le_of_ble_eq_true rfl) dX5_check_6 ⟨Nat.le_of_ble_eq_true rfl, Nat.le_of_ble_eq_true rfl⟩) hP hD hS hA [1, 2] [0] [0, 1, 2] rfl rfl (by decide) (by decide) rfl (by decide) (fun H locs hP hD hS => ?_)
  refine lv_aload_n hx hb dX5_check_9 rfl (lv_at hl 0 rfl) ?_
  refine va_get (D := D) (ci := (kc k)) (v := .int hr) (C := (kR k)) (T := TX5) (N := 8) hx hb htg (kc_in k) hown hK hP 0 rfl (kc_cl k) 4 (by decide) (htg _ tw_120) (fun _ h9 => h9) rfl dX5_check_10 ?_
  refine lv_bipush (v := 10) hx hb dX5_check_13 (by decide) ?_
  refine lv_idiv hx hb dX5_check_15 (by decide) ?_
  exact hs_iret hx hb hrt hlocks hK hP hD hS dX5_check_16 (rfl) (by first | (simp only [lvs, List.foldl_cons, List.foldl_nil]; done) | rfl)

set_option maxHeartbeats 400000 in
set_option maxRecDepth 100000 in
theorem c_X2_check (l : Launch) (D : va_G) (cN cT cJ : ClassId) (h tr nb k : Nat) (kd rt vl hr hw cu si : Int32) (st : TS) (hst : okT st) : CM l D yX2_check cX2_check 1 (some .int) { frames := 2, cells := 0, slots := 0, locals := 41 } (tyS cN cT cJ) [.ref h] [(h, tlE k tr kd rt vl hr hw cu si), (tr, trE nb st), (nb, nbE cN st)] (hs_QI D (tyS cN cT cJ) (hr / 10 + 1) [(h, tlE k tr kd rt vl hr hw cu si), (tr, trE nb (lvs [21, 20] st)), (nb, nbE cN (lvs [21, 20] st))]) := by
  refine CM.of (by decide) (Nat.le_of_ble_eq_true rfl) ?_
  intro p e s m below meth c A ls hx hb hrt hml htg hown hlocks hnm hA hK hP hD hS hl
  have hown : s.vm.findClass RX2 = some m.cls := hown
  have hl : lv_has ls 1 [(0, .ref h)] := hl
  have SF : CallFix p m c cX2_check 1 s _ hs_gt RX2 := ⟨hx, hb, hml, hown, htg⟩
  refine lv_aload_n hx hb dX2_check_0 rfl (lv_at hl 0 rfl) ?_
  refine va_get (D := D) (ci := (kc k)) (v := .ref tr) (C := (kR k)) (T := TX5) (N := 8) hx hb htg (kc_in k) hown hK hP 0 rfl (kc_cl k) 0 (by decide) (htg _ tw_110) (u_same (htg _ tw_111)) rfl dX2_check_1 ?_
  refine lv_bipush (v := 21) hx hb dX2_check_4 (by decide) ?_
  refine hs_callv (wc := [(tr, trE nb st), (nb, nbE cN st)]) (w1 := [(tr, trE nb (lvT 21 st)), (nb, nbE cN (lvT 21 st))]) (wr := [(h, tlE k tr kd rt vl hr hw cu si)]) (ws2 := [(h, tlE k tr kd rt vl hr hw cu si), (tr, trE nb (lvT 21 st)), (nb, nbE cN (lvT 21 st))]) (hs_runV (q0 := 0) SF cal_X6_leave tw_361 (c_X6_leave l D cN cT cJ tr nb st hst 21) hK (hP.sub (ws' := [(tr, trE nb st), (nb, nbE cN st)]) [1, 2] rfl) (hD.sub (ws' := [(tr, trE nb st), (nb, nbE cN st)]) [1, 2] (by decide) rfl) rfl rfl ⟨Nat.le_of_ble_eq_true rfl, Nat.le_of_ble_eq_true rfl⟩ rfl hl.1 rfl (Nat.le_of_ble_eq_true rfl) dX2_check_6 ⟨Nat.le_of_ble_eq_true rfl, Nat.le_of_ble_eq_true rfl⟩) hP hD hS hA [1, 2] [0] [0, 1, 2] rfl rfl (by decide) (by decide) rfl (by decide) (fun H locs hP hD hS => ?_)
  refine lv_aload_n hx hb dX2_check_9 rfl (lv_at hl 0 rfl) ?_
  refine hs_calli0 (w1 := [(h, tlE k tr kd rt vl hr hw cu si), (tr, trE nb (lvs [20] (lvT 21 st))), (nb, nbE cN (lvs [20] (lvT 21 st)))]) (hs_runSU (q0 := 0) SF su_X2_check_X5_check hs_below0 tw_362 (c_X5_check l D cN cT cJ h tr nb k kd rt vl hr hw cu si (lvT 21 st) (okT_lv 21 hst) ) hK hP hD rfl (kc_cl k) ⟨Nat.le_of_ble_eq_true rfl, Nat.le_of_ble_eq_true rfl⟩ rfl hl.1 rfl (Nat.le_of_ble_eq_true rfl) dX2_check_10 ⟨Nat.le_of_ble_eq_true rfl, Nat.le_of_ble_eq_true rfl⟩) hD hS hA (fun H locs hP hD hS => ?_)
  refine lv_iconst (v := 1) hx hb dX2_check_13 (by decide) ?_
  refine lv_iadd hx hb dX2_check_14 ?_
  exact hs_iret hx hb hrt hlocks hK hP hD hS dX2_check_15 (rfl) (by first | (simp only [lvs, List.foldl_cons, List.foldl_nil]; done) | rfl)

set_option maxHeartbeats 400000 in
set_option maxRecDepth 100000 in
theorem c_X2_deposit (l : Launch) (D : va_G) (cN cT cJ : ClassId) (h tr nb k : Nat) (kd rt vl hr hw cu si : Int32) (st : TS) (hst : okT st) : CM l D yX2_deposit cX2_deposit 1 (some .int) { frames := 1, cells := 0, slots := 0, locals := 21 } (tyS cN cT cJ) [.ref h] [(h, tlE k tr kd rt vl hr hw cu si), (tr, trE nb st), (nb, nbE cN st)] (hs_QI D (tyS cN cT cJ) (vl / 2) [(h, tlE k tr kd rt vl hr hw cu si), (tr, trE nb (lvs [31] st)), (nb, nbE cN (lvs [31] st))]) := by
  refine CM.of (by decide) (Nat.le_of_ble_eq_true rfl) ?_
  intro p e s m below meth c A ls hx hb hrt hml htg hown hlocks hnm hA hK hP hD hS hl
  have hown : s.vm.findClass RX2 = some m.cls := hown
  have hl : lv_has ls 1 [(0, .ref h)] := hl
  have SF : CallFix p m c cX2_deposit 1 s _ hs_gt RX2 := ⟨hx, hb, hml, hown, htg⟩
  refine lv_aload_n hx hb dX2_deposit_0 rfl (lv_at hl 0 rfl) ?_
  refine va_get (D := D) (ci := (kc k)) (v := .ref tr) (C := (kR k)) (T := TX5) (N := 8) hx hb htg (kc_in k) hown hK hP 0 rfl (kc_cl k) 0 (by decide) (htg _ tw_110) (u_same (htg _ tw_111)) rfl dX2_deposit_1 ?_
  refine lv_bipush (v := 31) hx hb dX2_deposit_4 (by decide) ?_
  refine hs_callv (wc := [(tr, trE nb st), (nb, nbE cN st)]) (w1 := [(tr, trE nb (lvT 31 st)), (nb, nbE cN (lvT 31 st))]) (wr := [(h, tlE k tr kd rt vl hr hw cu si)]) (ws2 := [(h, tlE k tr kd rt vl hr hw cu si), (tr, trE nb (lvT 31 st)), (nb, nbE cN (lvT 31 st))]) (hs_runV (q0 := 0) SF cal_X6_leave tw_361 (c_X6_leave l D cN cT cJ tr nb st hst 31) hK (hP.sub (ws' := [(tr, trE nb st), (nb, nbE cN st)]) [1, 2] rfl) (hD.sub (ws' := [(tr, trE nb st), (nb, nbE cN st)]) [1, 2] (by decide) rfl) rfl rfl ⟨Nat.le_of_ble_eq_true rfl, Nat.le_of_ble_eq_true rfl⟩ rfl hl.1 rfl (Nat.le_of_ble_eq_true rfl) dX2_deposit_6 ⟨Nat.le_of_ble_eq_true rfl, Nat.le_of_ble_eq_true rfl⟩) hP hD hS hA [1, 2] [0] [0, 1, 2] rfl rfl (by decide) (by decide) rfl (by decide) (fun H locs hP hD hS => ?_)
  refine lv_aload_n hx hb dX2_deposit_9 rfl (lv_at hl 0 rfl) ?_
  refine va_get (D := D) (ci := (kc k)) (v := .int vl) (C := (kR k)) (T := TX5) (N := 8) hx hb htg (kc_in k) hown hK hP 0 rfl (kc_cl k) 3 (by decide) (htg _ tw_118) (u_same (htg _ tw_119)) rfl dX2_deposit_10 ?_
  refine lv_iconst (v := 2) hx hb dX2_deposit_13 (by decide) ?_
  refine lv_idiv hx hb dX2_deposit_14 (by decide) ?_
  exact hs_iret hx hb hrt hlocks hK hP hD hS dX2_deposit_15 (rfl) (by first | (simp only [lvs, List.foldl_cons, List.foldl_nil]; done) | rfl)

set_option maxHeartbeats 400000 in
set_option maxRecDepth 100000 in
theorem c_X4_charge (l : Launch) (D : va_G) (cN cT cJ : ClassId) (h tr nb k : Nat) (kd rt vl hr hw cu si : Int32) (st : TS) (hst : okT st) (d : Int32) : CM l D yX4_charge cX4_charge 2 (some .int) { frames := 2, cells := 0, slots := 0, locals := 42 } (tyS cN cT cJ) [.ref h, .int d] [(h, tlE k tr kd rt vl hr hw cu si), (tr, trE nb st), (nb, nbE cN st)] (hs_QI D (tyS cN cT cJ) (rt * d + 3 * d) [(h, tlE k tr kd rt vl hr hw cu si), (tr, trE nb (lvs [2, 1] st)), (nb, nbE cN (lvs [2, 1] st))]) := by
  refine CM.of (by decide) (Nat.le_of_ble_eq_true rfl) ?_
  intro p e s m below meth c A ls hx hb hrt hml htg hown hlocks hnm hA hK hP hD hS hl
  have hown : s.vm.findClass RX4 = some m.cls := hown
  have hl : lv_has ls 2 [(0, .ref h), (1, .int d)] := hl
  have SF : CallFix p m c cX4_charge 2 s _ hs_gt RX4 := ⟨hx, hb, hml, hown, htg⟩
  refine lv_aload_n hx hb dX4_charge_0 rfl (lv_at hl 0 rfl) ?_
  refine va_get (D := D) (ci := (kc k)) (v := .ref tr) (C := (kR k)) (T := TX5) (N := 8) hx hb htg (kc_in k) hown hK hP 0 rfl (kc_cl k) 0 (by decide) (htg _ tw_104) (u_same (htg _ tw_105)) rfl dX4_charge_1 ?_
  refine lv_iconst (v := 2) hx hb dX4_charge_4 (by decide) ?_
  refine hs_callv (wc := [(tr, trE nb st), (nb, nbE cN st)]) (w1 := [(tr, trE nb (lvT 2 st)), (nb, nbE cN (lvT 2 st))]) (wr := [(h, tlE k tr kd rt vl hr hw cu si)]) (ws2 := [(h, tlE k tr kd rt vl hr hw cu si), (tr, trE nb (lvT 2 st)), (nb, nbE cN (lvT 2 st))]) (hs_runV (q0 := 0) SF cal_X6_leave tw_299 (c_X6_leave l D cN cT cJ tr nb st hst 2) hK (hP.sub (ws' := [(tr, trE nb st), (nb, nbE cN st)]) [1, 2] rfl) (hD.sub (ws' := [(tr, trE nb st), (nb, nbE cN st)]) [1, 2] (by decide) rfl) rfl rfl ⟨Nat.le_of_ble_eq_true rfl, Nat.le_of_ble_eq_true rfl⟩ rfl hl.1 rfl (Nat.le_of_ble_eq_true rfl) dX4_charge_5 ⟨Nat.le_of_ble_eq_true rfl, Nat.le_of_ble_eq_true rfl⟩) hP hD hS hA [1, 2] [0] [0, 1, 2] rfl rfl (by decide) (by decide) rfl (by decide) (fun H locs hP hD hS => ?_)
  refine lv_aload_n hx hb dX4_charge_8 rfl (lv_at hl 0 rfl) ?_
  refine lv_iload_n hx hb dX4_charge_9 rfl (lv_at hl 1 rfl) ?_
  refine hs_calli0 (w1 := [(h, tlE k tr kd rt vl hr hw cu si), (tr, trE nb (lvs [1] (lvT 2 st))), (nb, nbE cN (lvs [1] (lvT 2 st)))]) (hs_runSU (q0 := 0) SF su_X4_charge_X5_charge (hs_below1 (htg _ tw_146)) tw_303 (c_X5_charge l D cN cT cJ h tr nb k kd rt vl hr hw cu si (lvT 2 st) (okT_lv 2 hst) d) hK hP hD rfl (kc_cl k) ⟨Nat.le_of_ble_eq_true rfl, Nat.le_of_ble_eq_true rfl⟩ rfl hl.1 rfl (Nat.le_of_ble_eq_true rfl) dX4_charge_10 ⟨Nat.le_of_ble_eq_true rfl, Nat.le_of_ble_eq_true rfl⟩) hD hS hA (fun H locs hP hD hS => ?_)
  refine lv_iconst (v := 3) hx hb dX4_charge_13 (by decide) ?_
  refine lv_iload_n hx hb dX4_charge_14 rfl (lv_at hl 1 rfl) ?_
  refine lv_imul hx hb dX4_charge_15 ?_
  refine lv_iadd hx hb dX4_charge_16 ?_
  exact hs_iret hx hb hrt hlocks hK hP hD hS dX4_charge_17 (rfl) (by first | (simp only [lvs, List.foldl_cons, List.foldl_nil]; done) | rfl)

set_option maxHeartbeats 400000 in
set_option maxRecDepth 100000 in
theorem c_X1_charge (l : Launch) (D : va_G) (cN cT cJ : ClassId) (h tr nb k : Nat) (kd rt vl hr hw cu si : Int32) (st : TS) (hst : okT st) (d : Int32) : CM l D yX1_charge cX1_charge 2 (some .int) { frames := 2, cells := 0, slots := 0, locals := 42 } (tyS cN cT cJ) [.ref h, .int d] [(h, tlE k tr kd rt vl hr hw cu si), (tr, trE nb st), (nb, nbE cN st)] (hs_QI D (tyS cN cT cJ) (rt * d + vl / 100) [(h, tlE k tr kd rt vl hr hw cu si), (tr, trE nb (lvs [4, 1] st)), (nb, nbE cN (lvs [4, 1] st))]) := by
  refine CM.of (by decide) (Nat.le_of_ble_eq_true rfl) ?_
  intro p e s m below meth c A ls hx hb hrt hml htg hown hlocks hnm hA hK hP hD hS hl
  have hown : s.vm.findClass RX1 = some m.cls := hown
  have hl : lv_has ls 2 [(0, .ref h), (1, .int d)] := hl
  have SF : CallFix p m c cX1_charge 2 s _ hs_gt RX1 := ⟨hx, hb, hml, hown, htg⟩
  refine lv_aload_n hx hb dX1_charge_0 rfl (lv_at hl 0 rfl) ?_
  refine va_get (D := D) (ci := (kc k)) (v := .ref tr) (C := (kR k)) (T := TX5) (N := 8) hx hb htg (kc_in k) hown hK hP 0 rfl (kc_cl k) 0 (by decide) (htg _ tw_100) (u_same (htg _ tw_101)) rfl dX1_charge_1 ?_
  refine lv_iconst (v := 4) hx hb dX1_charge_4 (by decide) ?_
  refine hs_callv (wc := [(tr, trE nb st), (nb, nbE cN st)]) (w1 := [(tr, trE nb (lvT 4 st)), (nb, nbE cN (lvT 4 st))]) (wr := [(h, tlE k tr kd rt vl hr hw cu si)]) (ws2 := [(h, tlE k tr kd rt vl hr hw cu si), (tr, trE nb (lvT 4 st)), (nb, nbE cN (lvT 4 st))]) (hs_runV (q0 := 0) SF cal_X6_leave tw_309 (c_X6_leave l D cN cT cJ tr nb st hst 4) hK (hP.sub (ws' := [(tr, trE nb st), (nb, nbE cN st)]) [1, 2] rfl) (hD.sub (ws' := [(tr, trE nb st), (nb, nbE cN st)]) [1, 2] (by decide) rfl) rfl rfl ⟨Nat.le_of_ble_eq_true rfl, Nat.le_of_ble_eq_true rfl⟩ rfl hl.1 rfl (Nat.le_of_ble_eq_true rfl) dX1_charge_5 ⟨Nat.le_of_ble_eq_true rfl, Nat.le_of_ble_eq_true rfl⟩) hP hD hS hA [1, 2] [0] [0, 1, 2] rfl rfl (by decide) (by decide) rfl (by decide) (fun H locs hP hD hS => ?_)
  refine lv_aload_n hx hb dX1_charge_8 rfl (lv_at hl 0 rfl) ?_
  refine lv_iload_n hx hb dX1_charge_9 rfl (lv_at hl 1 rfl) ?_
  refine hs_calli0 (w1 := [(h, tlE k tr kd rt vl hr hw cu si), (tr, trE nb (lvs [1] (lvT 4 st))), (nb, nbE cN (lvs [1] (lvT 4 st)))]) (hs_runSU (q0 := 0) SF su_X1_charge_X5_charge (hs_below2 (htg _ tw_206) (htg _ tw_146) (by decide)) tw_310 (c_X5_charge l D cN cT cJ h tr nb k kd rt vl hr hw cu si (lvT 4 st) (okT_lv 4 hst) d) hK hP hD rfl (kc_cl k) ⟨Nat.le_of_ble_eq_true rfl, Nat.le_of_ble_eq_true rfl⟩ rfl hl.1 rfl (Nat.le_of_ble_eq_true rfl) dX1_charge_10 ⟨Nat.le_of_ble_eq_true rfl, Nat.le_of_ble_eq_true rfl⟩) hD hS hA (fun H locs hP hD hS => ?_)
  refine lv_aload_n hx hb dX1_charge_13 rfl (lv_at hl 0 rfl) ?_
  refine va_get (D := D) (ci := (kc k)) (v := .int vl) (C := (kR k)) (T := TX5) (N := 8) hx hb htg (kc_in k) hown hK hP 0 rfl (kc_cl k) 3 (by decide) (htg _ tw_116) (u_same (htg _ tw_117)) rfl dX1_charge_14 ?_
  refine lv_bipush (v := 100) hx hb dX1_charge_17 (by decide) ?_
  refine lv_idiv hx hb dX1_charge_19 (by decide) ?_
  refine lv_iadd hx hb dX1_charge_20 ?_
  exact hs_iret hx hb hrt hlocks hK hP hD hS dX1_charge_21 (rfl) (by first | (simp only [lvs, List.foldl_cons, List.foldl_nil]; done) | rfl)

set_option maxHeartbeats 400000 in
set_option maxRecDepth 100000 in
theorem c_X7_charge (l : Launch) (D : va_G) (cN cT cJ : ClassId) (h tr nb k : Nat) (kd rt vl hr hw cu si : Int32) (st : TS) (hst : okT st) (d : Int32) : CM l D yX7_charge cX7_charge 2 (some .int) { frames := 3, cells := 0, slots := 0, locals := 63 } (tyS cN cT cJ) [.ref h, .int d] [(h, tlE k tr kd rt vl hr hw cu si), (tr, trE nb st), (nb, nbE cN st)] (hs_QI D (tyS cN cT cJ) (2 * (rt * d + 3 * d) - 5 * (if 0 < d - 7 then d - 7 else 0)) [(h, tlE k tr kd rt vl hr hw cu si), (tr, trE nb (lvs [3, 2, 1] st)), (nb, nbE cN (lvs [3, 2, 1] st))]) := by
  refine CM.of (by decide) (Nat.le_of_ble_eq_true rfl) ?_
  intro p e s m below meth c A ls hx hb hrt hml htg hown hlocks hnm hA hK hP hD hS hl
  have hown : s.vm.findClass RX7 = some m.cls := hown
  have hl : lv_has ls 2 [(0, .ref h), (1, .int d)] := hl
  have SF : CallFix p m c cX7_charge 2 s _ hs_gt RX7 := ⟨hx, hb, hml, hown, htg⟩
  refine lv_aload_n hx hb dX7_charge_0 rfl (lv_at hl 0 rfl) ?_
  refine va_get (D := D) (ci := (kc k)) (v := .ref tr) (C := (kR k)) (T := TX5) (N := 8) hx hb htg (kc_in k) hown hK hP 0 rfl (kc_cl k) 0 (by decide) (htg _ tw_102) (u_same (htg _ tw_103)) rfl dX7_charge_1 ?_
  refine lv_iconst (v := 3) hx hb dX7_charge_4 (by decide) ?_
  refine hs_callv (wc := [(tr, trE nb st), (nb, nbE cN st)]) (w1 := [(tr, trE nb (lvT 3 st)), (nb, nbE cN (lvT 3 st))]) (wr := [(h, tlE k tr kd rt vl hr hw cu si)]) (ws2 := [(h, tlE k tr kd rt vl hr hw cu si), (tr, trE nb (lvT 3 st)), (nb, nbE cN (lvT 3 st))]) (hs_runV (q0 := 0) SF cal_X6_leave tw_318 (c_X6_leave l D cN cT cJ tr nb st hst 3) hK (hP.sub (ws' := [(tr, trE nb st), (nb, nbE cN st)]) [1, 2] rfl) (hD.sub (ws' := [(tr, trE nb st), (nb, nbE cN st)]) [1, 2] (by decide) rfl) rfl rfl ⟨Nat.le_of_ble_eq_true rfl, Nat.le_of_ble_eq_true rfl⟩ rfl hl.1 rfl (Nat.le_of_ble_eq_true rfl) dX7_charge_5 ⟨Nat.le_of_ble_eq_true rfl, Nat.le_of_ble_eq_true rfl⟩) hP hD hS hA [1, 2] [0] [0, 1, 2] rfl rfl (by decide) (by decide) rfl (by decide) (fun H locs hP hD hS => ?_)
  refine lv_iconst (v := 2) hx hb dX7_charge_8 (by decide) ?_
  refine lv_aload_n hx hb dX7_charge_9 rfl (lv_at hl 0 rfl) ?_
  refine lv_iload_n hx hb dX7_charge_10 rfl (lv_at hl 1 rfl) ?_
  refine hs_calli0 (w1 := [(h, tlE k tr kd rt vl hr hw cu si), (tr, trE nb (lvs [2, 1] (lvT 3 st))), (nb, nbE cN (lvs [2, 1] (lvT 3 st)))]) (hs_runSU (q0 := 0) SF su_X7_charge_X4_charge (hs_below1 (htg _ tw_176)) tw_319 (c_X4_charge l D cN cT cJ h tr nb k kd rt vl hr hw cu si (lvT 3 st) (okT_lv 3 hst) d) hK hP hD rfl (kc_cl k) ⟨Nat.le_of_ble_eq_true rfl, Nat.le_of_ble_eq_true rfl⟩ rfl hl.1 rfl (Nat.le_of_ble_eq_true rfl) dX7_charge_11 ⟨Nat.le_of_ble_eq_true rfl, Nat.le_of_ble_eq_true rfl⟩) hD hS hA (fun H locs hP hD hS => ?_)
  refine lv_imul hx hb dX7_charge_14 ?_
  refine lv_iconst (v := 5) hx hb dX7_charge_15 (by decide) ?_
  refine lv_iconst (v := 0) hx hb dX7_charge_16 (by decide) ?_
  refine lv_iload_n hx hb dX7_charge_17 rfl (lv_at hl 1 rfl) ?_
  refine lv_bipush (v := 7) hx hb dX7_charge_18 (by decide) ?_
  refine lv_isub hx hb dX7_charge_20 ?_
  refine va_mmax hx hb (by rw [hml]; exact hl.1.symm) hown (htg _ tw_322) (htg _ tw_323) (htg _ tw_27) (htg _ tw_324) (Nat.le_of_ble_eq_true rfl) (Nat.le_of_ble_eq_true rfl) (Nat.zero_le _) (Nat.zero_le _) dX7_charge_21 ?_
  refine lv_imul hx hb dX7_charge_24 ?_
  refine lv_isub hx hb dX7_charge_25 ?_
  exact hs_iret hx hb hrt hlocks hK hP hD hS dX7_charge_26 (rfl) (by first | (simp only [lvs, List.foldl_cons, List.foldl_nil]; done) | rfl)

set_option maxHeartbeats 400000 in
set_option maxRecDepth 100000 in
theorem c_X3_wear (l : Launch) (D : va_G) (cN cT cJ : ClassId) (h tr nb k : Nat) (kd rt vl hr hw cu si : Int32) (st : TS) (hst : okT st) (d : Int32) : CM l D yX3_wear cX3_wear 2 (some .int) { frames := 2, cells := 0, slots := 0, locals := 42 } (tyS cN cT cJ) [.ref h, .int d] [(h, tlE k tr kd rt vl hr hw cu si), (tr, trE nb st), (nb, nbE cN st)] (hs_QI D (tyS cN cT cJ) (3 * d) [(h, tlE k tr kd rt vl hr hw cu si), (tr, trE nb (lvs [13, 11] st)), (nb, nbE cN (lvs [13, 11] st))]) := by
  refine CM.of (by decide) (Nat.le_of_ble_eq_true rfl) ?_
  intro p e s m below meth c A ls hx hb hrt hml htg hown hlocks hnm hA hK hP hD hS hl
  have hown : s.vm.findClass RX3 = some m.cls := hown
  have hl : lv_has ls 2 [(0, .ref h), (1, .int d)] := hl
  have SF : CallFix p m c cX3_wear 2 s _ hs_gt RX3 := ⟨hx, hb, hml, hown, htg⟩
  refine lv_aload_n hx hb dX3_wear_0 rfl (lv_at hl 0 rfl) ?_
  refine va_get (D := D) (ci := (kc k)) (v := .ref tr) (C := (kR k)) (T := TX5) (N := 8) hx hb htg (kc_in k) hown hK hP 0 rfl (kc_cl k) 0 (by decide) (htg _ tw_106) (u_same (htg _ tw_107)) rfl dX3_wear_1 ?_
  refine lv_bipush (v := 13) hx hb dX3_wear_4 (by decide) ?_
  refine hs_callv (wc := [(tr, trE nb st), (nb, nbE cN st)]) (w1 := [(tr, trE nb (lvT 13 st)), (nb, nbE cN (lvT 13 st))]) (wr := [(h, tlE k tr kd rt vl hr hw cu si)]) (ws2 := [(h, tlE k tr kd rt vl hr hw cu si), (tr, trE nb (lvT 13 st)), (nb, nbE cN (lvT 13 st))]) (hs_runV (q0 := 0) SF cal_X6_leave tw_335 (c_X6_leave l D cN cT cJ tr nb st hst 13) hK (hP.sub (ws' := [(tr, trE nb st), (nb, nbE cN st)]) [1, 2] rfl) (hD.sub (ws' := [(tr, trE nb st), (nb, nbE cN st)]) [1, 2] (by decide) rfl) rfl rfl ⟨Nat.le_of_ble_eq_true rfl, Nat.le_of_ble_eq_true rfl⟩ rfl hl.1 rfl (Nat.le_of_ble_eq_true rfl) dX3_wear_6 ⟨Nat.le_of_ble_eq_true rfl, Nat.le_of_ble_eq_true rfl⟩) hP hD hS hA [1, 2] [0] [0, 1, 2] rfl rfl (by decide) (by decide) rfl (by decide) (fun H locs hP hD hS => ?_)
  refine lv_iconst (v := 3) hx hb dX3_wear_9 (by decide) ?_
  refine lv_aload_n hx hb dX3_wear_10 rfl (lv_at hl 0 rfl) ?_
  refine lv_iload_n hx hb dX3_wear_11 rfl (lv_at hl 1 rfl) ?_
  refine hs_calli0 (w1 := [(h, tlE k tr kd rt vl hr hw cu si), (tr, trE nb (lvs [11] (lvT 13 st))), (nb, nbE cN (lvs [11] (lvT 13 st)))]) (hs_runSU (q0 := 0) SF su_X3_wear_X5_wear (hs_below1 (htg _ tw_146)) tw_336 (c_X5_wear l D cN cT cJ h tr nb k kd rt vl hr hw cu si (lvT 13 st) (okT_lv 13 hst) d) hK hP hD rfl (kc_cl k) ⟨Nat.le_of_ble_eq_true rfl, Nat.le_of_ble_eq_true rfl⟩ rfl hl.1 rfl (Nat.le_of_ble_eq_true rfl) dX3_wear_12 ⟨Nat.le_of_ble_eq_true rfl, Nat.le_of_ble_eq_true rfl⟩) hD hS hA (fun H locs hP hD hS => ?_)
  refine lv_imul hx hb dX3_wear_15 ?_
  exact hs_iret hx hb hrt hlocks hK hP hD hS dX3_wear_16 (rfl) (by first | (simp only [lvs, List.foldl_cons, List.foldl_nil]; done) | rfl)

set_option maxHeartbeats 400000 in
set_option maxRecDepth 100000 in
theorem c_X7_wear (l : Launch) (D : va_G) (cN cT cJ : ClassId) (h tr nb k : Nat) (kd rt vl hr hw cu si : Int32) (st : TS) (hst : okT st) (d : Int32) : CM l D yX7_wear cX7_wear 2 (some .int) { frames := 2, cells := 0, slots := 0, locals := 42 } (tyS cN cT cJ) [.ref h, .int d] [(h, tlE k tr kd rt vl hr hw cu si), (tr, trE nb st), (nb, nbE cN st)] (hs_QI D (tyS cN cT cJ) (d + hr / 10) [(h, tlE k tr kd rt vl hr hw cu si), (tr, trE nb (lvs [12, 11] st)), (nb, nbE cN (lvs [12, 11] st))]) := by
  refine CM.of (by decide) (Nat.le_of_ble_eq_true rfl) ?_
  intro p e s m below meth c A ls hx hb hrt hml htg hown hlocks hnm hA hK hP hD hS hl
  have hown : s.vm.findClass RX7 = some m.cls := hown
  have hl : lv_has ls 2 [(0, .ref h), (1, .int d)] := hl
  have SF : CallFix p m c cX7_wear 2 s _ hs_gt RX7 := ⟨hx, hb, hml, hown, htg⟩
  refine lv_aload_n hx hb dX7_wear_0 rfl (lv_at hl 0 rfl) ?_
  refine va_get (D := D) (ci := (kc k)) (v := .ref tr) (C := (kR k)) (T := TX5) (N := 8) hx hb htg (kc_in k) hown hK hP 0 rfl (kc_cl k) 0 (by decide) (htg _ tw_102) (u_same (htg _ tw_103)) rfl dX7_wear_1 ?_
  refine lv_bipush (v := 12) hx hb dX7_wear_4 (by decide) ?_
  refine hs_callv (wc := [(tr, trE nb st), (nb, nbE cN st)]) (w1 := [(tr, trE nb (lvT 12 st)), (nb, nbE cN (lvT 12 st))]) (wr := [(h, tlE k tr kd rt vl hr hw cu si)]) (ws2 := [(h, tlE k tr kd rt vl hr hw cu si), (tr, trE nb (lvT 12 st)), (nb, nbE cN (lvT 12 st))]) (hs_runV (q0 := 0) SF cal_X6_leave tw_318 (c_X6_leave l D cN cT cJ tr nb st hst 12) hK (hP.sub (ws' := [(tr, trE nb st), (nb, nbE cN st)]) [1, 2] rfl) (hD.sub (ws' := [(tr, trE nb st), (nb, nbE cN st)]) [1, 2] (by decide) rfl) rfl rfl ⟨Nat.le_of_ble_eq_true rfl, Nat.le_of_ble_eq_true rfl⟩ rfl hl.1 rfl (Nat.le_of_ble_eq_true rfl) dX7_wear_6 ⟨Nat.le_of_ble_eq_true rfl, Nat.le_of_ble_eq_true rfl⟩) hP hD hS hA [1, 2] [0] [0, 1, 2] rfl rfl (by decide) (by decide) rfl (by decide) (fun H locs hP hD hS => ?_)
  refine lv_aload_n hx hb dX7_wear_9 rfl (lv_at hl 0 rfl) ?_
  refine lv_iload_n hx hb dX7_wear_10 rfl (lv_at hl 1 rfl) ?_
  refine hs_calli0 (w1 := [(h, tlE k tr kd rt vl hr hw cu si), (tr, trE nb (lvs [11] (lvT 12 st))), (nb, nbE cN (lvs [11] (lvT 12 st)))]) (hs_runSU (q0 := 0) SF su_X7_wear_X5_wear (hs_below3 (htg _ tw_176) (htg _ tw_161) (htg _ tw_146) (by decide) (by decide) (by decide)) tw_345 (c_X5_wear l D cN cT cJ h tr nb k kd rt vl hr hw cu si (lvT 12 st) (okT_lv 12 hst) d) hK hP hD rfl (kc_cl k) ⟨Nat.le_of_ble_eq_true rfl, Nat.le_of_ble_eq_true rfl⟩ rfl hl.1 rfl (Nat.le_of_ble_eq_true rfl) dX7_wear_11 ⟨Nat.le_of_ble_eq_true rfl, Nat.le_of_ble_eq_true rfl⟩) hD hS hA (fun H locs hP hD hS => ?_)
  refine lv_aload_n hx hb dX7_wear_14 rfl (lv_at hl 0 rfl) ?_
  refine va_get (D := D) (ci := (kc k)) (v := .int hr) (C := (kR k)) (T := TX5) (N := 8) hx hb htg (kc_in k) hown hK hP 0 rfl (kc_cl k) 4 (by decide) (htg _ tw_121) (u_same (htg _ tw_122)) rfl dX7_wear_15 ?_
  refine lv_bipush (v := 10) hx hb dX7_wear_18 (by decide) ?_
  refine lv_idiv hx hb dX7_wear_20 (by decide) ?_
  refine lv_iadd hx hb dX7_wear_21 ?_
  exact hs_iret hx hb hrt hlocks hK hP hD hS dX7_wear_22 (rfl) (by first | (simp only [lvs, List.foldl_cons, List.foldl_nil]; done) | rfl)

set_option maxHeartbeats 400000 in
set_option maxRecDepth 100000 in
theorem c_X0_check (l : Launch) (D : va_G) (cN cT cJ : ClassId) (h tr nb k : Nat) (kd rt vl hr hw cu si : Int32) (st : TS) (hst : okT st) : CM l D yX0_check cX0_check 1 (some .int) { frames := 3, cells := 0, slots := 0, locals := 61 } (tyS cN cT cJ) [.ref h] [(h, tlE k tr kd rt vl hr hw cu si), (tr, trE nb st), (nb, nbE cN st)] (hs_QI D (tyS cN cT cJ) (hr / 10 + 1 + 2) [(h, tlE k tr kd rt vl hr hw cu si), (tr, trE nb (lvs [22, 21, 20] st)), (nb, nbE cN (lvs [22, 21, 20] st))]) := by
  refine CM.of (by decide) (Nat.le_of_ble_eq_true rfl) ?_
  intro p e s m below meth c A ls hx hb hrt hml htg hown hlocks hnm hA hK hP hD hS hl
  have hown : s.vm.findClass RX0 = some m.cls := hown
  have hl : lv_has ls 1 [(0, .ref h)] := hl
  have SF : CallFix p m c cX0_check 1 s _ hs_gt RX0 := ⟨hx, hb, hml, hown, htg⟩
  refine lv_aload_n hx hb dX0_check_0 rfl (lv_at hl 0 rfl) ?_
  refine va_get (D := D) (ci := (kc k)) (v := .ref tr) (C := (kR k)) (T := TX5) (N := 8) hx hb htg (kc_in k) hown hK hP 0 rfl (kc_cl k) 0 (by decide) (htg _ tw_108) (u_same (htg _ tw_109)) rfl dX0_check_1 ?_
  refine lv_bipush (v := 22) hx hb dX0_check_4 (by decide) ?_
  refine hs_callv (wc := [(tr, trE nb st), (nb, nbE cN st)]) (w1 := [(tr, trE nb (lvT 22 st)), (nb, nbE cN (lvT 22 st))]) (wr := [(h, tlE k tr kd rt vl hr hw cu si)]) (ws2 := [(h, tlE k tr kd rt vl hr hw cu si), (tr, trE nb (lvT 22 st)), (nb, nbE cN (lvT 22 st))]) (hs_runV (q0 := 0) SF cal_X6_leave tw_355 (c_X6_leave l D cN cT cJ tr nb st hst 22) hK (hP.sub (ws' := [(tr, trE nb st), (nb, nbE cN st)]) [1, 2] rfl) (hD.sub (ws' := [(tr, trE nb st), (nb, nbE cN st)]) [1, 2] (by decide) rfl) rfl rfl ⟨Nat.le_of_ble_eq_true rfl, Nat.le_of_ble_eq_true rfl⟩ rfl hl.1 rfl (Nat.le_of_ble_eq_true rfl) dX0_check_6 ⟨Nat.le_of_ble_eq_true rfl, Nat.le_of_ble_eq_true rfl⟩) hP hD hS hA [1, 2] [0] [0, 1, 2] rfl rfl (by decide) (by decide) rfl (by decide) (fun H locs hP hD hS => ?_)
  refine lv_aload_n hx hb dX0_check_9 rfl (lv_at hl 0 rfl) ?_
  refine hs_calli0 (w1 := [(h, tlE k tr kd rt vl hr hw cu si), (tr, trE nb (lvs [21, 20] (lvT 22 st))), (nb, nbE cN (lvs [21, 20] (lvT 22 st)))]) (hs_runSU (q0 := 0) SF su_X0_check_X2_check (hs_below1 (htg _ tw_161)) tw_356 (c_X2_check l D cN cT cJ h tr nb k kd rt vl hr hw cu si (lvT 22 st) (okT_lv 22 hst) ) hK hP hD rfl (kc_cl k) ⟨Nat.le_of_ble_eq_true rfl, Nat.le_of_ble_eq_true rfl⟩ rfl hl.1 rfl (Nat.le_of_ble_eq_true rfl) dX0_check_10 ⟨Nat.le_of_ble_eq_true rfl, Nat.le_of_ble_eq_true rfl⟩) hD hS hA (fun H locs hP hD hS => ?_)
  refine lv_iconst (v := 2) hx hb dX0_check_13 (by decide) ?_
  refine lv_iadd hx hb dX0_check_14 ?_
  exact hs_iret hx hb hrt hlocks hK hP hD hS dX0_check_15 (rfl) (by first | (simp only [lvs, List.foldl_cons, List.foldl_nil]; done) | rfl)

set_option maxHeartbeats 400000 in
set_option maxRecDepth 100000 in
theorem c_X1_check (l : Launch) (D : va_G) (cN cT cJ : ClassId) (h tr nb k : Nat) (kd rt vl hr hw cu si : Int32) (st : TS) (hst : okT st) : CM l D yX1_check cX1_check 1 (some .int) { frames := 3, cells := 0, slots := 0, locals := 61 } (tyS cN cT cJ) [.ref h] [(h, tlE k tr kd rt vl hr hw cu si), (tr, trE nb st), (nb, nbE cN st)] (hs_QI D (tyS cN cT cJ) (hr / 10 + 1 + 4) [(h, tlE k tr kd rt vl hr hw cu si), (tr, trE nb (lvs [23, 21, 20] st)), (nb, nbE cN (lvs [23, 21, 20] st))]) := by
  refine CM.of (by decide) (Nat.le_of_ble_eq_true rfl) ?_
  intro p e s m below meth c A ls hx hb hrt hml htg hown hlocks hnm hA hK hP hD hS hl
  have hown : s.vm.findClass RX1 = some m.cls := hown
  have hl : lv_has ls 1 [(0, .ref h)] := hl
  have SF : CallFix p m c cX1_check 1 s _ hs_gt RX1 := ⟨hx, hb, hml, hown, htg⟩
  refine lv_aload_n hx hb dX1_check_0 rfl (lv_at hl 0 rfl) ?_
  refine va_get (D := D) (ci := (kc k)) (v := .ref tr) (C := (kR k)) (T := TX5) (N := 8) hx hb htg (kc_in k) hown hK hP 0 rfl (kc_cl k) 0 (by decide) (htg _ tw_100) (u_same (htg _ tw_101)) rfl dX1_check_1 ?_
  refine lv_bipush (v := 23) hx hb dX1_check_4 (by decide) ?_
  refine hs_callv (wc := [(tr, trE nb st), (nb, nbE cN st)]) (w1 := [(tr, trE nb (lvT 23 st)), (nb, nbE cN (lvT 23 st))]) (wr := [(h, tlE k tr kd rt vl hr hw cu si)]) (ws2 := [(h, tlE k tr kd rt vl hr hw cu si), (tr, trE nb (lvT 23 st)), (nb, nbE cN (lvT 23 st))]) (hs_runV (q0 := 0) SF cal_X6_leave tw_309 (c_X6_leave l D cN cT cJ tr nb st hst 23) hK (hP.sub (ws' := [(tr, trE nb st), (nb, nbE cN st)]) [1, 2] rfl) (hD.sub (ws' := [(tr, trE nb st), (nb, nbE cN st)]) [1, 2] (by decide) rfl) rfl rfl ⟨Nat.le_of_ble_eq_true rfl, Nat.le_of_ble_eq_true rfl⟩ rfl hl.1 rfl (Nat.le_of_ble_eq_true rfl) dX1_check_6 ⟨Nat.le_of_ble_eq_true rfl, Nat.le_of_ble_eq_true rfl⟩) hP hD hS hA [1, 2] [0] [0, 1, 2] rfl rfl (by decide) (by decide) rfl (by decide) (fun H locs hP hD hS => ?_)
  refine lv_aload_n hx hb dX1_check_9 rfl (lv_at hl 0 rfl) ?_
  refine hs_calli0 (w1 := [(h, tlE k tr kd rt vl hr hw cu si), (tr, trE nb (lvs [21, 20] (lvT 23 st))), (nb, nbE cN (lvs [21, 20] (lvT 23 st)))]) (hs_runSU (q0 := 0) SF su_X1_check_X2_check (hs_below1 (htg _ tw_206)) tw_366 (c_X2_check l D cN cT cJ h tr nb k kd rt vl hr hw cu si (lvT 23 st) (okT_lv 23 hst) ) hK hP hD rfl (kc_cl k) ⟨Nat.le_of_ble_eq_true rfl, Nat.le_of_ble_eq_true rfl⟩ rfl hl.1 rfl (Nat.le_of_ble_eq_true rfl) dX1_check_10 ⟨Nat.le_of_ble_eq_true rfl, Nat.le_of_ble_eq_true rfl⟩) hD hS hA (fun H locs hP hD hS => ?_)
  refine lv_iconst (v := 4) hx hb dX1_check_13 (by decide) ?_
  refine lv_iadd hx hb dX1_check_14 ?_
  exact hs_iret hx hb hrt hlocks hK hP hD hS dX1_check_15 (rfl) (by first | (simp only [lvs, List.foldl_cons, List.foldl_nil]; done) | rfl)

set_option maxHeartbeats 400000 in
set_option maxRecDepth 100000 in
theorem c_X7_deposit (l : Launch) (D : va_G) (cN cT cJ : ClassId) (h tr nb k : Nat) (kd rt vl hr hw cu si : Int32) (st : TS) (hst : okT st) : CM l D yX7_deposit cX7_deposit 1 (some .int) { frames := 2, cells := 0, slots := 0, locals := 41 } (tyS cN cT cJ) [.ref h] [(h, tlE k tr kd rt vl hr hw cu si), (tr, trE nb st), (nb, nbE cN st)] (hs_QI D (tyS cN cT cJ) (vl / 2 + 500) [(h, tlE k tr kd rt vl hr hw cu si), (tr, trE nb (lvs [32, 31] st)), (nb, nbE cN (lvs [32, 31] st))]) := by
  refine CM.of (by decide) (Nat.le_of_ble_eq_true rfl) ?_
  intro p e s m below meth c A ls hx hb hrt hml htg hown hlocks hnm hA hK hP hD hS hl
  have hown : s.vm.findClass RX7 = some m.cls := hown
  have hl : lv_has ls 1 [(0, .ref h)] := hl
  have SF : CallFix p m c cX7_deposit 1 s _ hs_gt RX7 := ⟨hx, hb, hml, hown, htg⟩
  refine lv_aload_n hx hb dX7_deposit_0 rfl (lv_at hl 0 rfl) ?_
  refine va_get (D := D) (ci := (kc k)) (v := .ref tr) (C := (kR k)) (T := TX5) (N := 8) hx hb htg (kc_in k) hown hK hP 0 rfl (kc_cl k) 0 (by decide) (htg _ tw_102) (u_same (htg _ tw_103)) rfl dX7_deposit_1 ?_
  refine lv_bipush (v := 32) hx hb dX7_deposit_4 (by decide) ?_
  refine hs_callv (wc := [(tr, trE nb st), (nb, nbE cN st)]) (w1 := [(tr, trE nb (lvT 32 st)), (nb, nbE cN (lvT 32 st))]) (wr := [(h, tlE k tr kd rt vl hr hw cu si)]) (ws2 := [(h, tlE k tr kd rt vl hr hw cu si), (tr, trE nb (lvT 32 st)), (nb, nbE cN (lvT 32 st))]) (hs_runV (q0 := 0) SF cal_X6_leave tw_318 (c_X6_leave l D cN cT cJ tr nb st hst 32) hK (hP.sub (ws' := [(tr, trE nb st), (nb, nbE cN st)]) [1, 2] rfl) (hD.sub (ws' := [(tr, trE nb st), (nb, nbE cN st)]) [1, 2] (by decide) rfl) rfl rfl ⟨Nat.le_of_ble_eq_true rfl, Nat.le_of_ble_eq_true rfl⟩ rfl hl.1 rfl (Nat.le_of_ble_eq_true rfl) dX7_deposit_6 ⟨Nat.le_of_ble_eq_true rfl, Nat.le_of_ble_eq_true rfl⟩) hP hD hS hA [1, 2] [0] [0, 1, 2] rfl rfl (by decide) (by decide) rfl (by decide) (fun H locs hP hD hS => ?_)
  refine lv_aload_n hx hb dX7_deposit_9 rfl (lv_at hl 0 rfl) ?_
  refine hs_calli0 (w1 := [(h, tlE k tr kd rt vl hr hw cu si), (tr, trE nb (lvs [31] (lvT 32 st))), (nb, nbE cN (lvs [31] (lvT 32 st)))]) (hs_runSU (q0 := 0) SF su_X7_deposit_X2_deposit (hs_below2 (htg _ tw_176) (htg _ tw_161) (by decide)) tw_387 (c_X2_deposit l D cN cT cJ h tr nb k kd rt vl hr hw cu si (lvT 32 st) (okT_lv 32 hst) ) hK hP hD rfl (kc_cl k) ⟨Nat.le_of_ble_eq_true rfl, Nat.le_of_ble_eq_true rfl⟩ rfl hl.1 rfl (Nat.le_of_ble_eq_true rfl) dX7_deposit_10 ⟨Nat.le_of_ble_eq_true rfl, Nat.le_of_ble_eq_true rfl⟩) hD hS hA (fun H locs hP hD hS => ?_)
  refine lv_sipush (v := 500) hx hb dX7_deposit_13 (by decide) ?_
  refine lv_iadd hx hb dX7_deposit_16 ?_
  exact hs_iret hx hb hrt hlocks hK hP hD hS dX7_deposit_17 (rfl) (by first | (simp only [lvs, List.foldl_cons, List.foldl_nil]; done) | rfl)

