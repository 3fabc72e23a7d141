theorem cu_X4_premium_deposit_2 : hs_cU RX4 "HireShed$Powered" ⟨"HireShed$Saw", "deposit", "()I"⟩ yX2_deposit cX2_deposit 1 (some .int) 0 := ⟨tw_379, tw_378, tw_411, tw_21, tw_409, tw_378, ⟨_, _, _, tw_379⟩, by decide +kernel⟩

theorem cu_X0_premium_check_3 : hs_cU RX0 "HireShed$BenchSaw" ⟨"HireShed$BenchSaw", "check", "()I"⟩ yX0_check cX0_check 1 (some .int) 0 := ⟨tw_354, tw_353, tw_659, tw_23, tw_658, tw_353, ⟨_, _, _, tw_354⟩, by decide +kernel⟩

theorem cu_X0_premium_deposit_3 : hs_cU RX0 "HireShed$Powered" ⟨"HireShed$BenchSaw", "deposit", "()I"⟩ yX2_deposit cX2_deposit 1 (some .int) 0 := ⟨tw_379, tw_378, tw_400, tw_21, tw_388, tw_378, ⟨_, _, _, tw_379⟩, by decide +kernel⟩

theorem cu_X0_premium_check_4 : hs_cU RX7 "HireShed$BenchSaw" ⟨"HireShed$BenchSaw", "check", "()I"⟩ yX0_check cX0_check 1 (some .int) 0 := ⟨tw_354, tw_353, tw_660, tw_23, tw_658, tw_353, ⟨_, _, _, tw_354⟩, by decide +kernel⟩

theorem cu_X0_premium_deposit_4 : hs_cU RX7 "HireShed$Powered" ⟨"HireShed$BenchSaw", "deposit", "()I"⟩ yX7_deposit cX7_deposit 1 (some .int) 0 := ⟨tw_386, tw_385, tw_401, tw_24, tw_388, tw_378, ⟨_, _, _, tw_379⟩, by decide +kernel⟩

set_option maxHeartbeats 400000 in
set_option maxRecDepth 100000 in
theorem c_X4_premium (l : Launch) (D : va_G) (cN cT cJ : ClassId) (h tr nb : Nat) (kd rt vl hr hw cu si : Int32) (st : TS) (hst : okT st) (d : Int32) : CM l D yX4_premium cX4_premium 2 (some .int) { frames := 2, cells := 0, slots := 0, locals := 41 } (tyS cN cT cJ) [.ref h, .int d] [(h, tlE 2 tr kd rt vl hr hw cu si), (tr, trE nb st), (nb, nbE cN st)] (hs_QI D (tyS cN cT cJ) (d * (vl / 2 / 100)) [(h, tlE 2 tr kd rt vl hr hw cu si), (tr, trE nb (lvs [41, 31] st)), (nb, nbE cN (lvs [41, 31] st))]) := by
  refine CM.of (by decide) (Nat.le_of_ble_eq_true rfl) ?_
  intro p e s m below meth c A ls hx hb hrt hml htg hown hlocks hnm hA hK hP hD hS hl
  have hown : s.vm.findClass RX4 = some m.cls := hown
  have hl : lv_has ls 2 [(0, .ref h), (1, .int d)] := hl
  have SF : CallFix p m c cX4_premium 2 s _ hs_gt RX4 := ⟨hx, hb, hml, hown, htg⟩
  refine lv_aload_n hx hb dX4_premium_0 rfl (lv_at hl 0 rfl) ?_
  refine va_get (D := D) (ci := (kc 2)) (v := .ref tr) (C := (kR 2)) (T := TX5) (N := 8) hx hb htg (kc_in 2) hown hK hP 0 rfl (kc_cl 2) 0 (by decide) (htg _ tw_104) (u_same (htg _ tw_105)) rfl dX4_premium_1 ?_
  refine lv_bipush (v := 41) hx hb dX4_premium_4 (by decide) ?_
  refine hs_callv (wc := [(tr, trE nb st), (nb, nbE cN st)]) (w1 := [(tr, trE nb (lvT 41 st)), (nb, nbE cN (lvT 41 st))]) (wr := [(h, tlE 2 tr kd rt vl hr hw cu si)]) (ws2 := [(h, tlE 2 tr kd rt vl hr hw cu si), (tr, trE nb (lvT 41 st)), (nb, nbE cN (lvT 41 st))]) (hs_runV (q0 := 0) SF cal_X6_leave tw_299 (c_X6_leave l D cN cT cJ tr nb st hst 41) hK (hP.sub (ws' := [(tr, trE nb st), (nb, nbE cN st)]) [1, 2] rfl) (hD.sub (ws' := [(tr, trE nb st), (nb, nbE cN st)]) [1, 2] (by decide) rfl) rfl rfl ⟨Nat.le_of_ble_eq_true rfl, Nat.le_of_ble_eq_true rfl⟩ rfl hl.1 rfl (Nat.le_of_ble_eq_true rfl) dX4_premium_6 ⟨Nat.le_of_ble_eq_true rfl, Nat.le_of_ble_eq_true rfl⟩) hP hD hS hA [1, 2] [0] [0, 1, 2] rfl rfl (by decide) (by decide) rfl (by decide) (fun H locs hP hD hS => ?_)
  refine lv_iload_n hx hb dX4_premium_9 rfl (lv_at hl 1 rfl) ?_
  refine lv_aload_n hx hb dX4_premium_10 rfl (lv_at hl 0 rfl) ?_
  refine hs_calli0 (w1 := [(h, tlE 2 tr kd rt vl hr hw cu si), (tr, trE nb (lvs [31] (lvT 41 st))), (nb, nbE cN (lvs [31] (lvT 41 st)))]) (hs_runU (q0 := 0) (ci := 4) (T := TX5) (N := 8) SF cu_X4_premium_deposit_2 tw_408 (c_X2_deposit l D cN cT cJ h tr nb 2 kd rt vl hr hw cu si (lvT 41 st) (okT_lv 41 hst)) hK hP hD rfl rfl ⟨Nat.le_of_ble_eq_true rfl, Nat.le_of_ble_eq_true rfl⟩ rfl hl.1 rfl (Nat.le_of_ble_eq_true rfl) dX4_premium_11 ⟨Nat.le_of_ble_eq_true rfl, Nat.le_of_ble_eq_true rfl⟩) hD hS hA (fun H locs hP hD hS => ?_)
  refine lv_bipush (v := 100) hx hb dX4_premium_14 (by decide) ?_
  refine lv_idiv hx hb dX4_premium_16 (by decide) ?_
  refine lv_imul hx hb dX4_premium_17 ?_
  exact hs_iret hx hb hrt hlocks hK hP hD hS dX4_premium_18 (rfl) (by first | (simp only [lvs, List.foldl_cons, List.foldl_nil]; done) | rfl)

set_option maxHeartbeats 400000 in
set_option maxRecDepth 100000 in
theorem c_X0_premium_3 (l : Launch) (D : va_G) (cN cT cJ : ClassId) (h tr nb : Nat) (kd rt vl hr hw cu si : Int32) (st : TS) (hst : okT st) (d : Int32) : CM l D yX0_premium cX0_premium 2 (some .int) { frames := 4, cells := 0, slots := 0, locals := 81 } (tyS cN cT cJ) [.ref h, .int d] [(h, tlE 3 tr kd rt vl hr hw cu si), (tr, trE nb st), (nb, nbE cN st)] (hs_QI D (tyS cN cT cJ) (d * (hr / 10 + 1 + 2 + vl / 2 / 200)) [(h, tlE 3 tr kd rt vl hr hw cu si), (tr, trE nb (lvs [42, 22, 21, 20, 31] st)), (nb, nbE cN (lvs [42, 22, 21, 20, 31] st))]) := by
  refine CM.of (by decide) (Nat.le_of_ble_eq_true rfl) ?_
  intro p e s m below meth c A ls hx hb hrt hml htg hown hlocks hnm hA hK hP hD hS hl
  have hown : s.vm.findClass RX0 = some m.cls := hown
  have hl : lv_has ls 2 [(0, .ref h), (1, .int d)] := hl
  have SF : CallFix p m c cX0_premium 2 s _ hs_gt RX0 := ⟨hx, hb, hml, hown, htg⟩
  refine lv_aload_n hx hb dX0_premium_0 rfl (lv_at hl 0 rfl) ?_
  refine va_get (D := D) (ci := (kc 3)) (v := .ref tr) (C := (kR 3)) (T := TX5) (N := 8) hx hb htg (kc_in 3) hown hK hP 0 rfl (kc_cl 3) 0 (by decide) (htg _ tw_108) (u_same (htg _ tw_109)) rfl dX0_premium_1 ?_
  refine lv_bipush (v := 42) hx hb dX0_premium_4 (by decide) ?_
  refine hs_callv (wc := [(tr, trE nb st), (nb, nbE cN st)]) (w1 := [(tr, trE nb (lvT 42 st)), (nb, nbE cN (lvT 42 st))]) (wr := [(h, tlE 3 tr kd rt vl hr hw cu si)]) (ws2 := [(h, tlE 3 tr kd rt vl hr hw cu si), (tr, trE nb (lvT 42 st)), (nb, nbE cN (lvT 42 st))]) (hs_runV (q0 := 0) SF cal_X6_leave tw_355 (c_X6_leave l D cN cT cJ tr nb st hst 42) hK (hP.sub (ws' := [(tr, trE nb st), (nb, nbE cN st)]) [1, 2] rfl) (hD.sub (ws' := [(tr, trE nb st), (nb, nbE cN st)]) [1, 2] (by decide) rfl) rfl rfl ⟨Nat.le_of_ble_eq_true rfl, Nat.le_of_ble_eq_true rfl⟩ rfl hl.1 rfl (Nat.le_of_ble_eq_true rfl) dX0_premium_6 ⟨Nat.le_of_ble_eq_true rfl, Nat.le_of_ble_eq_true rfl⟩) hP hD hS hA [1, 2] [0] [0, 1, 2] rfl rfl (by decide) (by decide) rfl (by decide) (fun H locs hP hD hS => ?_)
  refine lv_iload_n hx hb dX0_premium_9 rfl (lv_at hl 1 rfl) ?_
  refine lv_aload_n hx hb dX0_premium_10 rfl (lv_at hl 0 rfl) ?_
  refine hs_calli0 (w1 := [(h, tlE 3 tr kd rt vl hr hw cu si), (tr, trE nb (lvs [22, 21, 20] (lvT 42 st))), (nb, nbE cN (lvs [22, 21, 20] (lvT 42 st)))]) (hs_runU (q0 := 0) (ci := 0) (T := TX5) (N := 8) SF cu_X0_premium_check_3 tw_398 (c_X0_check l D cN cT cJ h tr nb 3 kd rt vl hr hw cu si (lvT 42 st) (okT_lv 42 hst)) hK hP hD rfl rfl ⟨Nat.le_of_ble_eq_true rfl, Nat.le_of_ble_eq_true rfl⟩ rfl hl.1 rfl (Nat.le_of_ble_eq_true rfl) dX0_premium_11 ⟨Nat.le_of_ble_eq_true rfl, Nat.le_of_ble_eq_true rfl⟩) hD hS hA (fun H locs hP hD hS => ?_)
  refine lv_aload_n hx hb dX0_premium_14 rfl (lv_at hl 0 rfl) ?_
  refine hs_calli0 (w1 := [(h, tlE 3 tr kd rt vl hr hw cu si), (tr, trE nb (lvs [31] (lvs [22, 21, 20] (lvT 42 st)))), (nb, nbE cN (lvs [31] (lvs [22, 21, 20] (lvT 42 st))))]) (hs_runU (q0 := 0) (ci := 0) (T := TX5) (N := 8) SF cu_X0_premium_deposit_3 tw_399 (c_X2_deposit l D cN cT cJ h tr nb 3 kd rt vl hr hw cu si (lvs [22, 21, 20] (lvT 42 st)) (okT_lvs [22, 21, 20] (okT_lv 42 hst))) hK hP hD rfl rfl ⟨Nat.le_of_ble_eq_true rfl, Nat.le_of_ble_eq_true rfl⟩ rfl hl.1 rfl (Nat.le_of_ble_eq_true rfl) dX0_premium_15 ⟨Nat.le_of_ble_eq_true rfl, Nat.le_of_ble_eq_true rfl⟩) hD hS hA (fun H locs hP hD hS => ?_)
  refine lv_sipush (v := 200) hx hb dX0_premium_18 (by decide) ?_
  refine lv_idiv hx hb dX0_premium_21 (by decide) ?_
  refine lv_iadd hx hb dX0_premium_22 ?_
  refine lv_imul hx hb dX0_premium_23 ?_
  exact hs_iret hx hb hrt hlocks hK hP hD hS dX0_premium_24 (rfl) (by first | (simp only [lvs, List.foldl_cons, List.foldl_nil]; done) | rfl)

set_option maxHeartbeats 400000 in
set_option maxRecDepth 100000 in
theorem c_X0_premium_4 (l : Launch) (D : va_G) (cN cT cJ : ClassId) (h tr nb : Nat) (kd rt vl hr hw cu si : Int32) (st : TS) (hst : okT st) (d : Int32) : CM l D yX0_premium cX0_premium 2 (some .int) { frames := 4, cells := 0, slots := 0, locals := 81 } (tyS cN cT cJ) [.ref h, .int d] [(h, tlE 4 tr kd rt vl hr hw cu si), (tr, trE nb st), (nb, nbE cN st)] (hs_QI D (tyS cN cT cJ) (d * (hr / 10 + 1 + 2 + (vl / 2 + 500) / 200)) [(h, tlE 4 tr kd rt vl hr hw cu si), (tr, trE nb (lvs [42, 22, 21, 20, 32, 31] st)), (nb, nbE cN (lvs [42, 22, 21, 20, 32, 31] st))]) := by
  refine CM.of (by decide) (Nat.le_of_ble_eq_true rfl) ?_
  intro p e s m below meth c A ls hx hb hrt hml htg hown hlocks hnm hA hK hP hD hS hl
  have hown : s.vm.findClass RX0 = some m.cls := hown
  have hl : lv_has ls 2 [(0, .ref h), (1, .int d)] := hl
  have SF : CallFix p m c cX0_premium 2 s _ hs_gt RX0 := ⟨hx, hb, hml, hown, htg⟩
  refine lv_aload_n hx hb dX0_premium_0 rfl (lv_at hl 0 rfl) ?_
  refine va_get (D := D) (ci := (kc 4)) (v := .ref tr) (C := (kR 4)) (T := TX5) (N := 8) hx hb htg (kc_in 4) hown hK hP 0 rfl (kc_cl 4) 0 (by decide) (htg _ tw_108) (u_same (htg _ tw_109)) rfl dX0_premium_1 ?_
  refine lv_bipush (v := 42) hx hb dX0_premium_4 (by decide) ?_
  refine hs_callv (wc := [(tr, trE nb st), (nb, nbE cN st)]) (w1 := [(tr, trE nb (lvT 42 st)), (nb, nbE cN (lvT 42 st))]) (wr := [(h, tlE 4 tr kd rt vl hr hw cu si)]) (ws2 := [(h, tlE 4 tr kd rt vl hr hw cu si), (tr, trE nb (lvT 42 st)), (nb, nbE cN (lvT 42 st))]) (hs_runV (q0 := 0) SF cal_X6_leave tw_355 (c_X6_leave l D cN cT cJ tr nb st hst 42) hK (hP.sub (ws' := [(tr, trE nb st), (nb, nbE cN st)]) [1, 2] rfl) (hD.sub (ws' := [(tr, trE nb st), (nb, nbE cN st)]) [1, 2] (by decide) rfl) rfl rfl ⟨Nat.le_of_ble_eq_true rfl, Nat.le_of_ble_eq_true rfl⟩ rfl hl.1 rfl (Nat.le_of_ble_eq_true rfl) dX0_premium_6 ⟨Nat.le_of_ble_eq_true rfl, Nat.le_of_ble_eq_true rfl⟩) hP hD hS hA [1, 2] [0] [0, 1, 2] rfl rfl (by decide) (by decide) rfl (by decide) (fun H locs hP hD hS => ?_)
  refine lv_iload_n hx hb dX0_premium_9 rfl (lv_at hl 1 rfl) ?_
  refine lv_aload_n hx hb dX0_premium_10 rfl (lv_at hl 0 rfl) ?_
  refine hs_calli0 (w1 := [(h, tlE 4 tr kd rt vl hr hw cu si), (tr, trE nb (lvs [22, 21, 20] (lvT 42 st))), (nb, nbE cN (lvs [22, 21, 20] (lvT 42 st)))]) (hs_runU (q0 := 0) (ci := 7) (T := TX5) (N := 8) SF cu_X0_premium_check_4 tw_398 (c_X0_check l D cN cT cJ h tr nb 4 kd rt vl hr hw cu si (lvT 42 st) (okT_lv 42 hst)) hK hP hD rfl rfl ⟨Nat.le_of_ble_eq_true rfl, Nat.le_of_ble_eq_true rfl⟩ rfl hl.1 rfl (Nat.le_of_ble_eq_true rfl) dX0_premium_11 ⟨Nat.le_of_ble_eq_true rfl, Nat.le_of_ble_eq_true rfl⟩) hD hS hA (fun H locs hP hD hS => ?_)
  refine lv_aload_n hx hb dX0_premium_14 rfl (lv_at hl 0 rfl) ?_
  refine hs_calli0 (w1 := [(h, tlE 4 tr kd rt vl hr hw cu si), (tr, trE nb (lvs [32, 31] (lvs [22, 21, 20] (lvT 42 st)))), (nb, nbE cN (lvs [32, 31] (lvs [22, 21, 20] (lvT 42 st))))]) (hs_runU (q0 := 0) (ci := 7) (T := TX5) (N := 8) SF cu_X0_premium_deposit_4 tw_399 (c_X7_deposit l D cN cT cJ h tr nb 4 kd rt vl hr hw cu si (lvs [22, 21, 20] (lvT 42 st)) (okT_lvs [22, 21, 20] (okT_lv 42 hst))) hK hP hD rfl rfl ⟨Nat.le_of_ble_eq_true rfl, Nat.le_of_ble_eq_true rfl⟩ rfl hl.1 rfl (Nat.le_of_ble_eq_true rfl) dX0_premium_15 ⟨Nat.le_of_ble_eq_true rfl, Nat.le_of_ble_eq_true rfl⟩) hD hS hA (fun H locs hP hD hS => ?_)
  refine lv_sipush (v := 200) hx hb dX0_premium_18 (by decide) ?_
  refine lv_idiv hx hb dX0_premium_21 (by decide) ?_
  refine lv_iadd hx hb dX0_premium_22 ?_
  refine lv_imul hx hb dX0_premium_23 ?_
  exact hs_iret hx hb hrt hlocks hK hP hD hS dX0_premium_24 (rfl) (by first | (simp only [lvs, List.foldl_cons, List.foldl_nil]; done) | rfl)

