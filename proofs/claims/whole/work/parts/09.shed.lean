theorem okT_0 (f : Nat → Int32) : okT (0, 1, f) := by show ¬ (0 : Int32) < 0; decide

set_option maxHeartbeats 400000 in
set_option maxRecDepth 100000 in
theorem c_X8_isWithin (l : Launch) (D : va_G) (cN cT cJ : ClassId) (x y z : Int32) : CM l D yX8_isWithin cX8_isWithin 3 (some .boolean) { frames := 0, cells := 0, slots := 0, locals := 0 } (tyS cN cT cJ) [.int x, .int y, .int z] [] (hs_QI D (tyS cN cT cJ) (wi x y z) []) := by
  refine CM.of (by decide) (Nat.le_of_ble_eq_true rfl) ?_
  intro p e s m below meth c A ls hx hb hrt hml htg hown hlocks hnm hA hK hP hD hS hl
  have hown : s.vm.findClass RX8 = some m.cls := hown
  have hl : lv_has ls 3 [(0, .int x), (1, .int y), (2, .int z)] := hl
  have SF : CallFix p m c cX8_isWithin 3 s _ hs_gt RX8 := ⟨hx, hb, hml, hown, htg⟩
  refine lv_iload_n hx hb dX8_isWithin_0 rfl (lv_at hl 0 rfl) ?_
  refine lv_iload_n hx hb dX8_isWithin_1 rfl (lv_at hl 1 rfl) ?_
  refine lv_icmp_lt (tgt := 14) hx hb dX8_isWithin_2 (by decide) (fun c2 => ?_) (fun c2 => ?_)
  · refine lv_iconst (v := 0) hx hb dX8_isWithin_14 (by decide) ?_
    exact hs_zret hx hb hrt hlocks hK hP hD hS dX8_isWithin_15 rfl (by unfold wi; first | rw [if_pos c2] | rw [if_neg c2, if_pos c7] | rw [if_neg c2, if_neg c7]) (rfl)
  · refine lv_iload_n hx hb dX8_isWithin_5 rfl (lv_at hl 0 rfl) ?_
    refine lv_iload_n hx hb dX8_isWithin_6 rfl (lv_at hl 2 rfl) ?_
    refine lv_icmp_gt (tgt := 14) hx hb dX8_isWithin_7 (by decide) (fun c7 => ?_) (fun c7 => ?_)
    · refine lv_iconst (v := 0) hx hb dX8_isWithin_14 (by decide) ?_
      exact hs_zret hx hb hrt hlocks hK hP hD hS dX8_isWithin_15 rfl (by unfold wi; first | rw [if_pos c2] | rw [if_neg c2, if_pos c7] | rw [if_neg c2, if_neg c7]) (rfl)
    · refine lv_iconst (v := 1) hx hb dX8_isWithin_10 (by decide) ?_
      refine lv_goto (tgt := 15) hx hb dX8_isWithin_11 (by decide) ?_
      exact hs_zret hx hb hrt hlocks hK hP hD hS dX8_isWithin_15 rfl (by unfold wi; first | rw [if_pos c2] | rw [if_neg c2, if_pos c7] | rw [if_neg c2, if_neg c7]) (rfl)

theorem cal_X8_isWithin : hs_cS yX8_isWithin cX8_isWithin 3 (some .boolean) 3 := ⟨tw_84, tw_83, tw_17, by decide +kernel⟩

theorem nz_wi (x y z : Int32) : narrow .boolean (.int (wi x y z)) = .int (wi x y z) := by unfold wi; split; rfl; split <;> rfl

set_option maxHeartbeats 400000 in
set_option maxRecDepth 100000 in
theorem c_X8_isCustomer (l : Launch) (D : va_G) (cN cT cJ : ClassId) (x : Int32) : CM l D yX8_isCustomer cX8_isCustomer 1 (some .boolean) { frames := 1, cells := 0, slots := 0, locals := 22 } (tyS cN cT cJ) [.int x] [] (hs_QI D (tyS cN cT cJ) (wi x 0 5) []) := by
  refine CM.of (by decide) (Nat.le_of_ble_eq_true rfl) ?_
  intro p e s m below meth c A ls hx hb hrt hml htg hown hlocks hnm hA hK hP hD hS hl
  have hown : s.vm.findClass RX8 = some m.cls := hown
  have hl : lv_has ls 1 [(0, .int x)] := hl
  have SF : CallFix p m c cX8_isCustomer 1 s _ hs_gt RX8 := ⟨hx, hb, hml, hown, htg⟩
  refine lv_iload_n hx hb dX8_isCustomer_0 rfl (lv_at hl 0 rfl) ?_
  refine lv_iconst (v := 0) hx hb dX8_isCustomer_1 (by decide) ?_
  refine lv_iconst (v := 5) hx hb dX8_isCustomer_2 (by decide) ?_
  refine hs_calli (wc := []) (w1 := []) (wr := []) (ws2 := []) (hs_runS SF cal_X8_isWithin tw_82 (c_X8_isWithin l D cN cT cJ x 0 5) hK (hP.sub (ws' := []) [] rfl) (hD.sub (ws' := []) [] (by decide) rfl) ⟨Nat.le_of_ble_eq_true rfl, Nat.le_of_ble_eq_true rfl⟩ rfl hl.1 rfl (Nat.le_of_ble_eq_true rfl) dX8_isCustomer_3 ⟨Nat.le_of_ble_eq_true rfl, Nat.le_of_ble_eq_true rfl⟩) hP hD hS hA [] [] [] rfl rfl (by decide) (by decide) rfl (by decide) (fun H locs hP hD hS => ?_)
  exact hs_zret hx hb hrt hlocks hK hP hD hS dX8_isCustomer_6 (nz_wi _ _ _) (rfl) (rfl)

theorem cal_X8_isCustomer : hs_cS yX8_isCustomer cX8_isCustomer 1 (some .boolean) 1 := ⟨tw_446, tw_445, tw_17, by decide +kernel⟩

set_option maxHeartbeats 400000 in
set_option maxRecDepth 100000 in
theorem c_X8_toolAt (l : Launch) (D : va_G) (cN cT cJ : ClassId) (o ta ac tr nb : Nat) (tc td cs hi : Int32) (a : Nat → Option Nat) (acc : Nat → Int64) (st : TS) (t : Int32) (r : Option Nat) (hat : tAt a t = r) : CM l D yX8_toolAt cX8_toolAt 2 (some (.object "HireShed$Tool")) { frames := 0, cells := 0, slots := 0, locals := 0 } (tyS cN cT cJ) [.ref o, .int t] [(o, shE tr ta ac tc td cs hi), (ta, taE cT a)] (hs_QQ D (tyS cN cT cJ) r [(o, shE tr ta ac tc td cs hi), (ta, taE cT a)]) := by
  refine CM.of (by decide) (Nat.le_of_ble_eq_true rfl) ?_
  intro p e s m below meth c A ls hx hb hrt hml htg hown hlocks hnm hA hK hP hD hS hl
  have hown : s.vm.findClass RX8 = some m.cls := hown
  have hl : lv_has ls 2 [(0, .ref o), (1, .int t)] := hl
  have SF : CallFix p m c cX8_toolAt 2 s _ hs_gt RX8 := ⟨hx, hb, hml, hown, htg⟩
  refine lv_iload_n hx hb dX8_toolAt_0 rfl (lv_at hl 1 rfl) ?_
  refine lv_if_lt (tgt := 22) hx hb dX8_toolAt_1 (by decide) (fun c1 => ?_) (fun c1 => ?_)
  · refine lv_null hx hb dX8_toolAt_22 ?_
    exact hs_qret (v := none) hx hb hrt hlocks hK hP hD hS dX8_toolAt_23 (by rw [← hat]; unfold tAt; first | rw [if_pos c1] | rw [if_neg c1, if_pos c10] | rw [if_neg c1, if_neg c10]) (rfl)
  · refine lv_iload_n hx hb dX8_toolAt_4 rfl (lv_at hl 1 rfl) ?_
    refine lv_aload_n hx hb dX8_toolAt_5 rfl (lv_at hl 0 rfl) ?_
    refine va_get (D := D) (ci := 8) (v := .ref ta) (C := RX8) (T := TX8) (N := 7) hx hb htg in_X8 hown hK hP 0 rfl rfl 1 (by decide) (htg _ tw_56) (fun _ h9 => h9) rfl dX8_toolAt_6 ?_
    refine va_alen (v := 24) hx hb hK hP 1 1 rfl rfl rfl dX8_toolAt_9 ?_
    refine lv_icmp_ge (tgt := 22) hx hb dX8_toolAt_10 (by decide) (fun c10 => ?_) (fun c10 => ?_)
    · refine lv_null hx hb dX8_toolAt_22 ?_
      exact hs_qret (v := none) hx hb hrt hlocks hK hP hD hS dX8_toolAt_23 (by rw [← hat]; unfold tAt; first | rw [if_pos c1] | rw [if_neg c1, if_pos c10] | rw [if_neg c1, if_neg c10]) (rfl)
    · refine lv_aload_n hx hb dX8_toolAt_13 rfl (lv_at hl 0 rfl) ?_
      refine va_get (D := D) (ci := 8) (v := .ref ta) (C := RX8) (T := TX8) (N := 7) hx hb htg in_X8 hown hK hP 0 rfl rfl 1 (by decide) (htg _ tw_56) (fun _ h9 => h9) rfl dX8_toolAt_14 ?_
      refine lv_iload_n hx hb dX8_toolAt_17 rfl (lv_at hl 1 rfl) ?_
      refine va_aldq hx hb hK hP 1 1 rfl rfl (hs_in24 c1 c10) dX8_toolAt_18 ?_
      refine lv_goto (tgt := 23) hx hb dX8_toolAt_19 (by decide) ?_
      exact hs_qret (v := (a t.toNatClampNeg)) hx hb hrt hlocks hK hP hD hS dX8_toolAt_23 (by rw [← hat]; unfold tAt; first | rw [if_pos c1] | rw [if_neg c1, if_pos c10] | rw [if_neg c1, if_neg c10]) (rfl)

theorem cal_X8_toolAt : hs_cV yX8_toolAt cX8_toolAt 2 (some (.object "HireShed$Tool")) 1 := ⟨tw_240, tw_239, tw_1, tw_17, by decide +kernel⟩

set_option maxHeartbeats 400000 in
set_option maxRecDepth 100000 in
theorem c_X8_pay (l : Launch) (D : va_G) (cN cT cJ : ClassId) (o ta ac tr nb : Nat) (tc td cs hi : Int32) (a : Nat → Option Nat) (acc : Nat → Int64) (st : TS) (cm x : Int32) : CM l D yX8_pay cX8_pay 3 none { frames := 2, cells := 0, slots := 0, locals := 42 } (tyS cN cT cJ) [.ref o, .int cm, .int x] [(o, shE tr ta ac tc td cs hi), (ac, acE cJ acc)] (hs_QV D (tyS cN cT cJ) [(o, shE tr ta ac tc td cs hi), (ac, acE cJ (payF acc cm x))]) := by
  refine CM.of (by decide) (Nat.le_of_ble_eq_true rfl) ?_
  intro p e s m below meth c A ls hx hb hrt hml htg hown hlocks hnm hA hK hP hD hS hl
  have hown : s.vm.findClass RX8 = some m.cls := hown
  have hl : lv_has ls 3 [(0, .ref o), (1, .int cm), (2, .int x)] := hl
  have SF : CallFix p m c cX8_pay 3 s _ hs_gt RX8 := ⟨hx, hb, hml, hown, htg⟩
  refine lv_iload_n hx hb dX8_pay_0 rfl (lv_at hl 1 rfl) ?_
  refine hs_calli (wc := []) (w1 := []) (wr := [(o, shE tr ta ac tc td cs hi), (ac, acE cJ acc)]) (ws2 := [(o, shE tr ta ac tc td cs hi), (ac, acE cJ acc)]) (hs_runS SF cal_X8_isCustomer tw_444 (c_X8_isCustomer l D cN cT cJ cm) hK (hP.sub (ws' := []) [] rfl) (hD.sub (ws' := []) [] (by decide) rfl) ⟨Nat.le_of_ble_eq_true rfl, Nat.le_of_ble_eq_true rfl⟩ rfl hl.1 rfl (Nat.le_of_ble_eq_true rfl) dX8_pay_1 ⟨Nat.le_of_ble_eq_true rfl, Nat.le_of_ble_eq_true rfl⟩) hP hD hS hA [] [0, 1] [0, 1] rfl rfl (by decide) (by decide) rfl (by decide) (fun H locs hP hD hS => ?_)
  refine lv_if_eq (tgt := 18) hx hb dX8_pay_4 (by decide) (fun c4 => ?_) (fun c4 => ?_)
  · exact hs_vret hx hb hrt hlocks hK hP hD hS dX8_pay_18 (by unfold payF; first | rw [if_pos c4] | rw [if_neg c4])
  · refine lv_aload_n hx hb dX8_pay_7 rfl (lv_at hl 0 rfl) ?_
    refine va_get (D := D) (ci := 8) (v := .ref ac) (C := RX8) (T := TX8) (N := 7) hx hb htg in_X8 hown hK hP 0 rfl rfl 2 (by decide) (htg _ tw_57) (fun _ h9 => h9) rfl dX8_pay_8 ?_
    refine lv_iload_n hx hb dX8_pay_11 rfl (lv_at hl 1 rfl) ?_
    refine lv_dup2_11 hx hb dX8_pay_12 rfl rfl ?_
    refine va_lald hx hb hK hP 1 2 rfl rfl (wi_in (n := 5) (by decide) (by decide) c4) dX8_pay_13 ?_
    refine lv_iload_n hx hb dX8_pay_14 rfl (lv_at hl 2 rfl) ?_
    refine lv_i2l hx hb dX8_pay_15 rfl ?_
    refine lv_ladd hx hb dX8_pay_16 ?_
    refine va_last hx hb hK hP hD hS 1 2 rfl rfl (wi_in (n := 5) (by decide) (by decide) c4) dX8_pay_17 (fun H locs hP hD hS => ?_)
    have hP : va_P D hs_cl [(o, shE tr ta ac tc td cs hi), (ac, acE cJ (vp_updL acc cm.toNatClampNeg ((acc cm.toNatClampNeg) + x.toInt64)))] H := hP
    have hD : va_D A [(o, shE tr ta ac tc td cs hi), (ac, acE cJ (vp_updL acc cm.toNatClampNeg ((acc cm.toNatClampNeg) + x.toInt64)))] := hD
    exact hs_vret hx hb hrt hlocks hK hP hD hS dX8_pay_18 (by unfold payF; first | rw [if_pos c4] | rw [if_neg c4])

theorem cal_X8_pay : hs_cV yX8_pay cX8_pay 3 none 2 := ⟨tw_450, tw_449, tw_2, tw_17, by decide +kernel⟩

theorem nz_hasD (k : Nat) : narrow .boolean (.int (hasD k)) = .int (hasD k) := by unfold hasD; split <;> rfl
theorem nz_isI (k : Nat) : narrow .boolean (.int (isI k)) = .int (isI k) := by unfold isI; split <;> rfl
theorem nz_isS (k : Nat) : narrow .boolean (.int (isS k)) = .int (isS k) := by unfold isS; split <;> rfl

set_option maxHeartbeats 400000 in
set_option maxRecDepth 100000 in
theorem c_X8_hasAnswer (l : Launch) (D : va_G) (cN cT cJ : ClassId) (h tr nb k : Nat) (kd rt vl hr hw cu si : Int32) (st : TS) (hst : okT st) (hk : k < 7) (w : Int32) : CM l D yX8_hasAnswer cX8_hasAnswer 2 (some .boolean) { frames := 1, cells := 0, slots := 0, locals := 20 } (tyS cN cT cJ) [.ref h, .int w] [(h, tlE k tr kd rt vl hr hw cu si), (tr, trE nb st), (nb, nbE cN st)] (hs_QI D (tyS cN cT cJ) (hasA k w) [(h, tlE k tr kd rt vl hr hw cu si), (tr, trE nb st), (nb, nbE cN st)]) := by
  refine CM.of (by decide) (Nat.le_of_ble_eq_true rfl) ?_
  intro p e s m below meth c A ls hx hb hrt hml htg hown hlocks hnm hA hK hP hD hS hl
  have hown : s.vm.findClass RX8 = some m.cls := hown
  have hl : lv_has ls 2 [(0, .ref h), (1, .int w)] := hl
  have SF : CallFix p m c cX8_hasAnswer 2 s _ hs_gt RX8 := ⟨hx, hb, hml, hown, htg⟩
  refine lv_iload_n hx hb dX8_hasAnswer_0 rfl (lv_at hl 1 rfl) ?_
  by_cases w3 : w = 3
  · subst w3
    refine lv_tableIn (off := 27) (tgt := 28) hx hb dX8_hasAnswer_1 (by decide) (by decide) (by decide) (by decide) ?_
    refine lv_aload_n hx hb dX8_hasAnswer_28 rfl (lv_at hl 0 rfl) ?_
    refine hs_calli0 (w1 := [(h, tlE k tr kd rt vl hr hw cu si), (tr, trE nb st), (nb, nbE cN st)]) (V_hasDeposit cN cT cJ h tr nb k hk kd rt vl hr hw cu si st hst  SF tw_248 hK hP hD ⟨Nat.le_of_ble_eq_true rfl, Nat.le_of_ble_eq_true rfl⟩ hl.1 (Nat.le_of_ble_eq_true rfl) dX8_hasAnswer_29 ⟨Nat.le_of_ble_eq_true rfl, Nat.le_of_ble_eq_true rfl⟩) hD hS hA (fun H locs hP hD hS => ?_)
    exact hs_zret hx hb hrt hlocks hK hP hD hS dX8_hasAnswer_32 (nz_hasD k) (by simp [hasA]) (rfl)
  by_cases w4 : w = 4
  · subst w4
    refine lv_tableIn (off := 32) (tgt := 33) hx hb dX8_hasAnswer_1 (by decide) (by decide) (by decide) (by decide) ?_
    refine lv_aload_n hx hb dX8_hasAnswer_33 rfl (lv_at hl 0 rfl) ?_
    refine hs_calli0 (w1 := [(h, tlE k tr kd rt vl hr hw cu si), (tr, trE nb st), (nb, nbE cN st)]) (V_isInsured cN cT cJ h tr nb k hk kd rt vl hr hw cu si st hst  SF tw_261 hK hP hD ⟨Nat.le_of_ble_eq_true rfl, Nat.le_of_ble_eq_true rfl⟩ hl.1 (Nat.le_of_ble_eq_true rfl) dX8_hasAnswer_34 ⟨Nat.le_of_ble_eq_true rfl, Nat.le_of_ble_eq_true rfl⟩) hD hS hA (fun H locs hP hD hS => ?_)
    exact hs_zret hx hb hrt hlocks hK hP hD hS dX8_hasAnswer_37 (nz_isI k) (by simp [hasA]) (rfl)
  by_cases w5 : w = 5
  · subst w5
    refine lv_tableIn (off := 37) (tgt := 38) hx hb dX8_hasAnswer_1 (by decide) (by decide) (by decide) (by decide) ?_
    refine lv_aload_n hx hb dX8_hasAnswer_38 rfl (lv_at hl 0 rfl) ?_
    refine hs_calli0 (w1 := [(h, tlE k tr kd rt vl hr hw cu si), (tr, trE nb st), (nb, nbE cN st)]) (V_isServiced cN cT cJ h tr nb k hk kd rt vl hr hw cu si st hst  SF tw_274 hK hP hD ⟨Nat.le_of_ble_eq_true rfl, Nat.le_of_ble_eq_true rfl⟩ hl.1 (Nat.le_of_ble_eq_true rfl) dX8_hasAnswer_39 ⟨Nat.le_of_ble_eq_true rfl, Nat.le_of_ble_eq_true rfl⟩) hD hS hA (fun H locs hP hD hS => ?_)
    exact hs_zret hx hb hrt hlocks hK hP hD hS dX8_hasAnswer_42 (nz_isS k) (by simp [hasA]) (rfl)
  refine lv_tableOut (tgt := 43) hx hb dX8_hasAnswer_1 (by have := lv_neT w3 (a := 3) (by decide); have := lv_neT w4 (a := 4) (by decide); have := lv_neT w5 (a := 5) (by decide); omega) (by decide) ?_
  refine lv_iconst (v := 1) hx hb dX8_hasAnswer_43 (by decide) ?_
  exact hs_zret hx hb hrt hlocks hK hP hD hS dX8_hasAnswer_44 rfl (by simp [hasA, w3, w4, w5]) (rfl)

theorem cal_X8_hasAnswer : hs_cS yX8_hasAnswer cX8_hasAnswer 2 (some .boolean) 2 := ⟨tw_247, tw_246, tw_17, by decide +kernel⟩

set_option maxHeartbeats 400000 in
set_option maxRecDepth 100000 in
theorem c_X8_answerOf (l : Launch) (D : va_G) (cN cT cJ : ClassId) (h tr nb k : Nat) (kd rt vl hr hw cu si : Int32) (st : TS) (hst : okT st) (hk : k < 7) (w d : Int32) : CM l D yX8_answerOf cX8_answerOf 3 (some .int) { frames := 5, cells := 0, slots := 0, locals := 102 } (tyS cN cT cJ) [.ref h, .int w, .int d] [(h, tlE k tr kd rt vl hr hw cu si), (tr, trE nb st), (nb, nbE cN st)] (hs_QI D (tyS cN cT cJ) (ansF k w rt vl hr d) [(h, tlE k tr kd rt vl hr hw cu si), (tr, trE nb (lvs (ansN k w) st)), (nb, nbE cN (lvs (ansN k w) st))]) := by
  refine CM.of (by decide) (Nat.le_of_ble_eq_true rfl) ?_
  intro p e s m below meth c A ls hx hb hrt hml htg hown hlocks hnm hA hK hP hD hS hl
  have hown : s.vm.findClass RX8 = some m.cls := hown
  have hl : lv_has ls 3 [(0, .ref h), (1, .int w), (2, .int d)] := hl
  have SF : CallFix p m c cX8_answerOf 3 s _ hs_gt RX8 := ⟨hx, hb, hml, hown, htg⟩
  refine lv_iload_n hx hb dX8_answerOf_0 rfl (lv_at hl 1 rfl) ?_
  by_cases w0 : w = 0
  · subst w0
    refine lv_tableIn (off := 39) (tgt := 40) hx hb dX8_answerOf_1 (by decide) (by decide) (by decide) (by decide) ?_
    refine lv_aload_n hx hb dX8_answerOf_40 rfl (lv_at hl 0 rfl) ?_
    refine lv_iload_n hx hb dX8_answerOf_41 rfl (lv_at hl 2 rfl) ?_
    refine hs_calli0 (w1 := [(h, tlE k tr kd rt vl hr hw cu si), (tr, trE nb (lvs (chN k) st)), (nb, nbE cN (lvs (chN k) st))]) (V_charge cN cT cJ h tr nb k hk kd rt vl hr hw cu si st hst d SF tw_292 hK hP hD ⟨Nat.le_of_ble_eq_true rfl, Nat.le_of_ble_eq_true rfl⟩ hl.1 (Nat.le_of_ble_eq_true rfl) dX8_answerOf_42 ⟨Nat.le_of_ble_eq_true rfl, Nat.le_of_ble_eq_true rfl⟩) hD hS hA (fun H locs hP hD hS => ?_)
    exact hs_iret hx hb hrt hlocks hK hP hD hS dX8_answerOf_45 (by simp [ansF]) (by simp [ansN, lvs])
  by_cases w1 : w = 1
  · subst w1
    refine lv_tableIn (off := 45) (tgt := 46) hx hb dX8_answerOf_1 (by decide) (by decide) (by decide) (by decide) ?_
    refine lv_aload_n hx hb dX8_answerOf_46 rfl (lv_at hl 0 rfl) ?_
    refine lv_iload_n hx hb dX8_answerOf_47 rfl (lv_at hl 2 rfl) ?_
    refine hs_calli0 (w1 := [(h, tlE k tr kd rt vl hr hw cu si), (tr, trE nb (lvs (weN k) st)), (nb, nbE cN (lvs (weN k) st))]) (V_wear cN cT cJ h tr nb k hk kd rt vl hr hw cu si st hst d SF tw_327 hK hP hD ⟨Nat.le_of_ble_eq_true rfl, Nat.le_of_ble_eq_true rfl⟩ hl.1 (Nat.le_of_ble_eq_true rfl) dX8_answerOf_48 ⟨Nat.le_of_ble_eq_true rfl, Nat.le_of_ble_eq_true rfl⟩) hD hS hA (fun H locs hP hD hS => ?_)
    exact hs_iret hx hb hrt hlocks hK hP hD hS dX8_answerOf_51 (by simp [ansF]) (by simp [ansN, lvs])
  by_cases w2 : w = 2
  · subst w2
    refine lv_tableIn (off := 51) (tgt := 52) hx hb dX8_answerOf_1 (by decide) (by decide) (by decide) (by decide) ?_
    refine lv_aload_n hx hb dX8_answerOf_52 rfl (lv_at hl 0 rfl) ?_
    refine hs_calli0 (w1 := [(h, tlE k tr kd rt vl hr hw cu si), (tr, trE nb (lvs (ckN k) st)), (nb, nbE cN (lvs (ckN k) st))]) (V_check cN cT cJ h tr nb k hk kd rt vl hr hw cu si st hst  SF tw_348 hK hP hD ⟨Nat.le_of_ble_eq_true rfl, Nat.le_of_ble_eq_true rfl⟩ hl.1 (Nat.le_of_ble_eq_true rfl) dX8_answerOf_53 ⟨Nat.le_of_ble_eq_true rfl, Nat.le_of_ble_eq_true rfl⟩) hD hS hA (fun H locs hP hD hS => ?_)
    exact hs_iret hx hb hrt hlocks hK hP hD hS dX8_answerOf_56 (by simp [ansF]) (by simp [ansN, lvs])
  by_cases w3 : w = 3
  · subst w3
    refine lv_tableIn (off := 56) (tgt := 57) hx hb dX8_answerOf_1 (by decide) (by decide) (by decide) (by decide) ?_
    refine lv_aload_n hx hb dX8_answerOf_57 rfl (lv_at hl 0 rfl) ?_
    refine hs_calli0 (w1 := [(h, tlE k tr kd rt vl hr hw cu si), (tr, trE nb (lvs (dpN k) st)), (nb, nbE cN (lvs (dpN k) st))]) (V_deposit cN cT cJ h tr nb k hk kd rt vl hr hw cu si st hst  SF tw_373 hK hP hD ⟨Nat.le_of_ble_eq_true rfl, Nat.le_of_ble_eq_true rfl⟩ hl.1 (Nat.le_of_ble_eq_true rfl) dX8_answerOf_58 ⟨Nat.le_of_ble_eq_true rfl, Nat.le_of_ble_eq_true rfl⟩) hD hS hA (fun H locs hP hD hS => ?_)
    exact hs_iret hx hb hrt hlocks hK hP hD hS dX8_answerOf_61 (by simp [ansF]) (by simp [ansN, lvs])
  by_cases w4 : w = 4
  · subst w4
    refine lv_tableIn (off := 61) (tgt := 62) hx hb dX8_answerOf_1 (by decide) (by decide) (by decide) (by decide) ?_
    refine lv_aload_n hx hb dX8_answerOf_62 rfl (lv_at hl 0 rfl) ?_
    refine lv_iload_n hx hb dX8_answerOf_63 rfl (lv_at hl 2 rfl) ?_
    refine hs_calli0 (w1 := [(h, tlE k tr kd rt vl hr hw cu si), (tr, trE nb (lvs (pmN k) st)), (nb, nbE cN (lvs (pmN k) st))]) (V_premium cN cT cJ h tr nb k hk kd rt vl hr hw cu si st hst d SF tw_391 hK hP hD ⟨Nat.le_of_ble_eq_true rfl, Nat.le_of_ble_eq_true rfl⟩ hl.1 (Nat.le_of_ble_eq_true rfl) dX8_answerOf_64 ⟨Nat.le_of_ble_eq_true rfl, Nat.le_of_ble_eq_true rfl⟩) hD hS hA (fun H locs hP hD hS => ?_)
    exact hs_iret hx hb hrt hlocks hK hP hD hS dX8_answerOf_67 (by simp [ansF]) (by simp [ansN, lvs])
  by_cases w5 : w = 5
  · subst w5
    refine lv_tableIn (off := 67) (tgt := 68) hx hb dX8_answerOf_1 (by decide) (by decide) (by decide) (by decide) ?_
    refine lv_aload_n hx hb dX8_answerOf_68 rfl (lv_at hl 0 rfl) ?_
    refine lv_iload_n hx hb dX8_answerOf_69 rfl (lv_at hl 2 rfl) ?_
    refine hs_calli0 (w1 := [(h, tlE k tr kd rt vl hr hw cu si), (tr, trE nb (lvs (duN k) st)), (nb, nbE cN (lvs (duN k) st))]) (V_due cN cT cJ h tr nb k hk kd rt vl hr hw cu si st hst d SF tw_415 hK hP hD ⟨Nat.le_of_ble_eq_true rfl, Nat.le_of_ble_eq_true rfl⟩ hl.1 (Nat.le_of_ble_eq_true rfl) dX8_answerOf_70 ⟨Nat.le_of_ble_eq_true rfl, Nat.le_of_ble_eq_true rfl⟩) hD hS hA (fun H locs hP hD hS => ?_)
    exact hs_iret hx hb hrt hlocks hK hP hD hS dX8_answerOf_73 (by simp [ansF]) (by simp [ansN, lvs])
  refine lv_tableOut (tgt := 74) hx hb dX8_answerOf_1 (by have := lv_neT w0 (a := 0) (by decide); have := lv_neT w1 (a := 1) (by decide); have := lv_neT w2 (a := 2) (by decide); have := lv_neT w3 (a := 3) (by decide); have := lv_neT w4 (a := 4) (by decide); have := lv_neT w5 (a := 5) (by decide); omega) (by decide) ?_
  refine lv_bipush (v := (-2)) hx hb dX8_answerOf_74 (by decide) ?_
  exact hs_iret hx hb hrt hlocks hK hP hD hS dX8_answerOf_76 (by simp [ansF, w0, w1, w2, w3, w4, w5]) (by simp [ansN, lvs, w0, w1, w2, w3, w4, w5])

theorem cal_X8_answerOf : hs_cS yX8_answerOf cX8_answerOf 3 (some .int) 3 := ⟨tw_291, tw_290, tw_17, by decide +kernel⟩

set_option maxHeartbeats 400000 in
set_option maxRecDepth 100000 in
theorem c_X8_trace (l : Launch) (D : va_G) (cN cT cJ : ClassId) (o ta ac tr nb : Nat) (tc td cs hi : Int32) (a : Nat → Option Nat) (acc : Nat → Int64) (st : TS) (i : Int32) : CM l D yX8_trace cX8_trace 2 (some .int) { frames := 1, cells := 0, slots := 0, locals := 21 } (tyS cN cT cJ) [.ref o, .int i] [(o, shE tr ta ac tc td cs hi), (tr, trE nb st), (nb, nbE cN st)] (hs_QI D (tyS cN cT cJ) (nAt st i) [(o, shE tr ta ac tc td cs hi), (tr, trE nb st), (nb, nbE cN st)]) := by
  refine CM.of (by decide) (Nat.le_of_ble_eq_true rfl) ?_
  intro p e s m below meth c A ls hx hb hrt hml htg hown hlocks hnm hA hK hP hD hS hl
  have hown : s.vm.findClass RX8 = some m.cls := hown
  have hl : lv_has ls 2 [(0, .ref o), (1, .int i)] := hl
  have SF : CallFix p m c cX8_trace 2 s _ hs_gt RX8 := ⟨hx, hb, hml, hown, htg⟩
  refine lv_aload_n hx hb dX8_trace_0 rfl (lv_at hl 0 rfl) ?_
  refine va_get (D := D) (ci := 8) (v := .ref tr) (C := RX8) (T := TX8) (N := 7) hx hb htg in_X8 hown hK hP 0 rfl rfl 0 (by decide) (htg _ tw_55) (fun _ h9 => h9) rfl dX8_trace_1 ?_
  refine lv_iload_n hx hb dX8_trace_4 rfl (lv_at hl 1 rfl) ?_
  refine hs_calli (wc := [(tr, trE nb st), (nb, nbE cN st)]) (w1 := [(tr, trE nb st), (nb, nbE cN st)]) (wr := [(o, shE tr ta ac tc td cs hi)]) (ws2 := [(o, shE tr ta ac tc td cs hi), (tr, trE nb st), (nb, nbE cN st)]) (hs_runV (q0 := 0) SF cal_X6_numberAt tw_436 (c_X6_numberAt l D cN cT cJ tr nb st i) hK (hP.sub (ws' := [(tr, trE nb st), (nb, nbE cN st)]) [1, 2] rfl) (hD.sub (ws' := [(tr, trE nb st), (nb, nbE cN st)]) [1, 2] (by decide) rfl) rfl rfl ⟨Nat.le_of_ble_eq_true rfl, Nat.le_of_ble_eq_true rfl⟩ rfl hl.1 rfl (Nat.le_of_ble_eq_true rfl) dX8_trace_5 ⟨Nat.le_of_ble_eq_true rfl, Nat.le_of_ble_eq_true rfl⟩) hP hD hS hA [1, 2] [0] [0, 1, 2] rfl rfl (by decide) (by decide) rfl (by decide) (fun H locs hP hD hS => ?_)
  exact hs_iret hx hb hrt hlocks hK hP hD hS dX8_trace_8 (rfl) (rfl)

theorem cal_X8_trace : hs_cV yX8_trace cX8_trace 2 (some .int) 1 := ⟨tw_435, tw_433, tw_434, tw_17, by decide +kernel⟩

def dayF (td n : Int32) : Int32 := if wi n 1 50 = 0 then -2 else if td + n ≤ 20000 then td + n else -4
def dayT (td n : Int32) : Int32 := if wi n 1 50 = 0 then td else if td + n ≤ 20000 then td + n else td
def accF (acc : Nat → Int64) (cm : Int32) : Int64 := if wi cm 0 5 = 0 then 0 else acc cm.toNatClampNeg

set_option maxHeartbeats 400000 in
set_option maxRecDepth 100000 in
theorem c_X8_day (l : Launch) (D : va_G) (cN cT cJ : ClassId) (o ta ac tr nb : Nat) (tc td cs hi : Int32) (a : Nat → Option Nat) (acc : Nat → Int64) (st : TS) (n : Int32) : CM l D yX8_day cX8_day 2 (some .int) { frames := 1, cells := 0, slots := 0, locals := 22 } (tyS cN cT cJ) [.ref o, .int n] [(o, shE tr ta ac tc td cs hi)] (hs_QI D (tyS cN cT cJ) (dayF td n) [(o, shE tr ta ac tc (dayT td n) cs hi)]) := by
  refine CM.of (by decide) (Nat.le_of_ble_eq_true rfl) ?_
  intro p e s m below meth c A ls hx hb hrt hml htg hown hlocks hnm hA hK hP hD hS hl
  have hown : s.vm.findClass RX8 = some m.cls := hown
  have hl : lv_has ls 2 [(0, .ref o), (1, .int n)] := hl
  have SF : CallFix p m c cX8_day 2 s _ hs_gt RX8 := ⟨hx, hb, hml, hown, htg⟩
  refine lv_iload_n hx hb dX8_day_0 rfl (lv_at hl 1 rfl) ?_
  refine lv_iconst (v := 1) hx hb dX8_day_1 (by decide) ?_
  refine lv_bipush (v := 50) hx hb dX8_day_2 (by decide) ?_
  refine hs_calli (wc := []) (w1 := []) (wr := [(o, shE tr ta ac tc td cs hi)]) (ws2 := [(o, shE tr ta ac tc td cs hi)]) (hs_runS SF cal_X8_isWithin tw_82 (c_X8_isWithin l D cN cT cJ n 1 50) hK (hP.sub (ws' := []) [] rfl) (hD.sub (ws' := []) [] (by decide) rfl) ⟨Nat.le_of_ble_eq_true rfl, Nat.le_of_ble_eq_true rfl⟩ rfl hl.1 rfl (Nat.le_of_ble_eq_true rfl) dX8_day_4 ⟨Nat.le_of_ble_eq_true rfl, Nat.le_of_ble_eq_true rfl⟩) hP hD hS hA [] [0] [0] rfl rfl (by decide) (by decide) rfl (by decide) (fun H locs hP hD hS => ?_)
  refine lv_if_ne (tgt := 13) hx hb dX8_day_7 (by decide) (fun c7 => ?_) (fun c7 => ?_)
  · refine lv_aload_n hx hb dX8_day_13 rfl (lv_at hl 0 rfl) ?_
    refine va_get (D := D) (ci := 8) (v := .int td) (C := RX8) (T := TX8) (N := 7) hx hb htg in_X8 hown hK hP 0 rfl rfl 4 (by decide) (htg _ tw_59) (fun _ h9 => h9) rfl dX8_day_14 ?_
    refine lv_iload_n hx hb dX8_day_17 rfl (lv_at hl 1 rfl) ?_
    refine lv_iadd hx hb dX8_day_18 ?_
    refine lv_sipush (v := 20000) hx hb dX8_day_19 (by decide) ?_
    refine lv_icmp_le (tgt := 28) hx hb dX8_day_22 (by decide) (fun c22 => ?_) (fun c22 => ?_)
    · refine lv_aload_n hx hb dX8_day_28 rfl (lv_at hl 0 rfl) ?_
      refine lv_dup hx hb dX8_day_29 rfl ?_
      refine va_get (D := D) (ci := 8) (v := .int td) (C := RX8) (T := TX8) (N := 7) hx hb htg in_X8 hown hK hP 0 rfl rfl 4 (by decide) (htg _ tw_59) (fun _ h9 => h9) rfl dX8_day_30 ?_
      refine lv_iload_n hx hb dX8_day_33 rfl (lv_at hl 1 rfl) ?_
      refine lv_iadd hx hb dX8_day_34 ?_
      refine va_put (D := D) (ci := 8) (v := .int (td + n)) (ty := .int) (C := RX8) (T := TX8) (N := 7) hx hb htg in_X8 tyX8 tyX8_ok nmX8 hown hK hP hD hS 0 rfl rfl 4 (by decide) (htg _ tw_59) (fun _ h9 => h9) rfl (by decide +kernel) rfl rfl (Nat.le_of_ble_eq_true rfl) dX8_day_35 (fun H locs hP hD hS => ?_)
      have hP : va_P D hs_cl [(o, shE tr ta ac tc (td + n) cs hi)] H := hP
      have hD : va_D A [(o, shE tr ta ac tc (td + n) cs hi)] := hD
      refine lv_aload_n hx hb dX8_day_38 rfl (lv_at hl 0 rfl) ?_
      refine va_get (D := D) (ci := 8) (v := .int (td + n)) (C := RX8) (T := TX8) (N := 7) hx hb htg in_X8 hown hK hP 0 rfl rfl 4 (by decide) (htg _ tw_59) (fun _ h9 => h9) rfl dX8_day_39 ?_
      exact hs_iret hx hb hrt hlocks hK hP hD hS dX8_day_42 (by unfold dayF; first | rw [if_pos c7] | rw [if_neg c7, if_pos c22] | rw [if_neg c7, if_neg c22]) (by unfold dayT; first | rw [if_pos c7] | rw [if_neg c7, if_pos c22] | rw [if_neg c7, if_neg c22])
    · refine lv_bipush (v := (-4)) hx hb dX8_day_25 (by decide) ?_
      exact hs_iret hx hb hrt hlocks hK hP hD hS dX8_day_27 (by unfold dayF; first | rw [if_pos c7] | rw [if_neg c7, if_pos c22] | rw [if_neg c7, if_neg c22]) (by unfold dayT; first | rw [if_pos c7] | rw [if_neg c7, if_pos c22] | rw [if_neg c7, if_neg c22])
  · refine lv_bipush (v := (-2)) hx hb dX8_day_10 (by decide) ?_
    exact hs_iret hx hb hrt hlocks hK hP hD hS dX8_day_12 (by unfold dayF; first | rw [if_pos c7] | rw [if_neg c7, if_pos c22] | rw [if_neg c7, if_neg c22]) (by unfold dayT; first | rw [if_pos c7] | rw [if_neg c7, if_pos c22] | rw [if_neg c7, if_neg c22])

theorem cal_X8_day : hs_cV yX8_day cX8_day 2 (some .int) 1 := ⟨tw_497, tw_495, tw_496, tw_17, by decide +kernel⟩

set_option maxHeartbeats 400000 in
set_option maxRecDepth 100000 in
theorem c_X8_account (l : Launch) (D : va_G) (cN cT cJ : ClassId) (o ta ac tr nb : Nat) (tc td cs hi : Int32) (a : Nat → Option Nat) (acc : Nat → Int64) (st : TS) (cm : Int32) : CM l D yX8_account cX8_account 2 (some .long) { frames := 2, cells := 0, slots := 0, locals := 42 } (tyS cN cT cJ) [.ref o, .int cm] [(o, shE tr ta ac tc td cs hi), (ac, acE cJ acc)] (hs_QL D (tyS cN cT cJ) (accF acc cm) [(o, shE tr ta ac tc td cs hi), (ac, acE cJ acc)]) := by
  refine CM.of (by decide) (Nat.le_of_ble_eq_true rfl) ?_
  intro p e s m below meth c A ls hx hb hrt hml htg hown hlocks hnm hA hK hP hD hS hl
  have hown : s.vm.findClass RX8 = some m.cls := hown
  have hl : lv_has ls 2 [(0, .ref o), (1, .int cm)] := hl
  have SF : CallFix p m c cX8_account 2 s _ hs_gt RX8 := ⟨hx, hb, hml, hown, htg⟩
  refine lv_iload_n hx hb dX8_account_0 rfl (lv_at hl 1 rfl) ?_
  refine hs_calli (wc := []) (w1 := []) (wr := [(o, shE tr ta ac tc td cs hi), (ac, acE cJ acc)]) (ws2 := [(o, shE tr ta ac tc td cs hi), (ac, acE cJ acc)]) (hs_runS SF cal_X8_isCustomer tw_444 (c_X8_isCustomer l D cN cT cJ cm) hK (hP.sub (ws' := []) [] rfl) (hD.sub (ws' := []) [] (by decide) rfl) ⟨Nat.le_of_ble_eq_true rfl, Nat.le_of_ble_eq_true rfl⟩ rfl hl.1 rfl (Nat.le_of_ble_eq_true rfl) dX8_account_1 ⟨Nat.le_of_ble_eq_true rfl, Nat.le_of_ble_eq_true rfl⟩) hP hD hS hA [] [0, 1] [0, 1] rfl rfl (by decide) (by decide) rfl (by decide) (fun H locs hP hD hS => ?_)
  refine lv_if_eq (tgt := 16) hx hb dX8_account_4 (by decide) (fun c4 => ?_) (fun c4 => ?_)
  · refine lv_lconst (v := 0) hx hb dX8_account_16 (by decide) ?_
    exact hs_lret hx hb hrt hlocks hK hP hD hS dX8_account_17 (by unfold accF; first | rw [if_pos c4] | rw [if_neg c4]) (rfl)
  · refine lv_aload_n hx hb dX8_account_7 rfl (lv_at hl 0 rfl) ?_
    refine va_get (D := D) (ci := 8) (v := .ref ac) (C := RX8) (T := TX8) (N := 7) hx hb htg in_X8 hown hK hP 0 rfl rfl 2 (by decide) (htg _ tw_57) (fun _ h9 => h9) rfl dX8_account_8 ?_
    refine lv_iload_n hx hb dX8_account_11 rfl (lv_at hl 1 rfl) ?_
    refine va_lald hx hb hK hP 1 2 rfl rfl (wi_in (n := 5) (by decide) (by decide) c4) dX8_account_12 ?_
    refine lv_goto (tgt := 17) hx hb dX8_account_13 (by decide) ?_
    exact hs_lret hx hb hrt hlocks hK hP hD hS dX8_account_17 (by unfold accF; first | rw [if_pos c4] | rw [if_neg c4]) (rfl)

theorem cal_X8_account : hs_cV yX8_account cX8_account 2 (some .long) 1 := ⟨tw_501, tw_499, tw_500, tw_17, by decide +kernel⟩

set_option maxHeartbeats 400000 in
set_option maxRecDepth 100000 in
theorem c_X8_ask_none (l : Launch) (D : va_G) (cN cT cJ : ClassId) (o ta ac tr nb : Nat) (tc td cs hi : Int32) (a : Nat → Option Nat) (acc : Nat → Int64) (st : TS) (t : Int32) (hat : tAt a t = none) (w d : Int32) : CM l D yX8_ask cX8_ask 6 (some .int) { frames := 1, cells := 0, slots := 0, locals := 21 } (tyS cN cT cJ) [.ref o, .int t, .int w, .int d] [(o, shE tr ta ac tc td cs hi), (ta, taE cT a)] (hs_QI D (tyS cN cT cJ) (-2) [(o, shE tr ta ac tc td cs hi), (ta, taE cT a)]) := by
  refine CM.of (by decide) (Nat.le_of_ble_eq_true rfl) ?_
  intro p e s m below meth c A ls hx hb hrt hml htg hown hlocks hnm hA hK hP hD hS hl
  have hown : s.vm.findClass RX8 = some m.cls := hown
  have hl : lv_has ls 6 [(0, .ref o), (1, .int t), (2, .int w), (3, .int d)] := hl
  have SF : CallFix p m c cX8_ask 6 s _ hs_gt RX8 := ⟨hx, hb, hml, hown, htg⟩
  refine lv_aload_n hx hb dX8_ask_0 rfl (lv_at hl 0 rfl) ?_
  refine lv_iload_n hx hb dX8_ask_1 rfl (lv_at hl 1 rfl) ?_
  refine hs_callq (wc := [(o, shE tr ta ac tc td cs hi), (ta, taE cT a)]) (w1 := [(o, shE tr ta ac tc td cs hi), (ta, taE cT a)]) (wr := []) (ws2 := [(o, shE tr ta ac tc td cs hi), (ta, taE cT a)]) (hs_runV (q0 := 0) SF cal_X8_toolAt tw_237 (c_X8_toolAt l D cN cT cJ o ta ac tr nb tc td cs hi a acc st t none hat) hK (hP.sub (ws' := [(o, shE tr ta ac tc td cs hi), (ta, taE cT a)]) [0, 1] rfl) (hD.sub (ws' := [(o, shE tr ta ac tc td cs hi), (ta, taE cT a)]) [0, 1] (by decide) rfl) rfl rfl ⟨Nat.le_of_ble_eq_true rfl, Nat.le_of_ble_eq_true rfl⟩ rfl hl.1 rfl (Nat.le_of_ble_eq_true rfl) dX8_ask_2 ⟨Nat.le_of_ble_eq_true rfl, Nat.le_of_ble_eq_true rfl⟩) hP hD hS hA [0, 1] [] [0, 1] rfl rfl (by decide) (by decide) rfl (by decide) (fun H locs hP hD hS => ?_)
  refine lv_astoreN (lv' := [(4, .null), (0, .ref o), (1, .int t), (2, .int w), (3, .int d)]) hx hb dX8_ask_5 hl (by decide) rfl (fun ls hl => ?_)
  refine lv_aloadN hx hb dX8_ask_7 (lv_at hl 0 rfl) ?_
  refine lv_ifnullN (tgt := 32) hx hb dX8_ask_9 (by decide) ?_
  refine lv_bipush (v := (-2)) hx hb dX8_ask_32 (by decide) ?_
  exact hs_iret hx hb hrt hlocks hK hP hD hS dX8_ask_34 (rfl) (rfl)

set_option maxHeartbeats 400000 in
set_option maxRecDepth 100000 in
theorem c_X8_hire_none (l : Launch) (D : va_G) (cN cT cJ : ClassId) (o ta ac tr nb : Nat) (tc td cs hi : Int32) (a : Nat → Option Nat) (acc : Nat → Int64) (st : TS) (t : Int32) (hat : tAt a t = none) (cm : Int32) : CM l D yX8_hire cX8_hire 5 (some .int) { frames := 1, cells := 0, slots := 0, locals := 21 } (tyS cN cT cJ) [.ref o, .int t, .int cm] [(o, shE tr ta ac tc td cs hi), (ta, taE cT a)] (hs_QI D (tyS cN cT cJ) (-2) [(o, shE tr ta ac tc td cs hi), (ta, taE cT a)]) := by
  refine CM.of (by decide) (Nat.le_of_ble_eq_true rfl) ?_
  intro p e s m below meth c A ls hx hb hrt hml htg hown hlocks hnm hA hK hP hD hS hl
  have hown : s.vm.findClass RX8 = some m.cls := hown
  have hl : lv_has ls 5 [(0, .ref o), (1, .int t), (2, .int cm)] := hl
  have SF : CallFix p m c cX8_hire 5 s _ hs_gt RX8 := ⟨hx, hb, hml, hown, htg⟩
  refine lv_aload_n hx hb dX8_hire_0 rfl (lv_at hl 0 rfl) ?_
  refine lv_iload_n hx hb dX8_hire_1 rfl (lv_at hl 1 rfl) ?_
  refine hs_callq (wc := [(o, shE tr ta ac tc td cs hi), (ta, taE cT a)]) (w1 := [(o, shE tr ta ac tc td cs hi), (ta, taE cT a)]) (wr := []) (ws2 := [(o, shE tr ta ac tc td cs hi), (ta, taE cT a)]) (hs_runV (q0 := 0) SF cal_X8_toolAt tw_237 (c_X8_toolAt l D cN cT cJ o ta ac tr nb tc td cs hi a acc st t none hat) hK (hP.sub (ws' := [(o, shE tr ta ac tc td cs hi), (ta, taE cT a)]) [0, 1] rfl) (hD.sub (ws' := [(o, shE tr ta ac tc td cs hi), (ta, taE cT a)]) [0, 1] (by decide) rfl) rfl rfl ⟨Nat.le_of_ble_eq_true rfl, Nat.le_of_ble_eq_true rfl⟩ rfl hl.1 rfl (Nat.le_of_ble_eq_true rfl) dX8_hire_2 ⟨Nat.le_of_ble_eq_true rfl, Nat.le_of_ble_eq_true rfl⟩) hP hD hS hA [0, 1] [] [0, 1] rfl rfl (by decide) (by decide) rfl (by decide) (fun H locs hP hD hS => ?_)
  refine lv_astore_nN (lv' := [(3, .null), (0, .ref o), (1, .int t), (2, .int cm)]) hx hb dX8_hire_5 rfl hl (by decide) rfl (fun ls hl => ?_)
  refine lv_aload_nN hx hb dX8_hire_6 rfl (lv_at hl 0 rfl) ?_
  refine lv_ifnullN (tgt := 17) hx hb dX8_hire_7 (by decide) ?_
  refine lv_bipush (v := (-2)) hx hb dX8_hire_17 (by decide) ?_
  exact hs_iret hx hb hrt hlocks hK hP hD hS dX8_hire_19 (rfl) (rfl)

set_option maxHeartbeats 400000 in
set_option maxRecDepth 100000 in
theorem c_X8_back_none (l : Launch) (D : va_G) (cN cT cJ : ClassId) (o ta ac tr nb : Nat) (tc td cs hi : Int32) (a : Nat → Option Nat) (acc : Nat → Int64) (st : TS) (t : Int32) (hat : tAt a t = none) : CM l D yX8_back cX8_back 5 (some .int) { frames := 1, cells := 0, slots := 0, locals := 21 } (tyS cN cT cJ) [.ref o, .int t] [(o, shE tr ta ac tc td cs hi), (ta, taE cT a)] (hs_QI D (tyS cN cT cJ) (-2) [(o, shE tr ta ac tc td cs hi), (ta, taE cT a)]) := by
  refine CM.of (by decide) (Nat.le_of_ble_eq_true rfl) ?_
  intro p e s m below meth c A ls hx hb hrt hml htg hown hlocks hnm hA hK hP hD hS hl
  have hown : s.vm.findClass RX8 = some m.cls := hown
  have hl : lv_has ls 5 [(0, .ref o), (1, .int t)] := hl
  have SF : CallFix p m c cX8_back 5 s _ hs_gt RX8 := ⟨hx, hb, hml, hown, htg⟩
  refine lv_aload_n hx hb dX8_back_0 rfl (lv_at hl 0 rfl) ?_
  refine lv_iload_n hx hb dX8_back_1 rfl (lv_at hl 1 rfl) ?_
  refine hs_callq (wc := [(o, shE tr ta ac tc td cs hi), (ta, taE cT a)]) (w1 := [(o, shE tr ta ac tc td cs hi), (ta, taE cT a)]) (wr := []) (ws2 := [(o, shE tr ta ac tc td cs hi), (ta, taE cT a)]) (hs_runV (q0 := 0) SF cal_X8_toolAt tw_237 (c_X8_toolAt l D cN cT cJ o ta ac tr nb tc td cs hi a acc st t none hat) hK (hP.sub (ws' := [(o, shE tr ta ac tc td cs hi), (ta, taE cT a)]) [0, 1] rfl) (hD.sub (ws' := [(o, shE tr ta ac tc td cs hi), (ta, taE cT a)]) [0, 1] (by decide) rfl) rfl rfl ⟨Nat.le_of_ble_eq_true rfl, Nat.le_of_ble_eq_true rfl⟩ rfl hl.1 rfl (Nat.le_of_ble_eq_true rfl) dX8_back_2 ⟨Nat.le_of_ble_eq_true rfl, Nat.le_of_ble_eq_true rfl⟩) hP hD hS hA [0, 1] [] [0, 1] rfl rfl (by decide) (by decide) rfl (by decide) (fun H locs hP hD hS => ?_)
  refine lv_astore_nN (lv' := [(2, .null), (0, .ref o), (1, .int t)]) hx hb dX8_back_5 rfl hl (by decide) rfl (fun ls hl => ?_)
  refine lv_aload_nN hx hb dX8_back_6 rfl (lv_at hl 0 rfl) ?_
  refine lv_ifnonnullN hx hb dX8_back_7 ?_
  refine lv_bipush (v := (-2)) hx hb dX8_back_10 (by decide) ?_
  exact hs_iret hx hb hrt hlocks hK hP hD hS dX8_back_12 (rfl) (rfl)

set_option maxHeartbeats 400000 in
set_option maxRecDepth 100000 in
theorem c_X8_service_none (l : Launch) (D : va_G) (cN cT cJ : ClassId) (o ta ac tr nb : Nat) (tc td cs hi : Int32) (a : Nat → Option Nat) (acc : Nat → Int64) (st : TS) (t : Int32) (hat : tAt a t = none) : CM l D yX8_service cX8_service 4 (some .int) { frames := 1, cells := 0, slots := 0, locals := 21 } (tyS cN cT cJ) [.ref o, .int t] [(o, shE tr ta ac tc td cs hi), (ta, taE cT a)] (hs_QI D (tyS cN cT cJ) (-2) [(o, shE tr ta ac tc td cs hi), (ta, taE cT a)]) := by
  refine CM.of (by decide) (Nat.le_of_ble_eq_true rfl) ?_
  intro p e s m below meth c A ls hx hb hrt hml htg hown hlocks hnm hA hK hP hD hS hl
  have hown : s.vm.findClass RX8 = some m.cls := hown
  have hl : lv_has ls 4 [(0, .ref o), (1, .int t)] := hl
  have SF : CallFix p m c cX8_service 4 s _ hs_gt RX8 := ⟨hx, hb, hml, hown, htg⟩
  refine lv_aload_n hx hb dX8_service_0 rfl (lv_at hl 0 rfl) ?_
  refine lv_iload_n hx hb dX8_service_1 rfl (lv_at hl 1 rfl) ?_
  refine hs_callq (wc := [(o, shE tr ta ac tc td cs hi), (ta, taE cT a)]) (w1 := [(o, shE tr ta ac tc td cs hi), (ta, taE cT a)]) (wr := []) (ws2 := [(o, shE tr ta ac tc td cs hi), (ta, taE cT a)]) (hs_runV (q0 := 0) SF cal_X8_toolAt tw_237 (c_X8_toolAt l D cN cT cJ o ta ac tr nb tc td cs hi a acc st t none hat) hK (hP.sub (ws' := [(o, shE tr ta ac tc td cs hi), (ta, taE cT a)]) [0, 1] rfl) (hD.sub (ws' := [(o, shE tr ta ac tc td cs hi), (ta, taE cT a)]) [0, 1] (by decide) rfl) rfl rfl ⟨Nat.le_of_ble_eq_true rfl, Nat.le_of_ble_eq_true rfl⟩ rfl hl.1 rfl (Nat.le_of_ble_eq_true rfl) dX8_service_2 ⟨Nat.le_of_ble_eq_true rfl, Nat.le_of_ble_eq_true rfl⟩) hP hD hS hA [0, 1] [] [0, 1] rfl rfl (by decide) (by decide) rfl (by decide) (fun H locs hP hD hS => ?_)
  refine lv_astore_nN (lv' := [(2, .null), (0, .ref o), (1, .int t)]) hx hb dX8_service_5 rfl hl (by decide) rfl (fun ls hl => ?_)
  refine lv_aload_nN hx hb dX8_service_6 rfl (lv_at hl 0 rfl) ?_
  refine lv_ifnonnullN hx hb dX8_service_7 ?_
  refine lv_bipush (v := (-2)) hx hb dX8_service_10 (by decide) ?_
  exact hs_iret hx hb hrt hlocks hK hP hD hS dX8_service_12 (rfl) (rfl)

set_option maxHeartbeats 400000 in
set_option maxRecDepth 100000 in
theorem c_X8_told_none (l : Launch) (D : va_G) (cN cT cJ : ClassId) (o ta ac tr nb : Nat) (tc td cs hi : Int32) (a : Nat → Option Nat) (acc : Nat → Int64) (st : TS) (t : Int32) (hat : tAt a t = none) (w : Int32) : CM l D yX8_told cX8_told 4 (some .int) { frames := 1, cells := 0, slots := 0, locals := 21 } (tyS cN cT cJ) [.ref o, .int t, .int w] [(o, shE tr ta ac tc td cs hi), (ta, taE cT a)] (hs_QI D (tyS cN cT cJ) (-2) [(o, shE tr ta ac tc td cs hi), (ta, taE cT a)]) := by
  refine CM.of (by decide) (Nat.le_of_ble_eq_true rfl) ?_
  intro p e s m below meth c A ls hx hb hrt hml htg hown hlocks hnm hA hK hP hD hS hl
  have hown : s.vm.findClass RX8 = some m.cls := hown
  have hl : lv_has ls 4 [(0, .ref o), (1, .int t), (2, .int w)] := hl
  have SF : CallFix p m c cX8_told 4 s _ hs_gt RX8 := ⟨hx, hb, hml, hown, htg⟩
  refine lv_aload_n hx hb dX8_told_0 rfl (lv_at hl 0 rfl) ?_
  refine lv_iload_n hx hb dX8_told_1 rfl (lv_at hl 1 rfl) ?_
  refine hs_callq (wc := [(o, shE tr ta ac tc td cs hi), (ta, taE cT a)]) (w1 := [(o, shE tr ta ac tc td cs hi), (ta, taE cT a)]) (wr := []) (ws2 := [(o, shE tr ta ac tc td cs hi), (ta, taE cT a)]) (hs_runV (q0 := 0) SF cal_X8_toolAt tw_237 (c_X8_toolAt l D cN cT cJ o ta ac tr nb tc td cs hi a acc st t none hat) hK (hP.sub (ws' := [(o, shE tr ta ac tc td cs hi), (ta, taE cT a)]) [0, 1] rfl) (hD.sub (ws' := [(o, shE tr ta ac tc td cs hi), (ta, taE cT a)]) [0, 1] (by decide) rfl) rfl rfl ⟨Nat.le_of_ble_eq_true rfl, Nat.le_of_ble_eq_true rfl⟩ rfl hl.1 rfl (Nat.le_of_ble_eq_true rfl) dX8_told_2 ⟨Nat.le_of_ble_eq_true rfl, Nat.le_of_ble_eq_true rfl⟩) hP hD hS hA [0, 1] [] [0, 1] rfl rfl (by decide) (by decide) rfl (by decide) (fun H locs hP hD hS => ?_)
  refine lv_astore_nN (lv' := [(3, .null), (0, .ref o), (1, .int t), (2, .int w)]) hx hb dX8_told_5 rfl hl (by decide) rfl (fun ls hl => ?_)
  refine lv_aload_nN hx hb dX8_told_6 rfl (lv_at hl 0 rfl) ?_
  refine lv_ifnonnullN hx hb dX8_told_7 ?_
  refine lv_bipush (v := (-2)) hx hb dX8_told_10 (by decide) ?_
  exact hs_iret hx hb hrt hlocks hK hP hD hS dX8_told_12 (rfl) (rfl)

def askF (k : Nat) (w rt vl hr d : Int32) : Int32 := if wi w 0 5 = 0 then -2 else if wi d 0 400 = 0 then -2 else if hasA k w = 0 then -3 else ansF k w rt vl hr d
def askT (k : Nat) (w d : Int32) (st : TS) : TS := if wi w 0 5 = 0 then st else if wi d 0 400 = 0 then st else if hasA k w = 0 then (0, 0, st.2.2) else ((lvs (ansN k w) (0, 1, st.2.2)).1, 0, (lvs (ansN k w) (0, 1, st.2.2)).2.2)
def hireF (k : Nat) (vl hr hw cm : Int32) : Int32 := if wi cm 0 5 = 0 then -2 else if ¬ hw = 0 then -3 else if duF k hr 1 = 1 then -3 else dpF k vl
def toldF (k : Nat) (kd hr hw cu si w : Int32) : Int32 := if w = 0 then kd else if w = 1 then hr else if w = 2 then hw else if w = 3 then cu else if w = 4 then si else if w = 5 then (if isI k = 0 then 0 else 1) else if w = 6 then (if isS k = 0 then 0 else 1) else -2
def hireOk (k : Nat) (hr hw cm : Int32) : Prop := ¬ wi cm 0 5 = 0 ∧ hw = 0 ∧ ¬ duF k hr 1 = 1
def daysF (td si : Int32) : Int32 := if 1 < td - si then td - si else 1
def priceF (k : Nat) (rt vl hr d : Int32) : Int32 := chF k rt vl d + pmF k vl hr d
def hoursF (k : Nat) (hr d : Int32) : Int32 := hr + weF k hr d
def howF (k : Nat) (hr d : Int32) : Int32 := if ckF k (hoursF k hr d) ≤ 9 then 0 else 2

set_option maxHeartbeats 400000 in
set_option maxRecDepth 100000 in
theorem c_X8_ask_some (l : Launch) (D : va_G) (cN cT cJ : ClassId) (o ta ac tr nb : Nat) (tc td cs hi : Int32) (a : Nat → Option Nat) (acc : Nat → Int64) (st : TS) (h k : Nat) (hk : k < 7) (kd rt vl hr hw cu si : Int32) (hst : okT st) (hop : st.2.1 = 0) (t : Int32) (hat : tAt a t = some h) (w d : Int32) : CM l D yX8_ask cX8_ask 6 (some .int) { frames := 6, cells := 0, slots := 0, locals := 124 } (tyS cN cT cJ) [.ref o, .int t, .int w, .int d] [(o, shE tr ta ac tc td cs hi), (ta, taE cT a), (ac, acE cJ acc), (tr, trE nb st), (nb, nbE cN st), (h, tlE k tr kd rt vl hr hw cu si)] (hs_QI D (tyS cN cT cJ) (askF k w rt vl hr d) [(o, shE tr ta ac tc td cs hi), (ta, taE cT a), (ac, acE cJ acc), (tr, trE nb (askT k w d st)), (nb, nbE cN (askT k w d st)), (h, tlE k tr kd rt vl hr hw cu si)]) := by
  refine CM.of (by decide) (Nat.le_of_ble_eq_true rfl) ?_
  intro p e s m below meth c A ls hx hb hrt hml htg hown hlocks hnm hA hK hP hD hS hl
  have hown : s.vm.findClass RX8 = some m.cls := hown
  have hl : lv_has ls 6 [(0, .ref o), (1, .int t), (2, .int w), (3, .int d)] := hl
  have SF : CallFix p m c cX8_ask 6 s _ hs_gt RX8 := ⟨hx, hb, hml, hown, htg⟩
  refine lv_aload_n hx hb dX8_ask_0 rfl (lv_at hl 0 rfl) ?_
  refine lv_iload_n hx hb dX8_ask_1 rfl (lv_at hl 1 rfl) ?_
  refine hs_callq (wc := [(o, shE tr ta ac tc td cs hi), (ta, taE cT a)]) (w1 := [(o, shE tr ta ac tc td cs hi), (ta, taE cT a)]) (wr := [(ac, acE cJ acc), (tr, trE nb st), (nb, nbE cN st), (h, tlE k tr kd rt vl hr hw cu si)]) (ws2 := [(o, shE tr ta ac tc td cs hi), (ta, taE cT a), (ac, acE cJ acc), (tr, trE nb st), (nb, nbE cN st), (h, tlE k tr kd rt vl hr hw cu si)]) (hs_runV (q0 := 0) SF cal_X8_toolAt tw_237 (c_X8_toolAt l D cN cT cJ o ta ac tr nb tc td cs hi a acc st t (some h) hat) hK (hP.sub (ws' := [(o, shE tr ta ac tc td cs hi), (ta, taE cT a)]) [0, 1] rfl) (hD.sub (ws' := [(o, shE tr ta ac tc td cs hi), (ta, taE cT a)]) [0, 1] (by decide) rfl) rfl rfl ⟨Nat.le_of_ble_eq_true rfl, Nat.le_of_ble_eq_true rfl⟩ rfl hl.1 rfl (Nat.le_of_ble_eq_true rfl) dX8_ask_2 ⟨Nat.le_of_ble_eq_true rfl, Nat.le_of_ble_eq_true rfl⟩) hP hD hS hA [0, 1] [2, 3, 4, 5] [4, 5, 0, 1, 2, 3] rfl rfl (by decide) (by decide) rfl (by decide) (fun H locs hP hD hS => ?_)
  refine lv_astore (lv' := [(4, .ref h), (0, .ref o), (1, .int t), (2, .int w), (3, .int d)]) hx hb dX8_ask_5 hl (by decide) rfl (fun ls hl => ?_)
  refine lv_aload hx hb dX8_ask_7 (lv_at hl 0 rfl) ?_
  refine lv_ifnull hx hb dX8_ask_9 ?_
  refine lv_iload_n hx hb dX8_ask_12 rfl (lv_at hl 3 rfl) ?_
  refine lv_iconst (v := 0) hx hb dX8_ask_13 (by decide) ?_
  refine lv_iconst (v := 5) hx hb dX8_ask_14 (by decide) ?_
  refine hs_calli (wc := []) (w1 := []) (wr := [(o, shE tr ta ac tc td cs hi), (ta, taE cT a), (ac, acE cJ acc), (tr, trE nb st), (nb, nbE cN st), (h, tlE k tr kd rt vl hr hw cu si)]) (ws2 := [(o, shE tr ta ac tc td cs hi), (ta, taE cT a), (ac, acE cJ acc), (tr, trE nb st), (nb, nbE cN st), (h, tlE k tr kd rt vl hr hw cu si)]) (hs_runS SF cal_X8_isWithin tw_82 (c_X8_isWithin l D cN cT cJ w 0 5) hK (hP.sub (ws' := []) [] rfl) (hD.sub (ws' := []) [] (by decide) rfl) ⟨Nat.le_of_ble_eq_true rfl, Nat.le_of_ble_eq_true rfl⟩ rfl hl.1 rfl (Nat.le_of_ble_eq_true rfl) dX8_ask_15 ⟨Nat.le_of_ble_eq_true rfl, Nat.le_of_ble_eq_true rfl⟩) hP hD hS hA [] [0, 1, 2, 3, 4, 5] [0, 1, 2, 3, 4, 5] rfl rfl (by decide) (by decide) rfl (by decide) (fun H locs hP hD hS => ?_)
  refine lv_if_eq (tgt := 32) hx hb dX8_ask_18 (by decide) (fun c18 => ?_) (fun c18 => ?_)
  · refine lv_bipush (v := (-2)) hx hb dX8_ask_32 (by decide) ?_
    exact hs_iret hx hb hrt hlocks hK hP hD hS dX8_ask_34 (by unfold askF; first | rw [if_pos c18] | rw [if_neg c18, if_pos c29] | rw [if_neg c18, if_neg c29, if_pos c48] | rw [if_neg c18, if_neg c29, if_neg c48]) (by unfold askT; first | rw [if_pos c18] | rw [if_neg c18, if_pos c29] | rw [if_neg c18, if_neg c29, if_pos c48] | rw [if_neg c18, if_neg c29, if_neg c48])
  · refine lv_iload_n hx hb dX8_ask_21 rfl (lv_at hl 4 rfl) ?_
    refine lv_iconst (v := 0) hx hb dX8_ask_22 (by decide) ?_
    refine lv_sipush (v := 400) hx hb dX8_ask_23 (by decide) ?_
    refine hs_calli (wc := []) (w1 := []) (wr := [(o, shE tr ta ac tc td cs hi), (ta, taE cT a), (ac, acE cJ acc), (tr, trE nb st), (nb, nbE cN st), (h, tlE k tr kd rt vl hr hw cu si)]) (ws2 := [(o, shE tr ta ac tc td cs hi), (ta, taE cT a), (ac, acE cJ acc), (tr, trE nb st), (nb, nbE cN st), (h, tlE k tr kd rt vl hr hw cu si)]) (hs_runS SF cal_X8_isWithin tw_82 (c_X8_isWithin l D cN cT cJ d 0 400) hK (hP.sub (ws' := []) [] rfl) (hD.sub (ws' := []) [] (by decide) rfl) ⟨Nat.le_of_ble_eq_true rfl, Nat.le_of_ble_eq_true rfl⟩ rfl hl.1 rfl (Nat.le_of_ble_eq_true rfl) dX8_ask_26 ⟨Nat.le_of_ble_eq_true rfl, Nat.le_of_ble_eq_true rfl⟩) hP hD hS hA [] [0, 1, 2, 3, 4, 5] [0, 1, 2, 3, 4, 5] rfl rfl (by decide) (by decide) rfl (by decide) (fun H locs hP hD hS => ?_)
    refine lv_if_ne (tgt := 35) hx hb dX8_ask_29 (by decide) (fun c29 => ?_) (fun c29 => ?_)
    · refine lv_aload_n hx hb dX8_ask_35 rfl (lv_at hl 1 rfl) ?_
      refine va_get (D := D) (ci := 8) (v := .ref tr) (C := RX8) (T := TX8) (N := 7) hx hb htg in_X8 hown hK hP 0 rfl rfl 0 (by decide) (htg _ tw_55) (fun _ h9 => h9) rfl dX8_ask_36 ?_
      refine hs_callv (wc := [(tr, trE nb st), (nb, nbE cN st)]) (w1 := [(tr, trE nb (0, 1, st.2.2)), (nb, nbE cN (0, 1, st.2.2))]) (wr := [(o, shE tr ta ac tc td cs hi), (ta, taE cT a), (ac, acE cJ acc), (h, tlE k tr kd rt vl hr hw cu si)]) (ws2 := [(o, shE tr ta ac tc td cs hi), (ta, taE cT a), (ac, acE cJ acc), (tr, trE nb (0, 1, st.2.2)), (nb, nbE cN (0, 1, st.2.2)), (h, tlE k tr kd rt vl hr hw cu si)]) (hs_runV (q0 := 0) SF cal_X6_begin tw_241 (c_X6_begin l D cN cT cJ tr nb st) hK (hP.sub (ws' := [(tr, trE nb st), (nb, nbE cN st)]) [3, 4] rfl) (hD.sub (ws' := [(tr, trE nb st), (nb, nbE cN st)]) [3, 4] (by decide) rfl) rfl rfl ⟨Nat.le_of_ble_eq_true rfl, Nat.le_of_ble_eq_true rfl⟩ rfl hl.1 rfl (Nat.le_of_ble_eq_true rfl) dX8_ask_39 ⟨Nat.le_of_ble_eq_true rfl, Nat.le_of_ble_eq_true rfl⟩) hP hD hS hA [3, 4] [0, 1, 2, 5] [0, 1, 2, 4, 5, 3] rfl rfl (by decide) (by decide) rfl (by decide) (fun H locs hP hD hS => ?_)
      refine lv_aload hx hb dX8_ask_42 (lv_at hl 0 rfl) ?_
      refine lv_iload_n hx hb dX8_ask_44 rfl (lv_at hl 3 rfl) ?_
      refine hs_calli (wc := [(h, tlE k tr kd rt vl hr hw cu si), (tr, trE nb (0, 1, st.2.2)), (nb, nbE cN (0, 1, st.2.2))]) (w1 := [(h, tlE k tr kd rt vl hr hw cu si), (tr, trE nb (0, 1, st.2.2)), (nb, nbE cN (0, 1, st.2.2))]) (wr := [(o, shE tr ta ac tc td cs hi), (ta, taE cT a), (ac, acE cJ acc)]) (ws2 := [(o, shE tr ta ac tc td cs hi), (ta, taE cT a), (ac, acE cJ acc), (tr, trE nb (0, 1, st.2.2)), (nb, nbE cN (0, 1, st.2.2)), (h, tlE k tr kd rt vl hr hw cu si)]) (hs_runS SF cal_X8_hasAnswer tw_245 (c_X8_hasAnswer l D cN cT cJ h tr nb k kd rt vl hr hw cu si (0, 1, st.2.2) (okT_0 _) hk w) hK (hP.sub (ws' := [(h, tlE k tr kd rt vl hr hw cu si), (tr, trE nb (0, 1, st.2.2)), (nb, nbE cN (0, 1, st.2.2))]) [5, 3, 4] rfl) (hD.sub (ws' := [(h, tlE k tr kd rt vl hr hw cu si), (tr, trE nb (0, 1, st.2.2)), (nb, nbE cN (0, 1, st.2.2))]) [5, 3, 4] (by decide) rfl) ⟨Nat.le_of_ble_eq_true rfl, Nat.le_of_ble_eq_true rfl⟩ rfl hl.1 rfl (Nat.le_of_ble_eq_true rfl) dX8_ask_45 ⟨Nat.le_of_ble_eq_true rfl, Nat.le_of_ble_eq_true rfl⟩) hP hD hS hA [5, 3, 4] [0, 1, 2] [0, 1, 2, 4, 5, 3] rfl rfl (by decide) (by decide) rfl (by decide) (fun H locs hP hD hS => ?_)
      refine lv_if_eq (tgt := 61) hx hb dX8_ask_48 (by decide) (fun c48 => ?_) (fun c48 => ?_)
      · refine lv_bipush (v := (-3)) hx hb dX8_ask_61 (by decide) ?_
        refine lv_istore (lv' := [(5, .int (-3)), (4, .ref h), (0, .ref o), (1, .int t), (2, .int w), (3, .int d)]) hx hb dX8_ask_63 hl (by decide) rfl (fun ls hl => ?_)
        refine lv_aload_n hx hb dX8_ask_65 rfl (lv_at hl 2 rfl) ?_
        refine va_get (D := D) (ci := 8) (v := .ref tr) (C := RX8) (T := TX8) (N := 7) hx hb htg in_X8 hown hK hP 0 rfl rfl 0 (by decide) (htg _ tw_55) (fun _ h9 => h9) rfl dX8_ask_66 ?_
        refine hs_callv (wc := [(tr, trE nb (0, 1, st.2.2)), (nb, nbE cN (0, 1, st.2.2))]) (w1 := [(tr, trE nb ((0, 1, st.2.2).1, 0, (0, 1, st.2.2).2.2)), (nb, nbE cN ((0, 1, st.2.2).1, 0, (0, 1, st.2.2).2.2))]) (wr := [(o, shE tr ta ac tc td cs hi), (ta, taE cT a), (ac, acE cJ acc), (h, tlE k tr kd rt vl hr hw cu si)]) (ws2 := [(o, shE tr ta ac tc td cs hi), (ta, taE cT a), (ac, acE cJ acc), (tr, trE nb ((0, 1, st.2.2).1, 0, (0, 1, st.2.2).2.2)), (nb, nbE cN ((0, 1, st.2.2).1, 0, (0, 1, st.2.2).2.2)), (h, tlE k tr kd rt vl hr hw cu si)]) (hs_runV (q0 := 0) SF cal_X6_end tw_428 (c_X6_end l D cN cT cJ tr nb (0, 1, st.2.2)) hK (hP.sub (ws' := [(tr, trE nb (0, 1, st.2.2)), (nb, nbE cN (0, 1, st.2.2))]) [3, 4] rfl) (hD.sub (ws' := [(tr, trE nb (0, 1, st.2.2)), (nb, nbE cN (0, 1, st.2.2))]) [3, 4] (by decide) rfl) rfl rfl ⟨Nat.le_of_ble_eq_true rfl, Nat.le_of_ble_eq_true rfl⟩ rfl hl.1 rfl (Nat.le_of_ble_eq_true rfl) dX8_ask_69 ⟨Nat.le_of_ble_eq_true rfl, Nat.le_of_ble_eq_true rfl⟩) hP hD hS hA [3, 4] [0, 1, 2, 5] [0, 1, 2, 4, 5, 3] rfl rfl (by decide) (by decide) rfl (by decide) (fun H locs hP hD hS => ?_)
        refine lv_iload hx hb dX8_ask_72 (lv_at hl 0 rfl) ?_
        exact hs_iret hx hb hrt hlocks hK hP hD hS dX8_ask_74 (by unfold askF; first | rw [if_pos c18] | rw [if_neg c18, if_pos c29] | rw [if_neg c18, if_neg c29, if_pos c48] | rw [if_neg c18, if_neg c29, if_neg c48]) (by unfold askT; first | rw [if_pos c18] | rw [if_neg c18, if_pos c29] | rw [if_neg c18, if_neg c29, if_pos c48] | rw [if_neg c18, if_neg c29, if_neg c48])
      · refine lv_aload hx hb dX8_ask_51 (lv_at hl 0 rfl) ?_
        refine lv_iload_n hx hb dX8_ask_53 rfl (lv_at hl 3 rfl) ?_
        refine lv_iload_n hx hb dX8_ask_54 rfl (lv_at hl 4 rfl) ?_
        refine hs_calli (wc := [(h, tlE k tr kd rt vl hr hw cu si), (tr, trE nb (0, 1, st.2.2)), (nb, nbE cN (0, 1, st.2.2))]) (w1 := [(h, tlE k tr kd rt vl hr hw cu si), (tr, trE nb (lvs (ansN k w) (0, 1, st.2.2))), (nb, nbE cN (lvs (ansN k w) (0, 1, st.2.2)))]) (wr := [(o, shE tr ta ac tc td cs hi), (ta, taE cT a), (ac, acE cJ acc)]) (ws2 := [(o, shE tr ta ac tc td cs hi), (ta, taE cT a), (ac, acE cJ acc), (tr, trE nb (lvs (ansN k w) (0, 1, st.2.2))), (nb, nbE cN (lvs (ansN k w) (0, 1, st.2.2))), (h, tlE k tr kd rt vl hr hw cu si)]) (hs_runS SF cal_X8_answerOf tw_289 (c_X8_answerOf l D cN cT cJ h tr nb k kd rt vl hr hw cu si (0, 1, st.2.2) (okT_0 _) hk w d) hK (hP.sub (ws' := [(h, tlE k tr kd rt vl hr hw cu si), (tr, trE nb (0, 1, st.2.2)), (nb, nbE cN (0, 1, st.2.2))]) [5, 3, 4] rfl) (hD.sub (ws' := [(h, tlE k tr kd rt vl hr hw cu si), (tr, trE nb (0, 1, st.2.2)), (nb, nbE cN (0, 1, st.2.2))]) [5, 3, 4] (by decide) rfl) ⟨Nat.le_of_ble_eq_true rfl, Nat.le_of_ble_eq_true rfl⟩ rfl hl.1 rfl (Nat.le_of_ble_eq_true rfl) dX8_ask_55 ⟨Nat.le_of_ble_eq_true rfl, Nat.le_of_ble_eq_true rfl⟩) hP hD hS hA [5, 3, 4] [0, 1, 2] [0, 1, 2, 4, 5, 3] rfl rfl (by decide) (by decide) rfl (by decide) (fun H locs hP hD hS => ?_)
        refine lv_goto (tgt := 63) hx hb dX8_ask_58 (by decide) ?_
        refine lv_istore (lv' := [(5, .int (ansF k w rt vl hr d)), (4, .ref h), (0, .ref o), (1, .int t), (2, .int w), (3, .int d)]) hx hb dX8_ask_63 hl (by decide) rfl (fun ls hl => ?_)
        refine lv_aload_n hx hb dX8_ask_65 rfl (lv_at hl 2 rfl) ?_
        refine va_get (D := D) (ci := 8) (v := .ref tr) (C := RX8) (T := TX8) (N := 7) hx hb htg in_X8 hown hK hP 0 rfl rfl 0 (by decide) (htg _ tw_55) (fun _ h9 => h9) rfl dX8_ask_66 ?_
        refine hs_callv (wc := [(tr, trE nb (lvs (ansN k w) (0, 1, st.2.2))), (nb, nbE cN (lvs (ansN k w) (0, 1, st.2.2)))]) (w1 := [(tr, trE nb ((lvs (ansN k w) (0, 1, st.2.2)).1, 0, (lvs (ansN k w) (0, 1, st.2.2)).2.2)), (nb, nbE cN ((lvs (ansN k w) (0, 1, st.2.2)).1, 0, (lvs (ansN k w) (0, 1, st.2.2)).2.2))]) (wr := [(o, shE tr ta ac tc td cs hi), (ta, taE cT a), (ac, acE cJ acc), (h, tlE k tr kd rt vl hr hw cu si)]) (ws2 := [(o, shE tr ta ac tc td cs hi), (ta, taE cT a), (ac, acE cJ acc), (tr, trE nb ((lvs (ansN k w) (0, 1, st.2.2)).1, 0, (lvs (ansN k w) (0, 1, st.2.2)).2.2)), (nb, nbE cN ((lvs (ansN k w) (0, 1, st.2.2)).1, 0, (lvs (ansN k w) (0, 1, st.2.2)).2.2)), (h, tlE k tr kd rt vl hr hw cu si)]) (hs_runV (q0 := 0) SF cal_X6_end tw_428 (c_X6_end l D cN cT cJ tr nb (lvs (ansN k w) (0, 1, st.2.2))) hK (hP.sub (ws' := [(tr, trE nb (lvs (ansN k w) (0, 1, st.2.2))), (nb, nbE cN (lvs (ansN k w) (0, 1, st.2.2)))]) [3, 4] rfl) (hD.sub (ws' := [(tr, trE nb (lvs (ansN k w) (0, 1, st.2.2))), (nb, nbE cN (lvs (ansN k w) (0, 1, st.2.2)))]) [3, 4] (by decide) rfl) rfl rfl ⟨Nat.le_of_ble_eq_true rfl, Nat.le_of_ble_eq_true rfl⟩ rfl hl.1 rfl (Nat.le_of_ble_eq_true rfl) dX8_ask_69 ⟨Nat.le_of_ble_eq_true rfl, Nat.le_of_ble_eq_true rfl⟩) hP hD hS hA [3, 4] [0, 1, 2, 5] [0, 1, 2, 4, 5, 3] rfl rfl (by decide) (by decide) rfl (by decide) (fun H locs hP hD hS => ?_)
        refine lv_iload hx hb dX8_ask_72 (lv_at hl 0 rfl) ?_
        exact hs_iret hx hb hrt hlocks hK hP hD hS dX8_ask_74 (by unfold askF; first | rw [if_pos c18] | rw [if_neg c18, if_pos c29] | rw [if_neg c18, if_neg c29, if_pos c48] | rw [if_neg c18, if_neg c29, if_neg c48]) (by unfold askT; first | rw [if_pos c18] | rw [if_neg c18, if_pos c29] | rw [if_neg c18, if_neg c29, if_pos c48] | rw [if_neg c18, if_neg c29, if_neg c48])
    · refine lv_bipush (v := (-2)) hx hb dX8_ask_32 (by decide) ?_
      exact hs_iret hx hb hrt hlocks hK hP hD hS dX8_ask_34 (by unfold askF; first | rw [if_pos c18] | rw [if_neg c18, if_pos c29] | rw [if_neg c18, if_neg c29, if_pos c48] | rw [if_neg c18, if_neg c29, if_neg c48]) (by unfold askT; first | rw [if_pos c18] | rw [if_neg c18, if_pos c29] | rw [if_neg c18, if_neg c29, if_pos c48] | rw [if_neg c18, if_neg c29, if_neg c48])

set_option maxHeartbeats 400000 in
set_option maxRecDepth 100000 in
theorem c_X8_told_some (l : Launch) (D : va_G) (cN cT cJ : ClassId) (o ta ac tr nb : Nat) (tc td cs hi : Int32) (a : Nat → Option Nat) (acc : Nat → Int64) (st : TS) (h k : Nat) (hk : k < 7) (kd rt vl hr hw cu si : Int32) (hst : okT st) (hop : st.2.1 = 0) (t : Int32) (hat : tAt a t = some h) (w : Int32) : CM l D yX8_told cX8_told 4 (some .int) { frames := 1, cells := 0, slots := 0, locals := 21 } (tyS cN cT cJ) [.ref o, .int t, .int w] [(o, shE tr ta ac tc td cs hi), (ta, taE cT a), (ac, acE cJ acc), (tr, trE nb st), (nb, nbE cN st), (h, tlE k tr kd rt vl hr hw cu si)] (hs_QI D (tyS cN cT cJ) (toldF k kd hr hw cu si w) [(o, shE tr ta ac tc td cs hi), (ta, taE cT a), (ac, acE cJ acc), (tr, trE nb st), (nb, nbE cN st), (h, tlE k tr kd rt vl hr hw cu si)]) := by
  refine CM.of (by decide) (Nat.le_of_ble_eq_true rfl) ?_
  intro p e s m below meth c A ls hx hb hrt hml htg hown hlocks hnm hA hK hP hD hS hl
  have hown : s.vm.findClass RX8 = some m.cls := hown
  have hl : lv_has ls 4 [(0, .ref o), (1, .int t), (2, .int w)] := hl
  have SF : CallFix p m c cX8_told 4 s _ hs_gt RX8 := ⟨hx, hb, hml, hown, htg⟩
  refine lv_aload_n hx hb dX8_told_0 rfl (lv_at hl 0 rfl) ?_
  refine lv_iload_n hx hb dX8_told_1 rfl (lv_at hl 1 rfl) ?_
  refine hs_callq (wc := [(o, shE tr ta ac tc td cs hi), (ta, taE cT a)]) (w1 := [(o, shE tr ta ac tc td cs hi), (ta, taE cT a)]) (wr := [(ac, acE cJ acc), (tr, trE nb st), (nb, nbE cN st), (h, tlE k tr kd rt vl hr hw cu si)]) (ws2 := [(o, shE tr ta ac tc td cs hi), (ta, taE cT a), (ac, acE cJ acc), (tr, trE nb st), (nb, nbE cN st), (h, tlE k tr kd rt vl hr hw cu si)]) (hs_runV (q0 := 0) SF cal_X8_toolAt tw_237 (c_X8_toolAt l D cN cT cJ o ta ac tr nb tc td cs hi a acc st t (some h) hat) hK (hP.sub (ws' := [(o, shE tr ta ac tc td cs hi), (ta, taE cT a)]) [0, 1] rfl) (hD.sub (ws' := [(o, shE tr ta ac tc td cs hi), (ta, taE cT a)]) [0, 1] (by decide) rfl) rfl rfl ⟨Nat.le_of_ble_eq_true rfl, Nat.le_of_ble_eq_true rfl⟩ rfl hl.1 rfl (Nat.le_of_ble_eq_true rfl) dX8_told_2 ⟨Nat.le_of_ble_eq_true rfl, Nat.le_of_ble_eq_true rfl⟩) hP hD hS hA [0, 1] [2, 3, 4, 5] [4, 5, 0, 1, 2, 3] rfl rfl (by decide) (by decide) rfl (by decide) (fun H locs hP hD hS => ?_)
  refine lv_astore_n (lv' := [(3, .ref h), (0, .ref o), (1, .int t), (2, .int w)]) hx hb dX8_told_5 rfl hl (by decide) rfl (fun ls hl => ?_)
  refine lv_aload_n hx hb dX8_told_6 rfl (lv_at hl 0 rfl) ?_
  refine lv_ifnonnull (tgt := 13) hx hb dX8_told_7 (by decide) ?_
  refine lv_iload_n hx hb dX8_told_13 rfl (lv_at hl 3 rfl) ?_
  by_cases w0 : w = 0
  · subst w0
    refine lv_tableIn (off := 42) (tgt := 56) hx hb dX8_told_14 (by decide) (by decide) (by decide) (by decide) ?_
    refine lv_aload_n hx hb dX8_told_56 rfl (lv_at hl 0 rfl) ?_
    refine va_get (D := D) (ci := (kc k)) (v := .int kd) (C := (kR k)) (T := TX5) (N := 8) hx hb htg (kc_in k) hown hK hP 5 rfl (kc_cl k) 1 (by decide) (htg _ tw_113) (fun _ h9 => h9) rfl dX8_told_57 ?_
    exact hs_iret hx hb hrt hlocks hK hP hD hS dX8_told_60 (by simp [toldF]) (rfl)
  by_cases w1 : w = 1
  · subst w1
    refine lv_tableIn (off := 47) (tgt := 61) hx hb dX8_told_14 (by decide) (by decide) (by decide) (by decide) ?_
    refine lv_aload_n hx hb dX8_told_61 rfl (lv_at hl 0 rfl) ?_
    refine va_get (D := D) (ci := (kc k)) (v := .int hr) (C := (kR k)) (T := TX5) (N := 8) hx hb htg (kc_in k) hown hK hP 5 rfl (kc_cl k) 4 (by decide) (htg _ tw_123) (fun _ h9 => h9) rfl dX8_told_62 ?_
    exact hs_iret hx hb hrt hlocks hK hP hD hS dX8_told_65 (by simp [toldF]) (rfl)
  by_cases w2 : w = 2
  · subst w2
    refine lv_tableIn (off := 52) (tgt := 66) hx hb dX8_told_14 (by decide) (by decide) (by decide) (by decide) ?_
    refine lv_aload_n hx hb dX8_told_66 rfl (lv_at hl 0 rfl) ?_
    refine va_get (D := D) (ci := (kc k)) (v := .int hw) (C := (kR k)) (T := TX5) (N := 8) hx hb htg (kc_in k) hown hK hP 5 rfl (kc_cl k) 5 (by decide) (htg _ tw_125) (fun _ h9 => h9) rfl dX8_told_67 ?_
    exact hs_iret hx hb hrt hlocks hK hP hD hS dX8_told_70 (by simp [toldF]) (rfl)
  by_cases w3 : w = 3
  · subst w3
    refine lv_tableIn (off := 57) (tgt := 71) hx hb dX8_told_14 (by decide) (by decide) (by decide) (by decide) ?_
    refine lv_aload_n hx hb dX8_told_71 rfl (lv_at hl 0 rfl) ?_
    refine va_get (D := D) (ci := (kc k)) (v := .int cu) (C := (kR k)) (T := TX5) (N := 8) hx hb htg (kc_in k) hown hK hP 5 rfl (kc_cl k) 6 (by decide) (htg _ tw_127) (fun _ h9 => h9) rfl dX8_told_72 ?_
    exact hs_iret hx hb hrt hlocks hK hP hD hS dX8_told_75 (by simp [toldF]) (rfl)
  by_cases w4 : w = 4
  · subst w4
    refine lv_tableIn (off := 62) (tgt := 76) hx hb dX8_told_14 (by decide) (by decide) (by decide) (by decide) ?_
    refine lv_aload_n hx hb dX8_told_76 rfl (lv_at hl 0 rfl) ?_
    refine va_get (D := D) (ci := (kc k)) (v := .int si) (C := (kR k)) (T := TX5) (N := 8) hx hb htg (kc_in k) hown hK hP 5 rfl (kc_cl k) 7 (by decide) (htg _ tw_129) (fun _ h9 => h9) rfl dX8_told_77 ?_
    exact hs_iret hx hb hrt hlocks hK hP hD hS dX8_told_80 (by simp [toldF]) (rfl)
  by_cases w5 : w = 5
  · subst w5
    refine lv_tableIn (off := 67) (tgt := 81) hx hb dX8_told_14 (by decide) (by decide) (by decide) (by decide) ?_
    refine lv_aload_n hx hb dX8_told_81 rfl (lv_at hl 0 rfl) ?_
    refine hs_calli (wc := [(h, tlE k tr kd rt vl hr hw cu si), (tr, trE nb st), (nb, nbE cN st)]) (w1 := [(h, tlE k tr kd rt vl hr hw cu si), (tr, trE nb st), (nb, nbE cN st)]) (wr := [(o, shE tr ta ac tc td cs hi), (ta, taE cT a), (ac, acE cJ acc)]) (ws2 := [(o, shE tr ta ac tc td cs hi), (ta, taE cT a), (ac, acE cJ acc), (tr, trE nb st), (nb, nbE cN st), (h, tlE k tr kd rt vl hr hw cu si)]) (V_isInsured cN cT cJ h tr nb k hk kd rt vl hr hw cu si st hst  SF tw_261 hK (hP.sub (ws' := [(h, tlE k tr kd rt vl hr hw cu si), (tr, trE nb st), (nb, nbE cN st)]) [5, 3, 4] rfl) (hD.sub (ws' := [(h, tlE k tr kd rt vl hr hw cu si), (tr, trE nb st), (nb, nbE cN st)]) [5, 3, 4] (by decide) rfl) ⟨Nat.le_of_ble_eq_true rfl, Nat.le_of_ble_eq_true rfl⟩ hl.1 (Nat.le_of_ble_eq_true rfl) dX8_told_82 ⟨Nat.le_of_ble_eq_true rfl, Nat.le_of_ble_eq_true rfl⟩) hP hD hS hA [5, 3, 4] [0, 1, 2] [0, 1, 2, 4, 5, 3] rfl rfl (by decide) (by decide) rfl (by decide) (fun H locs hP hD hS => ?_)
    refine lv_if_eq (tgt := 92) hx hb dX8_told_85 (by decide) (fun c85 => ?_) (fun c85 => ?_)
    · refine lv_iconst (v := 0) hx hb dX8_told_92 (by decide) ?_
      exact hs_iret hx hb hrt hlocks hK hP hD hS dX8_told_93 (by simp [toldF, c85]) (rfl)
    · refine lv_iconst (v := 1) hx hb dX8_told_88 (by decide) ?_
      refine lv_goto (tgt := 93) hx hb dX8_told_89 (by decide) ?_
      exact hs_iret hx hb hrt hlocks hK hP hD hS dX8_told_93 (by simp [toldF, c85]) (rfl)
  by_cases w6 : w = 6
  · subst w6
    refine lv_tableIn (off := 80) (tgt := 94) hx hb dX8_told_14 (by decide) (by decide) (by decide) (by decide) ?_
    refine lv_aload_n hx hb dX8_told_94 rfl (lv_at hl 0 rfl) ?_
    refine hs_calli (wc := [(h, tlE k tr kd rt vl hr hw cu si), (tr, trE nb st), (nb, nbE cN st)]) (w1 := [(h, tlE k tr kd rt vl hr hw cu si), (tr, trE nb st), (nb, nbE cN st)]) (wr := [(o, shE tr ta ac tc td cs hi), (ta, taE cT a), (ac, acE cJ acc)]) (ws2 := [(o, shE tr ta ac tc td cs hi), (ta, taE cT a), (ac, acE cJ acc), (tr, trE nb st), (nb, nbE cN st), (h, tlE k tr kd rt vl hr hw cu si)]) (V_isServiced cN cT cJ h tr nb k hk kd rt vl hr hw cu si st hst  SF tw_274 hK (hP.sub (ws' := [(h, tlE k tr kd rt vl hr hw cu si), (tr, trE nb st), (nb, nbE cN st)]) [5, 3, 4] rfl) (hD.sub (ws' := [(h, tlE k tr kd rt vl hr hw cu si), (tr, trE nb st), (nb, nbE cN st)]) [5, 3, 4] (by decide) rfl) ⟨Nat.le_of_ble_eq_true rfl, Nat.le_of_ble_eq_true rfl⟩ hl.1 (Nat.le_of_ble_eq_true rfl) dX8_told_95 ⟨Nat.le_of_ble_eq_true rfl, Nat.le_of_ble_eq_true rfl⟩) hP hD hS hA [5, 3, 4] [0, 1, 2] [0, 1, 2, 4, 5, 3] rfl rfl (by decide) (by decide) rfl (by decide) (fun H locs hP hD hS => ?_)
    refine lv_if_eq (tgt := 105) hx hb dX8_told_98 (by decide) (fun c98 => ?_) (fun c98 => ?_)
    · refine lv_iconst (v := 0) hx hb dX8_told_105 (by decide) ?_
      exact hs_iret hx hb hrt hlocks hK hP hD hS dX8_told_106 (by simp [toldF, c98]) (rfl)
    · refine lv_iconst (v := 1) hx hb dX8_told_101 (by decide) ?_
      refine lv_goto (tgt := 106) hx hb dX8_told_102 (by decide) ?_
      exact hs_iret hx hb hrt hlocks hK hP hD hS dX8_told_106 (by simp [toldF, c98]) (rfl)
  refine lv_tableOut (tgt := 107) hx hb dX8_told_14 (by have := lv_neT w0 (a := 0) (by decide); have := lv_neT w1 (a := 1) (by decide); have := lv_neT w2 (a := 2) (by decide); have := lv_neT w3 (a := 3) (by decide); have := lv_neT w4 (a := 4) (by decide); have := lv_neT w5 (a := 5) (by decide); have := lv_neT w6 (a := 6) (by decide); omega) (by decide) ?_
  refine lv_bipush (v := (-2)) hx hb dX8_told_107 (by decide) ?_
  exact hs_iret hx hb hrt hlocks hK hP hD hS dX8_told_109 (by simp [toldF, w0, w1, w2, w3, w4, w5, w6]) (rfl)

set_option maxHeartbeats 400000 in
set_option maxRecDepth 100000 in
theorem c_X8_hire_no (l : Launch) (D : va_G) (cN cT cJ : ClassId) (o ta ac tr nb : Nat) (tc td cs hi : Int32) (a : Nat → Option Nat) (acc : Nat → Int64) (st : TS) (h k : Nat) (hk : k < 7) (kd rt vl hr hw cu si : Int32) (hst : okT st) (hop : st.2.1 = 0) (t : Int32) (hat : tAt a t = some h) (cm : Int32) (hno : ¬ hireOk k hr hw cm) : CM l D yX8_hire cX8_hire 5 (some .int) { frames := 4, cells := 0, slots := 0, locals := 84 } (tyS cN cT cJ) [.ref o, .int t, .int cm] [(o, shE tr ta ac tc td cs hi), (ta, taE cT a), (ac, acE cJ acc), (tr, trE nb st), (nb, nbE cN st), (h, tlE k tr kd rt vl hr hw cu si)] (hs_QI D (tyS cN cT cJ) (hireF k vl hr hw cm) [(o, shE tr ta ac tc td cs hi), (ta, taE cT a), (ac, acE cJ acc), (tr, trE nb st), (nb, nbE cN st), (h, tlE k tr kd rt vl hr hw cu si)]) := by
  refine CM.of (by decide) (Nat.le_of_ble_eq_true rfl) ?_
  intro p e s m below meth c A ls hx hb hrt hml htg hown hlocks hnm hA hK hP hD hS hl
  have hown : s.vm.findClass RX8 = some m.cls := hown
  have hl : lv_has ls 5 [(0, .ref o), (1, .int t), (2, .int cm)] := hl
  have SF : CallFix p m c cX8_hire 5 s _ hs_gt RX8 := ⟨hx, hb, hml, hown, htg⟩
  refine lv_aload_n hx hb dX8_hire_0 rfl (lv_at hl 0 rfl) ?_
  refine lv_iload_n hx hb dX8_hire_1 rfl (lv_at hl 1 rfl) ?_
  refine hs_callq (wc := [(o, shE tr ta ac tc td cs hi), (ta, taE cT a)]) (w1 := [(o, shE tr ta ac tc td cs hi), (ta, taE cT a)]) (wr := [(ac, acE cJ acc), (tr, trE nb st), (nb, nbE cN st), (h, tlE k tr kd rt vl hr hw cu si)]) (ws2 := [(o, shE tr ta ac tc td cs hi), (ta, taE cT a), (ac, acE cJ acc), (tr, trE nb st), (nb, nbE cN st), (h, tlE k tr kd rt vl hr hw cu si)]) (hs_runV (q0 := 0) SF cal_X8_toolAt tw_237 (c_X8_toolAt l D cN cT cJ o ta ac tr nb tc td cs hi a acc st t (some h) hat) hK (hP.sub (ws' := [(o, shE tr ta ac tc td cs hi), (ta, taE cT a)]) [0, 1] rfl) (hD.sub (ws' := [(o, shE tr ta ac tc td cs hi), (ta, taE cT a)]) [0, 1] (by decide) rfl) rfl rfl ⟨Nat.le_of_ble_eq_true rfl, Nat.le_of_ble_eq_true rfl⟩ rfl hl.1 rfl (Nat.le_of_ble_eq_true rfl) dX8_hire_2 ⟨Nat.le_of_ble_eq_true rfl, Nat.le_of_ble_eq_true rfl⟩) hP hD hS hA [0, 1] [2, 3, 4, 5] [4, 5, 0, 1, 2, 3] rfl rfl (by decide) (by decide) rfl (by decide) (fun H locs hP hD hS => ?_)
  refine lv_astore_n (lv' := [(3, .ref h), (0, .ref o), (1, .int t), (2, .int cm)]) hx hb dX8_hire_5 rfl hl (by decide) rfl (fun ls hl => ?_)
  refine lv_aload_n hx hb dX8_hire_6 rfl (lv_at hl 0 rfl) ?_
  refine lv_ifnull hx hb dX8_hire_7 ?_
  refine lv_iload_n hx hb dX8_hire_10 rfl (lv_at hl 3 rfl) ?_
  refine hs_calli (wc := []) (w1 := []) (wr := [(o, shE tr ta ac tc td cs hi), (ta, taE cT a), (ac, acE cJ acc), (tr, trE nb st), (nb, nbE cN st), (h, tlE k tr kd rt vl hr hw cu si)]) (ws2 := [(o, shE tr ta ac tc td cs hi), (ta, taE cT a), (ac, acE cJ acc), (tr, trE nb st), (nb, nbE cN st), (h, tlE k tr kd rt vl hr hw cu si)]) (hs_runS SF cal_X8_isCustomer tw_444 (c_X8_isCustomer l D cN cT cJ cm) hK (hP.sub (ws' := []) [] rfl) (hD.sub (ws' := []) [] (by decide) rfl) ⟨Nat.le_of_ble_eq_true rfl, Nat.le_of_ble_eq_true rfl⟩ rfl hl.1 rfl (Nat.le_of_ble_eq_true rfl) dX8_hire_11 ⟨Nat.le_of_ble_eq_true rfl, Nat.le_of_ble_eq_true rfl⟩) hP hD hS hA [] [0, 1, 2, 3, 4, 5] [0, 1, 2, 3, 4, 5] rfl rfl (by decide) (by decide) rfl (by decide) (fun H locs hP hD hS => ?_)
  refine lv_if_ne (tgt := 20) hx hb dX8_hire_14 (by decide) (fun c14 => ?_) (fun c14 => ?_)
  · refine lv_aload_n hx hb dX8_hire_20 rfl (lv_at hl 0 rfl) ?_
    refine va_get (D := D) (ci := (kc k)) (v := .int hw) (C := (kR k)) (T := TX5) (N := 8) hx hb htg (kc_in k) hown hK hP 5 rfl (kc_cl k) 5 (by decide) (htg _ tw_125) (fun _ h9 => h9) rfl dX8_hire_21 ?_
    refine lv_if_ne (tgt := 36) hx hb dX8_hire_24 (by decide) (fun c24 => ?_) (fun c24 => ?_)
    · refine lv_bipush (v := (-3)) hx hb dX8_hire_36 (by decide) ?_
      exact hs_iret hx hb hrt hlocks hK hP hD hS dX8_hire_38 (by unfold hireF; first | rw [if_pos c14] | rw [if_neg c14, if_pos c24] | rw [if_neg c14, if_neg (fun q => q c24), if_pos c33]) (rfl)
    · refine lv_aload_n hx hb dX8_hire_27 rfl (lv_at hl 0 rfl) ?_
      refine lv_iconst (v := 1) hx hb dX8_hire_28 (by decide) ?_
      refine hs_calli (wc := [(h, tlE k tr kd rt vl hr hw cu si), (tr, trE nb st), (nb, nbE cN st)]) (w1 := [(h, tlE k tr kd rt vl hr hw cu si), (tr, trE nb (lvs (duN k) st)), (nb, nbE cN (lvs (duN k) st))]) (wr := [(o, shE tr ta ac tc td cs hi), (ta, taE cT a), (ac, acE cJ acc)]) (ws2 := [(o, shE tr ta ac tc td cs hi), (ta, taE cT a), (ac, acE cJ acc), (tr, trE nb (lvs (duN k) st)), (nb, nbE cN (lvs (duN k) st)), (h, tlE k tr kd rt vl hr hw cu si)]) (V_due cN cT cJ h tr nb k hk kd rt vl hr hw cu si st hst 1 SF tw_415 hK (hP.sub (ws' := [(h, tlE k tr kd rt vl hr hw cu si), (tr, trE nb st), (nb, nbE cN st)]) [5, 3, 4] rfl) (hD.sub (ws' := [(h, tlE k tr kd rt vl hr hw cu si), (tr, trE nb st), (nb, nbE cN st)]) [5, 3, 4] (by decide) rfl) ⟨Nat.le_of_ble_eq_true rfl, Nat.le_of_ble_eq_true rfl⟩ hl.1 (Nat.le_of_ble_eq_true rfl) dX8_hire_29 ⟨Nat.le_of_ble_eq_true rfl, Nat.le_of_ble_eq_true rfl⟩) hP hD hS hA [5, 3, 4] [0, 1, 2] [0, 1, 2, 4, 5, 3] rfl rfl (by decide) (by decide) rfl (by decide) (fun H locs hP hD hS => ?_)
      rw [lvs_off (duN k) hop] at hP hD
      refine lv_iconst (v := 1) hx hb dX8_hire_32 (by decide) ?_
      refine lv_icmp_ne (tgt := 39) hx hb dX8_hire_33 (by decide) (fun c33 => False.elim (hno ⟨c14, c24, c33⟩)) (fun c33 => ?_)
      refine lv_bipush (v := (-3)) hx hb dX8_hire_36 (by decide) ?_
      exact hs_iret hx hb hrt hlocks hK hP hD hS dX8_hire_38 (by unfold hireF; first | rw [if_pos c14] | rw [if_neg c14, if_pos c24] | rw [if_neg c14, if_neg (fun q => q c24), if_pos c33]) (rfl)
  · refine lv_bipush (v := (-2)) hx hb dX8_hire_17 (by decide) ?_
    exact hs_iret hx hb hrt hlocks hK hP hD hS dX8_hire_19 (by unfold hireF; first | rw [if_pos c14] | rw [if_neg c14, if_pos c24] | rw [if_neg c14, if_neg (fun q => q c24), if_pos c33]) (rfl)

set_option maxHeartbeats 400000 in
set_option maxRecDepth 100000 in
theorem c_X8_hire_ok (l : Launch) (D : va_G) (cN cT cJ : ClassId) (o ta ac tr nb : Nat) (tc td cs hi : Int32) (a : Nat → Option Nat) (acc : Nat → Int64) (st : TS) (h k : Nat) (hk : k < 7) (kd rt vl hr hw cu si : Int32) (hst : okT st) (hop : st.2.1 = 0) (t : Int32) (hat : tAt a t = some h) (cm : Int32) (hyes : hireOk k hr hw cm) : CM l D yX8_hire cX8_hire 5 (some .int) { frames := 4, cells := 0, slots := 0, locals := 84 } (tyS cN cT cJ) [.ref o, .int t, .int cm] [(o, shE tr ta ac tc td cs hi), (ta, taE cT a), (ac, acE cJ acc), (tr, trE nb st), (nb, nbE cN st), (h, tlE k tr kd rt vl hr hw cu si)] (hs_QI D (tyS cN cT cJ) (dpF k vl) [(o, shE tr ta ac tc td cs (hi + 1)), (ta, taE cT a), (ac, acE cJ (payF acc cm (-(dpF k vl)))), (tr, trE nb st), (nb, nbE cN st), (h, tlE k tr kd rt vl hr 1 cm td)]) := by
  refine CM.of (by decide) (Nat.le_of_ble_eq_true rfl) ?_
  intro p e s m below meth c A ls hx hb hrt hml htg hown hlocks hnm hA hK hP hD hS hl
  have hown : s.vm.findClass RX8 = some m.cls := hown
  have hl : lv_has ls 5 [(0, .ref o), (1, .int t), (2, .int cm)] := hl
  have SF : CallFix p m c cX8_hire 5 s _ hs_gt RX8 := ⟨hx, hb, hml, hown, htg⟩
  refine lv_aload_n hx hb dX8_hire_0 rfl (lv_at hl 0 rfl) ?_
  refine lv_iload_n hx hb dX8_hire_1 rfl (lv_at hl 1 rfl) ?_
  refine hs_callq (wc := [(o, shE tr ta ac tc td cs hi), (ta, taE cT a)]) (w1 := [(o, shE tr ta ac tc td cs hi), (ta, taE cT a)]) (wr := [(ac, acE cJ acc), (tr, trE nb st), (nb, nbE cN st), (h, tlE k tr kd rt vl hr hw cu si)]) (ws2 := [(o, shE tr ta ac tc td cs hi), (ta, taE cT a), (ac, acE cJ acc), (tr, trE nb st), (nb, nbE cN st), (h, tlE k tr kd rt vl hr hw cu si)]) (hs_runV (q0 := 0) SF cal_X8_toolAt tw_237 (c_X8_toolAt l D cN cT cJ o ta ac tr nb tc td cs hi a acc st t (some h) hat) hK (hP.sub (ws' := [(o, shE tr ta ac tc td cs hi), (ta, taE cT a)]) [0, 1] rfl) (hD.sub (ws' := [(o, shE tr ta ac tc td cs hi), (ta, taE cT a)]) [0, 1] (by decide) rfl) rfl rfl ⟨Nat.le_of_ble_eq_true rfl, Nat.le_of_ble_eq_true rfl⟩ rfl hl.1 rfl (Nat.le_of_ble_eq_true rfl) dX8_hire_2 ⟨Nat.le_of_ble_eq_true rfl, Nat.le_of_ble_eq_true rfl⟩) hP hD hS hA [0, 1] [2, 3, 4, 5] [4, 5, 0, 1, 2, 3] rfl rfl (by decide) (by decide) rfl (by decide) (fun H locs hP hD hS => ?_)
  refine lv_astore_n (lv' := [(3, .ref h), (0, .ref o), (1, .int t), (2, .int cm)]) hx hb dX8_hire_5 rfl hl (by decide) rfl (fun ls hl => ?_)
  refine lv_aload_n hx hb dX8_hire_6 rfl (lv_at hl 0 rfl) ?_
  refine lv_ifnull hx hb dX8_hire_7 ?_
  refine lv_iload_n hx hb dX8_hire_10 rfl (lv_at hl 3 rfl) ?_
  refine hs_calli (wc := []) (w1 := []) (wr := [(o, shE tr ta ac tc td cs hi), (ta, taE cT a), (ac, acE cJ acc), (tr, trE nb st), (nb, nbE cN st), (h, tlE k tr kd rt vl hr hw cu si)]) (ws2 := [(o, shE tr ta ac tc td cs hi), (ta, taE cT a), (ac, acE cJ acc), (tr, trE nb st), (nb, nbE cN st), (h, tlE k tr kd rt vl hr hw cu si)]) (hs_runS SF cal_X8_isCustomer tw_444 (c_X8_isCustomer l D cN cT cJ cm) hK (hP.sub (ws' := []) [] rfl) (hD.sub (ws' := []) [] (by decide) rfl) ⟨Nat.le_of_ble_eq_true rfl, Nat.le_of_ble_eq_true rfl⟩ rfl hl.1 rfl (Nat.le_of_ble_eq_true rfl) dX8_hire_11 ⟨Nat.le_of_ble_eq_true rfl, Nat.le_of_ble_eq_true rfl⟩) hP hD hS hA [] [0, 1, 2, 3, 4, 5] [0, 1, 2, 3, 4, 5] rfl rfl (by decide) (by decide) rfl (by decide) (fun H locs hP hD hS => ?_)
  refine lv_if_ne (tgt := 20) hx hb dX8_hire_14 (by decide) (fun c14 => ?_) (fun c14 => absurd c14 (hyes.1))
  refine lv_aload_n hx hb dX8_hire_20 rfl (lv_at hl 0 rfl) ?_
  refine va_get (D := D) (ci := (kc k)) (v := .int hw) (C := (kR k)) (T := TX5) (N := 8) hx hb htg (kc_in k) hown hK hP 5 rfl (kc_cl k) 5 (by decide) (htg _ tw_125) (fun _ h9 => h9) rfl dX8_hire_21 ?_
  refine lv_if_ne (tgt := 36) hx hb dX8_hire_24 (by decide) (fun c24 => absurd c24 (fun q => q hyes.2.1)) (fun c24 => ?_)
  refine lv_aload_n hx hb dX8_hire_27 rfl (lv_at hl 0 rfl) ?_
  refine lv_iconst (v := 1) hx hb dX8_hire_28 (by decide) ?_
  refine hs_calli (wc := [(h, tlE k tr kd rt vl hr hw cu si), (tr, trE nb st), (nb, nbE cN st)]) (w1 := [(h, tlE k tr kd rt vl hr hw cu si), (tr, trE nb (lvs (duN k) st)), (nb, nbE cN (lvs (duN k) st))]) (wr := [(o, shE tr ta ac tc td cs hi), (ta, taE cT a), (ac, acE cJ acc)]) (ws2 := [(o, shE tr ta ac tc td cs hi), (ta, taE cT a), (ac, acE cJ acc), (tr, trE nb (lvs (duN k) st)), (nb, nbE cN (lvs (duN k) st)), (h, tlE k tr kd rt vl hr hw cu si)]) (V_due cN cT cJ h tr nb k hk kd rt vl hr hw cu si st hst 1 SF tw_415 hK (hP.sub (ws' := [(h, tlE k tr kd rt vl hr hw cu si), (tr, trE nb st), (nb, nbE cN st)]) [5, 3, 4] rfl) (hD.sub (ws' := [(h, tlE k tr kd rt vl hr hw cu si), (tr, trE nb st), (nb, nbE cN st)]) [5, 3, 4] (by decide) rfl) ⟨Nat.le_of_ble_eq_true rfl, Nat.le_of_ble_eq_true rfl⟩ hl.1 (Nat.le_of_ble_eq_true rfl) dX8_hire_29 ⟨Nat.le_of_ble_eq_true rfl, Nat.le_of_ble_eq_true rfl⟩) hP hD hS hA [5, 3, 4] [0, 1, 2] [0, 1, 2, 4, 5, 3] rfl rfl (by decide) (by decide) rfl (by decide) (fun H locs hP hD hS => ?_)
  rw [lvs_off (duN k) hop] at hP hD
  refine lv_iconst (v := 1) hx hb dX8_hire_32 (by decide) ?_
  refine lv_icmp_ne (tgt := 39) hx hb dX8_hire_33 (by decide) (fun c33 => ?_) (fun c33 => absurd c33 (hyes.2.2))
  refine lv_aload_n hx hb dX8_hire_39 rfl (lv_at hl 0 rfl) ?_
  refine hs_calli (wc := [(h, tlE k tr kd rt vl hr hw cu si), (tr, trE nb st), (nb, nbE cN st)]) (w1 := [(h, tlE k tr kd rt vl hr hw cu si), (tr, trE nb (lvs (dpN k) st)), (nb, nbE cN (lvs (dpN k) st))]) (wr := [(o, shE tr ta ac tc td cs hi), (ta, taE cT a), (ac, acE cJ acc)]) (ws2 := [(o, shE tr ta ac tc td cs hi), (ta, taE cT a), (ac, acE cJ acc), (tr, trE nb (lvs (dpN k) st)), (nb, nbE cN (lvs (dpN k) st)), (h, tlE k tr kd rt vl hr hw cu si)]) (V_deposit cN cT cJ h tr nb k hk kd rt vl hr hw cu si st hst  SF tw_373 hK (hP.sub (ws' := [(h, tlE k tr kd rt vl hr hw cu si), (tr, trE nb st), (nb, nbE cN st)]) [5, 3, 4] rfl) (hD.sub (ws' := [(h, tlE k tr kd rt vl hr hw cu si), (tr, trE nb st), (nb, nbE cN st)]) [5, 3, 4] (by decide) rfl) ⟨Nat.le_of_ble_eq_true rfl, Nat.le_of_ble_eq_true rfl⟩ hl.1 (Nat.le_of_ble_eq_true rfl) dX8_hire_40 ⟨Nat.le_of_ble_eq_true rfl, Nat.le_of_ble_eq_true rfl⟩) hP hD hS hA [5, 3, 4] [0, 1, 2] [0, 1, 2, 4, 5, 3] rfl rfl (by decide) (by decide) rfl (by decide) (fun H locs hP hD hS => ?_)
  rw [lvs_off (dpN k) hop] at hP hD
  refine lv_istore (lv' := [(4, .int (dpF k vl)), (3, .ref h), (0, .ref o), (1, .int t), (2, .int cm)]) hx hb dX8_hire_43 hl (by decide) rfl (fun ls hl => ?_)
  refine lv_aload_n hx hb dX8_hire_45 rfl (lv_at hl 2 rfl) ?_
  refine lv_iload_n hx hb dX8_hire_46 rfl (lv_at hl 4 rfl) ?_
  refine lv_iload hx hb dX8_hire_47 (lv_at hl 0 rfl) ?_
  refine lv_ineg hx hb dX8_hire_49 ?_
  refine hs_callv (wc := [(o, shE tr ta ac tc td cs hi), (ac, acE cJ acc)]) (w1 := [(o, shE tr ta ac tc td cs hi), (ac, acE cJ (payF acc cm (-(dpF k vl))))]) (wr := [(ta, taE cT a), (tr, trE nb st), (nb, nbE cN st), (h, tlE k tr kd rt vl hr hw cu si)]) (ws2 := [(o, shE tr ta ac tc td cs hi), (ta, taE cT a), (ac, acE cJ (payF acc cm (-(dpF k vl)))), (tr, trE nb st), (nb, nbE cN st), (h, tlE k tr kd rt vl hr hw cu si)]) (hs_runV (q0 := 0) SF cal_X8_pay tw_447 (c_X8_pay l D cN cT cJ o ta ac tr nb tc td cs hi a acc st cm (-(dpF k vl))) hK (hP.sub (ws' := [(o, shE tr ta ac tc td cs hi), (ac, acE cJ acc)]) [0, 2] rfl) (hD.sub (ws' := [(o, shE tr ta ac tc td cs hi), (ac, acE cJ acc)]) [0, 2] (by decide) rfl) rfl rfl ⟨Nat.le_of_ble_eq_true rfl, Nat.le_of_ble_eq_true rfl⟩ rfl hl.1 rfl (Nat.le_of_ble_eq_true rfl) dX8_hire_50 ⟨Nat.le_of_ble_eq_true rfl, Nat.le_of_ble_eq_true rfl⟩) hP hD hS hA [0, 2] [1, 3, 4, 5] [4, 0, 5, 1, 2, 3] rfl rfl (by decide) (by decide) rfl (by decide) (fun H locs hP hD hS => ?_)
  refine lv_aload_n hx hb dX8_hire_53 rfl (lv_at hl 1 rfl) ?_
  refine lv_iload_n hx hb dX8_hire_54 rfl (lv_at hl 4 rfl) ?_
  refine lv_aload_n hx hb dX8_hire_55 rfl (lv_at hl 2 rfl) ?_
  refine va_get (D := D) (ci := 8) (v := .int td) (C := RX8) (T := TX8) (N := 7) hx hb htg in_X8 hown hK hP 0 rfl rfl 4 (by decide) (htg _ tw_59) (fun _ h9 => h9) rfl dX8_hire_56 ?_
  refine hs_callv (wc := [(h, tlE k tr kd rt vl hr hw cu si), (tr, trE nb st), (nb, nbE cN st)]) (w1 := [(h, tlE k tr kd rt vl hr 1 cm td), (tr, trE nb st), (nb, nbE cN st)]) (wr := [(o, shE tr ta ac tc td cs hi), (ta, taE cT a), (ac, acE cJ (payF acc cm (-(dpF k vl))))]) (ws2 := [(o, shE tr ta ac tc td cs hi), (ta, taE cT a), (ac, acE cJ (payF acc cm (-(dpF k vl)))), (tr, trE nb st), (nb, nbE cN st), (h, tlE k tr kd rt vl hr 1 cm td)]) (V_goOut cN cT cJ h tr nb k hk kd rt vl hr hw cu si st hst cm td SF tw_451 hK (hP.sub (ws' := [(h, tlE k tr kd rt vl hr hw cu si), (tr, trE nb st), (nb, nbE cN st)]) [5, 3, 4] rfl) (hD.sub (ws' := [(h, tlE k tr kd rt vl hr hw cu si), (tr, trE nb st), (nb, nbE cN st)]) [5, 3, 4] (by decide) rfl) ⟨Nat.le_of_ble_eq_true rfl, Nat.le_of_ble_eq_true rfl⟩ hl.1 (Nat.le_of_ble_eq_true rfl) dX8_hire_59 ⟨Nat.le_of_ble_eq_true rfl, Nat.le_of_ble_eq_true rfl⟩) hP hD hS hA [5, 3, 4] [0, 1, 2] [0, 1, 2, 4, 5, 3] rfl rfl (by decide) (by decide) rfl (by decide) (fun H locs hP hD hS => ?_)
  refine lv_aload_n hx hb dX8_hire_62 rfl (lv_at hl 2 rfl) ?_
  refine lv_dup hx hb dX8_hire_63 rfl ?_
  refine va_get (D := D) (ci := 8) (v := .int hi) (C := RX8) (T := TX8) (N := 7) hx hb htg in_X8 hown hK hP 0 rfl rfl 6 (by decide) (htg _ tw_61) (fun _ h9 => h9) rfl dX8_hire_64 ?_
  refine lv_iconst (v := 1) hx hb dX8_hire_67 (by decide) ?_
  refine lv_iadd hx hb dX8_hire_68 ?_
  refine va_put (D := D) (ci := 8) (v := .int (hi + 1)) (ty := .int) (C := RX8) (T := TX8) (N := 7) hx hb htg in_X8 tyX8 tyX8_ok nmX8 hown hK hP hD hS 0 rfl rfl 6 (by decide) (htg _ tw_61) (fun _ h9 => h9) rfl (by decide +kernel) rfl rfl (Nat.le_of_ble_eq_true rfl) dX8_hire_69 (fun H locs hP hD hS => ?_)
  have hP : va_P D hs_cl [(o, shE tr ta ac tc td cs (hi + 1)), (ta, taE cT a), (ac, acE cJ (payF acc cm (-(dpF k vl)))), (tr, trE nb st), (nb, nbE cN st), (h, tlE k tr kd rt vl hr 1 cm td)] H := hP
  have hD : va_D A [(o, shE tr ta ac tc td cs (hi + 1)), (ta, taE cT a), (ac, acE cJ (payF acc cm (-(dpF k vl)))), (tr, trE nb st), (nb, nbE cN st), (h, tlE k tr kd rt vl hr 1 cm td)] := hD
  refine lv_iload hx hb dX8_hire_72 (lv_at hl 0 rfl) ?_
  exact hs_iret hx hb hrt hlocks hK hP hD hS dX8_hire_74 (rfl) (rfl)

set_option maxHeartbeats 400000 in
set_option maxRecDepth 100000 in
theorem c_X8_back_no (l : Launch) (D : va_G) (cN cT cJ : ClassId) (o ta ac tr nb : Nat) (tc td cs hi : Int32) (a : Nat → Option Nat) (acc : Nat → Int64) (st : TS) (h k : Nat) (hk : k < 7) (kd rt vl hr hw cu si : Int32) (hst : okT st) (hop : st.2.1 = 0) (t : Int32) (hat : tAt a t = some h) (hno : ¬ hw = 1) : CM l D yX8_back cX8_back 5 (some .int) { frames := 1, cells := 0, slots := 0, locals := 21 } (tyS cN cT cJ) [.ref o, .int t] [(o, shE tr ta ac tc td cs hi), (ta, taE cT a), (ac, acE cJ acc), (tr, trE nb st), (nb, nbE cN st), (h, tlE k tr kd rt vl hr hw cu si)] (hs_QI D (tyS cN cT cJ) (-3) [(o, shE tr ta ac tc td cs hi), (ta, taE cT a), (ac, acE cJ acc), (tr, trE nb st), (nb, nbE cN st), (h, tlE k tr kd rt vl hr hw cu si)]) := by
  refine CM.of (by decide) (Nat.le_of_ble_eq_true rfl) ?_
  intro p e s m below meth c A ls hx hb hrt hml htg hown hlocks hnm hA hK hP hD hS hl
  have hown : s.vm.findClass RX8 = some m.cls := hown
  have hl : lv_has ls 5 [(0, .ref o), (1, .int t)] := hl
  have SF : CallFix p m c cX8_back 5 s _ hs_gt RX8 := ⟨hx, hb, hml, hown, htg⟩
  refine lv_aload_n hx hb dX8_back_0 rfl (lv_at hl 0 rfl) ?_
  refine lv_iload_n hx hb dX8_back_1 rfl (lv_at hl 1 rfl) ?_
  refine hs_callq (wc := [(o, shE tr ta ac tc td cs hi), (ta, taE cT a)]) (w1 := [(o, shE tr ta ac tc td cs hi), (ta, taE cT a)]) (wr := [(ac, acE cJ acc), (tr, trE nb st), (nb, nbE cN st), (h, tlE k tr kd rt vl hr hw cu si)]) (ws2 := [(o, shE tr ta ac tc td cs hi), (ta, taE cT a), (ac, acE cJ acc), (tr, trE nb st), (nb, nbE cN st), (h, tlE k tr kd rt vl hr hw cu si)]) (hs_runV (q0 := 0) SF cal_X8_toolAt tw_237 (c_X8_toolAt l D cN cT cJ o ta ac tr nb tc td cs hi a acc st t (some h) hat) hK (hP.sub (ws' := [(o, shE tr ta ac tc td cs hi), (ta, taE cT a)]) [0, 1] rfl) (hD.sub (ws' := [(o, shE tr ta ac tc td cs hi), (ta, taE cT a)]) [0, 1] (by decide) rfl) rfl rfl ⟨Nat.le_of_ble_eq_true rfl, Nat.le_of_ble_eq_true rfl⟩ rfl hl.1 rfl (Nat.le_of_ble_eq_true rfl) dX8_back_2 ⟨Nat.le_of_ble_eq_true rfl, Nat.le_of_ble_eq_true rfl⟩) hP hD hS hA [0, 1] [2, 3, 4, 5] [4, 5, 0, 1, 2, 3] rfl rfl (by decide) (by decide) rfl (by decide) (fun H locs hP hD hS => ?_)
  refine lv_astore_n (lv' := [(2, .ref h), (0, .ref o), (1, .int t)]) hx hb dX8_back_5 rfl hl (by decide) rfl (fun ls hl => ?_)
  refine lv_aload_n hx hb dX8_back_6 rfl (lv_at hl 0 rfl) ?_
  refine lv_ifnonnull (tgt := 13) hx hb dX8_back_7 (by decide) ?_
  refine lv_aload_n hx hb dX8_back_13 rfl (lv_at hl 0 rfl) ?_
  refine va_get (D := D) (ci := (kc k)) (v := .int hw) (C := (kR k)) (T := TX5) (N := 8) hx hb htg (kc_in k) hown hK hP 5 rfl (kc_cl k) 5 (by decide) (htg _ tw_125) (fun _ h9 => h9) rfl dX8_back_14 ?_
  refine lv_iconst (v := 1) hx hb dX8_back_17 (by decide) ?_
  refine lv_icmp_eq (tgt := 24) hx hb dX8_back_18 (by decide) (fun c18 => absurd c18 (hno)) (fun c18 => ?_)
  refine lv_bipush (v := (-3)) hx hb dX8_back_21 (by decide) ?_
  exact hs_iret hx hb hrt hlocks hK hP hD hS dX8_back_23 (rfl) (rfl)

set_option maxHeartbeats 400000 in
set_option maxRecDepth 100000 in
theorem c_X8_back_ok (l : Launch) (D : va_G) (cN cT cJ : ClassId) (o ta ac tr nb : Nat) (tc td cs hi : Int32) (a : Nat → Option Nat) (acc : Nat → Int64) (st : TS) (h k : Nat) (hk : k < 7) (kd rt vl hr hw cu si : Int32) (hst : okT st) (hop : st.2.1 = 0) (t : Int32) (hat : tAt a t = some h) (hyes : hw = 1) : CM l D yX8_back cX8_back 5 (some .int) { frames := 5, cells := 0, slots := 0, locals := 102 } (tyS cN cT cJ) [.ref o, .int t] [(o, shE tr ta ac tc td cs hi), (ta, taE cT a), (ac, acE cJ acc), (tr, trE nb st), (nb, nbE cN st), (h, tlE k tr kd rt vl hr hw cu si)] (hs_QI D (tyS cN cT cJ) (priceF k rt vl hr (daysF td si)) [(o, shE tr ta ac tc td cs hi), (ta, taE cT a), (ac, acE cJ (payF acc cu (dpF k vl - priceF k rt vl hr (daysF td si)))), (tr, trE nb st), (nb, nbE cN st), (h, tlE k tr kd rt vl (hoursF k hr (daysF td si)) (howF k hr (daysF td si)) (-1) (-1))]) := by
  refine CM.of (by decide) (Nat.le_of_ble_eq_true rfl) ?_
  intro p e s m below meth c A ls hx hb hrt hml htg hown hlocks hnm hA hK hP hD hS hl
  have hown : s.vm.findClass RX8 = some m.cls := hown
  have hl : lv_has ls 5 [(0, .ref o), (1, .int t)] := hl
  have SF : CallFix p m c cX8_back 5 s _ hs_gt RX8 := ⟨hx, hb, hml, hown, htg⟩
  refine lv_aload_n hx hb dX8_back_0 rfl (lv_at hl 0 rfl) ?_
  refine lv_iload_n hx hb dX8_back_1 rfl (lv_at hl 1 rfl) ?_
  refine hs_callq (wc := [(o, shE tr ta ac tc td cs hi), (ta, taE cT a)]) (w1 := [(o, shE tr ta ac tc td cs hi), (ta, taE cT a)]) (wr := [(ac, acE cJ acc), (tr, trE nb st), (nb, nbE cN st), (h, tlE k tr kd rt vl hr hw cu si)]) (ws2 := [(o, shE tr ta ac tc td cs hi), (ta, taE cT a), (ac, acE cJ acc), (tr, trE nb st), (nb, nbE cN st), (h, tlE k tr kd rt vl hr hw cu si)]) (hs_runV (q0 := 0) SF cal_X8_toolAt tw_237 (c_X8_toolAt l D cN cT cJ o ta ac tr nb tc td cs hi a acc st t (some h) hat) hK (hP.sub (ws' := [(o, shE tr ta ac tc td cs hi), (ta, taE cT a)]) [0, 1] rfl) (hD.sub (ws' := [(o, shE tr ta ac tc td cs hi), (ta, taE cT a)]) [0, 1] (by decide) rfl) rfl rfl ⟨Nat.le_of_ble_eq_true rfl, Nat.le_of_ble_eq_true rfl⟩ rfl hl.1 rfl (Nat.le_of_ble_eq_true rfl) dX8_back_2 ⟨Nat.le_of_ble_eq_true rfl, Nat.le_of_ble_eq_true rfl⟩) hP hD hS hA [0, 1] [2, 3, 4, 5] [4, 5, 0, 1, 2, 3] rfl rfl (by decide) (by decide) rfl (by decide) (fun H locs hP hD hS => ?_)
  refine lv_astore_n (lv' := [(2, .ref h), (0, .ref o), (1, .int t)]) hx hb dX8_back_5 rfl hl (by decide) rfl (fun ls hl => ?_)
  refine lv_aload_n hx hb dX8_back_6 rfl (lv_at hl 0 rfl) ?_
  refine lv_ifnonnull (tgt := 13) hx hb dX8_back_7 (by decide) ?_
  refine lv_aload_n hx hb dX8_back_13 rfl (lv_at hl 0 rfl) ?_
  refine va_get (D := D) (ci := (kc k)) (v := .int hw) (C := (kR k)) (T := TX5) (N := 8) hx hb htg (kc_in k) hown hK hP 5 rfl (kc_cl k) 5 (by decide) (htg _ tw_125) (fun _ h9 => h9) rfl dX8_back_14 ?_
  refine lv_iconst (v := 1) hx hb dX8_back_17 (by decide) ?_
  refine lv_icmp_eq (tgt := 24) hx hb dX8_back_18 (by decide) (fun c18 => ?_) (fun c18 => absurd c18 (fun q => q hyes))
  refine lv_iconst (v := 1) hx hb dX8_back_24 (by decide) ?_
  refine lv_aload_n hx hb dX8_back_25 rfl (lv_at hl 1 rfl) ?_
  refine va_get (D := D) (ci := 8) (v := .int td) (C := RX8) (T := TX8) (N := 7) hx hb htg in_X8 hown hK hP 0 rfl rfl 4 (by decide) (htg _ tw_59) (fun _ h9 => h9) rfl dX8_back_26 ?_
  refine lv_aload_n hx hb dX8_back_29 rfl (lv_at hl 0 rfl) ?_
  refine va_get (D := D) (ci := (kc k)) (v := .int si) (C := (kR k)) (T := TX5) (N := 8) hx hb htg (kc_in k) hown hK hP 5 rfl (kc_cl k) 7 (by decide) (htg _ tw_129) (fun _ h9 => h9) rfl dX8_back_30 ?_
  refine lv_isub hx hb dX8_back_33 ?_
  refine va_mmax hx hb (by rw [hml]; exact hl.1.symm) hown (htg _ tw_466) (htg _ tw_323) (htg _ tw_27) (htg _ tw_324) (Nat.le_of_ble_eq_true rfl) (Nat.le_of_ble_eq_true rfl) (Nat.zero_le _) (Nat.zero_le _) dX8_back_34 ?_
  refine lv_istore_n (lv' := [(3, .int (if 1 < (td - si) then (td - si) else 1)), (2, .ref h), (0, .ref o), (1, .int t)]) hx hb dX8_back_37 rfl hl (by decide) rfl (fun ls hl => ?_)
  refine lv_aload_n hx hb dX8_back_38 rfl (lv_at hl 1 rfl) ?_
  refine lv_iload_n hx hb dX8_back_39 rfl (lv_at hl 0 rfl) ?_
  refine hs_calli (wc := [(h, tlE k tr kd rt vl hr hw cu si), (tr, trE nb st), (nb, nbE cN st)]) (w1 := [(h, tlE k tr kd rt vl hr hw cu si), (tr, trE nb (lvs (chN k) st)), (nb, nbE cN (lvs (chN k) st))]) (wr := [(o, shE tr ta ac tc td cs hi), (ta, taE cT a), (ac, acE cJ acc)]) (ws2 := [(o, shE tr ta ac tc td cs hi), (ta, taE cT a), (ac, acE cJ acc), (tr, trE nb (lvs (chN k) st)), (nb, nbE cN (lvs (chN k) st)), (h, tlE k tr kd rt vl hr hw cu si)]) (V_charge cN cT cJ h tr nb k hk kd rt vl hr hw cu si st hst (if 1 < (td - si) then (td - si) else 1) SF tw_292 hK (hP.sub (ws' := [(h, tlE k tr kd rt vl hr hw cu si), (tr, trE nb st), (nb, nbE cN st)]) [5, 3, 4] rfl) (hD.sub (ws' := [(h, tlE k tr kd rt vl hr hw cu si), (tr, trE nb st), (nb, nbE cN st)]) [5, 3, 4] (by decide) rfl) ⟨Nat.le_of_ble_eq_true rfl, Nat.le_of_ble_eq_true rfl⟩ hl.1 (Nat.le_of_ble_eq_true rfl) dX8_back_40 ⟨Nat.le_of_ble_eq_true rfl, Nat.le_of_ble_eq_true rfl⟩) hP hD hS hA [5, 3, 4] [0, 1, 2] [0, 1, 2, 4, 5, 3] rfl rfl (by decide) (by decide) rfl (by decide) (fun H locs hP hD hS => ?_)
  rw [lvs_off (chN k) hop] at hP hD
  refine lv_aload_n hx hb dX8_back_43 rfl (lv_at hl 1 rfl) ?_
  refine lv_iload_n hx hb dX8_back_44 rfl (lv_at hl 0 rfl) ?_
  refine hs_calli (wc := [(h, tlE k tr kd rt vl hr hw cu si), (tr, trE nb st), (nb, nbE cN st)]) (w1 := [(h, tlE k tr kd rt vl hr hw cu si), (tr, trE nb (lvs (pmN k) st)), (nb, nbE cN (lvs (pmN k) st))]) (wr := [(o, shE tr ta ac tc td cs hi), (ta, taE cT a), (ac, acE cJ acc)]) (ws2 := [(o, shE tr ta ac tc td cs hi), (ta, taE cT a), (ac, acE cJ acc), (tr, trE nb (lvs (pmN k) st)), (nb, nbE cN (lvs (pmN k) st)), (h, tlE k tr kd rt vl hr hw cu si)]) (V_premium cN cT cJ h tr nb k hk kd rt vl hr hw cu si st hst (if 1 < (td - si) then (td - si) else 1) SF tw_391 hK (hP.sub (ws' := [(h, tlE k tr kd rt vl hr hw cu si), (tr, trE nb st), (nb, nbE cN st)]) [5, 3, 4] rfl) (hD.sub (ws' := [(h, tlE k tr kd rt vl hr hw cu si), (tr, trE nb st), (nb, nbE cN st)]) [5, 3, 4] (by decide) rfl) ⟨Nat.le_of_ble_eq_true rfl, Nat.le_of_ble_eq_true rfl⟩ hl.1 (Nat.le_of_ble_eq_true rfl) dX8_back_45 ⟨Nat.le_of_ble_eq_true rfl, Nat.le_of_ble_eq_true rfl⟩) hP hD hS hA [5, 3, 4] [0, 1, 2] [0, 1, 2, 4, 5, 3] rfl rfl (by decide) (by decide) rfl (by decide) (fun H locs hP hD hS => ?_)
  rw [lvs_off (pmN k) hop] at hP hD
  refine lv_iadd hx hb dX8_back_48 ?_
  refine lv_istore (lv' := [(4, .int ((chF k rt vl (if 1 < (td - si) then (td - si) else 1)) + (pmF k vl hr (if 1 < (td - si) then (td - si) else 1)))), (3, .int (if 1 < (td - si) then (td - si) else 1)), (2, .ref h), (0, .ref o), (1, .int t)]) hx hb dX8_back_49 hl (by decide) rfl (fun ls hl => ?_)
  refine lv_aload_n hx hb dX8_back_51 rfl (lv_at hl 3 rfl) ?_
  refine lv_aload_n hx hb dX8_back_52 rfl (lv_at hl 2 rfl) ?_
  refine va_get (D := D) (ci := (kc k)) (v := .int cu) (C := (kR k)) (T := TX5) (N := 8) hx hb htg (kc_in k) hown hK hP 5 rfl (kc_cl k) 6 (by decide) (htg _ tw_127) (fun _ h9 => h9) rfl dX8_back_53 ?_
  refine lv_aload_n hx hb dX8_back_56 rfl (lv_at hl 2 rfl) ?_
  refine hs_calli (wc := [(h, tlE k tr kd rt vl hr hw cu si), (tr, trE nb st), (nb, nbE cN st)]) (w1 := [(h, tlE k tr kd rt vl hr hw cu si), (tr, trE nb (lvs (dpN k) st)), (nb, nbE cN (lvs (dpN k) st))]) (wr := [(o, shE tr ta ac tc td cs hi), (ta, taE cT a), (ac, acE cJ acc)]) (ws2 := [(o, shE tr ta ac tc td cs hi), (ta, taE cT a), (ac, acE cJ acc), (tr, trE nb (lvs (dpN k) st)), (nb, nbE cN (lvs (dpN k) st)), (h, tlE k tr kd rt vl hr hw cu si)]) (V_deposit cN cT cJ h tr nb k hk kd rt vl hr hw cu si st hst  SF tw_373 hK (hP.sub (ws' := [(h, tlE k tr kd rt vl hr hw cu si), (tr, trE nb st), (nb, nbE cN st)]) [5, 3, 4] rfl) (hD.sub (ws' := [(h, tlE k tr kd rt vl hr hw cu si), (tr, trE nb st), (nb, nbE cN st)]) [5, 3, 4] (by decide) rfl) ⟨Nat.le_of_ble_eq_true rfl, Nat.le_of_ble_eq_true rfl⟩ hl.1 (Nat.le_of_ble_eq_true rfl) dX8_back_57 ⟨Nat.le_of_ble_eq_true rfl, Nat.le_of_ble_eq_true rfl⟩) hP hD hS hA [5, 3, 4] [0, 1, 2] [0, 1, 2, 4, 5, 3] rfl rfl (by decide) (by decide) rfl (by decide) (fun H locs hP hD hS => ?_)
  rw [lvs_off (dpN k) hop] at hP hD
  refine lv_iload hx hb dX8_back_60 (lv_at hl 0 rfl) ?_
  refine lv_isub hx hb dX8_back_62 ?_
  refine hs_callv (wc := [(o, shE tr ta ac tc td cs hi), (ac, acE cJ acc)]) (w1 := [(o, shE tr ta ac tc td cs hi), (ac, acE cJ (payF acc cu ((dpF k vl) - ((chF k rt vl (if 1 < (td - si) then (td - si) else 1)) + (pmF k vl hr (if 1 < (td - si) then (td - si) else 1))))))]) (wr := [(ta, taE cT a), (tr, trE nb st), (nb, nbE cN st), (h, tlE k tr kd rt vl hr hw cu si)]) (ws2 := [(o, shE tr ta ac tc td cs hi), (ta, taE cT a), (ac, acE cJ (payF acc cu ((dpF k vl) - ((chF k rt vl (if 1 < (td - si) then (td - si) else 1)) + (pmF k vl hr (if 1 < (td - si) then (td - si) else 1)))))), (tr, trE nb st), (nb, nbE cN st), (h, tlE k tr kd rt vl hr hw cu si)]) (hs_runV (q0 := 0) SF cal_X8_pay tw_447 (c_X8_pay l D cN cT cJ o ta ac tr nb tc td cs hi a acc st cu ((dpF k vl) - ((chF k rt vl (if 1 < (td - si) then (td - si) else 1)) + (pmF k vl hr (if 1 < (td - si) then (td - si) else 1))))) hK (hP.sub (ws' := [(o, shE tr ta ac tc td cs hi), (ac, acE cJ acc)]) [0, 2] rfl) (hD.sub (ws' := [(o, shE tr ta ac tc td cs hi), (ac, acE cJ acc)]) [0, 2] (by decide) rfl) rfl rfl ⟨Nat.le_of_ble_eq_true rfl, Nat.le_of_ble_eq_true rfl⟩ rfl hl.1 rfl (Nat.le_of_ble_eq_true rfl) dX8_back_63 ⟨Nat.le_of_ble_eq_true rfl, Nat.le_of_ble_eq_true rfl⟩) hP hD hS hA [0, 2] [1, 3, 4, 5] [4, 0, 5, 1, 2, 3] rfl rfl (by decide) (by decide) rfl (by decide) (fun H locs hP hD hS => ?_)
  refine lv_aload_n hx hb dX8_back_66 rfl (lv_at hl 2 rfl) ?_
  refine lv_iload_n hx hb dX8_back_67 rfl (lv_at hl 1 rfl) ?_
  refine hs_callv (wc := [(h, tlE k tr kd rt vl hr hw cu si), (tr, trE nb st), (nb, nbE cN st)]) (w1 := [(h, tlE k tr kd rt vl (hr + weF k hr (if 1 < (td - si) then (td - si) else 1)) (if ckF k (hr + weF k hr (if 1 < (td - si) then (td - si) else 1)) ≤ 9 then 0 else 2) (-1) (-1)), (tr, trE nb (lvs (cbN k) st)), (nb, nbE cN (lvs (cbN k) st))]) (wr := [(o, shE tr ta ac tc td cs hi), (ta, taE cT a), (ac, acE cJ (payF acc cu ((dpF k vl) - ((chF k rt vl (if 1 < (td - si) then (td - si) else 1)) + (pmF k vl hr (if 1 < (td - si) then (td - si) else 1))))))]) (ws2 := [(o, shE tr ta ac tc td cs hi), (ta, taE cT a), (ac, acE cJ (payF acc cu ((dpF k vl) - ((chF k rt vl (if 1 < (td - si) then (td - si) else 1)) + (pmF k vl hr (if 1 < (td - si) then (td - si) else 1)))))), (tr, trE nb (lvs (cbN k) st)), (nb, nbE cN (lvs (cbN k) st)), (h, tlE k tr kd rt vl (hr + weF k hr (if 1 < (td - si) then (td - si) else 1)) (if ckF k (hr + weF k hr (if 1 < (td - si) then (td - si) else 1)) ≤ 9 then 0 else 2) (-1) (-1))]) (V_comeBack cN cT cJ h tr nb k hk kd rt vl hr hw cu si st hst (if 1 < (td - si) then (td - si) else 1) SF tw_467 hK (hP.sub (ws' := [(h, tlE k tr kd rt vl hr hw cu si), (tr, trE nb st), (nb, nbE cN st)]) [5, 3, 4] rfl) (hD.sub (ws' := [(h, tlE k tr kd rt vl hr hw cu si), (tr, trE nb st), (nb, nbE cN st)]) [5, 3, 4] (by decide) rfl) ⟨Nat.le_of_ble_eq_true rfl, Nat.le_of_ble_eq_true rfl⟩ hl.1 (Nat.le_of_ble_eq_true rfl) dX8_back_68 ⟨Nat.le_of_ble_eq_true rfl, Nat.le_of_ble_eq_true rfl⟩) hP hD hS hA [5, 3, 4] [0, 1, 2] [0, 1, 2, 4, 5, 3] rfl rfl (by decide) (by decide) rfl (by decide) (fun H locs hP hD hS => ?_)
  rw [lvs_off (cbN k) hop] at hP hD
  refine lv_iload hx hb dX8_back_71 (lv_at hl 0 rfl) ?_
  exact hs_iret hx hb hrt hlocks hK hP hD hS dX8_back_73 (rfl) (rfl)

set_option maxHeartbeats 400000 in
set_option maxRecDepth 100000 in
theorem c_X8_service_no (l : Launch) (D : va_G) (cN cT cJ : ClassId) (o ta ac tr nb : Nat) (tc td cs hi : Int32) (a : Nat → Option Nat) (acc : Nat → Int64) (st : TS) (h k : Nat) (hk : k < 7) (kd rt vl hr hw cu si : Int32) (hst : okT st) (hop : st.2.1 = 0) (t : Int32) (hat : tAt a t = some h) (hno : hw = 1) : CM l D yX8_service cX8_service 4 (some .int) { frames := 1, cells := 0, slots := 0, locals := 21 } (tyS cN cT cJ) [.ref o, .int t] [(o, shE tr ta ac tc td cs hi), (ta, taE cT a), (ac, acE cJ acc), (tr, trE nb st), (nb, nbE cN st), (h, tlE k tr kd rt vl hr hw cu si)] (hs_QI D (tyS cN cT cJ) (-3) [(o, shE tr ta ac tc td cs hi), (ta, taE cT a), (ac, acE cJ acc), (tr, trE nb st), (nb, nbE cN st), (h, tlE k tr kd rt vl hr hw cu si)]) := by
  refine CM.of (by decide) (Nat.le_of_ble_eq_true rfl) ?_
  intro p e s m below meth c A ls hx hb hrt hml htg hown hlocks hnm hA hK hP hD hS hl
  have hown : s.vm.findClass RX8 = some m.cls := hown
  have hl : lv_has ls 4 [(0, .ref o), (1, .int t)] := hl
  have SF : CallFix p m c cX8_service 4 s _ hs_gt RX8 := ⟨hx, hb, hml, hown, htg⟩
  refine lv_aload_n hx hb dX8_service_0 rfl (lv_at hl 0 rfl) ?_
  refine lv_iload_n hx hb dX8_service_1 rfl (lv_at hl 1 rfl) ?_
  refine hs_callq (wc := [(o, shE tr ta ac tc td cs hi), (ta, taE cT a)]) (w1 := [(o, shE tr ta ac tc td cs hi), (ta, taE cT a)]) (wr := [(ac, acE cJ acc), (tr, trE nb st), (nb, nbE cN st), (h, tlE k tr kd rt vl hr hw cu si)]) (ws2 := [(o, shE tr ta ac tc td cs hi), (ta, taE cT a), (ac, acE cJ acc), (tr, trE nb st), (nb, nbE cN st), (h, tlE k tr kd rt vl hr hw cu si)]) (hs_runV (q0 := 0) SF cal_X8_toolAt tw_237 (c_X8_toolAt l D cN cT cJ o ta ac tr nb tc td cs hi a acc st t (some h) hat) hK (hP.sub (ws' := [(o, shE tr ta ac tc td cs hi), (ta, taE cT a)]) [0, 1] rfl) (hD.sub (ws' := [(o, shE tr ta ac tc td cs hi), (ta, taE cT a)]) [0, 1] (by decide) rfl) rfl rfl ⟨Nat.le_of_ble_eq_true rfl, Nat.le_of_ble_eq_true rfl⟩ rfl hl.1 rfl (Nat.le_of_ble_eq_true rfl) dX8_service_2 ⟨Nat.le_of_ble_eq_true rfl, Nat.le_of_ble_eq_true rfl⟩) hP hD hS hA [0, 1] [2, 3, 4, 5] [4, 5, 0, 1, 2, 3] rfl rfl (by decide) (by decide) rfl (by decide) (fun H locs hP hD hS => ?_)
  refine lv_astore_n (lv' := [(2, .ref h), (0, .ref o), (1, .int t)]) hx hb dX8_service_5 rfl hl (by decide) rfl (fun ls hl => ?_)
  refine lv_aload_n hx hb dX8_service_6 rfl (lv_at hl 0 rfl) ?_
  refine lv_ifnonnull (tgt := 13) hx hb dX8_service_7 (by decide) ?_
  refine lv_aload_n hx hb dX8_service_13 rfl (lv_at hl 0 rfl) ?_
  refine va_get (D := D) (ci := (kc k)) (v := .int hw) (C := (kR k)) (T := TX5) (N := 8) hx hb htg (kc_in k) hown hK hP 5 rfl (kc_cl k) 5 (by decide) (htg _ tw_125) (fun _ h9 => h9) rfl dX8_service_14 ?_
  refine lv_iconst (v := 1) hx hb dX8_service_17 (by decide) ?_
  refine lv_icmp_ne (tgt := 24) hx hb dX8_service_18 (by decide) (fun c18 => absurd c18 (fun q => q hno)) (fun c18 => ?_)
  refine lv_bipush (v := (-3)) hx hb dX8_service_21 (by decide) ?_
  exact hs_iret hx hb hrt hlocks hK hP hD hS dX8_service_23 (rfl) (rfl)

set_option maxHeartbeats 400000 in
set_option maxRecDepth 100000 in
theorem c_X8_service_ok (l : Launch) (D : va_G) (cN cT cJ : ClassId) (o ta ac tr nb : Nat) (tc td cs hi : Int32) (a : Nat → Option Nat) (acc : Nat → Int64) (st : TS) (h k : Nat) (hk : k < 7) (kd rt vl hr hw cu si : Int32) (hst : okT st) (hop : st.2.1 = 0) (t : Int32) (hat : tAt a t = some h) (hyes : ¬ hw = 1) : CM l D yX8_service cX8_service 4 (some .int) { frames := 4, cells := 0, slots := 0, locals := 81 } (tyS cN cT cJ) [.ref o, .int t] [(o, shE tr ta ac tc td cs hi), (ta, taE cT a), (ac, acE cJ acc), (tr, trE nb st), (nb, nbE cN st), (h, tlE k tr kd rt vl hr hw cu si)] (hs_QI D (tyS cN cT cJ) (100 + 50 * ckF k hr) [(o, shE tr ta ac tc td (cs + (100 + 50 * ckF k hr)) hi), (ta, taE cT a), (ac, acE cJ acc), (tr, trE nb st), (nb, nbE cN st), (h, tlE k tr kd rt vl 0 0 cu si)]) := by
  refine CM.of (by decide) (Nat.le_of_ble_eq_true rfl) ?_
  intro p e s m below meth c A ls hx hb hrt hml htg hown hlocks hnm hA hK hP hD hS hl
  have hown : s.vm.findClass RX8 = some m.cls := hown
  have hl : lv_has ls 4 [(0, .ref o), (1, .int t)] := hl
  have SF : CallFix p m c cX8_service 4 s _ hs_gt RX8 := ⟨hx, hb, hml, hown, htg⟩
  refine lv_aload_n hx hb dX8_service_0 rfl (lv_at hl 0 rfl) ?_
  refine lv_iload_n hx hb dX8_service_1 rfl (lv_at hl 1 rfl) ?_
  refine hs_callq (wc := [(o, shE tr ta ac tc td cs hi), (ta, taE cT a)]) (w1 := [(o, shE tr ta ac tc td cs hi), (ta, taE cT a)]) (wr := [(ac, acE cJ acc), (tr, trE nb st), (nb, nbE cN st), (h, tlE k tr kd rt vl hr hw cu si)]) (ws2 := [(o, shE tr ta ac tc td cs hi), (ta, taE cT a), (ac, acE cJ acc), (tr, trE nb st), (nb, nbE cN st), (h, tlE k tr kd rt vl hr hw cu si)]) (hs_runV (q0 := 0) SF cal_X8_toolAt tw_237 (c_X8_toolAt l D cN cT cJ o ta ac tr nb tc td cs hi a acc st t (some h) hat) hK (hP.sub (ws' := [(o, shE tr ta ac tc td cs hi), (ta, taE cT a)]) [0, 1] rfl) (hD.sub (ws' := [(o, shE tr ta ac tc td cs hi), (ta, taE cT a)]) [0, 1] (by decide) rfl) rfl rfl ⟨Nat.le_of_ble_eq_true rfl, Nat.le_of_ble_eq_true rfl⟩ rfl hl.1 rfl (Nat.le_of_ble_eq_true rfl) dX8_service_2 ⟨Nat.le_of_ble_eq_true rfl, Nat.le_of_ble_eq_true rfl⟩) hP hD hS hA [0, 1] [2, 3, 4, 5] [4, 5, 0, 1, 2, 3] rfl rfl (by decide) (by decide) rfl (by decide) (fun H locs hP hD hS => ?_)
  refine lv_astore_n (lv' := [(2, .ref h), (0, .ref o), (1, .int t)]) hx hb dX8_service_5 rfl hl (by decide) rfl (fun ls hl => ?_)
  refine lv_aload_n hx hb dX8_service_6 rfl (lv_at hl 0 rfl) ?_
  refine lv_ifnonnull (tgt := 13) hx hb dX8_service_7 (by decide) ?_
  refine lv_aload_n hx hb dX8_service_13 rfl (lv_at hl 0 rfl) ?_
  refine va_get (D := D) (ci := (kc k)) (v := .int hw) (C := (kR k)) (T := TX5) (N := 8) hx hb htg (kc_in k) hown hK hP 5 rfl (kc_cl k) 5 (by decide) (htg _ tw_125) (fun _ h9 => h9) rfl dX8_service_14 ?_
  refine lv_iconst (v := 1) hx hb dX8_service_17 (by decide) ?_
  refine lv_icmp_ne (tgt := 24) hx hb dX8_service_18 (by decide) (fun c18 => ?_) (fun c18 => absurd c18 (hyes))
  refine lv_bipush (v := 100) hx hb dX8_service_24 (by decide) ?_
  refine lv_bipush (v := 50) hx hb dX8_service_26 (by decide) ?_
  refine lv_aload_n hx hb dX8_service_28 rfl (lv_at hl 0 rfl) ?_
  refine hs_calli (wc := [(h, tlE k tr kd rt vl hr hw cu si), (tr, trE nb st), (nb, nbE cN st)]) (w1 := [(h, tlE k tr kd rt vl hr hw cu si), (tr, trE nb (lvs (ckN k) st)), (nb, nbE cN (lvs (ckN k) st))]) (wr := [(o, shE tr ta ac tc td cs hi), (ta, taE cT a), (ac, acE cJ acc)]) (ws2 := [(o, shE tr ta ac tc td cs hi), (ta, taE cT a), (ac, acE cJ acc), (tr, trE nb (lvs (ckN k) st)), (nb, nbE cN (lvs (ckN k) st)), (h, tlE k tr kd rt vl hr hw cu si)]) (V_check cN cT cJ h tr nb k hk kd rt vl hr hw cu si st hst  SF tw_348 hK (hP.sub (ws' := [(h, tlE k tr kd rt vl hr hw cu si), (tr, trE nb st), (nb, nbE cN st)]) [5, 3, 4] rfl) (hD.sub (ws' := [(h, tlE k tr kd rt vl hr hw cu si), (tr, trE nb st), (nb, nbE cN st)]) [5, 3, 4] (by decide) rfl) ⟨Nat.le_of_ble_eq_true rfl, Nat.le_of_ble_eq_true rfl⟩ hl.1 (Nat.le_of_ble_eq_true rfl) dX8_service_29 ⟨Nat.le_of_ble_eq_true rfl, Nat.le_of_ble_eq_true rfl⟩) hP hD hS hA [5, 3, 4] [0, 1, 2] [0, 1, 2, 4, 5, 3] rfl rfl (by decide) (by decide) rfl (by decide) (fun H locs hP hD hS => ?_)
  rw [lvs_off (ckN k) hop] at hP hD
  refine lv_imul hx hb dX8_service_32 ?_
  refine lv_iadd hx hb dX8_service_33 ?_
  refine lv_istore_n (lv' := [(3, .int (100 + (50 * (ckF k hr)))), (2, .ref h), (0, .ref o), (1, .int t)]) hx hb dX8_service_34 rfl hl (by decide) rfl (fun ls hl => ?_)
  refine lv_aload_n hx hb dX8_service_35 rfl (lv_at hl 1 rfl) ?_
  refine hs_callv (wc := [(h, tlE k tr kd rt vl hr hw cu si), (tr, trE nb st), (nb, nbE cN st)]) (w1 := [(h, tlE k tr kd rt vl 0 0 cu si), (tr, trE nb st), (nb, nbE cN st)]) (wr := [(o, shE tr ta ac tc td cs hi), (ta, taE cT a), (ac, acE cJ acc)]) (ws2 := [(o, shE tr ta ac tc td cs hi), (ta, taE cT a), (ac, acE cJ acc), (tr, trE nb st), (nb, nbE cN st), (h, tlE k tr kd rt vl 0 0 cu si)]) (V_renew cN cT cJ h tr nb k hk kd rt vl hr hw cu si st hst  SF tw_483 hK (hP.sub (ws' := [(h, tlE k tr kd rt vl hr hw cu si), (tr, trE nb st), (nb, nbE cN st)]) [5, 3, 4] rfl) (hD.sub (ws' := [(h, tlE k tr kd rt vl hr hw cu si), (tr, trE nb st), (nb, nbE cN st)]) [5, 3, 4] (by decide) rfl) ⟨Nat.le_of_ble_eq_true rfl, Nat.le_of_ble_eq_true rfl⟩ hl.1 (Nat.le_of_ble_eq_true rfl) dX8_service_36 ⟨Nat.le_of_ble_eq_true rfl, Nat.le_of_ble_eq_true rfl⟩) hP hD hS hA [5, 3, 4] [0, 1, 2] [0, 1, 2, 4, 5, 3] rfl rfl (by decide) (by decide) rfl (by decide) (fun H locs hP hD hS => ?_)
  refine lv_aload_n hx hb dX8_service_39 rfl (lv_at hl 2 rfl) ?_
  refine lv_dup hx hb dX8_service_40 rfl ?_
  refine va_get (D := D) (ci := 8) (v := .int cs) (C := RX8) (T := TX8) (N := 7) hx hb htg in_X8 hown hK hP 0 rfl rfl 5 (by decide) (htg _ tw_60) (fun _ h9 => h9) rfl dX8_service_41 ?_
  refine lv_iload_n hx hb dX8_service_44 rfl (lv_at hl 0 rfl) ?_
  refine lv_iadd hx hb dX8_service_45 ?_
  refine va_put (D := D) (ci := 8) (v := .int (cs + (100 + (50 * (ckF k hr))))) (ty := .int) (C := RX8) (T := TX8) (N := 7) hx hb htg in_X8 tyX8 tyX8_ok nmX8 hown hK hP hD hS 0 rfl rfl 5 (by decide) (htg _ tw_60) (fun _ h9 => h9) rfl (by decide +kernel) rfl rfl (Nat.le_of_ble_eq_true rfl) dX8_service_46 (fun H locs hP hD hS => ?_)
  have hP : va_P D hs_cl [(o, shE tr ta ac tc td (cs + (100 + (50 * (ckF k hr)))) hi), (ta, taE cT a), (ac, acE cJ acc), (tr, trE nb st), (nb, nbE cN st), (h, tlE k tr kd rt vl 0 0 cu si)] H := hP
  have hD : va_D A [(o, shE tr ta ac tc td (cs + (100 + (50 * (ckF k hr)))) hi), (ta, taE cT a), (ac, acE cJ acc), (tr, trE nb st), (nb, nbE cN st), (h, tlE k tr kd rt vl 0 0 cu si)] := hD
  refine lv_iload_n hx hb dX8_service_49 rfl (lv_at hl 0 rfl) ?_
  exact hs_iret hx hb hrt hlocks hK hP hD hS dX8_service_50 (rfl) (rfl)

theorem cal_X8_ask : hs_cV yX8_ask cX8_ask 6 (some .int) 3 := ⟨tw_236, tw_234, tw_235, tw_17, by decide +kernel⟩

theorem cal_X8_hire : hs_cV yX8_hire cX8_hire 5 (some .int) 2 := ⟨tw_443, tw_441, tw_442, tw_17, by decide +kernel⟩

theorem cal_X8_back : hs_cV yX8_back cX8_back 5 (some .int) 1 := ⟨tw_465, tw_463, tw_464, tw_17, by decide +kernel⟩

theorem cal_X8_service : hs_cV yX8_service cX8_service 4 (some .int) 1 := ⟨tw_482, tw_480, tw_481, tw_17, by decide +kernel⟩

theorem cal_X8_told : hs_cV yX8_told cX8_told 4 (some .int) 2 := ⟨tw_505, tw_503, tw_504, tw_17, by decide +kernel⟩

