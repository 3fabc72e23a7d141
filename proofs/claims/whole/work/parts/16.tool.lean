set_option maxHeartbeats 400000 in
set_option maxRecDepth 100000 in
theorem c_X8_tool_no (l : Launch) (D : va_G) (cN cT cJ : ClassId) (o ta ac tr : Nat) (tc td cs hi : Int32) (a : Nat → Option Nat) (k0 r0 v0 : Int32) (hno : ¬ toolOk k0 r0 v0 tc) : CM l D yX8_tool cX8_tool 5 (some .int) { frames := 1, cells := 0, slots := 0, locals := 22 } (tyS cN cT cJ) [.ref o, .int k0, .int r0, .int v0] [(o, shE tr ta ac tc td cs hi), (ta, taE cT a)] (hs_QI D (tyS cN cT cJ) (toolF k0 r0 v0 tc) [(o, shE tr ta ac tc td cs hi), (ta, taE cT a)]) := by
  refine CM.of (by decide) (Nat.le_of_ble_eq_true rfl) ?_
  intro p e s m below meth c A ls hx hb hrt hml htg hown hlocks hnm hA hK hP hD hS hl
  have hown : s.vm.findClass RX8 = some m.cls := hown
  have hl : lv_has ls 5 [(0, .ref o), (1, .int k0), (2, .int r0), (3, .int v0)] := hl
  have SF : CallFix p m c cX8_tool 5 s _ hs_gt RX8 := ⟨hx, hb, hml, hown, htg⟩
  refine lv_iload_n hx hb dX8_tool_0 rfl (lv_at hl 1 rfl) ?_
  refine lv_iconst (v := 0) hx hb dX8_tool_1 (by decide) ?_
  refine lv_bipush (v := 6) hx hb dX8_tool_2 (by decide) ?_
  refine hs_calli (wc := []) (w1 := []) (wr := [(o, shE tr ta ac tc td cs hi), (ta, taE cT a)]) (ws2 := [(o, shE tr ta ac tc td cs hi), (ta, taE cT a)]) (hs_runS SF cal_X8_isWithin tw_82 (c_X8_isWithin l D cN cT cJ k0 0 6) hK (hP.sub (ws' := []) [] rfl) (hD.sub (ws' := []) [] (by decide) rfl) ⟨Nat.le_of_ble_eq_true rfl, Nat.le_of_ble_eq_true rfl⟩ rfl hl.1 rfl (Nat.le_of_ble_eq_true rfl) dX8_tool_4 ⟨Nat.le_of_ble_eq_true rfl, Nat.le_of_ble_eq_true rfl⟩) hP hD hS hA [] [0, 1] [0, 1] rfl rfl (by decide) (by decide) rfl (by decide) (fun H locs hP hD hS => ?_)
  refine lv_if_eq (tgt := 31) hx hb dX8_tool_7 (by decide) (fun c7 => ?_) (fun c7 => ?_)
  · refine lv_bipush (v := (-2)) hx hb dX8_tool_31 (by decide) ?_
    exact hs_iret hx hb hrt hlocks hK hP hD hS dX8_tool_33 (by unfold toolF; first | rw [if_pos c7] | rw [if_neg c7, if_pos c18] | rw [if_neg c7, if_neg c18, if_pos c28] | rw [if_neg c7, if_neg c18, if_neg c28, if_neg c43]) (rfl)
  · refine lv_iload_n hx hb dX8_tool_10 rfl (lv_at hl 2 rfl) ?_
    refine lv_iconst (v := 1) hx hb dX8_tool_11 (by decide) ?_
    refine lv_sipush (v := 1000) hx hb dX8_tool_12 (by decide) ?_
    refine hs_calli (wc := []) (w1 := []) (wr := [(o, shE tr ta ac tc td cs hi), (ta, taE cT a)]) (ws2 := [(o, shE tr ta ac tc td cs hi), (ta, taE cT a)]) (hs_runS SF cal_X8_isWithin tw_82 (c_X8_isWithin l D cN cT cJ r0 1 1000) hK (hP.sub (ws' := []) [] rfl) (hD.sub (ws' := []) [] (by decide) rfl) ⟨Nat.le_of_ble_eq_true rfl, Nat.le_of_ble_eq_true rfl⟩ rfl hl.1 rfl (Nat.le_of_ble_eq_true rfl) dX8_tool_15 ⟨Nat.le_of_ble_eq_true rfl, Nat.le_of_ble_eq_true rfl⟩) hP hD hS hA [] [0, 1] [0, 1] rfl rfl (by decide) (by decide) rfl (by decide) (fun H locs hP hD hS => ?_)
    refine lv_if_eq (tgt := 31) hx hb dX8_tool_18 (by decide) (fun c18 => ?_) (fun c18 => ?_)
    · refine lv_bipush (v := (-2)) hx hb dX8_tool_31 (by decide) ?_
      exact hs_iret hx hb hrt hlocks hK hP hD hS dX8_tool_33 (by unfold toolF; first | rw [if_pos c7] | rw [if_neg c7, if_pos c18] | rw [if_neg c7, if_neg c18, if_pos c28] | rw [if_neg c7, if_neg c18, if_neg c28, if_neg c43]) (rfl)
    · refine lv_iload_n hx hb dX8_tool_21 rfl (lv_at hl 3 rfl) ?_
      refine lv_iconst (v := 0) hx hb dX8_tool_22 (by decide) ?_
      refine lv_ldc (v := 100000) hx hb hown (htg _ tw_85) dX8_tool_23 ?_
      refine hs_calli (wc := []) (w1 := []) (wr := [(o, shE tr ta ac tc td cs hi), (ta, taE cT a)]) (ws2 := [(o, shE tr ta ac tc td cs hi), (ta, taE cT a)]) (hs_runS SF cal_X8_isWithin tw_82 (c_X8_isWithin l D cN cT cJ v0 0 100000) hK (hP.sub (ws' := []) [] rfl) (hD.sub (ws' := []) [] (by decide) rfl) ⟨Nat.le_of_ble_eq_true rfl, Nat.le_of_ble_eq_true rfl⟩ rfl hl.1 rfl (Nat.le_of_ble_eq_true rfl) dX8_tool_25 ⟨Nat.le_of_ble_eq_true rfl, Nat.le_of_ble_eq_true rfl⟩) hP hD hS hA [] [0, 1] [0, 1] rfl rfl (by decide) (by decide) rfl (by decide) (fun H locs hP hD hS => ?_)
      refine lv_if_ne (tgt := 34) hx hb dX8_tool_28 (by decide) (fun c28 => ?_) (fun c28 => ?_)
      · refine lv_aload_n hx hb dX8_tool_34 rfl (lv_at hl 0 rfl) ?_
        refine va_get (D := D) (ci := 8) (v := .int tc) (C := RX8) (T := TX8) (N := 7) hx hb htg in_X8 hown hK hP 0 rfl rfl 3 (by decide) (htg _ tw_58) (fun _ h9 => h9) rfl dX8_tool_35 ?_
        refine lv_aload_n hx hb dX8_tool_38 rfl (lv_at hl 0 rfl) ?_
        refine va_get (D := D) (ci := 8) (v := .ref ta) (C := RX8) (T := TX8) (N := 7) hx hb htg in_X8 hown hK hP 0 rfl rfl 1 (by decide) (htg _ tw_56) (fun _ h9 => h9) rfl dX8_tool_39 ?_
        refine va_alen (v := 24) hx hb hK hP 1 1 rfl rfl rfl dX8_tool_42 ?_
        refine lv_icmp_lt (tgt := 49) hx hb dX8_tool_43 (by decide) (fun c43 => False.elim (hno ⟨c7, c18, c28, c43⟩)) (fun c43 => ?_)
        refine lv_bipush (v := (-4)) hx hb dX8_tool_46 (by decide) ?_
        exact hs_iret hx hb hrt hlocks hK hP hD hS dX8_tool_48 (by unfold toolF; first | rw [if_pos c7] | rw [if_neg c7, if_pos c18] | rw [if_neg c7, if_neg c18, if_pos c28] | rw [if_neg c7, if_neg c18, if_neg c28, if_neg c43]) (rfl)
      · refine lv_bipush (v := (-2)) hx hb dX8_tool_31 (by decide) ?_
        exact hs_iret hx hb hrt hlocks hK hP hD hS dX8_tool_33 (by unfold toolF; first | rw [if_pos c7] | rw [if_neg c7, if_pos c18] | rw [if_neg c7, if_neg c18, if_pos c28] | rw [if_neg c7, if_neg c18, if_neg c28, if_neg c43]) (rfl)

set_option maxHeartbeats 400000 in
set_option maxRecDepth 100000 in
theorem c_X8_tool_ok (l : Launch) (D : va_G) (cN cT cJ : ClassId) (o ta ac tr : Nat) (tc td cs hi : Int32) (a : Nat → Option Nat) (r0 v0 : Int32) (k : Nat) (hk : k < 7) (hyes : toolOk (nI k) r0 v0 tc) (htc : vp_in tc 24) : CM l D yX8_tool cX8_tool 5 (some .int) { frames := 7, cells := 1, slots := 8, locals := 155 } (tyS cN cT cJ) [.ref o, .int (nI k), .int r0, .int v0] [(o, shE tr ta ac tc td cs hi), (ta, taE cT a)] (hs_QIx D (tyS cN cT cJ) tc (fun q => [(o, shE tr ta ac (tc + 1) td cs hi), (ta, taE cT (va_up a tc.toNatClampNeg (some q))), (q, tlE k tr (nI k) r0 v0 0 0 (-1) (-1))])) := by
  refine CM.of (by decide) (Nat.le_of_ble_eq_true rfl) ?_
  intro p e s m below meth c A ls hx hb hrt hml htg hown hlocks hnm hA hK hP hD hS hl
  have hown : s.vm.findClass RX8 = some m.cls := hown
  have hl : lv_has ls 5 [(0, .ref o), (1, .int (nI k)), (2, .int r0), (3, .int v0)] := hl
  have SF : CallFix p m c cX8_tool 5 s _ hs_gt RX8 := ⟨hx, hb, hml, hown, htg⟩
  refine lv_iload_n hx hb dX8_tool_0 rfl (lv_at hl 1 rfl) ?_
  refine lv_iconst (v := 0) hx hb dX8_tool_1 (by decide) ?_
  refine lv_bipush (v := 6) hx hb dX8_tool_2 (by decide) ?_
  refine hs_calli (wc := []) (w1 := []) (wr := [(o, shE tr ta ac tc td cs hi), (ta, taE cT a)]) (ws2 := [(o, shE tr ta ac tc td cs hi), (ta, taE cT a)]) (hs_runS SF cal_X8_isWithin tw_82 (c_X8_isWithin l D cN cT cJ (nI k) 0 6) hK (hP.sub (ws' := []) [] rfl) (hD.sub (ws' := []) [] (by decide) rfl) ⟨Nat.le_of_ble_eq_true rfl, Nat.le_of_ble_eq_true rfl⟩ rfl hl.1 rfl (Nat.le_of_ble_eq_true rfl) dX8_tool_4 ⟨Nat.le_of_ble_eq_true rfl, Nat.le_of_ble_eq_true rfl⟩) hP hD hS hA [] [0, 1] [0, 1] rfl rfl (by decide) (by decide) rfl (by decide) (fun H locs hP hD hS => ?_)
  refine lv_if_eq (tgt := 31) hx hb dX8_tool_7 (by decide) (fun c7 => absurd c7 (hyes.1)) (fun c7 => ?_)
  refine lv_iload_n hx hb dX8_tool_10 rfl (lv_at hl 2 rfl) ?_
  refine lv_iconst (v := 1) hx hb dX8_tool_11 (by decide) ?_
  refine lv_sipush (v := 1000) hx hb dX8_tool_12 (by decide) ?_
  refine hs_calli (wc := []) (w1 := []) (wr := [(o, shE tr ta ac tc td cs hi), (ta, taE cT a)]) (ws2 := [(o, shE tr ta ac tc td cs hi), (ta, taE cT a)]) (hs_runS SF cal_X8_isWithin tw_82 (c_X8_isWithin l D cN cT cJ r0 1 1000) hK (hP.sub (ws' := []) [] rfl) (hD.sub (ws' := []) [] (by decide) rfl) ⟨Nat.le_of_ble_eq_true rfl, Nat.le_of_ble_eq_true rfl⟩ rfl hl.1 rfl (Nat.le_of_ble_eq_true rfl) dX8_tool_15 ⟨Nat.le_of_ble_eq_true rfl, Nat.le_of_ble_eq_true rfl⟩) hP hD hS hA [] [0, 1] [0, 1] rfl rfl (by decide) (by decide) rfl (by decide) (fun H locs hP hD hS => ?_)
  refine lv_if_eq (tgt := 31) hx hb dX8_tool_18 (by decide) (fun c18 => absurd c18 (hyes.2.1)) (fun c18 => ?_)
  refine lv_iload_n hx hb dX8_tool_21 rfl (lv_at hl 3 rfl) ?_
  refine lv_iconst (v := 0) hx hb dX8_tool_22 (by decide) ?_
  refine lv_ldc (v := 100000) hx hb hown (htg _ tw_85) dX8_tool_23 ?_
  refine hs_calli (wc := []) (w1 := []) (wr := [(o, shE tr ta ac tc td cs hi), (ta, taE cT a)]) (ws2 := [(o, shE tr ta ac tc td cs hi), (ta, taE cT a)]) (hs_runS SF cal_X8_isWithin tw_82 (c_X8_isWithin l D cN cT cJ v0 0 100000) hK (hP.sub (ws' := []) [] rfl) (hD.sub (ws' := []) [] (by decide) rfl) ⟨Nat.le_of_ble_eq_true rfl, Nat.le_of_ble_eq_true rfl⟩ rfl hl.1 rfl (Nat.le_of_ble_eq_true rfl) dX8_tool_25 ⟨Nat.le_of_ble_eq_true rfl, Nat.le_of_ble_eq_true rfl⟩) hP hD hS hA [] [0, 1] [0, 1] rfl rfl (by decide) (by decide) rfl (by decide) (fun H locs hP hD hS => ?_)
  refine lv_if_ne (tgt := 34) hx hb dX8_tool_28 (by decide) (fun c28 => ?_) (fun c28 => absurd c28 (hyes.2.2.1))
  refine lv_aload_n hx hb dX8_tool_34 rfl (lv_at hl 0 rfl) ?_
  refine va_get (D := D) (ci := 8) (v := .int tc) (C := RX8) (T := TX8) (N := 7) hx hb htg in_X8 hown hK hP 0 rfl rfl 3 (by decide) (htg _ tw_58) (fun _ h9 => h9) rfl dX8_tool_35 ?_
  refine lv_aload_n hx hb dX8_tool_38 rfl (lv_at hl 0 rfl) ?_
  refine va_get (D := D) (ci := 8) (v := .ref ta) (C := RX8) (T := TX8) (N := 7) hx hb htg in_X8 hown hK hP 0 rfl rfl 1 (by decide) (htg _ tw_56) (fun _ h9 => h9) rfl dX8_tool_39 ?_
  refine va_alen (v := 24) hx hb hK hP 1 1 rfl rfl rfl dX8_tool_42 ?_
  refine lv_icmp_lt (tgt := 49) hx hb dX8_tool_43 (by decide) (fun c43 => ?_) (fun c43 => absurd c43 (fun q => q hyes.2.2.2))
  refine lv_aload_n hx hb dX8_tool_49 rfl (lv_at hl 0 rfl) ?_
  refine va_get (D := D) (ci := 8) (v := .int tc) (C := RX8) (T := TX8) (N := 7) hx hb htg in_X8 hown hK hP 0 rfl rfl 3 (by decide) (htg _ tw_58) (fun _ h9 => h9) rfl dX8_tool_50 ?_
  refine lv_istore (lv' := [(4, .int tc), (0, .ref o), (1, .int (nI k)), (2, .int r0), (3, .int v0)]) hx hb dX8_tool_53 hl (by decide) rfl (fun ls hl => ?_)
  refine lv_aload_n hx hb dX8_tool_55 rfl (lv_at hl 1 rfl) ?_
  refine va_get (D := D) (ci := 8) (v := .ref ta) (C := RX8) (T := TX8) (N := 7) hx hb htg in_X8 hown hK hP 0 rfl rfl 1 (by decide) (htg _ tw_56) (fun _ h9 => h9) rfl dX8_tool_56 ?_
  refine lv_iload hx hb dX8_tool_59 (lv_at hl 0 rfl) ?_
  refine lv_aload_n hx hb dX8_tool_61 rfl (lv_at hl 1 rfl) ?_
  refine lv_iload_n hx hb dX8_tool_62 rfl (lv_at hl 2 rfl) ?_
  refine lv_iload_n hx hb dX8_tool_63 rfl (lv_at hl 3 rfl) ?_
  refine lv_iload_n hx hb dX8_tool_64 rfl (lv_at hl 4 rfl) ?_
  have hF := va_free (wc := [(o, shE tr ta ac tc td cs hi)]) hD hS hA [0] rfl
  refine va_callr (hs_runV (q0 := 0) (Qf := hs_QR D (tyS cN cT cJ) (fun q => [(o, shE tr ta ac tc td cs hi), (q, tlE k tr (nI k) r0 v0 0 0 (-1) (-1))])) (As := [.int (nI k), .int r0, .int v0]) (rest := [.int tc, .ref ta]) (rm := { frames := 6, cells := 1, slots := 8, locals := 132 }) SF cal_X8_newTool tw_86 (c_X8_newTool l D cN cT cJ o ta ac tr tc td cs hi r0 v0 k hk) hK (hP.sub (ws' := [(o, shE tr ta ac tc td cs hi)]) [0] rfl) (hD.sub (ws' := [(o, shE tr ta ac tc td cs hi)]) [0] (by decide) rfl) rfl rfl ⟨Nat.le_of_ble_eq_true rfl, Nat.le_of_ble_eq_true rfl⟩ rfl hl.1 rfl (Nat.le_of_ble_eq_true rfl) dX8_tool_65 ⟨Nat.le_of_ble_eq_true rfl, Nat.le_of_ble_eq_true rfl⟩) hS (fun q _ h => hF q h) hF (fun u q t H1 locs ht hvm hw hB hz1 hk1 hS => ?_)
  obtain ⟨hP1, -, hD1⟩ := hB
  rw [ht] at hP1
  obtain ⟨hP, hD⟩ := hs_back (wr := [(ta, taE cT a)]) (ws2 := [(o, shE tr ta ac tc td cs hi), (ta, taE cT a), (q, tlE k tr (nI k) r0 v0 0 0 (-1) (-1))]) hP hD hF [0] [1] [1, 0, 2] rfl rfl (by decide) (by decide) rfl (by decide) hk1 hP1 hD1
  refine W.widen (k := 1) (n := 8) (Nat.le_of_ble_eq_true rfl) (Nat.le_of_ble_eq_true rfl) ?_
  refine va_astqM (E := RX5) hx hb hK hP hD hS 1 1 rfl rfl (va_rAny (q0 := 2) hK hP rfl (kc_cl k) (hs_assign htg k)) htc dX8_tool_68 (fun H locs hP hD hS => ?_)
  have hP : va_P D hs_cl [(o, shE tr ta ac tc td cs hi), (ta, taE cT (va_up a tc.toNatClampNeg (some q))), (q, tlE k tr (nI k) r0 v0 0 0 (-1) (-1))] H := hP
  have hD : va_D A [(o, shE tr ta ac tc td cs hi), (ta, taE cT (va_up a tc.toNatClampNeg (some q))), (q, tlE k tr (nI k) r0 v0 0 0 (-1) (-1))] := hD
  refine lv_aload_n hx hb dX8_tool_69 rfl (lv_at hl 1 rfl) ?_
  refine lv_dup hx hb dX8_tool_70 rfl ?_
  refine va_get (D := D) (ci := 8) (v := .int tc) (C := RX8) (T := TX8) (N := 7) hx hb htg in_X8 hown hK hP 0 rfl rfl 3 (by decide) (htg _ tw_58) (fun _ h9 => h9) rfl dX8_tool_71 ?_
  refine lv_iconst (v := 1) hx hb dX8_tool_74 (by decide) ?_
  refine lv_iadd hx hb dX8_tool_75 ?_
  refine va_put (D := D) (ci := 8) (v := .int (tc + 1)) (ty := .int) (C := RX8) (T := TX8) (N := 7) hx hb htg in_X8 tyX8 tyX8_ok nmX8 hown hK hP hD hS 0 rfl rfl 3 (by decide) (htg _ tw_58) (fun _ h9 => h9) rfl (by decide +kernel) rfl rfl (Nat.le_of_ble_eq_true rfl) dX8_tool_76 (fun H locs hP hD hS => ?_)
  have hP : va_P D hs_cl [(o, shE tr ta ac (tc + 1) td cs hi), (ta, taE cT (va_up a tc.toNatClampNeg (some q))), (q, tlE k tr (nI k) r0 v0 0 0 (-1) (-1))] H := hP
  have hD : va_D A [(o, shE tr ta ac (tc + 1) td cs hi), (ta, taE cT (va_up a tc.toNatClampNeg (some q))), (q, tlE k tr (nI k) r0 v0 0 0 (-1) (-1))] := hD
  refine lv_iload hx hb dX8_tool_79 (lv_at hl 0 rfl) ?_
  exact W.iret hx hb hrt (fun t ht hW => ⟨⟨tc, (), rfl, rfl, q, by rw [ht]; exact hP, va_K.moved hW.alike hK, hD⟩, hS.F ht⟩) hS.2.2 dX8_tool_81 hlocks

theorem cal_X8_tool : hs_cV yX8_tool cX8_tool 5 (some .int) 3 := ⟨tw_81, tw_79, tw_80, tw_17, by decide +kernel⟩

set_option maxHeartbeats 400000 in
set_option maxRecDepth 100000 in
theorem c_X9_tool_no (l : Launch) (D : va_G) (o : Nat) (ad : Nat → Nat) (cd : Nat → ClassId) (tn td cs hd : Int32) (kd rt vl hr hw cu si : Nat → Int32) (acc : Nat → Int64) (st : TS) (k0 r0 v0 : Int32) (hno : ¬ toolOkM k0 r0 v0 tn) : CM l D yX9_tool cX9_tool 4 (some .int) { frames := 1, cells := 0, slots := 0, locals := 22 } (tyM cd) [.ref o, .int k0, .int r0, .int v0] (mW o ad cd tn td cs hd kd rt vl hr hw cu si acc st) (hs_QI D (tyM cd) (toolFM k0 r0 v0 tn) (mW o ad cd tn td cs hd kd rt vl hr hw cu si acc st)) := by
  refine CM.of (by decide) (Nat.le_of_ble_eq_true rfl) ?_
  intro p e s m below meth c A ls hx hb hrt hml htg hown hlocks hnm hA hK hP hD hS hl
  have hown : s.vm.findClass RX9 = some m.cls := hown
  have hl : lv_has ls 4 [(0, .ref o), (1, .int k0), (2, .int r0), (3, .int v0)] := hl
  have SF : CallFix p m c cX9_tool 4 s _ hs_gt RX9 := ⟨hx, hb, hml, hown, htg⟩
  refine lv_iload_n hx hb dX9_tool_0 rfl (lv_at hl 1 rfl) ?_
  refine lv_iconst (v := 0) hx hb dX9_tool_1 (by decide) ?_
  refine lv_bipush (v := 6) hx hb dX9_tool_2 (by decide) ?_
  refine hs_calli0 (w1 := (mW o ad cd tn td cs hd kd rt vl hr hw cu si acc st)) (hs_runS SF cal_X9_in tw_570 (c_X9_in l D o ad cd tn td cs hd kd rt vl hr hw cu si acc st k0 0 6) hK hP hD ⟨Nat.le_of_ble_eq_true rfl, Nat.le_of_ble_eq_true rfl⟩ rfl hl.1 rfl (Nat.le_of_ble_eq_true rfl) dX9_tool_4 ⟨Nat.le_of_ble_eq_true rfl, Nat.le_of_ble_eq_true rfl⟩) hD hS hA (fun H locs hP hD hS => ?_)
  refine lv_if_eq (tgt := 31) hx hb dX9_tool_7 (by decide) (fun c7 => ?_) (fun c7 => ?_)
  · refine lv_bipush (v := (-2)) hx hb dX9_tool_31 (by decide) ?_
    exact hs_iret hx hb hrt hlocks hK hP hD hS dX9_tool_33 (by unfold toolFM; first | rw [if_pos c7] | rw [if_neg c7, if_pos c18] | rw [if_neg c7, if_neg c18, if_pos c28] | rw [if_neg c7, if_neg c18, if_neg c28, if_pos c40]) (rfl)
  · refine lv_iload_n hx hb dX9_tool_10 rfl (lv_at hl 2 rfl) ?_
    refine lv_iconst (v := 1) hx hb dX9_tool_11 (by decide) ?_
    refine lv_sipush (v := 1000) hx hb dX9_tool_12 (by decide) ?_
    refine hs_calli0 (w1 := (mW o ad cd tn td cs hd kd rt vl hr hw cu si acc st)) (hs_runS SF cal_X9_in tw_570 (c_X9_in l D o ad cd tn td cs hd kd rt vl hr hw cu si acc st r0 1 1000) hK hP hD ⟨Nat.le_of_ble_eq_true rfl, Nat.le_of_ble_eq_true rfl⟩ rfl hl.1 rfl (Nat.le_of_ble_eq_true rfl) dX9_tool_15 ⟨Nat.le_of_ble_eq_true rfl, Nat.le_of_ble_eq_true rfl⟩) hD hS hA (fun H locs hP hD hS => ?_)
    refine lv_if_eq (tgt := 31) hx hb dX9_tool_18 (by decide) (fun c18 => ?_) (fun c18 => ?_)
    · refine lv_bipush (v := (-2)) hx hb dX9_tool_31 (by decide) ?_
      exact hs_iret hx hb hrt hlocks hK hP hD hS dX9_tool_33 (by unfold toolFM; first | rw [if_pos c7] | rw [if_neg c7, if_pos c18] | rw [if_neg c7, if_neg c18, if_pos c28] | rw [if_neg c7, if_neg c18, if_neg c28, if_pos c40]) (rfl)
    · refine lv_iload_n hx hb dX9_tool_21 rfl (lv_at hl 3 rfl) ?_
      refine lv_iconst (v := 0) hx hb dX9_tool_22 (by decide) ?_
      refine lv_ldc (v := 100000) hx hb hown (htg _ tw_573) dX9_tool_23 ?_
      refine hs_calli0 (w1 := (mW o ad cd tn td cs hd kd rt vl hr hw cu si acc st)) (hs_runS SF cal_X9_in tw_570 (c_X9_in l D o ad cd tn td cs hd kd rt vl hr hw cu si acc st v0 0 100000) hK hP hD ⟨Nat.le_of_ble_eq_true rfl, Nat.le_of_ble_eq_true rfl⟩ rfl hl.1 rfl (Nat.le_of_ble_eq_true rfl) dX9_tool_25 ⟨Nat.le_of_ble_eq_true rfl, Nat.le_of_ble_eq_true rfl⟩) hD hS hA (fun H locs hP hD hS => ?_)
      refine lv_if_ne (tgt := 34) hx hb dX9_tool_28 (by decide) (fun c28 => ?_) (fun c28 => ?_)
      · refine lv_aload_n hx hb dX9_tool_34 rfl (lv_at hl 0 rfl) ?_
        refine va_get (D := D) (ci := 9) (v := .int tn) (C := RX9) (T := TX9) (N := 15) hx hb htg in_X9 hown hK hP 0 rfl rfl 0 (by decide) (htg _ tw_520) (fun _ h9 => h9) rfl dX9_tool_35 ?_
        refine lv_bipush (v := 24) hx hb dX9_tool_38 (by decide) ?_
        refine lv_icmp_ne (tgt := 46) hx hb dX9_tool_40 (by decide) (fun c40 => False.elim (hno ⟨c7, c18, c28, c40⟩)) (fun c40 => ?_)
        refine lv_bipush (v := (-4)) hx hb dX9_tool_43 (by decide) ?_
        exact hs_iret hx hb hrt hlocks hK hP hD hS dX9_tool_45 (by unfold toolFM; first | rw [if_pos c7] | rw [if_neg c7, if_pos c18] | rw [if_neg c7, if_neg c18, if_pos c28] | rw [if_neg c7, if_neg c18, if_neg c28, if_pos c40]) (rfl)
      · refine lv_bipush (v := (-2)) hx hb dX9_tool_31 (by decide) ?_
        exact hs_iret hx hb hrt hlocks hK hP hD hS dX9_tool_33 (by unfold toolFM; first | rw [if_pos c7] | rw [if_neg c7, if_pos c18] | rw [if_neg c7, if_neg c18, if_pos c28] | rw [if_neg c7, if_neg c18, if_neg c28, if_pos c40]) (rfl)

set_option maxHeartbeats 400000 in
set_option maxRecDepth 100000 in
theorem c_X9_tool_ok (l : Launch) (D : va_G) (o : Nat) (ad : Nat → Nat) (cd : Nat → ClassId) (tn td cs hd : Int32) (kd rt vl hr hw cu si : Nat → Int32) (acc : Nat → Int64) (st : TS) (k0 r0 v0 : Int32) (hyes : toolOkM k0 r0 v0 tn) (htn : vp_in tn 24) : CM l D yX9_tool cX9_tool 4 (some .int) { frames := 1, cells := 0, slots := 0, locals := 22 } (tyM cd) [.ref o, .int k0, .int r0, .int v0] (mW o ad cd tn td cs hd kd rt vl hr hw cu si acc st) (hs_QI D (tyM cd) tn (mW o ad cd (tn + 1) td cs hd (upd kd tn.toNatClampNeg k0) (upd rt tn.toNatClampNeg r0) (upd vl tn.toNatClampNeg v0) hr hw cu si acc st)) := by
  refine CM.of (by decide) (Nat.le_of_ble_eq_true rfl) ?_
  intro p e s m below meth c A ls hx hb hrt hml htg hown hlocks hnm hA hK hP hD hS hl
  have hown : s.vm.findClass RX9 = some m.cls := hown
  have hl : lv_has ls 4 [(0, .ref o), (1, .int k0), (2, .int r0), (3, .int v0)] := hl
  have SF : CallFix p m c cX9_tool 4 s _ hs_gt RX9 := ⟨hx, hb, hml, hown, htg⟩
  refine lv_iload_n hx hb dX9_tool_0 rfl (lv_at hl 1 rfl) ?_
  refine lv_iconst (v := 0) hx hb dX9_tool_1 (by decide) ?_
  refine lv_bipush (v := 6) hx hb dX9_tool_2 (by decide) ?_
  refine hs_calli0 (w1 := (mW o ad cd tn td cs hd kd rt vl hr hw cu si acc st)) (hs_runS SF cal_X9_in tw_570 (c_X9_in l D o ad cd tn td cs hd kd rt vl hr hw cu si acc st k0 0 6) hK hP hD ⟨Nat.le_of_ble_eq_true rfl, Nat.le_of_ble_eq_true rfl⟩ rfl hl.1 rfl (Nat.le_of_ble_eq_true rfl) dX9_tool_4 ⟨Nat.le_of_ble_eq_true rfl, Nat.le_of_ble_eq_true rfl⟩) hD hS hA (fun H locs hP hD hS => ?_)
  refine lv_if_eq (tgt := 31) hx hb dX9_tool_7 (by decide) (fun c7 => absurd c7 (hyes.1)) (fun c7 => ?_)
  refine lv_iload_n hx hb dX9_tool_10 rfl (lv_at hl 2 rfl) ?_
  refine lv_iconst (v := 1) hx hb dX9_tool_11 (by decide) ?_
  refine lv_sipush (v := 1000) hx hb dX9_tool_12 (by decide) ?_
  refine hs_calli0 (w1 := (mW o ad cd tn td cs hd kd rt vl hr hw cu si acc st)) (hs_runS SF cal_X9_in tw_570 (c_X9_in l D o ad cd tn td cs hd kd rt vl hr hw cu si acc st r0 1 1000) hK hP hD ⟨Nat.le_of_ble_eq_true rfl, Nat.le_of_ble_eq_true rfl⟩ rfl hl.1 rfl (Nat.le_of_ble_eq_true rfl) dX9_tool_15 ⟨Nat.le_of_ble_eq_true rfl, Nat.le_of_ble_eq_true rfl⟩) hD hS hA (fun H locs hP hD hS => ?_)
  refine lv_if_eq (tgt := 31) hx hb dX9_tool_18 (by decide) (fun c18 => absurd c18 (hyes.2.1)) (fun c18 => ?_)
  refine lv_iload_n hx hb dX9_tool_21 rfl (lv_at hl 3 rfl) ?_
  refine lv_iconst (v := 0) hx hb dX9_tool_22 (by decide) ?_
  refine lv_ldc (v := 100000) hx hb hown (htg _ tw_573) dX9_tool_23 ?_
  refine hs_calli0 (w1 := (mW o ad cd tn td cs hd kd rt vl hr hw cu si acc st)) (hs_runS SF cal_X9_in tw_570 (c_X9_in l D o ad cd tn td cs hd kd rt vl hr hw cu si acc st v0 0 100000) hK hP hD ⟨Nat.le_of_ble_eq_true rfl, Nat.le_of_ble_eq_true rfl⟩ rfl hl.1 rfl (Nat.le_of_ble_eq_true rfl) dX9_tool_25 ⟨Nat.le_of_ble_eq_true rfl, Nat.le_of_ble_eq_true rfl⟩) hD hS hA (fun H locs hP hD hS => ?_)
  refine lv_if_ne (tgt := 34) hx hb dX9_tool_28 (by decide) (fun c28 => ?_) (fun c28 => absurd c28 (hyes.2.2.1))
  refine lv_aload_n hx hb dX9_tool_34 rfl (lv_at hl 0 rfl) ?_
  refine va_get (D := D) (ci := 9) (v := .int tn) (C := RX9) (T := TX9) (N := 15) hx hb htg in_X9 hown hK hP 0 rfl rfl 0 (by decide) (htg _ tw_520) (fun _ h9 => h9) rfl dX9_tool_35 ?_
  refine lv_bipush (v := 24) hx hb dX9_tool_38 (by decide) ?_
  refine lv_icmp_ne (tgt := 46) hx hb dX9_tool_40 (by decide) (fun c40 => ?_) (fun c40 => absurd c40 (hyes.2.2.2))
  refine lv_aload_n hx hb dX9_tool_46 rfl (lv_at hl 0 rfl) ?_
  refine va_get (D := D) (ci := 9) (v := .ref (ad 1)) (C := RX9) (T := TX9) (N := 15) hx hb htg in_X9 hown hK hP 0 rfl rfl 1 (by decide) (htg _ tw_521) (fun _ h9 => h9) rfl dX9_tool_47 ?_
  refine lv_aload_n hx hb dX9_tool_50 rfl (lv_at hl 0 rfl) ?_
  refine va_get (D := D) (ci := 9) (v := .int tn) (C := RX9) (T := TX9) (N := 15) hx hb htg in_X9 hown hK hP 0 rfl rfl 0 (by decide) (htg _ tw_520) (fun _ h9 => h9) rfl dX9_tool_51 ?_
  refine lv_iload_n hx hb dX9_tool_54 rfl (lv_at hl 1 rfl) ?_
  refine va_iast hx hb hK hP hD hS 1 0 rfl rfl (htn) dX9_tool_55 (fun H locs hP hD hS => ?_)
  have hP : va_P D hs_cl (mW o ad cd tn td cs hd (upd kd tn.toNatClampNeg k0) rt vl hr hw cu si acc st) H := hP
  have hD : va_D A (mW o ad cd tn td cs hd (upd kd tn.toNatClampNeg k0) rt vl hr hw cu si acc st) := hD
  refine lv_aload_n hx hb dX9_tool_56 rfl (lv_at hl 0 rfl) ?_
  refine va_get (D := D) (ci := 9) (v := .ref (ad 2)) (C := RX9) (T := TX9) (N := 15) hx hb htg in_X9 hown hK hP 0 rfl rfl 2 (by decide) (htg _ tw_522) (fun _ h9 => h9) rfl dX9_tool_57 ?_
  refine lv_aload_n hx hb dX9_tool_60 rfl (lv_at hl 0 rfl) ?_
  refine va_get (D := D) (ci := 9) (v := .int tn) (C := RX9) (T := TX9) (N := 15) hx hb htg in_X9 hown hK hP 0 rfl rfl 0 (by decide) (htg _ tw_520) (fun _ h9 => h9) rfl dX9_tool_61 ?_
  refine lv_iload_n hx hb dX9_tool_64 rfl (lv_at hl 2 rfl) ?_
  refine va_iast hx hb hK hP hD hS 2 1 rfl rfl (htn) dX9_tool_65 (fun H locs hP hD hS => ?_)
  have hP : va_P D hs_cl (mW o ad cd tn td cs hd (upd kd tn.toNatClampNeg k0) (upd rt tn.toNatClampNeg r0) vl hr hw cu si acc st) H := hP
  have hD : va_D A (mW o ad cd tn td cs hd (upd kd tn.toNatClampNeg k0) (upd rt tn.toNatClampNeg r0) vl hr hw cu si acc st) := hD
  refine lv_aload_n hx hb dX9_tool_66 rfl (lv_at hl 0 rfl) ?_
  refine va_get (D := D) (ci := 9) (v := .ref (ad 3)) (C := RX9) (T := TX9) (N := 15) hx hb htg in_X9 hown hK hP 0 rfl rfl 3 (by decide) (htg _ tw_523) (fun _ h9 => h9) rfl dX9_tool_67 ?_
  refine lv_aload_n hx hb dX9_tool_70 rfl (lv_at hl 0 rfl) ?_
  refine va_get (D := D) (ci := 9) (v := .int tn) (C := RX9) (T := TX9) (N := 15) hx hb htg in_X9 hown hK hP 0 rfl rfl 0 (by decide) (htg _ tw_520) (fun _ h9 => h9) rfl dX9_tool_71 ?_
  refine lv_iload_n hx hb dX9_tool_74 rfl (lv_at hl 3 rfl) ?_
  refine va_iast hx hb hK hP hD hS 3 2 rfl rfl (htn) dX9_tool_75 (fun H locs hP hD hS => ?_)
  have hP : va_P D hs_cl (mW o ad cd tn td cs hd (upd kd tn.toNatClampNeg k0) (upd rt tn.toNatClampNeg r0) (upd vl tn.toNatClampNeg v0) hr hw cu si acc st) H := hP
  have hD : va_D A (mW o ad cd tn td cs hd (upd kd tn.toNatClampNeg k0) (upd rt tn.toNatClampNeg r0) (upd vl tn.toNatClampNeg v0) hr hw cu si acc st) := hD
  refine lv_aload_n hx hb dX9_tool_76 rfl (lv_at hl 0 rfl) ?_
  refine lv_dup hx hb dX9_tool_77 rfl ?_
  refine va_get (D := D) (ci := 9) (v := .int tn) (C := RX9) (T := TX9) (N := 15) hx hb htg in_X9 hown hK hP 0 rfl rfl 0 (by decide) (htg _ tw_520) (fun _ h9 => h9) rfl dX9_tool_78 ?_
  refine lv_iconst (v := 1) hx hb dX9_tool_81 (by decide) ?_
  refine lv_iadd hx hb dX9_tool_82 ?_
  refine va_put (D := D) (ci := 9) (v := .int (tn + 1)) (ty := .int) (C := RX9) (T := TX9) (N := 15) hx hb htg in_X9 tyX9 tyX9_ok nmX9 hown hK hP hD hS 0 rfl rfl 0 (by decide) (htg _ tw_520) (fun _ h9 => h9) rfl (by decide +kernel) rfl rfl (Nat.le_of_ble_eq_true rfl) dX9_tool_83 (fun H locs hP hD hS => ?_)
  have hP : va_P D hs_cl (mW o ad cd (tn + 1) td cs hd (upd kd tn.toNatClampNeg k0) (upd rt tn.toNatClampNeg r0) (upd vl tn.toNatClampNeg v0) hr hw cu si acc st) H := hP
  have hD : va_D A (mW o ad cd (tn + 1) td cs hd (upd kd tn.toNatClampNeg k0) (upd rt tn.toNatClampNeg r0) (upd vl tn.toNatClampNeg v0) hr hw cu si acc st) := hD
  refine lv_aload_n hx hb dX9_tool_86 rfl (lv_at hl 0 rfl) ?_
  refine va_get (D := D) (ci := 9) (v := .int (tn + 1)) (C := RX9) (T := TX9) (N := 15) hx hb htg in_X9 hown hK hP 0 rfl rfl 0 (by decide) (htg _ tw_520) (fun _ h9 => h9) rfl dX9_tool_87 ?_
  refine lv_iconst (v := 1) hx hb dX9_tool_90 (by decide) ?_
  refine lv_isub hx hb dX9_tool_91 ?_
  exact hs_iret hx hb hrt hlocks hK hP hD hS dX9_tool_92 (by exact Int32.add_sub_cancel _ _) (rfl)

theorem cal_X9_tool : hs_cV yX9_tool cX9_tool 4 (some .int) 3 := ⟨tw_569, tw_567, tw_568, tw_19, by decide +kernel⟩

