set_option maxHeartbeats 400000 in
set_option maxRecDepth 100000 in
theorem c_X9_in (l : Launch) (D : va_G) (o : Nat) (ad : Nat → Nat) (cd : Nat → ClassId) (tn td cs hd : Int32) (kd rt vl hr hw cu si : Nat → Int32) (acc : Nat → Int64) (st : TS) (x y z : Int32) : CM l D yX9_in cX9_in 3 (some .boolean) { frames := 0, cells := 0, slots := 0, locals := 0 } (tyM cd) [.int x, .int y, .int z] (mW o ad cd tn td cs hd kd rt vl hr hw cu si acc st) (hs_QI D (tyM cd) (wi x y z) (mW o ad cd tn td cs hd kd rt vl hr hw cu si acc st)) := by
  refine CM.of (by decide) (Nat.le_of_ble_eq_true rfl) ?_
  intro p e s m below meth c A ls hx hb hrt hml htg hown hlocks hnm hA hK hP hD hS hl
  have hown : s.vm.findClass RX9 = some m.cls := hown
  have hl : lv_has ls 3 [(0, .int x), (1, .int y), (2, .int z)] := hl
  have SF : CallFix p m c cX9_in 3 s _ hs_gt RX9 := ⟨hx, hb, hml, hown, htg⟩
  refine lv_iload_n hx hb dX9_in_0 rfl (lv_at hl 0 rfl) ?_
  refine lv_iload_n hx hb dX9_in_1 rfl (lv_at hl 1 rfl) ?_
  refine lv_icmp_lt (tgt := 14) hx hb dX9_in_2 (by decide) (fun c2 => ?_) (fun c2 => ?_)
  · refine lv_iconst (v := 0) hx hb dX9_in_14 (by decide) ?_
    exact hs_zret hx hb hrt hlocks hK hP hD hS dX9_in_15 rfl (by unfold wi; first | rw [if_pos c2] | rw [if_neg c2, if_pos c7] | rw [if_neg c2, if_neg c7]) (rfl)
  · refine lv_iload_n hx hb dX9_in_5 rfl (lv_at hl 0 rfl) ?_
    refine lv_iload_n hx hb dX9_in_6 rfl (lv_at hl 2 rfl) ?_
    refine lv_icmp_gt (tgt := 14) hx hb dX9_in_7 (by decide) (fun c7 => ?_) (fun c7 => ?_)
    · refine lv_iconst (v := 0) hx hb dX9_in_14 (by decide) ?_
      exact hs_zret hx hb hrt hlocks hK hP hD hS dX9_in_15 rfl (by unfold wi; first | rw [if_pos c2] | rw [if_neg c2, if_pos c7] | rw [if_neg c2, if_neg c7]) (rfl)
    · refine lv_iconst (v := 1) hx hb dX9_in_10 (by decide) ?_
      refine lv_goto (tgt := 15) hx hb dX9_in_11 (by decide) ?_
      exact hs_zret hx hb hrt hlocks hK hP hD hS dX9_in_15 rfl (by unfold wi; first | rw [if_pos c2] | rw [if_neg c2, if_pos c7] | rw [if_neg c2, if_neg c7]) (rfl)

theorem cal_X9_in : hs_cS yX9_in cX9_in 3 (some .boolean) 3 := ⟨tw_572, tw_571, tw_19, by decide +kernel⟩

set_option maxHeartbeats 400000 in
set_option maxRecDepth 100000 in
theorem c_X9_isTool (l : Launch) (D : va_G) (o : Nat) (ad : Nat → Nat) (cd : Nat → ClassId) (tn td cs hd : Int32) (kd rt vl hr hw cu si : Nat → Int32) (acc : Nat → Int64) (st : TS) (t : Int32) : CM l D yX9_isTool cX9_isTool 2 (some .boolean) { frames := 1, cells := 0, slots := 0, locals := 22 } (tyM cd) [.ref o, .int t] (mW o ad cd tn td cs hd kd rt vl hr hw cu si acc st) (hs_QI D (tyM cd) (wi t 0 (tn - 1)) (mW o ad cd tn td cs hd kd rt vl hr hw cu si acc st)) := by
  refine CM.of (by decide) (Nat.le_of_ble_eq_true rfl) ?_
  intro p e s m below meth c A ls hx hb hrt hml htg hown hlocks hnm hA hK hP hD hS hl
  have hown : s.vm.findClass RX9 = some m.cls := hown
  have hl : lv_has ls 2 [(0, .ref o), (1, .int t)] := hl
  have SF : CallFix p m c cX9_isTool 2 s _ hs_gt RX9 := ⟨hx, hb, hml, hown, htg⟩
  refine lv_iload_n hx hb dX9_isTool_0 rfl (lv_at hl 1 rfl) ?_
  refine lv_iconst (v := 0) hx hb dX9_isTool_1 (by decide) ?_
  refine lv_aload_n hx hb dX9_isTool_2 rfl (lv_at hl 0 rfl) ?_
  refine va_get (D := D) (ci := 9) (v := .int tn) (C := RX9) (T := TX9) (N := 15) hx hb htg in_X9 hown hK hP 0 rfl rfl 0 (by decide) (htg _ tw_520) (fun _ h9 => h9) rfl dX9_isTool_3 ?_
  refine lv_iconst (v := 1) hx hb dX9_isTool_6 (by decide) ?_
  refine lv_isub hx hb dX9_isTool_7 ?_
  refine hs_calli0 (w1 := (mW o ad cd tn td cs hd kd rt vl hr hw cu si acc st)) (hs_runS SF cal_X9_in tw_570 (c_X9_in l D o ad cd tn td cs hd kd rt vl hr hw cu si acc st t 0 (tn - 1)) hK hP hD ⟨Nat.le_of_ble_eq_true rfl, Nat.le_of_ble_eq_true rfl⟩ rfl hl.1 rfl (Nat.le_of_ble_eq_true rfl) dX9_isTool_8 ⟨Nat.le_of_ble_eq_true rfl, Nat.le_of_ble_eq_true rfl⟩) hD hS hA (fun H locs hP hD hS => ?_)
  exact hs_zret hx hb hrt hlocks hK hP hD hS dX9_isTool_11 (nz_wi _ _ _) (rfl) (rfl)

theorem cal_X9_isTool : hs_cV yX9_isTool cX9_isTool 2 (some .boolean) 1 := ⟨tw_581, tw_580, tw_4, tw_19, by decide +kernel⟩

set_option maxHeartbeats 400000 in
set_option maxRecDepth 100000 in
theorem c_X9_body (l : Launch) (D : va_G) (o : Nat) (ad : Nat → Nat) (cd : Nat → ClassId) (tn td cs hd : Int32) (kd rt vl hr hw cu si : Nat → Int32) (acc : Nat → Int64) (st : TS) (hok : okM 1 st) (n : Int32) : CM l D yX9_body cX9_body 2 none { frames := 0, cells := 0, slots := 0, locals := 0 } (tyM cd) [.ref o, .int n] (mW o ad cd tn td cs hd kd rt vl hr hw cu si acc st) (hs_QV D (tyM cd) (mW o ad cd tn td cs hd kd rt vl hr hw cu si acc (bdT n st))) := by
  refine CM.of (by decide) (Nat.le_of_ble_eq_true rfl) ?_
  intro p e s m below meth c A ls hx hb hrt hml htg hown hlocks hnm hA hK hP hD hS hl
  have hown : s.vm.findClass RX9 = some m.cls := hown
  have hl : lv_has ls 2 [(0, .ref o), (1, .int n)] := hl
  have SF : CallFix p m c cX9_body 2 s _ hs_gt RX9 := ⟨hx, hb, hml, hown, htg⟩
  refine lv_aload_n hx hb dX9_body_0 rfl (lv_at hl 0 rfl) ?_
  refine va_get (D := D) (ci := 9) (v := .int st.2.1) (C := RX9) (T := TX9) (N := 15) hx hb htg in_X9 hown hK hP 0 rfl rfl 14 (by decide) (htg _ tw_534) (fun _ h9 => h9) rfl dX9_body_1 ?_
  refine lv_if_eq (tgt := 27) hx hb dX9_body_4 (by decide) (fun c4 => ?_) (fun c4 => ?_)
  · exact hs_vret hx hb hrt hlocks hK hP hD hS dX9_body_27 (by unfold bdT; first | rw [if_pos c4] | rw [if_neg c4])
  · refine lv_aload_n hx hb dX9_body_7 rfl (lv_at hl 0 rfl) ?_
    refine va_get (D := D) (ci := 9) (v := .ref (ad 9)) (C := RX9) (T := TX9) (N := 15) hx hb htg in_X9 hown hK hP 0 rfl rfl 12 (by decide) (htg _ tw_532) (fun _ h9 => h9) rfl dX9_body_8 ?_
    refine lv_aload_n hx hb dX9_body_11 rfl (lv_at hl 0 rfl) ?_
    refine va_get (D := D) (ci := 9) (v := .int st.1) (C := RX9) (T := TX9) (N := 15) hx hb htg in_X9 hown hK hP 0 rfl rfl 13 (by decide) (htg _ tw_533) (fun _ h9 => h9) rfl dX9_body_12 ?_
    refine lv_iload_n hx hb dX9_body_15 rfl (lv_at hl 1 rfl) ?_
    refine va_iast hx hb hK hP hD hS 9 8 rfl rfl (okM_in hok c4) dX9_body_16 (fun H locs hP hD hS => ?_)
    have hP : va_P D hs_cl (mW o ad cd tn td cs hd kd rt vl hr hw cu si acc (st.1, st.2.1, (upd st.2.2 st.1.toNatClampNeg n))) H := hP
    have hD : va_D A (mW o ad cd tn td cs hd kd rt vl hr hw cu si acc (st.1, st.2.1, (upd st.2.2 st.1.toNatClampNeg n))) := hD
    refine lv_aload_n hx hb dX9_body_17 rfl (lv_at hl 0 rfl) ?_
    refine lv_dup hx hb dX9_body_18 rfl ?_
    refine va_get (D := D) (ci := 9) (v := .int st.1) (C := RX9) (T := TX9) (N := 15) hx hb htg in_X9 hown hK hP 0 rfl rfl 13 (by decide) (htg _ tw_533) (fun _ h9 => h9) rfl dX9_body_19 ?_
    refine lv_iconst (v := 1) hx hb dX9_body_22 (by decide) ?_
    refine lv_iadd hx hb dX9_body_23 ?_
    refine va_put (D := D) (ci := 9) (v := .int (st.1 + 1)) (ty := .int) (C := RX9) (T := TX9) (N := 15) hx hb htg in_X9 tyX9 tyX9_ok nmX9 hown hK hP hD hS 0 rfl rfl 13 (by decide) (htg _ tw_533) (fun _ h9 => h9) rfl (by decide +kernel) rfl rfl (Nat.le_of_ble_eq_true rfl) dX9_body_24 (fun H locs hP hD hS => ?_)
    have hP : va_P D hs_cl (mW o ad cd tn td cs hd kd rt vl hr hw cu si acc ((st.1 + 1), st.2.1, (upd st.2.2 st.1.toNatClampNeg n))) H := hP
    have hD : va_D A (mW o ad cd tn td cs hd kd rt vl hr hw cu si acc ((st.1 + 1), st.2.1, (upd st.2.2 st.1.toNatClampNeg n))) := hD
    exact hs_vret hx hb hrt hlocks hK hP hD hS dX9_body_27 (by unfold bdT; first | rw [if_pos c4] | rw [if_neg c4])

theorem cal_X9_body : hs_cV yX9_body cX9_body 2 none 1 := ⟨tw_601, tw_600, tw_9, tw_19, by decide +kernel⟩

set_option maxHeartbeats 400000 in
set_option maxRecDepth 100000 in
theorem c_X9_charge_0 (l : Launch) (D : va_G) (o : Nat) (ad : Nat → Nat) (cd : Nat → ClassId) (tn td cs hd : Int32) (kd rt vl hr hw cu si : Nat → Int32) (acc : Nat → Int64) (st : TS) (t : Int32) (ht : vp_in t 24) (hkd : kd t.toNatClampNeg = nI 0) (hok : okM 3 st) (d : Int32) (hdk : dOk d) : CM l D yX9_charge cX9_charge 6 (some .int) { frames := 1, cells := 0, slots := 0, locals := 22 } (tyM cd) [.ref o, .int t, .int d] (mW o ad cd tn td cs hd kd rt vl hr hw cu si acc st) (hs_QI D (tyM cd) (chF 0 (rt t.toNatClampNeg) (vl t.toNatClampNeg) d) (mW o ad cd tn td cs hd kd rt vl hr hw cu si acc (bds (chN 0) st))) := by
  refine CM.of (by decide) (Nat.le_of_ble_eq_true rfl) ?_
  intro p e s m below meth c A ls hx hb hrt hml htg hown hlocks hnm hA hK hP hD hS hl
  have hown : s.vm.findClass RX9 = some m.cls := hown
  have hl : lv_has ls 6 [(0, .ref o), (1, .int t), (2, .int d)] := hl
  have SF : CallFix p m c cX9_charge 6 s _ hs_gt RX9 := ⟨hx, hb, hml, hown, htg⟩
  have hkd : kd t.toNatClampNeg = 0 := hkd
  refine lv_aload_n hx hb dX9_charge_0 rfl (lv_at hl 0 rfl) ?_
  refine va_get (D := D) (ci := 9) (v := .ref (ad 1)) (C := RX9) (T := TX9) (N := 15) hx hb htg in_X9 hown hK hP 0 rfl rfl 1 (by decide) (htg _ tw_521) (fun _ h9 => h9) rfl dX9_charge_1 ?_
  refine lv_iload_n hx hb dX9_charge_4 rfl (lv_at hl 1 rfl) ?_
  refine va_iald hx hb hK hP 1 0 rfl rfl (ht) dX9_charge_5 ?_
  rw [hkd]
  refine lv_istore_n (lv' := [(3, .int 0), (0, .ref o), (1, .int t), (2, .int d)]) hx hb dX9_charge_6 rfl hl (by decide) rfl (fun ls hl => ?_)
  refine lv_aload_n hx hb dX9_charge_7 rfl (lv_at hl 1 rfl) ?_
  refine va_get (D := D) (ci := 9) (v := .ref (ad 2)) (C := RX9) (T := TX9) (N := 15) hx hb htg in_X9 hown hK hP 0 rfl rfl 2 (by decide) (htg _ tw_522) (fun _ h9 => h9) rfl dX9_charge_8 ?_
  refine lv_iload_n hx hb dX9_charge_11 rfl (lv_at hl 2 rfl) ?_
  refine va_iald hx hb hK hP 2 1 rfl rfl (ht) dX9_charge_12 ?_
  refine lv_iload_n hx hb dX9_charge_13 rfl (lv_at hl 3 rfl) ?_
  refine lv_imul hx hb dX9_charge_14 ?_
  refine lv_istore (lv' := [(4, .int ((rt t.toNatClampNeg) * d)), (3, .int 0), (0, .ref o), (1, .int t), (2, .int d)]) hx hb dX9_charge_15 hl (by decide) rfl (fun ls hl => ?_)
  refine lv_iload_n hx hb dX9_charge_17 rfl (lv_at hl 1 rfl) ?_
  refine lv_iconst (v := 4) hx hb dX9_charge_18 (by decide) ?_
  refine lv_icmp_ne (tgt := 27) hx hb dX9_charge_19 (by decide) (fun c19 => ?_) (fun c19 => absurd c19 ((by decide)))
  refine lv_iload_n hx hb dX9_charge_27 rfl (lv_at hl 1 rfl) ?_
  refine lv_iconst (v := 2) hx hb dX9_charge_28 (by decide) ?_
  refine lv_iconst (v := 4) hx hb dX9_charge_29 (by decide) ?_
  refine hs_calli0 (w1 := (mW o ad cd tn td cs hd kd rt vl hr hw cu si acc st)) (hs_runS SF cal_X9_in tw_570 (c_X9_in l D o ad cd tn td cs hd kd rt vl hr hw cu si acc st 0 2 4) hK hP hD ⟨Nat.le_of_ble_eq_true rfl, Nat.le_of_ble_eq_true rfl⟩ rfl hl.1 rfl (Nat.le_of_ble_eq_true rfl) dX9_charge_30 ⟨Nat.le_of_ble_eq_true rfl, Nat.le_of_ble_eq_true rfl⟩) hD hS hA (fun H locs hP hD hS => ?_)
  refine lv_if_eq (tgt := 41) hx hb dX9_charge_33 (by decide) (fun c33 => ?_) (fun c33 => absurd c33 ((by decide)))
  refine lv_iload_n hx hb dX9_charge_41 rfl (lv_at hl 1 rfl) ?_
  refine lv_bipush (v := 6) hx hb dX9_charge_42 (by decide) ?_
  refine lv_icmp_ne (tgt := 52) hx hb dX9_charge_44 (by decide) (fun c44 => ?_) (fun c44 => absurd c44 ((by decide)))
  refine lv_aload_n hx hb dX9_charge_52 rfl (lv_at hl 2 rfl) ?_
  refine lv_iconst (v := 1) hx hb dX9_charge_53 (by decide) ?_
  refine hs_callv0 (w1 := (mW o ad cd tn td cs hd kd rt vl hr hw cu si acc (bdT 1 st))) (hs_runV (q0 := 0) SF cal_X9_body tw_598 (c_X9_body l D o ad cd tn td cs hd kd rt vl hr hw cu si acc st (okM_mono hok (by decide)) 1) hK hP hD rfl rfl ⟨Nat.le_of_ble_eq_true rfl, Nat.le_of_ble_eq_true rfl⟩ rfl hl.1 rfl (Nat.le_of_ble_eq_true rfl) dX9_charge_54 ⟨Nat.le_of_ble_eq_true rfl, Nat.le_of_ble_eq_true rfl⟩) hD hS hA (fun H locs hP hD hS => ?_)
  refine lv_iload_n hx hb dX9_charge_57 rfl (lv_at hl 4 rfl) ?_
  refine lv_bipush (v := 7) hx hb dX9_charge_58 (by decide) ?_
  refine lv_icmp_le (tgt := 70) hx hb dX9_charge_60 (by decide) (fun c60 => ?_) (fun c60 => ?_)
  · refine lv_iconst (v := 0) hx hb dX9_charge_70 (by decide) ?_
    refine lv_istore (lv' := [(5, .int 0), (4, .int ((rt t.toNatClampNeg) * d)), (3, .int 0), (0, .ref o), (1, .int t), (2, .int d)]) hx hb dX9_charge_71 hl (by decide) rfl (fun ls hl => ?_)
    refine lv_iload_n hx hb dX9_charge_73 rfl (lv_at hl 2 rfl) ?_
    refine lv_bipush (v := 6) hx hb dX9_charge_74 (by decide) ?_
    refine lv_icmp_ne (tgt := 94) hx hb dX9_charge_76 (by decide) (fun c76 => ?_) (fun c76 => absurd c76 ((by decide)))
    refine lv_iload_n hx hb dX9_charge_94 rfl (lv_at hl 2 rfl) ?_
    refine lv_iconst (v := 4) hx hb dX9_charge_95 (by decide) ?_
    refine lv_icmp_ne (tgt := 115) hx hb dX9_charge_96 (by decide) (fun c96 => ?_) (fun c96 => absurd c96 ((by decide)))
    refine lv_iload_n hx hb dX9_charge_115 rfl (lv_at hl 2 rfl) ?_
    refine lv_iconst (v := 2) hx hb dX9_charge_116 (by decide) ?_
    refine lv_iconst (v := 3) hx hb dX9_charge_117 (by decide) ?_
    refine hs_calli0 (w1 := (mW o ad cd tn td cs hd kd rt vl hr hw cu si acc (bdT 1 st))) (hs_runS SF cal_X9_in tw_570 (c_X9_in l D o ad cd tn td cs hd kd rt vl hr hw cu si acc (bdT 1 st) 0 2 3) hK hP hD ⟨Nat.le_of_ble_eq_true rfl, Nat.le_of_ble_eq_true rfl⟩ rfl hl.1 rfl (Nat.le_of_ble_eq_true rfl) dX9_charge_118 ⟨Nat.le_of_ble_eq_true rfl, Nat.le_of_ble_eq_true rfl⟩) hD hS hA (fun H locs hP hD hS => ?_)
    refine lv_if_eq (tgt := 133) hx hb dX9_charge_121 (by decide) (fun c121 => ?_) (fun c121 => absurd c121 ((by decide)))
    refine lv_iload hx hb dX9_charge_133 (lv_at hl 1 rfl) ?_
    exact hs_iret hx hb hrt hlocks hK hP hD hS dX9_charge_135 (by first | rfl | (unfold chF; first | (rw [if_neg (fun q => (hdk.mp q) c60)]; rfl) | (rw [if_pos (hdk.mpr c60)]; rfl))) (by first | (simp only [bds, chN, List.foldl_cons, List.foldl_nil]; done) | rfl)
  · refine lv_iload_n hx hb dX9_charge_63 rfl (lv_at hl 4 rfl) ?_
    refine lv_bipush (v := 7) hx hb dX9_charge_64 (by decide) ?_
    refine lv_isub hx hb dX9_charge_66 ?_
    refine lv_goto (tgt := 71) hx hb dX9_charge_67 (by decide) ?_
    refine lv_istore (lv' := [(5, .int (d - 7)), (4, .int ((rt t.toNatClampNeg) * d)), (3, .int 0), (0, .ref o), (1, .int t), (2, .int d)]) hx hb dX9_charge_71 hl (by decide) rfl (fun ls hl => ?_)
    refine lv_iload_n hx hb dX9_charge_73 rfl (lv_at hl 2 rfl) ?_
    refine lv_bipush (v := 6) hx hb dX9_charge_74 (by decide) ?_
    refine lv_icmp_ne (tgt := 94) hx hb dX9_charge_76 (by decide) (fun c76 => ?_) (fun c76 => absurd c76 ((by decide)))
    refine lv_iload_n hx hb dX9_charge_94 rfl (lv_at hl 2 rfl) ?_
    refine lv_iconst (v := 4) hx hb dX9_charge_95 (by decide) ?_
    refine lv_icmp_ne (tgt := 115) hx hb dX9_charge_96 (by decide) (fun c96 => ?_) (fun c96 => absurd c96 ((by decide)))
    refine lv_iload_n hx hb dX9_charge_115 rfl (lv_at hl 2 rfl) ?_
    refine lv_iconst (v := 2) hx hb dX9_charge_116 (by decide) ?_
    refine lv_iconst (v := 3) hx hb dX9_charge_117 (by decide) ?_
    refine hs_calli0 (w1 := (mW o ad cd tn td cs hd kd rt vl hr hw cu si acc (bdT 1 st))) (hs_runS SF cal_X9_in tw_570 (c_X9_in l D o ad cd tn td cs hd kd rt vl hr hw cu si acc (bdT 1 st) 0 2 3) hK hP hD ⟨Nat.le_of_ble_eq_true rfl, Nat.le_of_ble_eq_true rfl⟩ rfl hl.1 rfl (Nat.le_of_ble_eq_true rfl) dX9_charge_118 ⟨Nat.le_of_ble_eq_true rfl, Nat.le_of_ble_eq_true rfl⟩) hD hS hA (fun H locs hP hD hS => ?_)
    refine lv_if_eq (tgt := 133) hx hb dX9_charge_121 (by decide) (fun c121 => ?_) (fun c121 => absurd c121 ((by decide)))
    refine lv_iload hx hb dX9_charge_133 (lv_at hl 1 rfl) ?_
    exact hs_iret hx hb hrt hlocks hK hP hD hS dX9_charge_135 (by first | rfl | (unfold chF; first | (rw [if_neg (fun q => (hdk.mp q) c60)]; rfl) | (rw [if_pos (hdk.mpr c60)]; rfl))) (by first | (simp only [bds, chN, List.foldl_cons, List.foldl_nil]; done) | rfl)

set_option maxHeartbeats 400000 in
set_option maxRecDepth 100000 in
theorem c_X9_charge_1 (l : Launch) (D : va_G) (o : Nat) (ad : Nat → Nat) (cd : Nat → ClassId) (tn td cs hd : Int32) (kd rt vl hr hw cu si : Nat → Int32) (acc : Nat → Int64) (st : TS) (t : Int32) (ht : vp_in t 24) (hkd : kd t.toNatClampNeg = nI 1) (hok : okM 3 st) (d : Int32) (hdk : dOk d) : CM l D yX9_charge cX9_charge 6 (some .int) { frames := 1, cells := 0, slots := 0, locals := 22 } (tyM cd) [.ref o, .int t, .int d] (mW o ad cd tn td cs hd kd rt vl hr hw cu si acc st) (hs_QI D (tyM cd) (chF 1 (rt t.toNatClampNeg) (vl t.toNatClampNeg) d) (mW o ad cd tn td cs hd kd rt vl hr hw cu si acc (bds (chN 1) st))) := by
  refine CM.of (by decide) (Nat.le_of_ble_eq_true rfl) ?_
  intro p e s m below meth c A ls hx hb hrt hml htg hown hlocks hnm hA hK hP hD hS hl
  have hown : s.vm.findClass RX9 = some m.cls := hown
  have hl : lv_has ls 6 [(0, .ref o), (1, .int t), (2, .int d)] := hl
  have SF : CallFix p m c cX9_charge 6 s _ hs_gt RX9 := ⟨hx, hb, hml, hown, htg⟩
  have hkd : kd t.toNatClampNeg = 1 := hkd
  refine lv_aload_n hx hb dX9_charge_0 rfl (lv_at hl 0 rfl) ?_
  refine va_get (D := D) (ci := 9) (v := .ref (ad 1)) (C := RX9) (T := TX9) (N := 15) hx hb htg in_X9 hown hK hP 0 rfl rfl 1 (by decide) (htg _ tw_521) (fun _ h9 => h9) rfl dX9_charge_1 ?_
  refine lv_iload_n hx hb dX9_charge_4 rfl (lv_at hl 1 rfl) ?_
  refine va_iald hx hb hK hP 1 0 rfl rfl (ht) dX9_charge_5 ?_
  rw [hkd]
  refine lv_istore_n (lv' := [(3, .int 1), (0, .ref o), (1, .int t), (2, .int d)]) hx hb dX9_charge_6 rfl hl (by decide) rfl (fun ls hl => ?_)
  refine lv_aload_n hx hb dX9_charge_7 rfl (lv_at hl 1 rfl) ?_
  refine va_get (D := D) (ci := 9) (v := .ref (ad 2)) (C := RX9) (T := TX9) (N := 15) hx hb htg in_X9 hown hK hP 0 rfl rfl 2 (by decide) (htg _ tw_522) (fun _ h9 => h9) rfl dX9_charge_8 ?_
  refine lv_iload_n hx hb dX9_charge_11 rfl (lv_at hl 2 rfl) ?_
  refine va_iald hx hb hK hP 2 1 rfl rfl (ht) dX9_charge_12 ?_
  refine lv_iload_n hx hb dX9_charge_13 rfl (lv_at hl 3 rfl) ?_
  refine lv_imul hx hb dX9_charge_14 ?_
  refine lv_istore (lv' := [(4, .int ((rt t.toNatClampNeg) * d)), (3, .int 1), (0, .ref o), (1, .int t), (2, .int d)]) hx hb dX9_charge_15 hl (by decide) rfl (fun ls hl => ?_)
  refine lv_iload_n hx hb dX9_charge_17 rfl (lv_at hl 1 rfl) ?_
  refine lv_iconst (v := 4) hx hb dX9_charge_18 (by decide) ?_
  refine lv_icmp_ne (tgt := 27) hx hb dX9_charge_19 (by decide) (fun c19 => ?_) (fun c19 => absurd c19 ((by decide)))
  refine lv_iload_n hx hb dX9_charge_27 rfl (lv_at hl 1 rfl) ?_
  refine lv_iconst (v := 2) hx hb dX9_charge_28 (by decide) ?_
  refine lv_iconst (v := 4) hx hb dX9_charge_29 (by decide) ?_
  refine hs_calli0 (w1 := (mW o ad cd tn td cs hd kd rt vl hr hw cu si acc st)) (hs_runS SF cal_X9_in tw_570 (c_X9_in l D o ad cd tn td cs hd kd rt vl hr hw cu si acc st 1 2 4) hK hP hD ⟨Nat.le_of_ble_eq_true rfl, Nat.le_of_ble_eq_true rfl⟩ rfl hl.1 rfl (Nat.le_of_ble_eq_true rfl) dX9_charge_30 ⟨Nat.le_of_ble_eq_true rfl, Nat.le_of_ble_eq_true rfl⟩) hD hS hA (fun H locs hP hD hS => ?_)
  refine lv_if_eq (tgt := 41) hx hb dX9_charge_33 (by decide) (fun c33 => ?_) (fun c33 => absurd c33 ((by decide)))
  refine lv_iload_n hx hb dX9_charge_41 rfl (lv_at hl 1 rfl) ?_
  refine lv_bipush (v := 6) hx hb dX9_charge_42 (by decide) ?_
  refine lv_icmp_ne (tgt := 52) hx hb dX9_charge_44 (by decide) (fun c44 => ?_) (fun c44 => absurd c44 ((by decide)))
  refine lv_aload_n hx hb dX9_charge_52 rfl (lv_at hl 2 rfl) ?_
  refine lv_iconst (v := 1) hx hb dX9_charge_53 (by decide) ?_
  refine hs_callv0 (w1 := (mW o ad cd tn td cs hd kd rt vl hr hw cu si acc (bdT 1 st))) (hs_runV (q0 := 0) SF cal_X9_body tw_598 (c_X9_body l D o ad cd tn td cs hd kd rt vl hr hw cu si acc st (okM_mono hok (by decide)) 1) hK hP hD rfl rfl ⟨Nat.le_of_ble_eq_true rfl, Nat.le_of_ble_eq_true rfl⟩ rfl hl.1 rfl (Nat.le_of_ble_eq_true rfl) dX9_charge_54 ⟨Nat.le_of_ble_eq_true rfl, Nat.le_of_ble_eq_true rfl⟩) hD hS hA (fun H locs hP hD hS => ?_)
  refine lv_iload_n hx hb dX9_charge_57 rfl (lv_at hl 4 rfl) ?_
  refine lv_bipush (v := 7) hx hb dX9_charge_58 (by decide) ?_
  refine lv_icmp_le (tgt := 70) hx hb dX9_charge_60 (by decide) (fun c60 => ?_) (fun c60 => ?_)
  · refine lv_iconst (v := 0) hx hb dX9_charge_70 (by decide) ?_
    refine lv_istore (lv' := [(5, .int 0), (4, .int ((rt t.toNatClampNeg) * d)), (3, .int 1), (0, .ref o), (1, .int t), (2, .int d)]) hx hb dX9_charge_71 hl (by decide) rfl (fun ls hl => ?_)
    refine lv_iload_n hx hb dX9_charge_73 rfl (lv_at hl 2 rfl) ?_
    refine lv_bipush (v := 6) hx hb dX9_charge_74 (by decide) ?_
    refine lv_icmp_ne (tgt := 94) hx hb dX9_charge_76 (by decide) (fun c76 => ?_) (fun c76 => absurd c76 ((by decide)))
    refine lv_iload_n hx hb dX9_charge_94 rfl (lv_at hl 2 rfl) ?_
    refine lv_iconst (v := 4) hx hb dX9_charge_95 (by decide) ?_
    refine lv_icmp_ne (tgt := 115) hx hb dX9_charge_96 (by decide) (fun c96 => ?_) (fun c96 => absurd c96 ((by decide)))
    refine lv_iload_n hx hb dX9_charge_115 rfl (lv_at hl 2 rfl) ?_
    refine lv_iconst (v := 2) hx hb dX9_charge_116 (by decide) ?_
    refine lv_iconst (v := 3) hx hb dX9_charge_117 (by decide) ?_
    refine hs_calli0 (w1 := (mW o ad cd tn td cs hd kd rt vl hr hw cu si acc (bdT 1 st))) (hs_runS SF cal_X9_in tw_570 (c_X9_in l D o ad cd tn td cs hd kd rt vl hr hw cu si acc (bdT 1 st) 1 2 3) hK hP hD ⟨Nat.le_of_ble_eq_true rfl, Nat.le_of_ble_eq_true rfl⟩ rfl hl.1 rfl (Nat.le_of_ble_eq_true rfl) dX9_charge_118 ⟨Nat.le_of_ble_eq_true rfl, Nat.le_of_ble_eq_true rfl⟩) hD hS hA (fun H locs hP hD hS => ?_)
    refine lv_if_eq (tgt := 133) hx hb dX9_charge_121 (by decide) (fun c121 => ?_) (fun c121 => absurd c121 ((by decide)))
    refine lv_iload hx hb dX9_charge_133 (lv_at hl 1 rfl) ?_
    exact hs_iret hx hb hrt hlocks hK hP hD hS dX9_charge_135 (by first | rfl | (unfold chF; first | (rw [if_neg (fun q => (hdk.mp q) c60)]; rfl) | (rw [if_pos (hdk.mpr c60)]; rfl))) (by first | (simp only [bds, chN, List.foldl_cons, List.foldl_nil]; done) | rfl)
  · refine lv_iload_n hx hb dX9_charge_63 rfl (lv_at hl 4 rfl) ?_
    refine lv_bipush (v := 7) hx hb dX9_charge_64 (by decide) ?_
    refine lv_isub hx hb dX9_charge_66 ?_
    refine lv_goto (tgt := 71) hx hb dX9_charge_67 (by decide) ?_
    refine lv_istore (lv' := [(5, .int (d - 7)), (4, .int ((rt t.toNatClampNeg) * d)), (3, .int 1), (0, .ref o), (1, .int t), (2, .int d)]) hx hb dX9_charge_71 hl (by decide) rfl (fun ls hl => ?_)
    refine lv_iload_n hx hb dX9_charge_73 rfl (lv_at hl 2 rfl) ?_
    refine lv_bipush (v := 6) hx hb dX9_charge_74 (by decide) ?_
    refine lv_icmp_ne (tgt := 94) hx hb dX9_charge_76 (by decide) (fun c76 => ?_) (fun c76 => absurd c76 ((by decide)))
    refine lv_iload_n hx hb dX9_charge_94 rfl (lv_at hl 2 rfl) ?_
    refine lv_iconst (v := 4) hx hb dX9_charge_95 (by decide) ?_
    refine lv_icmp_ne (tgt := 115) hx hb dX9_charge_96 (by decide) (fun c96 => ?_) (fun c96 => absurd c96 ((by decide)))
    refine lv_iload_n hx hb dX9_charge_115 rfl (lv_at hl 2 rfl) ?_
    refine lv_iconst (v := 2) hx hb dX9_charge_116 (by decide) ?_
    refine lv_iconst (v := 3) hx hb dX9_charge_117 (by decide) ?_
    refine hs_calli0 (w1 := (mW o ad cd tn td cs hd kd rt vl hr hw cu si acc (bdT 1 st))) (hs_runS SF cal_X9_in tw_570 (c_X9_in l D o ad cd tn td cs hd kd rt vl hr hw cu si acc (bdT 1 st) 1 2 3) hK hP hD ⟨Nat.le_of_ble_eq_true rfl, Nat.le_of_ble_eq_true rfl⟩ rfl hl.1 rfl (Nat.le_of_ble_eq_true rfl) dX9_charge_118 ⟨Nat.le_of_ble_eq_true rfl, Nat.le_of_ble_eq_true rfl⟩) hD hS hA (fun H locs hP hD hS => ?_)
    refine lv_if_eq (tgt := 133) hx hb dX9_charge_121 (by decide) (fun c121 => ?_) (fun c121 => absurd c121 ((by decide)))
    refine lv_iload hx hb dX9_charge_133 (lv_at hl 1 rfl) ?_
    exact hs_iret hx hb hrt hlocks hK hP hD hS dX9_charge_135 (by first | rfl | (unfold chF; first | (rw [if_neg (fun q => (hdk.mp q) c60)]; rfl) | (rw [if_pos (hdk.mpr c60)]; rfl))) (by first | (simp only [bds, chN, List.foldl_cons, List.foldl_nil]; done) | rfl)

set_option maxHeartbeats 400000 in
set_option maxRecDepth 100000 in
theorem c_X9_charge_2 (l : Launch) (D : va_G) (o : Nat) (ad : Nat → Nat) (cd : Nat → ClassId) (tn td cs hd : Int32) (kd rt vl hr hw cu si : Nat → Int32) (acc : Nat → Int64) (st : TS) (t : Int32) (ht : vp_in t 24) (hkd : kd t.toNatClampNeg = nI 2) (hok : okM 3 st) (d : Int32) (hdk : dOk d) : CM l D yX9_charge cX9_charge 6 (some .int) { frames := 1, cells := 0, slots := 0, locals := 22 } (tyM cd) [.ref o, .int t, .int d] (mW o ad cd tn td cs hd kd rt vl hr hw cu si acc st) (hs_QI D (tyM cd) (chF 2 (rt t.toNatClampNeg) (vl t.toNatClampNeg) d) (mW o ad cd tn td cs hd kd rt vl hr hw cu si acc (bds (chN 2) st))) := by
  refine CM.of (by decide) (Nat.le_of_ble_eq_true rfl) ?_
  intro p e s m below meth c A ls hx hb hrt hml htg hown hlocks hnm hA hK hP hD hS hl
  have hown : s.vm.findClass RX9 = some m.cls := hown
  have hl : lv_has ls 6 [(0, .ref o), (1, .int t), (2, .int d)] := hl
  have SF : CallFix p m c cX9_charge 6 s _ hs_gt RX9 := ⟨hx, hb, hml, hown, htg⟩
  have hkd : kd t.toNatClampNeg = 2 := hkd
  refine lv_aload_n hx hb dX9_charge_0 rfl (lv_at hl 0 rfl) ?_
  refine va_get (D := D) (ci := 9) (v := .ref (ad 1)) (C := RX9) (T := TX9) (N := 15) hx hb htg in_X9 hown hK hP 0 rfl rfl 1 (by decide) (htg _ tw_521) (fun _ h9 => h9) rfl dX9_charge_1 ?_
  refine lv_iload_n hx hb dX9_charge_4 rfl (lv_at hl 1 rfl) ?_
  refine va_iald hx hb hK hP 1 0 rfl rfl (ht) dX9_charge_5 ?_
  rw [hkd]
  refine lv_istore_n (lv' := [(3, .int 2), (0, .ref o), (1, .int t), (2, .int d)]) hx hb dX9_charge_6 rfl hl (by decide) rfl (fun ls hl => ?_)
  refine lv_aload_n hx hb dX9_charge_7 rfl (lv_at hl 1 rfl) ?_
  refine va_get (D := D) (ci := 9) (v := .ref (ad 2)) (C := RX9) (T := TX9) (N := 15) hx hb htg in_X9 hown hK hP 0 rfl rfl 2 (by decide) (htg _ tw_522) (fun _ h9 => h9) rfl dX9_charge_8 ?_
  refine lv_iload_n hx hb dX9_charge_11 rfl (lv_at hl 2 rfl) ?_
  refine va_iald hx hb hK hP 2 1 rfl rfl (ht) dX9_charge_12 ?_
  refine lv_iload_n hx hb dX9_charge_13 rfl (lv_at hl 3 rfl) ?_
  refine lv_imul hx hb dX9_charge_14 ?_
  refine lv_istore (lv' := [(4, .int ((rt t.toNatClampNeg) * d)), (3, .int 2), (0, .ref o), (1, .int t), (2, .int d)]) hx hb dX9_charge_15 hl (by decide) rfl (fun ls hl => ?_)
  refine lv_iload_n hx hb dX9_charge_17 rfl (lv_at hl 1 rfl) ?_
  refine lv_iconst (v := 4) hx hb dX9_charge_18 (by decide) ?_
  refine lv_icmp_ne (tgt := 27) hx hb dX9_charge_19 (by decide) (fun c19 => ?_) (fun c19 => absurd c19 ((by decide)))
  refine lv_iload_n hx hb dX9_charge_27 rfl (lv_at hl 1 rfl) ?_
  refine lv_iconst (v := 2) hx hb dX9_charge_28 (by decide) ?_
  refine lv_iconst (v := 4) hx hb dX9_charge_29 (by decide) ?_
  refine hs_calli0 (w1 := (mW o ad cd tn td cs hd kd rt vl hr hw cu si acc st)) (hs_runS SF cal_X9_in tw_570 (c_X9_in l D o ad cd tn td cs hd kd rt vl hr hw cu si acc st 2 2 4) hK hP hD ⟨Nat.le_of_ble_eq_true rfl, Nat.le_of_ble_eq_true rfl⟩ rfl hl.1 rfl (Nat.le_of_ble_eq_true rfl) dX9_charge_30 ⟨Nat.le_of_ble_eq_true rfl, Nat.le_of_ble_eq_true rfl⟩) hD hS hA (fun H locs hP hD hS => ?_)
  refine lv_if_eq (tgt := 41) hx hb dX9_charge_33 (by decide) (fun c33 => absurd c33 ((by decide))) (fun c33 => ?_)
  refine lv_aload_n hx hb dX9_charge_36 rfl (lv_at hl 2 rfl) ?_
  refine lv_iconst (v := 2) hx hb dX9_charge_37 (by decide) ?_
  refine hs_callv0 (w1 := (mW o ad cd tn td cs hd kd rt vl hr hw cu si acc (bdT 2 st))) (hs_runV (q0 := 0) SF cal_X9_body tw_598 (c_X9_body l D o ad cd tn td cs hd kd rt vl hr hw cu si acc st (okM_mono hok (by decide)) 2) hK hP hD rfl rfl ⟨Nat.le_of_ble_eq_true rfl, Nat.le_of_ble_eq_true rfl⟩ rfl hl.1 rfl (Nat.le_of_ble_eq_true rfl) dX9_charge_38 ⟨Nat.le_of_ble_eq_true rfl, Nat.le_of_ble_eq_true rfl⟩) hD hS hA (fun H locs hP hD hS => ?_)
  refine lv_iload_n hx hb dX9_charge_41 rfl (lv_at hl 1 rfl) ?_
  refine lv_bipush (v := 6) hx hb dX9_charge_42 (by decide) ?_
  refine lv_icmp_ne (tgt := 52) hx hb dX9_charge_44 (by decide) (fun c44 => ?_) (fun c44 => absurd c44 ((by decide)))
  refine lv_aload_n hx hb dX9_charge_52 rfl (lv_at hl 2 rfl) ?_
  refine lv_iconst (v := 1) hx hb dX9_charge_53 (by decide) ?_
  refine hs_callv0 (w1 := (mW o ad cd tn td cs hd kd rt vl hr hw cu si acc (bdT 1 (bdT 2 st)))) (hs_runV (q0 := 0) SF cal_X9_body tw_598 (c_X9_body l D o ad cd tn td cs hd kd rt vl hr hw cu si acc (bdT 2 st) (okM_mono (okM_bd 2 hok) (by decide)) 1) hK hP hD rfl rfl ⟨Nat.le_of_ble_eq_true rfl, Nat.le_of_ble_eq_true rfl⟩ rfl hl.1 rfl (Nat.le_of_ble_eq_true rfl) dX9_charge_54 ⟨Nat.le_of_ble_eq_true rfl, Nat.le_of_ble_eq_true rfl⟩) hD hS hA (fun H locs hP hD hS => ?_)
  refine lv_iload_n hx hb dX9_charge_57 rfl (lv_at hl 4 rfl) ?_
  refine lv_bipush (v := 7) hx hb dX9_charge_58 (by decide) ?_
  refine lv_icmp_le (tgt := 70) hx hb dX9_charge_60 (by decide) (fun c60 => ?_) (fun c60 => ?_)
  · refine lv_iconst (v := 0) hx hb dX9_charge_70 (by decide) ?_
    refine lv_istore (lv' := [(5, .int 0), (4, .int ((rt t.toNatClampNeg) * d)), (3, .int 2), (0, .ref o), (1, .int t), (2, .int d)]) hx hb dX9_charge_71 hl (by decide) rfl (fun ls hl => ?_)
    refine lv_iload_n hx hb dX9_charge_73 rfl (lv_at hl 2 rfl) ?_
    refine lv_bipush (v := 6) hx hb dX9_charge_74 (by decide) ?_
    refine lv_icmp_ne (tgt := 94) hx hb dX9_charge_76 (by decide) (fun c76 => ?_) (fun c76 => absurd c76 ((by decide)))
    refine lv_iload_n hx hb dX9_charge_94 rfl (lv_at hl 2 rfl) ?_
    refine lv_iconst (v := 4) hx hb dX9_charge_95 (by decide) ?_
    refine lv_icmp_ne (tgt := 115) hx hb dX9_charge_96 (by decide) (fun c96 => ?_) (fun c96 => absurd c96 ((by decide)))
    refine lv_iload_n hx hb dX9_charge_115 rfl (lv_at hl 2 rfl) ?_
    refine lv_iconst (v := 2) hx hb dX9_charge_116 (by decide) ?_
    refine lv_iconst (v := 3) hx hb dX9_charge_117 (by decide) ?_
    refine hs_calli0 (w1 := (mW o ad cd tn td cs hd kd rt vl hr hw cu si acc (bdT 1 (bdT 2 st)))) (hs_runS SF cal_X9_in tw_570 (c_X9_in l D o ad cd tn td cs hd kd rt vl hr hw cu si acc (bdT 1 (bdT 2 st)) 2 2 3) hK hP hD ⟨Nat.le_of_ble_eq_true rfl, Nat.le_of_ble_eq_true rfl⟩ rfl hl.1 rfl (Nat.le_of_ble_eq_true rfl) dX9_charge_118 ⟨Nat.le_of_ble_eq_true rfl, Nat.le_of_ble_eq_true rfl⟩) hD hS hA (fun H locs hP hD hS => ?_)
    refine lv_if_eq (tgt := 133) hx hb dX9_charge_121 (by decide) (fun c121 => absurd c121 ((by decide))) (fun c121 => ?_)
    refine lv_iload hx hb dX9_charge_124 (lv_at hl 1 rfl) ?_
    refine lv_iconst (v := 3) hx hb dX9_charge_126 (by decide) ?_
    refine lv_iload_n hx hb dX9_charge_127 rfl (lv_at hl 5 rfl) ?_
    refine lv_imul hx hb dX9_charge_128 ?_
    refine lv_iadd hx hb dX9_charge_129 ?_
    refine lv_goto (tgt := 135) hx hb dX9_charge_130 (by decide) ?_
    exact hs_iret hx hb hrt hlocks hK hP hD hS dX9_charge_135 (by first | rfl | (unfold chF; first | (rw [if_neg (fun q => (hdk.mp q) c60)]; rfl) | (rw [if_pos (hdk.mpr c60)]; rfl))) (by first | (simp only [bds, chN, List.foldl_cons, List.foldl_nil]; done) | rfl)
  · refine lv_iload_n hx hb dX9_charge_63 rfl (lv_at hl 4 rfl) ?_
    refine lv_bipush (v := 7) hx hb dX9_charge_64 (by decide) ?_
    refine lv_isub hx hb dX9_charge_66 ?_
    refine lv_goto (tgt := 71) hx hb dX9_charge_67 (by decide) ?_
    refine lv_istore (lv' := [(5, .int (d - 7)), (4, .int ((rt t.toNatClampNeg) * d)), (3, .int 2), (0, .ref o), (1, .int t), (2, .int d)]) hx hb dX9_charge_71 hl (by decide) rfl (fun ls hl => ?_)
    refine lv_iload_n hx hb dX9_charge_73 rfl (lv_at hl 2 rfl) ?_
    refine lv_bipush (v := 6) hx hb dX9_charge_74 (by decide) ?_
    refine lv_icmp_ne (tgt := 94) hx hb dX9_charge_76 (by decide) (fun c76 => ?_) (fun c76 => absurd c76 ((by decide)))
    refine lv_iload_n hx hb dX9_charge_94 rfl (lv_at hl 2 rfl) ?_
    refine lv_iconst (v := 4) hx hb dX9_charge_95 (by decide) ?_
    refine lv_icmp_ne (tgt := 115) hx hb dX9_charge_96 (by decide) (fun c96 => ?_) (fun c96 => absurd c96 ((by decide)))
    refine lv_iload_n hx hb dX9_charge_115 rfl (lv_at hl 2 rfl) ?_
    refine lv_iconst (v := 2) hx hb dX9_charge_116 (by decide) ?_
    refine lv_iconst (v := 3) hx hb dX9_charge_117 (by decide) ?_
    refine hs_calli0 (w1 := (mW o ad cd tn td cs hd kd rt vl hr hw cu si acc (bdT 1 (bdT 2 st)))) (hs_runS SF cal_X9_in tw_570 (c_X9_in l D o ad cd tn td cs hd kd rt vl hr hw cu si acc (bdT 1 (bdT 2 st)) 2 2 3) hK hP hD ⟨Nat.le_of_ble_eq_true rfl, Nat.le_of_ble_eq_true rfl⟩ rfl hl.1 rfl (Nat.le_of_ble_eq_true rfl) dX9_charge_118 ⟨Nat.le_of_ble_eq_true rfl, Nat.le_of_ble_eq_true rfl⟩) hD hS hA (fun H locs hP hD hS => ?_)
    refine lv_if_eq (tgt := 133) hx hb dX9_charge_121 (by decide) (fun c121 => absurd c121 ((by decide))) (fun c121 => ?_)
    refine lv_iload hx hb dX9_charge_124 (lv_at hl 1 rfl) ?_
    refine lv_iconst (v := 3) hx hb dX9_charge_126 (by decide) ?_
    refine lv_iload_n hx hb dX9_charge_127 rfl (lv_at hl 5 rfl) ?_
    refine lv_imul hx hb dX9_charge_128 ?_
    refine lv_iadd hx hb dX9_charge_129 ?_
    refine lv_goto (tgt := 135) hx hb dX9_charge_130 (by decide) ?_
    exact hs_iret hx hb hrt hlocks hK hP hD hS dX9_charge_135 (by first | rfl | (unfold chF; first | (rw [if_neg (fun q => (hdk.mp q) c60)]; rfl) | (rw [if_pos (hdk.mpr c60)]; rfl))) (by first | (simp only [bds, chN, List.foldl_cons, List.foldl_nil]; done) | rfl)

set_option maxHeartbeats 400000 in
set_option maxRecDepth 100000 in
theorem c_X9_charge_3 (l : Launch) (D : va_G) (o : Nat) (ad : Nat → Nat) (cd : Nat → ClassId) (tn td cs hd : Int32) (kd rt vl hr hw cu si : Nat → Int32) (acc : Nat → Int64) (st : TS) (t : Int32) (ht : vp_in t 24) (hkd : kd t.toNatClampNeg = nI 3) (hok : okM 3 st) (d : Int32) (hdk : dOk d) : CM l D yX9_charge cX9_charge 6 (some .int) { frames := 1, cells := 0, slots := 0, locals := 22 } (tyM cd) [.ref o, .int t, .int d] (mW o ad cd tn td cs hd kd rt vl hr hw cu si acc st) (hs_QI D (tyM cd) (chF 3 (rt t.toNatClampNeg) (vl t.toNatClampNeg) d) (mW o ad cd tn td cs hd kd rt vl hr hw cu si acc (bds (chN 3) st))) := by
  refine CM.of (by decide) (Nat.le_of_ble_eq_true rfl) ?_
  intro p e s m below meth c A ls hx hb hrt hml htg hown hlocks hnm hA hK hP hD hS hl
  have hown : s.vm.findClass RX9 = some m.cls := hown
  have hl : lv_has ls 6 [(0, .ref o), (1, .int t), (2, .int d)] := hl
  have SF : CallFix p m c cX9_charge 6 s _ hs_gt RX9 := ⟨hx, hb, hml, hown, htg⟩
  have hkd : kd t.toNatClampNeg = 3 := hkd
  refine lv_aload_n hx hb dX9_charge_0 rfl (lv_at hl 0 rfl) ?_
  refine va_get (D := D) (ci := 9) (v := .ref (ad 1)) (C := RX9) (T := TX9) (N := 15) hx hb htg in_X9 hown hK hP 0 rfl rfl 1 (by decide) (htg _ tw_521) (fun _ h9 => h9) rfl dX9_charge_1 ?_
  refine lv_iload_n hx hb dX9_charge_4 rfl (lv_at hl 1 rfl) ?_
  refine va_iald hx hb hK hP 1 0 rfl rfl (ht) dX9_charge_5 ?_
  rw [hkd]
  refine lv_istore_n (lv' := [(3, .int 3), (0, .ref o), (1, .int t), (2, .int d)]) hx hb dX9_charge_6 rfl hl (by decide) rfl (fun ls hl => ?_)
  refine lv_aload_n hx hb dX9_charge_7 rfl (lv_at hl 1 rfl) ?_
  refine va_get (D := D) (ci := 9) (v := .ref (ad 2)) (C := RX9) (T := TX9) (N := 15) hx hb htg in_X9 hown hK hP 0 rfl rfl 2 (by decide) (htg _ tw_522) (fun _ h9 => h9) rfl dX9_charge_8 ?_
  refine lv_iload_n hx hb dX9_charge_11 rfl (lv_at hl 2 rfl) ?_
  refine va_iald hx hb hK hP 2 1 rfl rfl (ht) dX9_charge_12 ?_
  refine lv_iload_n hx hb dX9_charge_13 rfl (lv_at hl 3 rfl) ?_
  refine lv_imul hx hb dX9_charge_14 ?_
  refine lv_istore (lv' := [(4, .int ((rt t.toNatClampNeg) * d)), (3, .int 3), (0, .ref o), (1, .int t), (2, .int d)]) hx hb dX9_charge_15 hl (by decide) rfl (fun ls hl => ?_)
  refine lv_iload_n hx hb dX9_charge_17 rfl (lv_at hl 1 rfl) ?_
  refine lv_iconst (v := 4) hx hb dX9_charge_18 (by decide) ?_
  refine lv_icmp_ne (tgt := 27) hx hb dX9_charge_19 (by decide) (fun c19 => ?_) (fun c19 => absurd c19 ((by decide)))
  refine lv_iload_n hx hb dX9_charge_27 rfl (lv_at hl 1 rfl) ?_
  refine lv_iconst (v := 2) hx hb dX9_charge_28 (by decide) ?_
  refine lv_iconst (v := 4) hx hb dX9_charge_29 (by decide) ?_
  refine hs_calli0 (w1 := (mW o ad cd tn td cs hd kd rt vl hr hw cu si acc st)) (hs_runS SF cal_X9_in tw_570 (c_X9_in l D o ad cd tn td cs hd kd rt vl hr hw cu si acc st 3 2 4) hK hP hD ⟨Nat.le_of_ble_eq_true rfl, Nat.le_of_ble_eq_true rfl⟩ rfl hl.1 rfl (Nat.le_of_ble_eq_true rfl) dX9_charge_30 ⟨Nat.le_of_ble_eq_true rfl, Nat.le_of_ble_eq_true rfl⟩) hD hS hA (fun H locs hP hD hS => ?_)
  refine lv_if_eq (tgt := 41) hx hb dX9_charge_33 (by decide) (fun c33 => absurd c33 ((by decide))) (fun c33 => ?_)
  refine lv_aload_n hx hb dX9_charge_36 rfl (lv_at hl 2 rfl) ?_
  refine lv_iconst (v := 2) hx hb dX9_charge_37 (by decide) ?_
  refine hs_callv0 (w1 := (mW o ad cd tn td cs hd kd rt vl hr hw cu si acc (bdT 2 st))) (hs_runV (q0 := 0) SF cal_X9_body tw_598 (c_X9_body l D o ad cd tn td cs hd kd rt vl hr hw cu si acc st (okM_mono hok (by decide)) 2) hK hP hD rfl rfl ⟨Nat.le_of_ble_eq_true rfl, Nat.le_of_ble_eq_true rfl⟩ rfl hl.1 rfl (Nat.le_of_ble_eq_true rfl) dX9_charge_38 ⟨Nat.le_of_ble_eq_true rfl, Nat.le_of_ble_eq_true rfl⟩) hD hS hA (fun H locs hP hD hS => ?_)
  refine lv_iload_n hx hb dX9_charge_41 rfl (lv_at hl 1 rfl) ?_
  refine lv_bipush (v := 6) hx hb dX9_charge_42 (by decide) ?_
  refine lv_icmp_ne (tgt := 52) hx hb dX9_charge_44 (by decide) (fun c44 => ?_) (fun c44 => absurd c44 ((by decide)))
  refine lv_aload_n hx hb dX9_charge_52 rfl (lv_at hl 2 rfl) ?_
  refine lv_iconst (v := 1) hx hb dX9_charge_53 (by decide) ?_
  refine hs_callv0 (w1 := (mW o ad cd tn td cs hd kd rt vl hr hw cu si acc (bdT 1 (bdT 2 st)))) (hs_runV (q0 := 0) SF cal_X9_body tw_598 (c_X9_body l D o ad cd tn td cs hd kd rt vl hr hw cu si acc (bdT 2 st) (okM_mono (okM_bd 2 hok) (by decide)) 1) hK hP hD rfl rfl ⟨Nat.le_of_ble_eq_true rfl, Nat.le_of_ble_eq_true rfl⟩ rfl hl.1 rfl (Nat.le_of_ble_eq_true rfl) dX9_charge_54 ⟨Nat.le_of_ble_eq_true rfl, Nat.le_of_ble_eq_true rfl⟩) hD hS hA (fun H locs hP hD hS => ?_)
  refine lv_iload_n hx hb dX9_charge_57 rfl (lv_at hl 4 rfl) ?_
  refine lv_bipush (v := 7) hx hb dX9_charge_58 (by decide) ?_
  refine lv_icmp_le (tgt := 70) hx hb dX9_charge_60 (by decide) (fun c60 => ?_) (fun c60 => ?_)
  · refine lv_iconst (v := 0) hx hb dX9_charge_70 (by decide) ?_
    refine lv_istore (lv' := [(5, .int 0), (4, .int ((rt t.toNatClampNeg) * d)), (3, .int 3), (0, .ref o), (1, .int t), (2, .int d)]) hx hb dX9_charge_71 hl (by decide) rfl (fun ls hl => ?_)
    refine lv_iload_n hx hb dX9_charge_73 rfl (lv_at hl 2 rfl) ?_
    refine lv_bipush (v := 6) hx hb dX9_charge_74 (by decide) ?_
    refine lv_icmp_ne (tgt := 94) hx hb dX9_charge_76 (by decide) (fun c76 => ?_) (fun c76 => absurd c76 ((by decide)))
    refine lv_iload_n hx hb dX9_charge_94 rfl (lv_at hl 2 rfl) ?_
    refine lv_iconst (v := 4) hx hb dX9_charge_95 (by decide) ?_
    refine lv_icmp_ne (tgt := 115) hx hb dX9_charge_96 (by decide) (fun c96 => ?_) (fun c96 => absurd c96 ((by decide)))
    refine lv_iload_n hx hb dX9_charge_115 rfl (lv_at hl 2 rfl) ?_
    refine lv_iconst (v := 2) hx hb dX9_charge_116 (by decide) ?_
    refine lv_iconst (v := 3) hx hb dX9_charge_117 (by decide) ?_
    refine hs_calli0 (w1 := (mW o ad cd tn td cs hd kd rt vl hr hw cu si acc (bdT 1 (bdT 2 st)))) (hs_runS SF cal_X9_in tw_570 (c_X9_in l D o ad cd tn td cs hd kd rt vl hr hw cu si acc (bdT 1 (bdT 2 st)) 3 2 3) hK hP hD ⟨Nat.le_of_ble_eq_true rfl, Nat.le_of_ble_eq_true rfl⟩ rfl hl.1 rfl (Nat.le_of_ble_eq_true rfl) dX9_charge_118 ⟨Nat.le_of_ble_eq_true rfl, Nat.le_of_ble_eq_true rfl⟩) hD hS hA (fun H locs hP hD hS => ?_)
    refine lv_if_eq (tgt := 133) hx hb dX9_charge_121 (by decide) (fun c121 => absurd c121 ((by decide))) (fun c121 => ?_)
    refine lv_iload hx hb dX9_charge_124 (lv_at hl 1 rfl) ?_
    refine lv_iconst (v := 3) hx hb dX9_charge_126 (by decide) ?_
    refine lv_iload_n hx hb dX9_charge_127 rfl (lv_at hl 5 rfl) ?_
    refine lv_imul hx hb dX9_charge_128 ?_
    refine lv_iadd hx hb dX9_charge_129 ?_
    refine lv_goto (tgt := 135) hx hb dX9_charge_130 (by decide) ?_
    exact hs_iret hx hb hrt hlocks hK hP hD hS dX9_charge_135 (by first | rfl | (unfold chF; first | (rw [if_neg (fun q => (hdk.mp q) c60)]; rfl) | (rw [if_pos (hdk.mpr c60)]; rfl))) (by first | (simp only [bds, chN, List.foldl_cons, List.foldl_nil]; done) | rfl)
  · refine lv_iload_n hx hb dX9_charge_63 rfl (lv_at hl 4 rfl) ?_
    refine lv_bipush (v := 7) hx hb dX9_charge_64 (by decide) ?_
    refine lv_isub hx hb dX9_charge_66 ?_
    refine lv_goto (tgt := 71) hx hb dX9_charge_67 (by decide) ?_
    refine lv_istore (lv' := [(5, .int (d - 7)), (4, .int ((rt t.toNatClampNeg) * d)), (3, .int 3), (0, .ref o), (1, .int t), (2, .int d)]) hx hb dX9_charge_71 hl (by decide) rfl (fun ls hl => ?_)
    refine lv_iload_n hx hb dX9_charge_73 rfl (lv_at hl 2 rfl) ?_
    refine lv_bipush (v := 6) hx hb dX9_charge_74 (by decide) ?_
    refine lv_icmp_ne (tgt := 94) hx hb dX9_charge_76 (by decide) (fun c76 => ?_) (fun c76 => absurd c76 ((by decide)))
    refine lv_iload_n hx hb dX9_charge_94 rfl (lv_at hl 2 rfl) ?_
    refine lv_iconst (v := 4) hx hb dX9_charge_95 (by decide) ?_
    refine lv_icmp_ne (tgt := 115) hx hb dX9_charge_96 (by decide) (fun c96 => ?_) (fun c96 => absurd c96 ((by decide)))
    refine lv_iload_n hx hb dX9_charge_115 rfl (lv_at hl 2 rfl) ?_
    refine lv_iconst (v := 2) hx hb dX9_charge_116 (by decide) ?_
    refine lv_iconst (v := 3) hx hb dX9_charge_117 (by decide) ?_
    refine hs_calli0 (w1 := (mW o ad cd tn td cs hd kd rt vl hr hw cu si acc (bdT 1 (bdT 2 st)))) (hs_runS SF cal_X9_in tw_570 (c_X9_in l D o ad cd tn td cs hd kd rt vl hr hw cu si acc (bdT 1 (bdT 2 st)) 3 2 3) hK hP hD ⟨Nat.le_of_ble_eq_true rfl, Nat.le_of_ble_eq_true rfl⟩ rfl hl.1 rfl (Nat.le_of_ble_eq_true rfl) dX9_charge_118 ⟨Nat.le_of_ble_eq_true rfl, Nat.le_of_ble_eq_true rfl⟩) hD hS hA (fun H locs hP hD hS => ?_)
    refine lv_if_eq (tgt := 133) hx hb dX9_charge_121 (by decide) (fun c121 => absurd c121 ((by decide))) (fun c121 => ?_)
    refine lv_iload hx hb dX9_charge_124 (lv_at hl 1 rfl) ?_
    refine lv_iconst (v := 3) hx hb dX9_charge_126 (by decide) ?_
    refine lv_iload_n hx hb dX9_charge_127 rfl (lv_at hl 5 rfl) ?_
    refine lv_imul hx hb dX9_charge_128 ?_
    refine lv_iadd hx hb dX9_charge_129 ?_
    refine lv_goto (tgt := 135) hx hb dX9_charge_130 (by decide) ?_
    exact hs_iret hx hb hrt hlocks hK hP hD hS dX9_charge_135 (by first | rfl | (unfold chF; first | (rw [if_neg (fun q => (hdk.mp q) c60)]; rfl) | (rw [if_pos (hdk.mpr c60)]; rfl))) (by first | (simp only [bds, chN, List.foldl_cons, List.foldl_nil]; done) | rfl)

set_option maxHeartbeats 400000 in
set_option maxRecDepth 100000 in
theorem c_X9_charge_4 (l : Launch) (D : va_G) (o : Nat) (ad : Nat → Nat) (cd : Nat → ClassId) (tn td cs hd : Int32) (kd rt vl hr hw cu si : Nat → Int32) (acc : Nat → Int64) (st : TS) (t : Int32) (ht : vp_in t 24) (hkd : kd t.toNatClampNeg = nI 4) (hok : okM 3 st) (d : Int32) (hdk : dOk d) : CM l D yX9_charge cX9_charge 6 (some .int) { frames := 1, cells := 0, slots := 0, locals := 22 } (tyM cd) [.ref o, .int t, .int d] (mW o ad cd tn td cs hd kd rt vl hr hw cu si acc st) (hs_QI D (tyM cd) (chF 4 (rt t.toNatClampNeg) (vl t.toNatClampNeg) d) (mW o ad cd tn td cs hd kd rt vl hr hw cu si acc (bds (chN 4) st))) := by
  refine CM.of (by decide) (Nat.le_of_ble_eq_true rfl) ?_
  intro p e s m below meth c A ls hx hb hrt hml htg hown hlocks hnm hA hK hP hD hS hl
  have hown : s.vm.findClass RX9 = some m.cls := hown
  have hl : lv_has ls 6 [(0, .ref o), (1, .int t), (2, .int d)] := hl
  have SF : CallFix p m c cX9_charge 6 s _ hs_gt RX9 := ⟨hx, hb, hml, hown, htg⟩
  have hkd : kd t.toNatClampNeg = 4 := hkd
  refine lv_aload_n hx hb dX9_charge_0 rfl (lv_at hl 0 rfl) ?_
  refine va_get (D := D) (ci := 9) (v := .ref (ad 1)) (C := RX9) (T := TX9) (N := 15) hx hb htg in_X9 hown hK hP 0 rfl rfl 1 (by decide) (htg _ tw_521) (fun _ h9 => h9) rfl dX9_charge_1 ?_
  refine lv_iload_n hx hb dX9_charge_4 rfl (lv_at hl 1 rfl) ?_
  refine va_iald hx hb hK hP 1 0 rfl rfl (ht) dX9_charge_5 ?_
  rw [hkd]
  refine lv_istore_n (lv' := [(3, .int 4), (0, .ref o), (1, .int t), (2, .int d)]) hx hb dX9_charge_6 rfl hl (by decide) rfl (fun ls hl => ?_)
  refine lv_aload_n hx hb dX9_charge_7 rfl (lv_at hl 1 rfl) ?_
  refine va_get (D := D) (ci := 9) (v := .ref (ad 2)) (C := RX9) (T := TX9) (N := 15) hx hb htg in_X9 hown hK hP 0 rfl rfl 2 (by decide) (htg _ tw_522) (fun _ h9 => h9) rfl dX9_charge_8 ?_
  refine lv_iload_n hx hb dX9_charge_11 rfl (lv_at hl 2 rfl) ?_
  refine va_iald hx hb hK hP 2 1 rfl rfl (ht) dX9_charge_12 ?_
  refine lv_iload_n hx hb dX9_charge_13 rfl (lv_at hl 3 rfl) ?_
  refine lv_imul hx hb dX9_charge_14 ?_
  refine lv_istore (lv' := [(4, .int ((rt t.toNatClampNeg) * d)), (3, .int 4), (0, .ref o), (1, .int t), (2, .int d)]) hx hb dX9_charge_15 hl (by decide) rfl (fun ls hl => ?_)
  refine lv_iload_n hx hb dX9_charge_17 rfl (lv_at hl 1 rfl) ?_
  refine lv_iconst (v := 4) hx hb dX9_charge_18 (by decide) ?_
  refine lv_icmp_ne (tgt := 27) hx hb dX9_charge_19 (by decide) (fun c19 => absurd c19 ((by decide))) (fun c19 => ?_)
  refine lv_aload_n hx hb dX9_charge_22 rfl (lv_at hl 2 rfl) ?_
  refine lv_iconst (v := 3) hx hb dX9_charge_23 (by decide) ?_
  refine hs_callv0 (w1 := (mW o ad cd tn td cs hd kd rt vl hr hw cu si acc (bdT 3 st))) (hs_runV (q0 := 0) SF cal_X9_body tw_598 (c_X9_body l D o ad cd tn td cs hd kd rt vl hr hw cu si acc st (okM_mono hok (by decide)) 3) hK hP hD rfl rfl ⟨Nat.le_of_ble_eq_true rfl, Nat.le_of_ble_eq_true rfl⟩ rfl hl.1 rfl (Nat.le_of_ble_eq_true rfl) dX9_charge_24 ⟨Nat.le_of_ble_eq_true rfl, Nat.le_of_ble_eq_true rfl⟩) hD hS hA (fun H locs hP hD hS => ?_)
  refine lv_iload_n hx hb dX9_charge_27 rfl (lv_at hl 1 rfl) ?_
  refine lv_iconst (v := 2) hx hb dX9_charge_28 (by decide) ?_
  refine lv_iconst (v := 4) hx hb dX9_charge_29 (by decide) ?_
  refine hs_calli0 (w1 := (mW o ad cd tn td cs hd kd rt vl hr hw cu si acc (bdT 3 st))) (hs_runS SF cal_X9_in tw_570 (c_X9_in l D o ad cd tn td cs hd kd rt vl hr hw cu si acc (bdT 3 st) 4 2 4) hK hP hD ⟨Nat.le_of_ble_eq_true rfl, Nat.le_of_ble_eq_true rfl⟩ rfl hl.1 rfl (Nat.le_of_ble_eq_true rfl) dX9_charge_30 ⟨Nat.le_of_ble_eq_true rfl, Nat.le_of_ble_eq_true rfl⟩) hD hS hA (fun H locs hP hD hS => ?_)
  refine lv_if_eq (tgt := 41) hx hb dX9_charge_33 (by decide) (fun c33 => absurd c33 ((by decide))) (fun c33 => ?_)
  refine lv_aload_n hx hb dX9_charge_36 rfl (lv_at hl 2 rfl) ?_
  refine lv_iconst (v := 2) hx hb dX9_charge_37 (by decide) ?_
  refine hs_callv0 (w1 := (mW o ad cd tn td cs hd kd rt vl hr hw cu si acc (bdT 2 (bdT 3 st)))) (hs_runV (q0 := 0) SF cal_X9_body tw_598 (c_X9_body l D o ad cd tn td cs hd kd rt vl hr hw cu si acc (bdT 3 st) (okM_mono (okM_bd 3 hok) (by decide)) 2) hK hP hD rfl rfl ⟨Nat.le_of_ble_eq_true rfl, Nat.le_of_ble_eq_true rfl⟩ rfl hl.1 rfl (Nat.le_of_ble_eq_true rfl) dX9_charge_38 ⟨Nat.le_of_ble_eq_true rfl, Nat.le_of_ble_eq_true rfl⟩) hD hS hA (fun H locs hP hD hS => ?_)
  refine lv_iload_n hx hb dX9_charge_41 rfl (lv_at hl 1 rfl) ?_
  refine lv_bipush (v := 6) hx hb dX9_charge_42 (by decide) ?_
  refine lv_icmp_ne (tgt := 52) hx hb dX9_charge_44 (by decide) (fun c44 => ?_) (fun c44 => absurd c44 ((by decide)))
  refine lv_aload_n hx hb dX9_charge_52 rfl (lv_at hl 2 rfl) ?_
  refine lv_iconst (v := 1) hx hb dX9_charge_53 (by decide) ?_
  refine hs_callv0 (w1 := (mW o ad cd tn td cs hd kd rt vl hr hw cu si acc (bdT 1 (bdT 2 (bdT 3 st))))) (hs_runV (q0 := 0) SF cal_X9_body tw_598 (c_X9_body l D o ad cd tn td cs hd kd rt vl hr hw cu si acc (bdT 2 (bdT 3 st)) (okM_bd 2 (okM_bd 3 hok)) 1) hK hP hD rfl rfl ⟨Nat.le_of_ble_eq_true rfl, Nat.le_of_ble_eq_true rfl⟩ rfl hl.1 rfl (Nat.le_of_ble_eq_true rfl) dX9_charge_54 ⟨Nat.le_of_ble_eq_true rfl, Nat.le_of_ble_eq_true rfl⟩) hD hS hA (fun H locs hP hD hS => ?_)
  refine lv_iload_n hx hb dX9_charge_57 rfl (lv_at hl 4 rfl) ?_
  refine lv_bipush (v := 7) hx hb dX9_charge_58 (by decide) ?_
  refine lv_icmp_le (tgt := 70) hx hb dX9_charge_60 (by decide) (fun c60 => ?_) (fun c60 => ?_)
  · refine lv_iconst (v := 0) hx hb dX9_charge_70 (by decide) ?_
    refine lv_istore (lv' := [(5, .int 0), (4, .int ((rt t.toNatClampNeg) * d)), (3, .int 4), (0, .ref o), (1, .int t), (2, .int d)]) hx hb dX9_charge_71 hl (by decide) rfl (fun ls hl => ?_)
    refine lv_iload_n hx hb dX9_charge_73 rfl (lv_at hl 2 rfl) ?_
    refine lv_bipush (v := 6) hx hb dX9_charge_74 (by decide) ?_
    refine lv_icmp_ne (tgt := 94) hx hb dX9_charge_76 (by decide) (fun c76 => ?_) (fun c76 => absurd c76 ((by decide)))
    refine lv_iload_n hx hb dX9_charge_94 rfl (lv_at hl 2 rfl) ?_
    refine lv_iconst (v := 4) hx hb dX9_charge_95 (by decide) ?_
    refine lv_icmp_ne (tgt := 115) hx hb dX9_charge_96 (by decide) (fun c96 => absurd c96 ((by decide))) (fun c96 => ?_)
    refine lv_iconst (v := 2) hx hb dX9_charge_99 (by decide) ?_
    refine lv_iload hx hb dX9_charge_100 (lv_at hl 1 rfl) ?_
    refine lv_iconst (v := 3) hx hb dX9_charge_102 (by decide) ?_
    refine lv_iload_n hx hb dX9_charge_103 rfl (lv_at hl 5 rfl) ?_
    refine lv_imul hx hb dX9_charge_104 ?_
    refine lv_iadd hx hb dX9_charge_105 ?_
    refine lv_imul hx hb dX9_charge_106 ?_
    refine lv_iconst (v := 5) hx hb dX9_charge_107 (by decide) ?_
    refine lv_iload hx hb dX9_charge_108 (lv_at hl 0 rfl) ?_
    refine lv_imul hx hb dX9_charge_110 ?_
    refine lv_isub hx hb dX9_charge_111 ?_
    refine lv_goto (tgt := 135) hx hb dX9_charge_112 (by decide) ?_
    exact hs_iret hx hb hrt hlocks hK hP hD hS dX9_charge_135 (by first | rfl | (unfold chF; first | (rw [if_neg (fun q => (hdk.mp q) c60)]; rfl) | (rw [if_pos (hdk.mpr c60)]; rfl))) (by first | (simp only [bds, chN, List.foldl_cons, List.foldl_nil]; done) | rfl)
  · refine lv_iload_n hx hb dX9_charge_63 rfl (lv_at hl 4 rfl) ?_
    refine lv_bipush (v := 7) hx hb dX9_charge_64 (by decide) ?_
    refine lv_isub hx hb dX9_charge_66 ?_
    refine lv_goto (tgt := 71) hx hb dX9_charge_67 (by decide) ?_
    refine lv_istore (lv' := [(5, .int (d - 7)), (4, .int ((rt t.toNatClampNeg) * d)), (3, .int 4), (0, .ref o), (1, .int t), (2, .int d)]) hx hb dX9_charge_71 hl (by decide) rfl (fun ls hl => ?_)
    refine lv_iload_n hx hb dX9_charge_73 rfl (lv_at hl 2 rfl) ?_
    refine lv_bipush (v := 6) hx hb dX9_charge_74 (by decide) ?_
    refine lv_icmp_ne (tgt := 94) hx hb dX9_charge_76 (by decide) (fun c76 => ?_) (fun c76 => absurd c76 ((by decide)))
    refine lv_iload_n hx hb dX9_charge_94 rfl (lv_at hl 2 rfl) ?_
    refine lv_iconst (v := 4) hx hb dX9_charge_95 (by decide) ?_
    refine lv_icmp_ne (tgt := 115) hx hb dX9_charge_96 (by decide) (fun c96 => absurd c96 ((by decide))) (fun c96 => ?_)
    refine lv_iconst (v := 2) hx hb dX9_charge_99 (by decide) ?_
    refine lv_iload hx hb dX9_charge_100 (lv_at hl 1 rfl) ?_
    refine lv_iconst (v := 3) hx hb dX9_charge_102 (by decide) ?_
    refine lv_iload_n hx hb dX9_charge_103 rfl (lv_at hl 5 rfl) ?_
    refine lv_imul hx hb dX9_charge_104 ?_
    refine lv_iadd hx hb dX9_charge_105 ?_
    refine lv_imul hx hb dX9_charge_106 ?_
    refine lv_iconst (v := 5) hx hb dX9_charge_107 (by decide) ?_
    refine lv_iload hx hb dX9_charge_108 (lv_at hl 0 rfl) ?_
    refine lv_imul hx hb dX9_charge_110 ?_
    refine lv_isub hx hb dX9_charge_111 ?_
    refine lv_goto (tgt := 135) hx hb dX9_charge_112 (by decide) ?_
    exact hs_iret hx hb hrt hlocks hK hP hD hS dX9_charge_135 (by first | rfl | (unfold chF; first | (rw [if_neg (fun q => (hdk.mp q) c60)]; rfl) | (rw [if_pos (hdk.mpr c60)]; rfl))) (by first | (simp only [bds, chN, List.foldl_cons, List.foldl_nil]; done) | rfl)

set_option maxHeartbeats 400000 in
set_option maxRecDepth 100000 in
theorem c_X9_charge_5 (l : Launch) (D : va_G) (o : Nat) (ad : Nat → Nat) (cd : Nat → ClassId) (tn td cs hd : Int32) (kd rt vl hr hw cu si : Nat → Int32) (acc : Nat → Int64) (st : TS) (t : Int32) (ht : vp_in t 24) (hkd : kd t.toNatClampNeg = nI 5) (hok : okM 3 st) (d : Int32) (hdk : dOk d) : CM l D yX9_charge cX9_charge 6 (some .int) { frames := 1, cells := 0, slots := 0, locals := 22 } (tyM cd) [.ref o, .int t, .int d] (mW o ad cd tn td cs hd kd rt vl hr hw cu si acc st) (hs_QI D (tyM cd) (chF 5 (rt t.toNatClampNeg) (vl t.toNatClampNeg) d) (mW o ad cd tn td cs hd kd rt vl hr hw cu si acc (bds (chN 5) st))) := by
  refine CM.of (by decide) (Nat.le_of_ble_eq_true rfl) ?_
  intro p e s m below meth c A ls hx hb hrt hml htg hown hlocks hnm hA hK hP hD hS hl
  have hown : s.vm.findClass RX9 = some m.cls := hown
  have hl : lv_has ls 6 [(0, .ref o), (1, .int t), (2, .int d)] := hl
  have SF : CallFix p m c cX9_charge 6 s _ hs_gt RX9 := ⟨hx, hb, hml, hown, htg⟩
  have hkd : kd t.toNatClampNeg = 5 := hkd
  refine lv_aload_n hx hb dX9_charge_0 rfl (lv_at hl 0 rfl) ?_
  refine va_get (D := D) (ci := 9) (v := .ref (ad 1)) (C := RX9) (T := TX9) (N := 15) hx hb htg in_X9 hown hK hP 0 rfl rfl 1 (by decide) (htg _ tw_521) (fun _ h9 => h9) rfl dX9_charge_1 ?_
  refine lv_iload_n hx hb dX9_charge_4 rfl (lv_at hl 1 rfl) ?_
  refine va_iald hx hb hK hP 1 0 rfl rfl (ht) dX9_charge_5 ?_
  rw [hkd]
  refine lv_istore_n (lv' := [(3, .int 5), (0, .ref o), (1, .int t), (2, .int d)]) hx hb dX9_charge_6 rfl hl (by decide) rfl (fun ls hl => ?_)
  refine lv_aload_n hx hb dX9_charge_7 rfl (lv_at hl 1 rfl) ?_
  refine va_get (D := D) (ci := 9) (v := .ref (ad 2)) (C := RX9) (T := TX9) (N := 15) hx hb htg in_X9 hown hK hP 0 rfl rfl 2 (by decide) (htg _ tw_522) (fun _ h9 => h9) rfl dX9_charge_8 ?_
  refine lv_iload_n hx hb dX9_charge_11 rfl (lv_at hl 2 rfl) ?_
  refine va_iald hx hb hK hP 2 1 rfl rfl (ht) dX9_charge_12 ?_
  refine lv_iload_n hx hb dX9_charge_13 rfl (lv_at hl 3 rfl) ?_
  refine lv_imul hx hb dX9_charge_14 ?_
  refine lv_istore (lv' := [(4, .int ((rt t.toNatClampNeg) * d)), (3, .int 5), (0, .ref o), (1, .int t), (2, .int d)]) hx hb dX9_charge_15 hl (by decide) rfl (fun ls hl => ?_)
  refine lv_iload_n hx hb dX9_charge_17 rfl (lv_at hl 1 rfl) ?_
  refine lv_iconst (v := 4) hx hb dX9_charge_18 (by decide) ?_
  refine lv_icmp_ne (tgt := 27) hx hb dX9_charge_19 (by decide) (fun c19 => ?_) (fun c19 => absurd c19 ((by decide)))
  refine lv_iload_n hx hb dX9_charge_27 rfl (lv_at hl 1 rfl) ?_
  refine lv_iconst (v := 2) hx hb dX9_charge_28 (by decide) ?_
  refine lv_iconst (v := 4) hx hb dX9_charge_29 (by decide) ?_
  refine hs_calli0 (w1 := (mW o ad cd tn td cs hd kd rt vl hr hw cu si acc st)) (hs_runS SF cal_X9_in tw_570 (c_X9_in l D o ad cd tn td cs hd kd rt vl hr hw cu si acc st 5 2 4) hK hP hD ⟨Nat.le_of_ble_eq_true rfl, Nat.le_of_ble_eq_true rfl⟩ rfl hl.1 rfl (Nat.le_of_ble_eq_true rfl) dX9_charge_30 ⟨Nat.le_of_ble_eq_true rfl, Nat.le_of_ble_eq_true rfl⟩) hD hS hA (fun H locs hP hD hS => ?_)
  refine lv_if_eq (tgt := 41) hx hb dX9_charge_33 (by decide) (fun c33 => ?_) (fun c33 => absurd c33 ((by decide)))
  refine lv_iload_n hx hb dX9_charge_41 rfl (lv_at hl 1 rfl) ?_
  refine lv_bipush (v := 6) hx hb dX9_charge_42 (by decide) ?_
  refine lv_icmp_ne (tgt := 52) hx hb dX9_charge_44 (by decide) (fun c44 => ?_) (fun c44 => absurd c44 ((by decide)))
  refine lv_aload_n hx hb dX9_charge_52 rfl (lv_at hl 2 rfl) ?_
  refine lv_iconst (v := 1) hx hb dX9_charge_53 (by decide) ?_
  refine hs_callv0 (w1 := (mW o ad cd tn td cs hd kd rt vl hr hw cu si acc (bdT 1 st))) (hs_runV (q0 := 0) SF cal_X9_body tw_598 (c_X9_body l D o ad cd tn td cs hd kd rt vl hr hw cu si acc st (okM_mono hok (by decide)) 1) hK hP hD rfl rfl ⟨Nat.le_of_ble_eq_true rfl, Nat.le_of_ble_eq_true rfl⟩ rfl hl.1 rfl (Nat.le_of_ble_eq_true rfl) dX9_charge_54 ⟨Nat.le_of_ble_eq_true rfl, Nat.le_of_ble_eq_true rfl⟩) hD hS hA (fun H locs hP hD hS => ?_)
  refine lv_iload_n hx hb dX9_charge_57 rfl (lv_at hl 4 rfl) ?_
  refine lv_bipush (v := 7) hx hb dX9_charge_58 (by decide) ?_
  refine lv_icmp_le (tgt := 70) hx hb dX9_charge_60 (by decide) (fun c60 => ?_) (fun c60 => ?_)
  · refine lv_iconst (v := 0) hx hb dX9_charge_70 (by decide) ?_
    refine lv_istore (lv' := [(5, .int 0), (4, .int ((rt t.toNatClampNeg) * d)), (3, .int 5), (0, .ref o), (1, .int t), (2, .int d)]) hx hb dX9_charge_71 hl (by decide) rfl (fun ls hl => ?_)
    refine lv_iload_n hx hb dX9_charge_73 rfl (lv_at hl 2 rfl) ?_
    refine lv_bipush (v := 6) hx hb dX9_charge_74 (by decide) ?_
    refine lv_icmp_ne (tgt := 94) hx hb dX9_charge_76 (by decide) (fun c76 => ?_) (fun c76 => absurd c76 ((by decide)))
    refine lv_iload_n hx hb dX9_charge_94 rfl (lv_at hl 2 rfl) ?_
    refine lv_iconst (v := 4) hx hb dX9_charge_95 (by decide) ?_
    refine lv_icmp_ne (tgt := 115) hx hb dX9_charge_96 (by decide) (fun c96 => ?_) (fun c96 => absurd c96 ((by decide)))
    refine lv_iload_n hx hb dX9_charge_115 rfl (lv_at hl 2 rfl) ?_
    refine lv_iconst (v := 2) hx hb dX9_charge_116 (by decide) ?_
    refine lv_iconst (v := 3) hx hb dX9_charge_117 (by decide) ?_
    refine hs_calli0 (w1 := (mW o ad cd tn td cs hd kd rt vl hr hw cu si acc (bdT 1 st))) (hs_runS SF cal_X9_in tw_570 (c_X9_in l D o ad cd tn td cs hd kd rt vl hr hw cu si acc (bdT 1 st) 5 2 3) hK hP hD ⟨Nat.le_of_ble_eq_true rfl, Nat.le_of_ble_eq_true rfl⟩ rfl hl.1 rfl (Nat.le_of_ble_eq_true rfl) dX9_charge_118 ⟨Nat.le_of_ble_eq_true rfl, Nat.le_of_ble_eq_true rfl⟩) hD hS hA (fun H locs hP hD hS => ?_)
    refine lv_if_eq (tgt := 133) hx hb dX9_charge_121 (by decide) (fun c121 => ?_) (fun c121 => absurd c121 ((by decide)))
    refine lv_iload hx hb dX9_charge_133 (lv_at hl 1 rfl) ?_
    exact hs_iret hx hb hrt hlocks hK hP hD hS dX9_charge_135 (by first | rfl | (unfold chF; first | (rw [if_neg (fun q => (hdk.mp q) c60)]; rfl) | (rw [if_pos (hdk.mpr c60)]; rfl))) (by first | (simp only [bds, chN, List.foldl_cons, List.foldl_nil]; done) | rfl)
  · refine lv_iload_n hx hb dX9_charge_63 rfl (lv_at hl 4 rfl) ?_
    refine lv_bipush (v := 7) hx hb dX9_charge_64 (by decide) ?_
    refine lv_isub hx hb dX9_charge_66 ?_
    refine lv_goto (tgt := 71) hx hb dX9_charge_67 (by decide) ?_
    refine lv_istore (lv' := [(5, .int (d - 7)), (4, .int ((rt t.toNatClampNeg) * d)), (3, .int 5), (0, .ref o), (1, .int t), (2, .int d)]) hx hb dX9_charge_71 hl (by decide) rfl (fun ls hl => ?_)
    refine lv_iload_n hx hb dX9_charge_73 rfl (lv_at hl 2 rfl) ?_
    refine lv_bipush (v := 6) hx hb dX9_charge_74 (by decide) ?_
    refine lv_icmp_ne (tgt := 94) hx hb dX9_charge_76 (by decide) (fun c76 => ?_) (fun c76 => absurd c76 ((by decide)))
    refine lv_iload_n hx hb dX9_charge_94 rfl (lv_at hl 2 rfl) ?_
    refine lv_iconst (v := 4) hx hb dX9_charge_95 (by decide) ?_
    refine lv_icmp_ne (tgt := 115) hx hb dX9_charge_96 (by decide) (fun c96 => ?_) (fun c96 => absurd c96 ((by decide)))
    refine lv_iload_n hx hb dX9_charge_115 rfl (lv_at hl 2 rfl) ?_
    refine lv_iconst (v := 2) hx hb dX9_charge_116 (by decide) ?_
    refine lv_iconst (v := 3) hx hb dX9_charge_117 (by decide) ?_
    refine hs_calli0 (w1 := (mW o ad cd tn td cs hd kd rt vl hr hw cu si acc (bdT 1 st))) (hs_runS SF cal_X9_in tw_570 (c_X9_in l D o ad cd tn td cs hd kd rt vl hr hw cu si acc (bdT 1 st) 5 2 3) hK hP hD ⟨Nat.le_of_ble_eq_true rfl, Nat.le_of_ble_eq_true rfl⟩ rfl hl.1 rfl (Nat.le_of_ble_eq_true rfl) dX9_charge_118 ⟨Nat.le_of_ble_eq_true rfl, Nat.le_of_ble_eq_true rfl⟩) hD hS hA (fun H locs hP hD hS => ?_)
    refine lv_if_eq (tgt := 133) hx hb dX9_charge_121 (by decide) (fun c121 => ?_) (fun c121 => absurd c121 ((by decide)))
    refine lv_iload hx hb dX9_charge_133 (lv_at hl 1 rfl) ?_
    exact hs_iret hx hb hrt hlocks hK hP hD hS dX9_charge_135 (by first | rfl | (unfold chF; first | (rw [if_neg (fun q => (hdk.mp q) c60)]; rfl) | (rw [if_pos (hdk.mpr c60)]; rfl))) (by first | (simp only [bds, chN, List.foldl_cons, List.foldl_nil]; done) | rfl)

set_option maxHeartbeats 400000 in
set_option maxRecDepth 100000 in
theorem c_X9_charge_6 (l : Launch) (D : va_G) (o : Nat) (ad : Nat → Nat) (cd : Nat → ClassId) (tn td cs hd : Int32) (kd rt vl hr hw cu si : Nat → Int32) (acc : Nat → Int64) (st : TS) (t : Int32) (ht : vp_in t 24) (hkd : kd t.toNatClampNeg = nI 6) (hok : okM 3 st) (d : Int32) (hdk : dOk d) : CM l D yX9_charge cX9_charge 6 (some .int) { frames := 1, cells := 0, slots := 0, locals := 22 } (tyM cd) [.ref o, .int t, .int d] (mW o ad cd tn td cs hd kd rt vl hr hw cu si acc st) (hs_QI D (tyM cd) (chF 6 (rt t.toNatClampNeg) (vl t.toNatClampNeg) d) (mW o ad cd tn td cs hd kd rt vl hr hw cu si acc (bds (chN 6) st))) := by
  refine CM.of (by decide) (Nat.le_of_ble_eq_true rfl) ?_
  intro p e s m below meth c A ls hx hb hrt hml htg hown hlocks hnm hA hK hP hD hS hl
  have hown : s.vm.findClass RX9 = some m.cls := hown
  have hl : lv_has ls 6 [(0, .ref o), (1, .int t), (2, .int d)] := hl
  have SF : CallFix p m c cX9_charge 6 s _ hs_gt RX9 := ⟨hx, hb, hml, hown, htg⟩
  have hkd : kd t.toNatClampNeg = 6 := hkd
  refine lv_aload_n hx hb dX9_charge_0 rfl (lv_at hl 0 rfl) ?_
  refine va_get (D := D) (ci := 9) (v := .ref (ad 1)) (C := RX9) (T := TX9) (N := 15) hx hb htg in_X9 hown hK hP 0 rfl rfl 1 (by decide) (htg _ tw_521) (fun _ h9 => h9) rfl dX9_charge_1 ?_
  refine lv_iload_n hx hb dX9_charge_4 rfl (lv_at hl 1 rfl) ?_
  refine va_iald hx hb hK hP 1 0 rfl rfl (ht) dX9_charge_5 ?_
  rw [hkd]
  refine lv_istore_n (lv' := [(3, .int 6), (0, .ref o), (1, .int t), (2, .int d)]) hx hb dX9_charge_6 rfl hl (by decide) rfl (fun ls hl => ?_)
  refine lv_aload_n hx hb dX9_charge_7 rfl (lv_at hl 1 rfl) ?_
  refine va_get (D := D) (ci := 9) (v := .ref (ad 2)) (C := RX9) (T := TX9) (N := 15) hx hb htg in_X9 hown hK hP 0 rfl rfl 2 (by decide) (htg _ tw_522) (fun _ h9 => h9) rfl dX9_charge_8 ?_
  refine lv_iload_n hx hb dX9_charge_11 rfl (lv_at hl 2 rfl) ?_
  refine va_iald hx hb hK hP 2 1 rfl rfl (ht) dX9_charge_12 ?_
  refine lv_iload_n hx hb dX9_charge_13 rfl (lv_at hl 3 rfl) ?_
  refine lv_imul hx hb dX9_charge_14 ?_
  refine lv_istore (lv' := [(4, .int ((rt t.toNatClampNeg) * d)), (3, .int 6), (0, .ref o), (1, .int t), (2, .int d)]) hx hb dX9_charge_15 hl (by decide) rfl (fun ls hl => ?_)
  refine lv_iload_n hx hb dX9_charge_17 rfl (lv_at hl 1 rfl) ?_
  refine lv_iconst (v := 4) hx hb dX9_charge_18 (by decide) ?_
  refine lv_icmp_ne (tgt := 27) hx hb dX9_charge_19 (by decide) (fun c19 => ?_) (fun c19 => absurd c19 ((by decide)))
  refine lv_iload_n hx hb dX9_charge_27 rfl (lv_at hl 1 rfl) ?_
  refine lv_iconst (v := 2) hx hb dX9_charge_28 (by decide) ?_
  refine lv_iconst (v := 4) hx hb dX9_charge_29 (by decide) ?_
  refine hs_calli0 (w1 := (mW o ad cd tn td cs hd kd rt vl hr hw cu si acc st)) (hs_runS SF cal_X9_in tw_570 (c_X9_in l D o ad cd tn td cs hd kd rt vl hr hw cu si acc st 6 2 4) hK hP hD ⟨Nat.le_of_ble_eq_true rfl, Nat.le_of_ble_eq_true rfl⟩ rfl hl.1 rfl (Nat.le_of_ble_eq_true rfl) dX9_charge_30 ⟨Nat.le_of_ble_eq_true rfl, Nat.le_of_ble_eq_true rfl⟩) hD hS hA (fun H locs hP hD hS => ?_)
  refine lv_if_eq (tgt := 41) hx hb dX9_charge_33 (by decide) (fun c33 => ?_) (fun c33 => absurd c33 ((by decide)))
  refine lv_iload_n hx hb dX9_charge_41 rfl (lv_at hl 1 rfl) ?_
  refine lv_bipush (v := 6) hx hb dX9_charge_42 (by decide) ?_
  refine lv_icmp_ne (tgt := 52) hx hb dX9_charge_44 (by decide) (fun c44 => absurd c44 ((by decide))) (fun c44 => ?_)
  refine lv_aload_n hx hb dX9_charge_47 rfl (lv_at hl 2 rfl) ?_
  refine lv_iconst (v := 4) hx hb dX9_charge_48 (by decide) ?_
  refine hs_callv0 (w1 := (mW o ad cd tn td cs hd kd rt vl hr hw cu si acc (bdT 4 st))) (hs_runV (q0 := 0) SF cal_X9_body tw_598 (c_X9_body l D o ad cd tn td cs hd kd rt vl hr hw cu si acc st (okM_mono hok (by decide)) 4) hK hP hD rfl rfl ⟨Nat.le_of_ble_eq_true rfl, Nat.le_of_ble_eq_true rfl⟩ rfl hl.1 rfl (Nat.le_of_ble_eq_true rfl) dX9_charge_49 ⟨Nat.le_of_ble_eq_true rfl, Nat.le_of_ble_eq_true rfl⟩) hD hS hA (fun H locs hP hD hS => ?_)
  refine lv_aload_n hx hb dX9_charge_52 rfl (lv_at hl 2 rfl) ?_
  refine lv_iconst (v := 1) hx hb dX9_charge_53 (by decide) ?_
  refine hs_callv0 (w1 := (mW o ad cd tn td cs hd kd rt vl hr hw cu si acc (bdT 1 (bdT 4 st)))) (hs_runV (q0 := 0) SF cal_X9_body tw_598 (c_X9_body l D o ad cd tn td cs hd kd rt vl hr hw cu si acc (bdT 4 st) (okM_mono (okM_bd 4 hok) (by decide)) 1) hK hP hD rfl rfl ⟨Nat.le_of_ble_eq_true rfl, Nat.le_of_ble_eq_true rfl⟩ rfl hl.1 rfl (Nat.le_of_ble_eq_true rfl) dX9_charge_54 ⟨Nat.le_of_ble_eq_true rfl, Nat.le_of_ble_eq_true rfl⟩) hD hS hA (fun H locs hP hD hS => ?_)
  refine lv_iload_n hx hb dX9_charge_57 rfl (lv_at hl 4 rfl) ?_
  refine lv_bipush (v := 7) hx hb dX9_charge_58 (by decide) ?_
  refine lv_icmp_le (tgt := 70) hx hb dX9_charge_60 (by decide) (fun c60 => ?_) (fun c60 => ?_)
  · refine lv_iconst (v := 0) hx hb dX9_charge_70 (by decide) ?_
    refine lv_istore (lv' := [(5, .int 0), (4, .int ((rt t.toNatClampNeg) * d)), (3, .int 6), (0, .ref o), (1, .int t), (2, .int d)]) hx hb dX9_charge_71 hl (by decide) rfl (fun ls hl => ?_)
    refine lv_iload_n hx hb dX9_charge_73 rfl (lv_at hl 2 rfl) ?_
    refine lv_bipush (v := 6) hx hb dX9_charge_74 (by decide) ?_
    refine lv_icmp_ne (tgt := 94) hx hb dX9_charge_76 (by decide) (fun c76 => absurd c76 ((by decide))) (fun c76 => ?_)
    refine lv_iload hx hb dX9_charge_79 (lv_at hl 1 rfl) ?_
    refine lv_aload_n hx hb dX9_charge_81 rfl (lv_at hl 3 rfl) ?_
    refine va_get (D := D) (ci := 9) (v := .ref (ad 3)) (C := RX9) (T := TX9) (N := 15) hx hb htg in_X9 hown hK hP 0 rfl rfl 3 (by decide) (htg _ tw_523) (fun _ h9 => h9) rfl dX9_charge_82 ?_
    refine lv_iload_n hx hb dX9_charge_85 rfl (lv_at hl 4 rfl) ?_
    refine va_iald hx hb hK hP 3 2 rfl rfl (ht) dX9_charge_86 ?_
    refine lv_bipush (v := 100) hx hb dX9_charge_87 (by decide) ?_
    refine lv_idiv hx hb dX9_charge_89 (by decide) ?_
    refine lv_iadd hx hb dX9_charge_90 ?_
    refine lv_goto (tgt := 135) hx hb dX9_charge_91 (by decide) ?_
    exact hs_iret hx hb hrt hlocks hK hP hD hS dX9_charge_135 (by first | rfl | (unfold chF; first | (rw [if_neg (fun q => (hdk.mp q) c60)]; rfl) | (rw [if_pos (hdk.mpr c60)]; rfl))) (by first | (simp only [bds, chN, List.foldl_cons, List.foldl_nil]; done) | rfl)
  · refine lv_iload_n hx hb dX9_charge_63 rfl (lv_at hl 4 rfl) ?_
    refine lv_bipush (v := 7) hx hb dX9_charge_64 (by decide) ?_
    refine lv_isub hx hb dX9_charge_66 ?_
    refine lv_goto (tgt := 71) hx hb dX9_charge_67 (by decide) ?_
    refine lv_istore (lv' := [(5, .int (d - 7)), (4, .int ((rt t.toNatClampNeg) * d)), (3, .int 6), (0, .ref o), (1, .int t), (2, .int d)]) hx hb dX9_charge_71 hl (by decide) rfl (fun ls hl => ?_)
    refine lv_iload_n hx hb dX9_charge_73 rfl (lv_at hl 2 rfl) ?_
    refine lv_bipush (v := 6) hx hb dX9_charge_74 (by decide) ?_
    refine lv_icmp_ne (tgt := 94) hx hb dX9_charge_76 (by decide) (fun c76 => absurd c76 ((by decide))) (fun c76 => ?_)
    refine lv_iload hx hb dX9_charge_79 (lv_at hl 1 rfl) ?_
    refine lv_aload_n hx hb dX9_charge_81 rfl (lv_at hl 3 rfl) ?_
    refine va_get (D := D) (ci := 9) (v := .ref (ad 3)) (C := RX9) (T := TX9) (N := 15) hx hb htg in_X9 hown hK hP 0 rfl rfl 3 (by decide) (htg _ tw_523) (fun _ h9 => h9) rfl dX9_charge_82 ?_
    refine lv_iload_n hx hb dX9_charge_85 rfl (lv_at hl 4 rfl) ?_
    refine va_iald hx hb hK hP 3 2 rfl rfl (ht) dX9_charge_86 ?_
    refine lv_bipush (v := 100) hx hb dX9_charge_87 (by decide) ?_
    refine lv_idiv hx hb dX9_charge_89 (by decide) ?_
    refine lv_iadd hx hb dX9_charge_90 ?_
    refine lv_goto (tgt := 135) hx hb dX9_charge_91 (by decide) ?_
    exact hs_iret hx hb hrt hlocks hK hP hD hS dX9_charge_135 (by first | rfl | (unfold chF; first | (rw [if_neg (fun q => (hdk.mp q) c60)]; rfl) | (rw [if_pos (hdk.mpr c60)]; rfl))) (by first | (simp only [bds, chN, List.foldl_cons, List.foldl_nil]; done) | rfl)

theorem c_X9_charge (l : Launch) (D : va_G) (o : Nat) (ad : Nat → Nat) (cd : Nat → ClassId) (tn td cs hd : Int32) (kd rt vl hr hw cu si : Nat → Int32) (acc : Nat → Int64) (st : TS) (t : Int32) (ht : vp_in t 24) (k : Nat) (hk : k < 7) (hkd : kd t.toNatClampNeg = nI k) (hok : okM 3 st) (d : Int32) (hdk : dOk d) : CM l D yX9_charge cX9_charge 6 (some .int) { frames := 1, cells := 0, slots := 0, locals := 22 } (tyM cd) [.ref o, .int t, .int d] (mW o ad cd tn td cs hd kd rt vl hr hw cu si acc st) (hs_QI D (tyM cd) (chF k (rt t.toNatClampNeg) (vl t.toNatClampNeg) d) (mW o ad cd tn td cs hd kd rt vl hr hw cu si acc (bds (chN k) st))) := by
  match k, hk, hkd with
  | 0, _, hkd => exact c_X9_charge_0 l D o ad cd tn td cs hd kd rt vl hr hw cu si acc st t ht hkd hok d hdk
  | 1, _, hkd => exact c_X9_charge_1 l D o ad cd tn td cs hd kd rt vl hr hw cu si acc st t ht hkd hok d hdk
  | 2, _, hkd => exact c_X9_charge_2 l D o ad cd tn td cs hd kd rt vl hr hw cu si acc st t ht hkd hok d hdk
  | 3, _, hkd => exact c_X9_charge_3 l D o ad cd tn td cs hd kd rt vl hr hw cu si acc st t ht hkd hok d hdk
  | 4, _, hkd => exact c_X9_charge_4 l D o ad cd tn td cs hd kd rt vl hr hw cu si acc st t ht hkd hok d hdk
  | 5, _, hkd => exact c_X9_charge_5 l D o ad cd tn td cs hd kd rt vl hr hw cu si acc st t ht hkd hok d hdk
  | 6, _, hkd => exact c_X9_charge_6 l D o ad cd tn td cs hd kd rt vl hr hw cu si acc st t ht hkd hok d hdk
  | k + 7, hk, _ => exact absurd hk (by omega)

theorem cal_X9_charge : hs_cV yX9_charge cX9_charge 6 (some .int) 2 := ⟨tw_597, tw_596, tw_8, tw_19, by decide +kernel⟩

set_option maxHeartbeats 400000 in
set_option maxRecDepth 100000 in
theorem c_X9_wear_0 (l : Launch) (D : va_G) (o : Nat) (ad : Nat → Nat) (cd : Nat → ClassId) (tn td cs hd : Int32) (kd rt vl hr hw cu si : Nat → Int32) (acc : Nat → Int64) (st : TS) (t : Int32) (ht : vp_in t 24) (hkd : kd t.toNatClampNeg = nI 0) (hok : okM 2 st) (x : Int32) (hhr : hr t.toNatClampNeg = x) (d : Int32) : CM l D yX9_wear cX9_wear 4 (some .int) { frames := 1, cells := 0, slots := 0, locals := 21 } (tyM cd) [.ref o, .int t, .int d] (mW o ad cd tn td cs hd kd rt vl hr hw cu si acc st) (hs_QI D (tyM cd) (weF 0 x d) (mW o ad cd tn td cs hd kd rt vl hr hw cu si acc (bds (weN 0) st))) := by
  refine CM.of (by decide) (Nat.le_of_ble_eq_true rfl) ?_
  intro p e s m below meth c A ls hx hb hrt hml htg hown hlocks hnm hA hK hP hD hS hl
  have hown : s.vm.findClass RX9 = some m.cls := hown
  have hl : lv_has ls 4 [(0, .ref o), (1, .int t), (2, .int d)] := hl
  have SF : CallFix p m c cX9_wear 4 s _ hs_gt RX9 := ⟨hx, hb, hml, hown, htg⟩
  have hkd : kd t.toNatClampNeg = 0 := hkd
  refine lv_aload_n hx hb dX9_wear_0 rfl (lv_at hl 0 rfl) ?_
  refine va_get (D := D) (ci := 9) (v := .ref (ad 1)) (C := RX9) (T := TX9) (N := 15) hx hb htg in_X9 hown hK hP 0 rfl rfl 1 (by decide) (htg _ tw_521) (fun _ h9 => h9) rfl dX9_wear_1 ?_
  refine lv_iload_n hx hb dX9_wear_4 rfl (lv_at hl 1 rfl) ?_
  refine va_iald hx hb hK hP 1 0 rfl rfl (ht) dX9_wear_5 ?_
  rw [hkd]
  refine lv_istore_n (lv' := [(3, .int 0), (0, .ref o), (1, .int t), (2, .int d)]) hx hb dX9_wear_6 rfl hl (by decide) rfl (fun ls hl => ?_)
  refine lv_iload_n hx hb dX9_wear_7 rfl (lv_at hl 0 rfl) ?_
  refine lv_iconst (v := 4) hx hb dX9_wear_8 (by decide) ?_
  refine lv_icmp_ne (tgt := 18) hx hb dX9_wear_9 (by decide) (fun c9 => ?_) (fun c9 => absurd c9 ((by decide)))
  refine lv_iload_n hx hb dX9_wear_18 rfl (lv_at hl 0 rfl) ?_
  refine lv_iconst (v := 5) hx hb dX9_wear_19 (by decide) ?_
  refine lv_icmp_lt (tgt := 29) hx hb dX9_wear_20 (by decide) (fun c20 => ?_) (fun c20 => absurd c20 ((by decide)))
  refine lv_aload_n hx hb dX9_wear_29 rfl (lv_at hl 1 rfl) ?_
  refine lv_bipush (v := 11) hx hb dX9_wear_30 (by decide) ?_
  refine hs_callv0 (w1 := (mW o ad cd tn td cs hd kd rt vl hr hw cu si acc (bdT 11 st))) (hs_runV (q0 := 0) SF cal_X9_body tw_598 (c_X9_body l D o ad cd tn td cs hd kd rt vl hr hw cu si acc st (okM_mono hok (by decide)) 11) hK hP hD rfl rfl ⟨Nat.le_of_ble_eq_true rfl, Nat.le_of_ble_eq_true rfl⟩ rfl hl.1 rfl (Nat.le_of_ble_eq_true rfl) dX9_wear_32 ⟨Nat.le_of_ble_eq_true rfl, Nat.le_of_ble_eq_true rfl⟩) hD hS hA (fun H locs hP hD hS => ?_)
  refine lv_iload_n hx hb dX9_wear_35 rfl (lv_at hl 0 rfl) ?_
  refine lv_iconst (v := 4) hx hb dX9_wear_36 (by decide) ?_
  refine lv_icmp_ne (tgt := 54) hx hb dX9_wear_37 (by decide) (fun c37 => ?_) (fun c37 => absurd c37 ((by decide)))
  refine lv_iload_n hx hb dX9_wear_54 rfl (lv_at hl 0 rfl) ?_
  refine lv_iconst (v := 5) hx hb dX9_wear_55 (by decide) ?_
  refine lv_icmp_lt (tgt := 65) hx hb dX9_wear_56 (by decide) (fun c56 => ?_) (fun c56 => absurd c56 ((by decide)))
  refine lv_iload_n hx hb dX9_wear_65 rfl (lv_at hl 3 rfl) ?_
  exact hs_iret hx hb hrt hlocks hK hP hD hS dX9_wear_66 (rfl) (by first | (simp only [bds, weN, List.foldl_cons, List.foldl_nil]; done) | rfl)

set_option maxHeartbeats 400000 in
set_option maxRecDepth 100000 in
theorem c_X9_wear_1 (l : Launch) (D : va_G) (o : Nat) (ad : Nat → Nat) (cd : Nat → ClassId) (tn td cs hd : Int32) (kd rt vl hr hw cu si : Nat → Int32) (acc : Nat → Int64) (st : TS) (t : Int32) (ht : vp_in t 24) (hkd : kd t.toNatClampNeg = nI 1) (hok : okM 2 st) (x : Int32) (hhr : hr t.toNatClampNeg = x) (d : Int32) : CM l D yX9_wear cX9_wear 4 (some .int) { frames := 1, cells := 0, slots := 0, locals := 21 } (tyM cd) [.ref o, .int t, .int d] (mW o ad cd tn td cs hd kd rt vl hr hw cu si acc st) (hs_QI D (tyM cd) (weF 1 x d) (mW o ad cd tn td cs hd kd rt vl hr hw cu si acc (bds (weN 1) st))) := by
  refine CM.of (by decide) (Nat.le_of_ble_eq_true rfl) ?_
  intro p e s m below meth c A ls hx hb hrt hml htg hown hlocks hnm hA hK hP hD hS hl
  have hown : s.vm.findClass RX9 = some m.cls := hown
  have hl : lv_has ls 4 [(0, .ref o), (1, .int t), (2, .int d)] := hl
  have SF : CallFix p m c cX9_wear 4 s _ hs_gt RX9 := ⟨hx, hb, hml, hown, htg⟩
  have hkd : kd t.toNatClampNeg = 1 := hkd
  refine lv_aload_n hx hb dX9_wear_0 rfl (lv_at hl 0 rfl) ?_
  refine va_get (D := D) (ci := 9) (v := .ref (ad 1)) (C := RX9) (T := TX9) (N := 15) hx hb htg in_X9 hown hK hP 0 rfl rfl 1 (by decide) (htg _ tw_521) (fun _ h9 => h9) rfl dX9_wear_1 ?_
  refine lv_iload_n hx hb dX9_wear_4 rfl (lv_at hl 1 rfl) ?_
  refine va_iald hx hb hK hP 1 0 rfl rfl (ht) dX9_wear_5 ?_
  rw [hkd]
  refine lv_istore_n (lv' := [(3, .int 1), (0, .ref o), (1, .int t), (2, .int d)]) hx hb dX9_wear_6 rfl hl (by decide) rfl (fun ls hl => ?_)
  refine lv_iload_n hx hb dX9_wear_7 rfl (lv_at hl 0 rfl) ?_
  refine lv_iconst (v := 4) hx hb dX9_wear_8 (by decide) ?_
  refine lv_icmp_ne (tgt := 18) hx hb dX9_wear_9 (by decide) (fun c9 => ?_) (fun c9 => absurd c9 ((by decide)))
  refine lv_iload_n hx hb dX9_wear_18 rfl (lv_at hl 0 rfl) ?_
  refine lv_iconst (v := 5) hx hb dX9_wear_19 (by decide) ?_
  refine lv_icmp_lt (tgt := 29) hx hb dX9_wear_20 (by decide) (fun c20 => ?_) (fun c20 => absurd c20 ((by decide)))
  refine lv_aload_n hx hb dX9_wear_29 rfl (lv_at hl 1 rfl) ?_
  refine lv_bipush (v := 11) hx hb dX9_wear_30 (by decide) ?_
  refine hs_callv0 (w1 := (mW o ad cd tn td cs hd kd rt vl hr hw cu si acc (bdT 11 st))) (hs_runV (q0 := 0) SF cal_X9_body tw_598 (c_X9_body l D o ad cd tn td cs hd kd rt vl hr hw cu si acc st (okM_mono hok (by decide)) 11) hK hP hD rfl rfl ⟨Nat.le_of_ble_eq_true rfl, Nat.le_of_ble_eq_true rfl⟩ rfl hl.1 rfl (Nat.le_of_ble_eq_true rfl) dX9_wear_32 ⟨Nat.le_of_ble_eq_true rfl, Nat.le_of_ble_eq_true rfl⟩) hD hS hA (fun H locs hP hD hS => ?_)
  refine lv_iload_n hx hb dX9_wear_35 rfl (lv_at hl 0 rfl) ?_
  refine lv_iconst (v := 4) hx hb dX9_wear_36 (by decide) ?_
  refine lv_icmp_ne (tgt := 54) hx hb dX9_wear_37 (by decide) (fun c37 => ?_) (fun c37 => absurd c37 ((by decide)))
  refine lv_iload_n hx hb dX9_wear_54 rfl (lv_at hl 0 rfl) ?_
  refine lv_iconst (v := 5) hx hb dX9_wear_55 (by decide) ?_
  refine lv_icmp_lt (tgt := 65) hx hb dX9_wear_56 (by decide) (fun c56 => ?_) (fun c56 => absurd c56 ((by decide)))
  refine lv_iload_n hx hb dX9_wear_65 rfl (lv_at hl 3 rfl) ?_
  exact hs_iret hx hb hrt hlocks hK hP hD hS dX9_wear_66 (rfl) (by first | (simp only [bds, weN, List.foldl_cons, List.foldl_nil]; done) | rfl)

set_option maxHeartbeats 400000 in
set_option maxRecDepth 100000 in
theorem c_X9_wear_2 (l : Launch) (D : va_G) (o : Nat) (ad : Nat → Nat) (cd : Nat → ClassId) (tn td cs hd : Int32) (kd rt vl hr hw cu si : Nat → Int32) (acc : Nat → Int64) (st : TS) (t : Int32) (ht : vp_in t 24) (hkd : kd t.toNatClampNeg = nI 2) (hok : okM 2 st) (x : Int32) (hhr : hr t.toNatClampNeg = x) (d : Int32) : CM l D yX9_wear cX9_wear 4 (some .int) { frames := 1, cells := 0, slots := 0, locals := 21 } (tyM cd) [.ref o, .int t, .int d] (mW o ad cd tn td cs hd kd rt vl hr hw cu si acc st) (hs_QI D (tyM cd) (weF 2 x d) (mW o ad cd tn td cs hd kd rt vl hr hw cu si acc (bds (weN 2) st))) := by
  refine CM.of (by decide) (Nat.le_of_ble_eq_true rfl) ?_
  intro p e s m below meth c A ls hx hb hrt hml htg hown hlocks hnm hA hK hP hD hS hl
  have hown : s.vm.findClass RX9 = some m.cls := hown
  have hl : lv_has ls 4 [(0, .ref o), (1, .int t), (2, .int d)] := hl
  have SF : CallFix p m c cX9_wear 4 s _ hs_gt RX9 := ⟨hx, hb, hml, hown, htg⟩
  have hkd : kd t.toNatClampNeg = 2 := hkd
  refine lv_aload_n hx hb dX9_wear_0 rfl (lv_at hl 0 rfl) ?_
  refine va_get (D := D) (ci := 9) (v := .ref (ad 1)) (C := RX9) (T := TX9) (N := 15) hx hb htg in_X9 hown hK hP 0 rfl rfl 1 (by decide) (htg _ tw_521) (fun _ h9 => h9) rfl dX9_wear_1 ?_
  refine lv_iload_n hx hb dX9_wear_4 rfl (lv_at hl 1 rfl) ?_
  refine va_iald hx hb hK hP 1 0 rfl rfl (ht) dX9_wear_5 ?_
  rw [hkd]
  refine lv_istore_n (lv' := [(3, .int 2), (0, .ref o), (1, .int t), (2, .int d)]) hx hb dX9_wear_6 rfl hl (by decide) rfl (fun ls hl => ?_)
  refine lv_iload_n hx hb dX9_wear_7 rfl (lv_at hl 0 rfl) ?_
  refine lv_iconst (v := 4) hx hb dX9_wear_8 (by decide) ?_
  refine lv_icmp_ne (tgt := 18) hx hb dX9_wear_9 (by decide) (fun c9 => ?_) (fun c9 => absurd c9 ((by decide)))
  refine lv_iload_n hx hb dX9_wear_18 rfl (lv_at hl 0 rfl) ?_
  refine lv_iconst (v := 5) hx hb dX9_wear_19 (by decide) ?_
  refine lv_icmp_lt (tgt := 29) hx hb dX9_wear_20 (by decide) (fun c20 => ?_) (fun c20 => absurd c20 ((by decide)))
  refine lv_aload_n hx hb dX9_wear_29 rfl (lv_at hl 1 rfl) ?_
  refine lv_bipush (v := 11) hx hb dX9_wear_30 (by decide) ?_
  refine hs_callv0 (w1 := (mW o ad cd tn td cs hd kd rt vl hr hw cu si acc (bdT 11 st))) (hs_runV (q0 := 0) SF cal_X9_body tw_598 (c_X9_body l D o ad cd tn td cs hd kd rt vl hr hw cu si acc st (okM_mono hok (by decide)) 11) hK hP hD rfl rfl ⟨Nat.le_of_ble_eq_true rfl, Nat.le_of_ble_eq_true rfl⟩ rfl hl.1 rfl (Nat.le_of_ble_eq_true rfl) dX9_wear_32 ⟨Nat.le_of_ble_eq_true rfl, Nat.le_of_ble_eq_true rfl⟩) hD hS hA (fun H locs hP hD hS => ?_)
  refine lv_iload_n hx hb dX9_wear_35 rfl (lv_at hl 0 rfl) ?_
  refine lv_iconst (v := 4) hx hb dX9_wear_36 (by decide) ?_
  refine lv_icmp_ne (tgt := 54) hx hb dX9_wear_37 (by decide) (fun c37 => ?_) (fun c37 => absurd c37 ((by decide)))
  refine lv_iload_n hx hb dX9_wear_54 rfl (lv_at hl 0 rfl) ?_
  refine lv_iconst (v := 5) hx hb dX9_wear_55 (by decide) ?_
  refine lv_icmp_lt (tgt := 65) hx hb dX9_wear_56 (by decide) (fun c56 => ?_) (fun c56 => absurd c56 ((by decide)))
  refine lv_iload_n hx hb dX9_wear_65 rfl (lv_at hl 3 rfl) ?_
  exact hs_iret hx hb hrt hlocks hK hP hD hS dX9_wear_66 (rfl) (by first | (simp only [bds, weN, List.foldl_cons, List.foldl_nil]; done) | rfl)

set_option maxHeartbeats 400000 in
set_option maxRecDepth 100000 in
theorem c_X9_wear_3 (l : Launch) (D : va_G) (o : Nat) (ad : Nat → Nat) (cd : Nat → ClassId) (tn td cs hd : Int32) (kd rt vl hr hw cu si : Nat → Int32) (acc : Nat → Int64) (st : TS) (t : Int32) (ht : vp_in t 24) (hkd : kd t.toNatClampNeg = nI 3) (hok : okM 2 st) (x : Int32) (hhr : hr t.toNatClampNeg = x) (d : Int32) : CM l D yX9_wear cX9_wear 4 (some .int) { frames := 1, cells := 0, slots := 0, locals := 21 } (tyM cd) [.ref o, .int t, .int d] (mW o ad cd tn td cs hd kd rt vl hr hw cu si acc st) (hs_QI D (tyM cd) (weF 3 x d) (mW o ad cd tn td cs hd kd rt vl hr hw cu si acc (bds (weN 3) st))) := by
  refine CM.of (by decide) (Nat.le_of_ble_eq_true rfl) ?_
  intro p e s m below meth c A ls hx hb hrt hml htg hown hlocks hnm hA hK hP hD hS hl
  have hown : s.vm.findClass RX9 = some m.cls := hown
  have hl : lv_has ls 4 [(0, .ref o), (1, .int t), (2, .int d)] := hl
  have SF : CallFix p m c cX9_wear 4 s _ hs_gt RX9 := ⟨hx, hb, hml, hown, htg⟩
  have hkd : kd t.toNatClampNeg = 3 := hkd
  refine lv_aload_n hx hb dX9_wear_0 rfl (lv_at hl 0 rfl) ?_
  refine va_get (D := D) (ci := 9) (v := .ref (ad 1)) (C := RX9) (T := TX9) (N := 15) hx hb htg in_X9 hown hK hP 0 rfl rfl 1 (by decide) (htg _ tw_521) (fun _ h9 => h9) rfl dX9_wear_1 ?_
  refine lv_iload_n hx hb dX9_wear_4 rfl (lv_at hl 1 rfl) ?_
  refine va_iald hx hb hK hP 1 0 rfl rfl (ht) dX9_wear_5 ?_
  rw [hkd]
  refine lv_istore_n (lv' := [(3, .int 3), (0, .ref o), (1, .int t), (2, .int d)]) hx hb dX9_wear_6 rfl hl (by decide) rfl (fun ls hl => ?_)
  refine lv_iload_n hx hb dX9_wear_7 rfl (lv_at hl 0 rfl) ?_
  refine lv_iconst (v := 4) hx hb dX9_wear_8 (by decide) ?_
  refine lv_icmp_ne (tgt := 18) hx hb dX9_wear_9 (by decide) (fun c9 => ?_) (fun c9 => absurd c9 ((by decide)))
  refine lv_iload_n hx hb dX9_wear_18 rfl (lv_at hl 0 rfl) ?_
  refine lv_iconst (v := 5) hx hb dX9_wear_19 (by decide) ?_
  refine lv_icmp_lt (tgt := 29) hx hb dX9_wear_20 (by decide) (fun c20 => ?_) (fun c20 => absurd c20 ((by decide)))
  refine lv_aload_n hx hb dX9_wear_29 rfl (lv_at hl 1 rfl) ?_
  refine lv_bipush (v := 11) hx hb dX9_wear_30 (by decide) ?_
  refine hs_callv0 (w1 := (mW o ad cd tn td cs hd kd rt vl hr hw cu si acc (bdT 11 st))) (hs_runV (q0 := 0) SF cal_X9_body tw_598 (c_X9_body l D o ad cd tn td cs hd kd rt vl hr hw cu si acc st (okM_mono hok (by decide)) 11) hK hP hD rfl rfl ⟨Nat.le_of_ble_eq_true rfl, Nat.le_of_ble_eq_true rfl⟩ rfl hl.1 rfl (Nat.le_of_ble_eq_true rfl) dX9_wear_32 ⟨Nat.le_of_ble_eq_true rfl, Nat.le_of_ble_eq_true rfl⟩) hD hS hA (fun H locs hP hD hS => ?_)
  refine lv_iload_n hx hb dX9_wear_35 rfl (lv_at hl 0 rfl) ?_
  refine lv_iconst (v := 4) hx hb dX9_wear_36 (by decide) ?_
  refine lv_icmp_ne (tgt := 54) hx hb dX9_wear_37 (by decide) (fun c37 => ?_) (fun c37 => absurd c37 ((by decide)))
  refine lv_iload_n hx hb dX9_wear_54 rfl (lv_at hl 0 rfl) ?_
  refine lv_iconst (v := 5) hx hb dX9_wear_55 (by decide) ?_
  refine lv_icmp_lt (tgt := 65) hx hb dX9_wear_56 (by decide) (fun c56 => ?_) (fun c56 => absurd c56 ((by decide)))
  refine lv_iload_n hx hb dX9_wear_65 rfl (lv_at hl 3 rfl) ?_
  exact hs_iret hx hb hrt hlocks hK hP hD hS dX9_wear_66 (rfl) (by first | (simp only [bds, weN, List.foldl_cons, List.foldl_nil]; done) | rfl)

set_option maxHeartbeats 400000 in
set_option maxRecDepth 100000 in
theorem c_X9_wear_4 (l : Launch) (D : va_G) (o : Nat) (ad : Nat → Nat) (cd : Nat → ClassId) (tn td cs hd : Int32) (kd rt vl hr hw cu si : Nat → Int32) (acc : Nat → Int64) (st : TS) (t : Int32) (ht : vp_in t 24) (hkd : kd t.toNatClampNeg = nI 4) (hok : okM 2 st) (x : Int32) (hhr : hr t.toNatClampNeg = x) (d : Int32) : CM l D yX9_wear cX9_wear 4 (some .int) { frames := 1, cells := 0, slots := 0, locals := 21 } (tyM cd) [.ref o, .int t, .int d] (mW o ad cd tn td cs hd kd rt vl hr hw cu si acc st) (hs_QI D (tyM cd) (weF 4 x d) (mW o ad cd tn td cs hd kd rt vl hr hw cu si acc (bds (weN 4) st))) := by
  refine CM.of (by decide) (Nat.le_of_ble_eq_true rfl) ?_
  intro p e s m below meth c A ls hx hb hrt hml htg hown hlocks hnm hA hK hP hD hS hl
  have hown : s.vm.findClass RX9 = some m.cls := hown
  have hl : lv_has ls 4 [(0, .ref o), (1, .int t), (2, .int d)] := hl
  have SF : CallFix p m c cX9_wear 4 s _ hs_gt RX9 := ⟨hx, hb, hml, hown, htg⟩
  have hkd : kd t.toNatClampNeg = 4 := hkd
  refine lv_aload_n hx hb dX9_wear_0 rfl (lv_at hl 0 rfl) ?_
  refine va_get (D := D) (ci := 9) (v := .ref (ad 1)) (C := RX9) (T := TX9) (N := 15) hx hb htg in_X9 hown hK hP 0 rfl rfl 1 (by decide) (htg _ tw_521) (fun _ h9 => h9) rfl dX9_wear_1 ?_
  refine lv_iload_n hx hb dX9_wear_4 rfl (lv_at hl 1 rfl) ?_
  refine va_iald hx hb hK hP 1 0 rfl rfl (ht) dX9_wear_5 ?_
  rw [hkd]
  refine lv_istore_n (lv' := [(3, .int 4), (0, .ref o), (1, .int t), (2, .int d)]) hx hb dX9_wear_6 rfl hl (by decide) rfl (fun ls hl => ?_)
  refine lv_iload_n hx hb dX9_wear_7 rfl (lv_at hl 0 rfl) ?_
  refine lv_iconst (v := 4) hx hb dX9_wear_8 (by decide) ?_
  refine lv_icmp_ne (tgt := 18) hx hb dX9_wear_9 (by decide) (fun c9 => absurd c9 ((by decide))) (fun c9 => ?_)
  refine lv_aload_n hx hb dX9_wear_12 rfl (lv_at hl 1 rfl) ?_
  refine lv_bipush (v := 12) hx hb dX9_wear_13 (by decide) ?_
  refine hs_callv0 (w1 := (mW o ad cd tn td cs hd kd rt vl hr hw cu si acc (bdT 12 st))) (hs_runV (q0 := 0) SF cal_X9_body tw_598 (c_X9_body l D o ad cd tn td cs hd kd rt vl hr hw cu si acc st (okM_mono hok (by decide)) 12) hK hP hD rfl rfl ⟨Nat.le_of_ble_eq_true rfl, Nat.le_of_ble_eq_true rfl⟩ rfl hl.1 rfl (Nat.le_of_ble_eq_true rfl) dX9_wear_15 ⟨Nat.le_of_ble_eq_true rfl, Nat.le_of_ble_eq_true rfl⟩) hD hS hA (fun H locs hP hD hS => ?_)
  refine lv_iload_n hx hb dX9_wear_18 rfl (lv_at hl 0 rfl) ?_
  refine lv_iconst (v := 5) hx hb dX9_wear_19 (by decide) ?_
  refine lv_icmp_lt (tgt := 29) hx hb dX9_wear_20 (by decide) (fun c20 => ?_) (fun c20 => absurd c20 ((by decide)))
  refine lv_aload_n hx hb dX9_wear_29 rfl (lv_at hl 1 rfl) ?_
  refine lv_bipush (v := 11) hx hb dX9_wear_30 (by decide) ?_
  refine hs_callv0 (w1 := (mW o ad cd tn td cs hd kd rt vl hr hw cu si acc (bdT 11 (bdT 12 st)))) (hs_runV (q0 := 0) SF cal_X9_body tw_598 (c_X9_body l D o ad cd tn td cs hd kd rt vl hr hw cu si acc (bdT 12 st) (okM_bd 12 hok) 11) hK hP hD rfl rfl ⟨Nat.le_of_ble_eq_true rfl, Nat.le_of_ble_eq_true rfl⟩ rfl hl.1 rfl (Nat.le_of_ble_eq_true rfl) dX9_wear_32 ⟨Nat.le_of_ble_eq_true rfl, Nat.le_of_ble_eq_true rfl⟩) hD hS hA (fun H locs hP hD hS => ?_)
  refine lv_iload_n hx hb dX9_wear_35 rfl (lv_at hl 0 rfl) ?_
  refine lv_iconst (v := 4) hx hb dX9_wear_36 (by decide) ?_
  refine lv_icmp_ne (tgt := 54) hx hb dX9_wear_37 (by decide) (fun c37 => absurd c37 ((by decide))) (fun c37 => ?_)
  refine lv_iload_n hx hb dX9_wear_40 rfl (lv_at hl 3 rfl) ?_
  refine lv_aload_n hx hb dX9_wear_41 rfl (lv_at hl 1 rfl) ?_
  refine va_get (D := D) (ci := 9) (v := .ref (ad 4)) (C := RX9) (T := TX9) (N := 15) hx hb htg in_X9 hown hK hP 0 rfl rfl 4 (by decide) (htg _ tw_524) (fun _ h9 => h9) rfl dX9_wear_42 ?_
  refine lv_iload_n hx hb dX9_wear_45 rfl (lv_at hl 2 rfl) ?_
  refine va_iald hx hb hK hP 4 3 rfl rfl (ht) dX9_wear_46 ?_
  rw [hhr]
  refine lv_bipush (v := 10) hx hb dX9_wear_47 (by decide) ?_
  refine lv_idiv hx hb dX9_wear_49 (by decide) ?_
  refine lv_iadd hx hb dX9_wear_50 ?_
  refine lv_goto (tgt := 66) hx hb dX9_wear_51 (by decide) ?_
  exact hs_iret hx hb hrt hlocks hK hP hD hS dX9_wear_66 (rfl) (by first | (simp only [bds, weN, List.foldl_cons, List.foldl_nil]; done) | rfl)

set_option maxHeartbeats 400000 in
set_option maxRecDepth 100000 in
theorem c_X9_wear_5 (l : Launch) (D : va_G) (o : Nat) (ad : Nat → Nat) (cd : Nat → ClassId) (tn td cs hd : Int32) (kd rt vl hr hw cu si : Nat → Int32) (acc : Nat → Int64) (st : TS) (t : Int32) (ht : vp_in t 24) (hkd : kd t.toNatClampNeg = nI 5) (hok : okM 2 st) (x : Int32) (hhr : hr t.toNatClampNeg = x) (d : Int32) : CM l D yX9_wear cX9_wear 4 (some .int) { frames := 1, cells := 0, slots := 0, locals := 21 } (tyM cd) [.ref o, .int t, .int d] (mW o ad cd tn td cs hd kd rt vl hr hw cu si acc st) (hs_QI D (tyM cd) (weF 5 x d) (mW o ad cd tn td cs hd kd rt vl hr hw cu si acc (bds (weN 5) st))) := by
  refine CM.of (by decide) (Nat.le_of_ble_eq_true rfl) ?_
  intro p e s m below meth c A ls hx hb hrt hml htg hown hlocks hnm hA hK hP hD hS hl
  have hown : s.vm.findClass RX9 = some m.cls := hown
  have hl : lv_has ls 4 [(0, .ref o), (1, .int t), (2, .int d)] := hl
  have SF : CallFix p m c cX9_wear 4 s _ hs_gt RX9 := ⟨hx, hb, hml, hown, htg⟩
  have hkd : kd t.toNatClampNeg = 5 := hkd
  refine lv_aload_n hx hb dX9_wear_0 rfl (lv_at hl 0 rfl) ?_
  refine va_get (D := D) (ci := 9) (v := .ref (ad 1)) (C := RX9) (T := TX9) (N := 15) hx hb htg in_X9 hown hK hP 0 rfl rfl 1 (by decide) (htg _ tw_521) (fun _ h9 => h9) rfl dX9_wear_1 ?_
  refine lv_iload_n hx hb dX9_wear_4 rfl (lv_at hl 1 rfl) ?_
  refine va_iald hx hb hK hP 1 0 rfl rfl (ht) dX9_wear_5 ?_
  rw [hkd]
  refine lv_istore_n (lv' := [(3, .int 5), (0, .ref o), (1, .int t), (2, .int d)]) hx hb dX9_wear_6 rfl hl (by decide) rfl (fun ls hl => ?_)
  refine lv_iload_n hx hb dX9_wear_7 rfl (lv_at hl 0 rfl) ?_
  refine lv_iconst (v := 4) hx hb dX9_wear_8 (by decide) ?_
  refine lv_icmp_ne (tgt := 18) hx hb dX9_wear_9 (by decide) (fun c9 => ?_) (fun c9 => absurd c9 ((by decide)))
  refine lv_iload_n hx hb dX9_wear_18 rfl (lv_at hl 0 rfl) ?_
  refine lv_iconst (v := 5) hx hb dX9_wear_19 (by decide) ?_
  refine lv_icmp_lt (tgt := 29) hx hb dX9_wear_20 (by decide) (fun c20 => absurd c20 ((by decide))) (fun c20 => ?_)
  refine lv_aload_n hx hb dX9_wear_23 rfl (lv_at hl 1 rfl) ?_
  refine lv_bipush (v := 13) hx hb dX9_wear_24 (by decide) ?_
  refine hs_callv0 (w1 := (mW o ad cd tn td cs hd kd rt vl hr hw cu si acc (bdT 13 st))) (hs_runV (q0 := 0) SF cal_X9_body tw_598 (c_X9_body l D o ad cd tn td cs hd kd rt vl hr hw cu si acc st (okM_mono hok (by decide)) 13) hK hP hD rfl rfl ⟨Nat.le_of_ble_eq_true rfl, Nat.le_of_ble_eq_true rfl⟩ rfl hl.1 rfl (Nat.le_of_ble_eq_true rfl) dX9_wear_26 ⟨Nat.le_of_ble_eq_true rfl, Nat.le_of_ble_eq_true rfl⟩) hD hS hA (fun H locs hP hD hS => ?_)
  refine lv_aload_n hx hb dX9_wear_29 rfl (lv_at hl 1 rfl) ?_
  refine lv_bipush (v := 11) hx hb dX9_wear_30 (by decide) ?_
  refine hs_callv0 (w1 := (mW o ad cd tn td cs hd kd rt vl hr hw cu si acc (bdT 11 (bdT 13 st)))) (hs_runV (q0 := 0) SF cal_X9_body tw_598 (c_X9_body l D o ad cd tn td cs hd kd rt vl hr hw cu si acc (bdT 13 st) (okM_bd 13 hok) 11) hK hP hD rfl rfl ⟨Nat.le_of_ble_eq_true rfl, Nat.le_of_ble_eq_true rfl⟩ rfl hl.1 rfl (Nat.le_of_ble_eq_true rfl) dX9_wear_32 ⟨Nat.le_of_ble_eq_true rfl, Nat.le_of_ble_eq_true rfl⟩) hD hS hA (fun H locs hP hD hS => ?_)
  refine lv_iload_n hx hb dX9_wear_35 rfl (lv_at hl 0 rfl) ?_
  refine lv_iconst (v := 4) hx hb dX9_wear_36 (by decide) ?_
  refine lv_icmp_ne (tgt := 54) hx hb dX9_wear_37 (by decide) (fun c37 => ?_) (fun c37 => absurd c37 ((by decide)))
  refine lv_iload_n hx hb dX9_wear_54 rfl (lv_at hl 0 rfl) ?_
  refine lv_iconst (v := 5) hx hb dX9_wear_55 (by decide) ?_
  refine lv_icmp_lt (tgt := 65) hx hb dX9_wear_56 (by decide) (fun c56 => absurd c56 ((by decide))) (fun c56 => ?_)
  refine lv_iconst (v := 3) hx hb dX9_wear_59 (by decide) ?_
  refine lv_iload_n hx hb dX9_wear_60 rfl (lv_at hl 3 rfl) ?_
  refine lv_imul hx hb dX9_wear_61 ?_
  refine lv_goto (tgt := 66) hx hb dX9_wear_62 (by decide) ?_
  exact hs_iret hx hb hrt hlocks hK hP hD hS dX9_wear_66 (rfl) (by first | (simp only [bds, weN, List.foldl_cons, List.foldl_nil]; done) | rfl)

set_option maxHeartbeats 400000 in
set_option maxRecDepth 100000 in
theorem c_X9_wear_6 (l : Launch) (D : va_G) (o : Nat) (ad : Nat → Nat) (cd : Nat → ClassId) (tn td cs hd : Int32) (kd rt vl hr hw cu si : Nat → Int32) (acc : Nat → Int64) (st : TS) (t : Int32) (ht : vp_in t 24) (hkd : kd t.toNatClampNeg = nI 6) (hok : okM 2 st) (x : Int32) (hhr : hr t.toNatClampNeg = x) (d : Int32) : CM l D yX9_wear cX9_wear 4 (some .int) { frames := 1, cells := 0, slots := 0, locals := 21 } (tyM cd) [.ref o, .int t, .int d] (mW o ad cd tn td cs hd kd rt vl hr hw cu si acc st) (hs_QI D (tyM cd) (weF 6 x d) (mW o ad cd tn td cs hd kd rt vl hr hw cu si acc (bds (weN 6) st))) := by
  refine CM.of (by decide) (Nat.le_of_ble_eq_true rfl) ?_
  intro p e s m below meth c A ls hx hb hrt hml htg hown hlocks hnm hA hK hP hD hS hl
  have hown : s.vm.findClass RX9 = some m.cls := hown
  have hl : lv_has ls 4 [(0, .ref o), (1, .int t), (2, .int d)] := hl
  have SF : CallFix p m c cX9_wear 4 s _ hs_gt RX9 := ⟨hx, hb, hml, hown, htg⟩
  have hkd : kd t.toNatClampNeg = 6 := hkd
  refine lv_aload_n hx hb dX9_wear_0 rfl (lv_at hl 0 rfl) ?_
  refine va_get (D := D) (ci := 9) (v := .ref (ad 1)) (C := RX9) (T := TX9) (N := 15) hx hb htg in_X9 hown hK hP 0 rfl rfl 1 (by decide) (htg _ tw_521) (fun _ h9 => h9) rfl dX9_wear_1 ?_
  refine lv_iload_n hx hb dX9_wear_4 rfl (lv_at hl 1 rfl) ?_
  refine va_iald hx hb hK hP 1 0 rfl rfl (ht) dX9_wear_5 ?_
  rw [hkd]
  refine lv_istore_n (lv' := [(3, .int 6), (0, .ref o), (1, .int t), (2, .int d)]) hx hb dX9_wear_6 rfl hl (by decide) rfl (fun ls hl => ?_)
  refine lv_iload_n hx hb dX9_wear_7 rfl (lv_at hl 0 rfl) ?_
  refine lv_iconst (v := 4) hx hb dX9_wear_8 (by decide) ?_
  refine lv_icmp_ne (tgt := 18) hx hb dX9_wear_9 (by decide) (fun c9 => ?_) (fun c9 => absurd c9 ((by decide)))
  refine lv_iload_n hx hb dX9_wear_18 rfl (lv_at hl 0 rfl) ?_
  refine lv_iconst (v := 5) hx hb dX9_wear_19 (by decide) ?_
  refine lv_icmp_lt (tgt := 29) hx hb dX9_wear_20 (by decide) (fun c20 => absurd c20 ((by decide))) (fun c20 => ?_)
  refine lv_aload_n hx hb dX9_wear_23 rfl (lv_at hl 1 rfl) ?_
  refine lv_bipush (v := 13) hx hb dX9_wear_24 (by decide) ?_
  refine hs_callv0 (w1 := (mW o ad cd tn td cs hd kd rt vl hr hw cu si acc (bdT 13 st))) (hs_runV (q0 := 0) SF cal_X9_body tw_598 (c_X9_body l D o ad cd tn td cs hd kd rt vl hr hw cu si acc st (okM_mono hok (by decide)) 13) hK hP hD rfl rfl ⟨Nat.le_of_ble_eq_true rfl, Nat.le_of_ble_eq_true rfl⟩ rfl hl.1 rfl (Nat.le_of_ble_eq_true rfl) dX9_wear_26 ⟨Nat.le_of_ble_eq_true rfl, Nat.le_of_ble_eq_true rfl⟩) hD hS hA (fun H locs hP hD hS => ?_)
  refine lv_aload_n hx hb dX9_wear_29 rfl (lv_at hl 1 rfl) ?_
  refine lv_bipush (v := 11) hx hb dX9_wear_30 (by decide) ?_
  refine hs_callv0 (w1 := (mW o ad cd tn td cs hd kd rt vl hr hw cu si acc (bdT 11 (bdT 13 st)))) (hs_runV (q0 := 0) SF cal_X9_body tw_598 (c_X9_body l D o ad cd tn td cs hd kd rt vl hr hw cu si acc (bdT 13 st) (okM_bd 13 hok) 11) hK hP hD rfl rfl ⟨Nat.le_of_ble_eq_true rfl, Nat.le_of_ble_eq_true rfl⟩ rfl hl.1 rfl (Nat.le_of_ble_eq_true rfl) dX9_wear_32 ⟨Nat.le_of_ble_eq_true rfl, Nat.le_of_ble_eq_true rfl⟩) hD hS hA (fun H locs hP hD hS => ?_)
  refine lv_iload_n hx hb dX9_wear_35 rfl (lv_at hl 0 rfl) ?_
  refine lv_iconst (v := 4) hx hb dX9_wear_36 (by decide) ?_
  refine lv_icmp_ne (tgt := 54) hx hb dX9_wear_37 (by decide) (fun c37 => ?_) (fun c37 => absurd c37 ((by decide)))
  refine lv_iload_n hx hb dX9_wear_54 rfl (lv_at hl 0 rfl) ?_
  refine lv_iconst (v := 5) hx hb dX9_wear_55 (by decide) ?_
  refine lv_icmp_lt (tgt := 65) hx hb dX9_wear_56 (by decide) (fun c56 => absurd c56 ((by decide))) (fun c56 => ?_)
  refine lv_iconst (v := 3) hx hb dX9_wear_59 (by decide) ?_
  refine lv_iload_n hx hb dX9_wear_60 rfl (lv_at hl 3 rfl) ?_
  refine lv_imul hx hb dX9_wear_61 ?_
  refine lv_goto (tgt := 66) hx hb dX9_wear_62 (by decide) ?_
  exact hs_iret hx hb hrt hlocks hK hP hD hS dX9_wear_66 (rfl) (by first | (simp only [bds, weN, List.foldl_cons, List.foldl_nil]; done) | rfl)

theorem c_X9_wear (l : Launch) (D : va_G) (o : Nat) (ad : Nat → Nat) (cd : Nat → ClassId) (tn td cs hd : Int32) (kd rt vl hr hw cu si : Nat → Int32) (acc : Nat → Int64) (st : TS) (t : Int32) (ht : vp_in t 24) (k : Nat) (hk : k < 7) (hkd : kd t.toNatClampNeg = nI k) (hok : okM 2 st) (x : Int32) (hhr : hr t.toNatClampNeg = x) (d : Int32) : CM l D yX9_wear cX9_wear 4 (some .int) { frames := 1, cells := 0, slots := 0, locals := 21 } (tyM cd) [.ref o, .int t, .int d] (mW o ad cd tn td cs hd kd rt vl hr hw cu si acc st) (hs_QI D (tyM cd) (weF k x d) (mW o ad cd tn td cs hd kd rt vl hr hw cu si acc (bds (weN k) st))) := by
  match k, hk, hkd with
  | 0, _, hkd => exact c_X9_wear_0 l D o ad cd tn td cs hd kd rt vl hr hw cu si acc st t ht hkd hok x hhr d
  | 1, _, hkd => exact c_X9_wear_1 l D o ad cd tn td cs hd kd rt vl hr hw cu si acc st t ht hkd hok x hhr d
  | 2, _, hkd => exact c_X9_wear_2 l D o ad cd tn td cs hd kd rt vl hr hw cu si acc st t ht hkd hok x hhr d
  | 3, _, hkd => exact c_X9_wear_3 l D o ad cd tn td cs hd kd rt vl hr hw cu si acc st t ht hkd hok x hhr d
  | 4, _, hkd => exact c_X9_wear_4 l D o ad cd tn td cs hd kd rt vl hr hw cu si acc st t ht hkd hok x hhr d
  | 5, _, hkd => exact c_X9_wear_5 l D o ad cd tn td cs hd kd rt vl hr hw cu si acc st t ht hkd hok x hhr d
  | 6, _, hkd => exact c_X9_wear_6 l D o ad cd tn td cs hd kd rt vl hr hw cu si acc st t ht hkd hok x hhr d
  | k + 7, hk, _ => exact absurd hk (by omega)

theorem cal_X9_wear : hs_cV yX9_wear cX9_wear 4 (some .int) 2 := ⟨tw_605, tw_604, tw_10, tw_19, by decide +kernel⟩

set_option maxHeartbeats 400000 in
set_option maxRecDepth 100000 in
theorem c_X9_check_0 (l : Launch) (D : va_G) (o : Nat) (ad : Nat → Nat) (cd : Nat → ClassId) (tn td cs hd : Int32) (kd rt vl hr hw cu si : Nat → Int32) (acc : Nat → Int64) (st : TS) (t : Int32) (ht : vp_in t 24) (hkd : kd t.toNatClampNeg = nI 0) (hok : okM 3 st) (x : Int32) (hhr : hr t.toNatClampNeg = x) : CM l D yX9_check cX9_check 4 (some .int) { frames := 1, cells := 0, slots := 0, locals := 21 } (tyM cd) [.ref o, .int t] (mW o ad cd tn td cs hd kd rt vl hr hw cu si acc st) (hs_QI D (tyM cd) (ckF 0 x) (mW o ad cd tn td cs hd kd rt vl hr hw cu si acc (bds (ckN 0) st))) := by
  refine CM.of (by decide) (Nat.le_of_ble_eq_true rfl) ?_
  intro p e s m below meth c A ls hx hb hrt hml htg hown hlocks hnm hA hK hP hD hS hl
  have hown : s.vm.findClass RX9 = some m.cls := hown
  have hl : lv_has ls 4 [(0, .ref o), (1, .int t)] := hl
  have SF : CallFix p m c cX9_check 4 s _ hs_gt RX9 := ⟨hx, hb, hml, hown, htg⟩
  have hkd : kd t.toNatClampNeg = 0 := hkd
  refine lv_aload_n hx hb dX9_check_0 rfl (lv_at hl 0 rfl) ?_
  refine va_get (D := D) (ci := 9) (v := .ref (ad 1)) (C := RX9) (T := TX9) (N := 15) hx hb htg in_X9 hown hK hP 0 rfl rfl 1 (by decide) (htg _ tw_521) (fun _ h9 => h9) rfl dX9_check_1 ?_
  refine lv_iload_n hx hb dX9_check_4 rfl (lv_at hl 1 rfl) ?_
  refine va_iald hx hb hK hP 1 0 rfl rfl (ht) dX9_check_5 ?_
  rw [hkd]
  refine lv_istore_n (lv' := [(2, .int 0), (0, .ref o), (1, .int t)]) hx hb dX9_check_6 rfl hl (by decide) rfl (fun ls hl => ?_)
  refine lv_iconst (v := 0) hx hb dX9_check_7 (by decide) ?_
  refine lv_istore_n (lv' := [(3, .int 0), (2, .int 0), (0, .ref o), (1, .int t)]) hx hb dX9_check_8 rfl hl (by decide) rfl (fun ls hl => ?_)
  refine lv_iload_n hx hb dX9_check_9 rfl (lv_at hl 1 rfl) ?_
  refine lv_iconst (v := 3) hx hb dX9_check_10 (by decide) ?_
  refine lv_icmp_eq (tgt := 19) hx hb dX9_check_11 (by decide) (fun c11 => absurd c11 ((by decide))) (fun c11 => ?_)
  refine lv_iload_n hx hb dX9_check_14 rfl (lv_at hl 1 rfl) ?_
  refine lv_iconst (v := 4) hx hb dX9_check_15 (by decide) ?_
  refine lv_icmp_ne (tgt := 27) hx hb dX9_check_16 (by decide) (fun c16 => ?_) (fun c16 => absurd c16 ((by decide)))
  refine lv_iload_n hx hb dX9_check_27 rfl (lv_at hl 1 rfl) ?_
  refine lv_bipush (v := 6) hx hb dX9_check_28 (by decide) ?_
  refine lv_icmp_ne (tgt := 41) hx hb dX9_check_30 (by decide) (fun c30 => ?_) (fun c30 => absurd c30 ((by decide)))
  refine lv_iload_n hx hb dX9_check_41 rfl (lv_at hl 1 rfl) ?_
  refine lv_if_le (tgt := 54) hx hb dX9_check_42 (by decide) (fun c42 => ?_) (fun c42 => absurd c42 ((by decide)))
  refine lv_aload_n hx hb dX9_check_54 rfl (lv_at hl 2 rfl) ?_
  refine lv_bipush (v := 20) hx hb dX9_check_55 (by decide) ?_
  refine hs_callv0 (w1 := (mW o ad cd tn td cs hd kd rt vl hr hw cu si acc (bdT 20 st))) (hs_runV (q0 := 0) SF cal_X9_body tw_598 (c_X9_body l D o ad cd tn td cs hd kd rt vl hr hw cu si acc st (okM_mono hok (by decide)) 20) hK hP hD rfl rfl ⟨Nat.le_of_ble_eq_true rfl, Nat.le_of_ble_eq_true rfl⟩ rfl hl.1 rfl (Nat.le_of_ble_eq_true rfl) dX9_check_57 ⟨Nat.le_of_ble_eq_true rfl, Nat.le_of_ble_eq_true rfl⟩) hD hS hA (fun H locs hP hD hS => ?_)
  refine lv_aload_n hx hb dX9_check_60 rfl (lv_at hl 2 rfl) ?_
  refine va_get (D := D) (ci := 9) (v := .ref (ad 4)) (C := RX9) (T := TX9) (N := 15) hx hb htg in_X9 hown hK hP 0 rfl rfl 4 (by decide) (htg _ tw_524) (fun _ h9 => h9) rfl dX9_check_61 ?_
  refine lv_iload_n hx hb dX9_check_64 rfl (lv_at hl 3 rfl) ?_
  refine va_iald hx hb hK hP 4 3 rfl rfl (ht) dX9_check_65 ?_
  rw [hhr]
  refine lv_bipush (v := 10) hx hb dX9_check_66 (by decide) ?_
  refine lv_idiv hx hb dX9_check_68 (by decide) ?_
  refine lv_iload_n hx hb dX9_check_69 rfl (lv_at hl 0 rfl) ?_
  refine lv_iadd hx hb dX9_check_70 ?_
  exact hs_iret hx hb hrt hlocks hK hP hD hS dX9_check_71 (by first | rfl | (show _ = x / 10 + 1 + 2; rw [Int32.add_assoc]; rfl) | (unfold ckF; simp; done)) (by first | (simp only [bds, ckN, List.foldl_cons, List.foldl_nil]; done) | rfl)

set_option maxHeartbeats 400000 in
set_option maxRecDepth 100000 in
theorem c_X9_check_1 (l : Launch) (D : va_G) (o : Nat) (ad : Nat → Nat) (cd : Nat → ClassId) (tn td cs hd : Int32) (kd rt vl hr hw cu si : Nat → Int32) (acc : Nat → Int64) (st : TS) (t : Int32) (ht : vp_in t 24) (hkd : kd t.toNatClampNeg = nI 1) (hok : okM 3 st) (x : Int32) (hhr : hr t.toNatClampNeg = x) : CM l D yX9_check cX9_check 4 (some .int) { frames := 1, cells := 0, slots := 0, locals := 21 } (tyM cd) [.ref o, .int t] (mW o ad cd tn td cs hd kd rt vl hr hw cu si acc st) (hs_QI D (tyM cd) (ckF 1 x) (mW o ad cd tn td cs hd kd rt vl hr hw cu si acc (bds (ckN 1) st))) := by
  refine CM.of (by decide) (Nat.le_of_ble_eq_true rfl) ?_
  intro p e s m below meth c A ls hx hb hrt hml htg hown hlocks hnm hA hK hP hD hS hl
  have hown : s.vm.findClass RX9 = some m.cls := hown
  have hl : lv_has ls 4 [(0, .ref o), (1, .int t)] := hl
  have SF : CallFix p m c cX9_check 4 s _ hs_gt RX9 := ⟨hx, hb, hml, hown, htg⟩
  have hkd : kd t.toNatClampNeg = 1 := hkd
  refine lv_aload_n hx hb dX9_check_0 rfl (lv_at hl 0 rfl) ?_
  refine va_get (D := D) (ci := 9) (v := .ref (ad 1)) (C := RX9) (T := TX9) (N := 15) hx hb htg in_X9 hown hK hP 0 rfl rfl 1 (by decide) (htg _ tw_521) (fun _ h9 => h9) rfl dX9_check_1 ?_
  refine lv_iload_n hx hb dX9_check_4 rfl (lv_at hl 1 rfl) ?_
  refine va_iald hx hb hK hP 1 0 rfl rfl (ht) dX9_check_5 ?_
  rw [hkd]
  refine lv_istore_n (lv' := [(2, .int 1), (0, .ref o), (1, .int t)]) hx hb dX9_check_6 rfl hl (by decide) rfl (fun ls hl => ?_)
  refine lv_iconst (v := 0) hx hb dX9_check_7 (by decide) ?_
  refine lv_istore_n (lv' := [(3, .int 0), (2, .int 1), (0, .ref o), (1, .int t)]) hx hb dX9_check_8 rfl hl (by decide) rfl (fun ls hl => ?_)
  refine lv_iload_n hx hb dX9_check_9 rfl (lv_at hl 1 rfl) ?_
  refine lv_iconst (v := 3) hx hb dX9_check_10 (by decide) ?_
  refine lv_icmp_eq (tgt := 19) hx hb dX9_check_11 (by decide) (fun c11 => absurd c11 ((by decide))) (fun c11 => ?_)
  refine lv_iload_n hx hb dX9_check_14 rfl (lv_at hl 1 rfl) ?_
  refine lv_iconst (v := 4) hx hb dX9_check_15 (by decide) ?_
  refine lv_icmp_ne (tgt := 27) hx hb dX9_check_16 (by decide) (fun c16 => ?_) (fun c16 => absurd c16 ((by decide)))
  refine lv_iload_n hx hb dX9_check_27 rfl (lv_at hl 1 rfl) ?_
  refine lv_bipush (v := 6) hx hb dX9_check_28 (by decide) ?_
  refine lv_icmp_ne (tgt := 41) hx hb dX9_check_30 (by decide) (fun c30 => ?_) (fun c30 => absurd c30 ((by decide)))
  refine lv_iload_n hx hb dX9_check_41 rfl (lv_at hl 1 rfl) ?_
  refine lv_if_le (tgt := 54) hx hb dX9_check_42 (by decide) (fun c42 => absurd c42 ((by decide))) (fun c42 => ?_)
  refine lv_aload_n hx hb dX9_check_45 rfl (lv_at hl 2 rfl) ?_
  refine lv_bipush (v := 21) hx hb dX9_check_46 (by decide) ?_
  refine hs_callv0 (w1 := (mW o ad cd tn td cs hd kd rt vl hr hw cu si acc (bdT 21 st))) (hs_runV (q0 := 0) SF cal_X9_body tw_598 (c_X9_body l D o ad cd tn td cs hd kd rt vl hr hw cu si acc st (okM_mono hok (by decide)) 21) hK hP hD rfl rfl ⟨Nat.le_of_ble_eq_true rfl, Nat.le_of_ble_eq_true rfl⟩ rfl hl.1 rfl (Nat.le_of_ble_eq_true rfl) dX9_check_48 ⟨Nat.le_of_ble_eq_true rfl, Nat.le_of_ble_eq_true rfl⟩) hD hS hA (fun H locs hP hD hS => ?_)
  refine lv_iinc (v := (0 + 1)) (lv' := [(3, .int (0 + 1)), (2, .int 1), (0, .ref o), (1, .int t)]) hx hb dX9_check_51 hl (k := 0) rfl rfl (by decide) rfl (fun ls hl => ?_)
  refine lv_aload_n hx hb dX9_check_54 rfl (lv_at hl 2 rfl) ?_
  refine lv_bipush (v := 20) hx hb dX9_check_55 (by decide) ?_
  refine hs_callv0 (w1 := (mW o ad cd tn td cs hd kd rt vl hr hw cu si acc (bdT 20 (bdT 21 st)))) (hs_runV (q0 := 0) SF cal_X9_body tw_598 (c_X9_body l D o ad cd tn td cs hd kd rt vl hr hw cu si acc (bdT 21 st) (okM_mono (okM_bd 21 hok) (by decide)) 20) hK hP hD rfl rfl ⟨Nat.le_of_ble_eq_true rfl, Nat.le_of_ble_eq_true rfl⟩ rfl hl.1 rfl (Nat.le_of_ble_eq_true rfl) dX9_check_57 ⟨Nat.le_of_ble_eq_true rfl, Nat.le_of_ble_eq_true rfl⟩) hD hS hA (fun H locs hP hD hS => ?_)
  refine lv_aload_n hx hb dX9_check_60 rfl (lv_at hl 2 rfl) ?_
  refine va_get (D := D) (ci := 9) (v := .ref (ad 4)) (C := RX9) (T := TX9) (N := 15) hx hb htg in_X9 hown hK hP 0 rfl rfl 4 (by decide) (htg _ tw_524) (fun _ h9 => h9) rfl dX9_check_61 ?_
  refine lv_iload_n hx hb dX9_check_64 rfl (lv_at hl 3 rfl) ?_
  refine va_iald hx hb hK hP 4 3 rfl rfl (ht) dX9_check_65 ?_
  rw [hhr]
  refine lv_bipush (v := 10) hx hb dX9_check_66 (by decide) ?_
  refine lv_idiv hx hb dX9_check_68 (by decide) ?_
  refine lv_iload_n hx hb dX9_check_69 rfl (lv_at hl 0 rfl) ?_
  refine lv_iadd hx hb dX9_check_70 ?_
  exact hs_iret hx hb hrt hlocks hK hP hD hS dX9_check_71 (by first | rfl | (show _ = x / 10 + 1 + 2; rw [Int32.add_assoc]; rfl) | (unfold ckF; simp; done)) (by first | (simp only [bds, ckN, List.foldl_cons, List.foldl_nil]; done) | rfl)

set_option maxHeartbeats 400000 in
set_option maxRecDepth 100000 in
theorem c_X9_check_2 (l : Launch) (D : va_G) (o : Nat) (ad : Nat → Nat) (cd : Nat → ClassId) (tn td cs hd : Int32) (kd rt vl hr hw cu si : Nat → Int32) (acc : Nat → Int64) (st : TS) (t : Int32) (ht : vp_in t 24) (hkd : kd t.toNatClampNeg = nI 2) (hok : okM 3 st) (x : Int32) (hhr : hr t.toNatClampNeg = x) : CM l D yX9_check cX9_check 4 (some .int) { frames := 1, cells := 0, slots := 0, locals := 21 } (tyM cd) [.ref o, .int t] (mW o ad cd tn td cs hd kd rt vl hr hw cu si acc st) (hs_QI D (tyM cd) (ckF 2 x) (mW o ad cd tn td cs hd kd rt vl hr hw cu si acc (bds (ckN 2) st))) := by
  refine CM.of (by decide) (Nat.le_of_ble_eq_true rfl) ?_
  intro p e s m below meth c A ls hx hb hrt hml htg hown hlocks hnm hA hK hP hD hS hl
  have hown : s.vm.findClass RX9 = some m.cls := hown
  have hl : lv_has ls 4 [(0, .ref o), (1, .int t)] := hl
  have SF : CallFix p m c cX9_check 4 s _ hs_gt RX9 := ⟨hx, hb, hml, hown, htg⟩
  have hkd : kd t.toNatClampNeg = 2 := hkd
  refine lv_aload_n hx hb dX9_check_0 rfl (lv_at hl 0 rfl) ?_
  refine va_get (D := D) (ci := 9) (v := .ref (ad 1)) (C := RX9) (T := TX9) (N := 15) hx hb htg in_X9 hown hK hP 0 rfl rfl 1 (by decide) (htg _ tw_521) (fun _ h9 => h9) rfl dX9_check_1 ?_
  refine lv_iload_n hx hb dX9_check_4 rfl (lv_at hl 1 rfl) ?_
  refine va_iald hx hb hK hP 1 0 rfl rfl (ht) dX9_check_5 ?_
  rw [hkd]
  refine lv_istore_n (lv' := [(2, .int 2), (0, .ref o), (1, .int t)]) hx hb dX9_check_6 rfl hl (by decide) rfl (fun ls hl => ?_)
  refine lv_iconst (v := 0) hx hb dX9_check_7 (by decide) ?_
  refine lv_istore_n (lv' := [(3, .int 0), (2, .int 2), (0, .ref o), (1, .int t)]) hx hb dX9_check_8 rfl hl (by decide) rfl (fun ls hl => ?_)
  refine lv_iload_n hx hb dX9_check_9 rfl (lv_at hl 1 rfl) ?_
  refine lv_iconst (v := 3) hx hb dX9_check_10 (by decide) ?_
  refine lv_icmp_eq (tgt := 19) hx hb dX9_check_11 (by decide) (fun c11 => absurd c11 ((by decide))) (fun c11 => ?_)
  refine lv_iload_n hx hb dX9_check_14 rfl (lv_at hl 1 rfl) ?_
  refine lv_iconst (v := 4) hx hb dX9_check_15 (by decide) ?_
  refine lv_icmp_ne (tgt := 27) hx hb dX9_check_16 (by decide) (fun c16 => ?_) (fun c16 => absurd c16 ((by decide)))
  refine lv_iload_n hx hb dX9_check_27 rfl (lv_at hl 1 rfl) ?_
  refine lv_bipush (v := 6) hx hb dX9_check_28 (by decide) ?_
  refine lv_icmp_ne (tgt := 41) hx hb dX9_check_30 (by decide) (fun c30 => ?_) (fun c30 => absurd c30 ((by decide)))
  refine lv_iload_n hx hb dX9_check_41 rfl (lv_at hl 1 rfl) ?_
  refine lv_if_le (tgt := 54) hx hb dX9_check_42 (by decide) (fun c42 => absurd c42 ((by decide))) (fun c42 => ?_)
  refine lv_aload_n hx hb dX9_check_45 rfl (lv_at hl 2 rfl) ?_
  refine lv_bipush (v := 21) hx hb dX9_check_46 (by decide) ?_
  refine hs_callv0 (w1 := (mW o ad cd tn td cs hd kd rt vl hr hw cu si acc (bdT 21 st))) (hs_runV (q0 := 0) SF cal_X9_body tw_598 (c_X9_body l D o ad cd tn td cs hd kd rt vl hr hw cu si acc st (okM_mono hok (by decide)) 21) hK hP hD rfl rfl ⟨Nat.le_of_ble_eq_true rfl, Nat.le_of_ble_eq_true rfl⟩ rfl hl.1 rfl (Nat.le_of_ble_eq_true rfl) dX9_check_48 ⟨Nat.le_of_ble_eq_true rfl, Nat.le_of_ble_eq_true rfl⟩) hD hS hA (fun H locs hP hD hS => ?_)
  refine lv_iinc (v := (0 + 1)) (lv' := [(3, .int (0 + 1)), (2, .int 2), (0, .ref o), (1, .int t)]) hx hb dX9_check_51 hl (k := 0) rfl rfl (by decide) rfl (fun ls hl => ?_)
  refine lv_aload_n hx hb dX9_check_54 rfl (lv_at hl 2 rfl) ?_
  refine lv_bipush (v := 20) hx hb dX9_check_55 (by decide) ?_
  refine hs_callv0 (w1 := (mW o ad cd tn td cs hd kd rt vl hr hw cu si acc (bdT 20 (bdT 21 st)))) (hs_runV (q0 := 0) SF cal_X9_body tw_598 (c_X9_body l D o ad cd tn td cs hd kd rt vl hr hw cu si acc (bdT 21 st) (okM_mono (okM_bd 21 hok) (by decide)) 20) hK hP hD rfl rfl ⟨Nat.le_of_ble_eq_true rfl, Nat.le_of_ble_eq_true rfl⟩ rfl hl.1 rfl (Nat.le_of_ble_eq_true rfl) dX9_check_57 ⟨Nat.le_of_ble_eq_true rfl, Nat.le_of_ble_eq_true rfl⟩) hD hS hA (fun H locs hP hD hS => ?_)
  refine lv_aload_n hx hb dX9_check_60 rfl (lv_at hl 2 rfl) ?_
  refine va_get (D := D) (ci := 9) (v := .ref (ad 4)) (C := RX9) (T := TX9) (N := 15) hx hb htg in_X9 hown hK hP 0 rfl rfl 4 (by decide) (htg _ tw_524) (fun _ h9 => h9) rfl dX9_check_61 ?_
  refine lv_iload_n hx hb dX9_check_64 rfl (lv_at hl 3 rfl) ?_
  refine va_iald hx hb hK hP 4 3 rfl rfl (ht) dX9_check_65 ?_
  rw [hhr]
  refine lv_bipush (v := 10) hx hb dX9_check_66 (by decide) ?_
  refine lv_idiv hx hb dX9_check_68 (by decide) ?_
  refine lv_iload_n hx hb dX9_check_69 rfl (lv_at hl 0 rfl) ?_
  refine lv_iadd hx hb dX9_check_70 ?_
  exact hs_iret hx hb hrt hlocks hK hP hD hS dX9_check_71 (by first | rfl | (show _ = x / 10 + 1 + 2; rw [Int32.add_assoc]; rfl) | (unfold ckF; simp; done)) (by first | (simp only [bds, ckN, List.foldl_cons, List.foldl_nil]; done) | rfl)

set_option maxHeartbeats 400000 in
set_option maxRecDepth 100000 in
theorem c_X9_check_3 (l : Launch) (D : va_G) (o : Nat) (ad : Nat → Nat) (cd : Nat → ClassId) (tn td cs hd : Int32) (kd rt vl hr hw cu si : Nat → Int32) (acc : Nat → Int64) (st : TS) (t : Int32) (ht : vp_in t 24) (hkd : kd t.toNatClampNeg = nI 3) (hok : okM 3 st) (x : Int32) (hhr : hr t.toNatClampNeg = x) : CM l D yX9_check cX9_check 4 (some .int) { frames := 1, cells := 0, slots := 0, locals := 21 } (tyM cd) [.ref o, .int t] (mW o ad cd tn td cs hd kd rt vl hr hw cu si acc st) (hs_QI D (tyM cd) (ckF 3 x) (mW o ad cd tn td cs hd kd rt vl hr hw cu si acc (bds (ckN 3) st))) := by
  refine CM.of (by decide) (Nat.le_of_ble_eq_true rfl) ?_
  intro p e s m below meth c A ls hx hb hrt hml htg hown hlocks hnm hA hK hP hD hS hl
  have hown : s.vm.findClass RX9 = some m.cls := hown
  have hl : lv_has ls 4 [(0, .ref o), (1, .int t)] := hl
  have SF : CallFix p m c cX9_check 4 s _ hs_gt RX9 := ⟨hx, hb, hml, hown, htg⟩
  have hkd : kd t.toNatClampNeg = 3 := hkd
  refine lv_aload_n hx hb dX9_check_0 rfl (lv_at hl 0 rfl) ?_
  refine va_get (D := D) (ci := 9) (v := .ref (ad 1)) (C := RX9) (T := TX9) (N := 15) hx hb htg in_X9 hown hK hP 0 rfl rfl 1 (by decide) (htg _ tw_521) (fun _ h9 => h9) rfl dX9_check_1 ?_
  refine lv_iload_n hx hb dX9_check_4 rfl (lv_at hl 1 rfl) ?_
  refine va_iald hx hb hK hP 1 0 rfl rfl (ht) dX9_check_5 ?_
  rw [hkd]
  refine lv_istore_n (lv' := [(2, .int 3), (0, .ref o), (1, .int t)]) hx hb dX9_check_6 rfl hl (by decide) rfl (fun ls hl => ?_)
  refine lv_iconst (v := 0) hx hb dX9_check_7 (by decide) ?_
  refine lv_istore_n (lv' := [(3, .int 0), (2, .int 3), (0, .ref o), (1, .int t)]) hx hb dX9_check_8 rfl hl (by decide) rfl (fun ls hl => ?_)
  refine lv_iload_n hx hb dX9_check_9 rfl (lv_at hl 1 rfl) ?_
  refine lv_iconst (v := 3) hx hb dX9_check_10 (by decide) ?_
  refine lv_icmp_eq (tgt := 19) hx hb dX9_check_11 (by decide) (fun c11 => ?_) (fun c11 => absurd c11 ((by decide)))
  refine lv_aload_n hx hb dX9_check_19 rfl (lv_at hl 2 rfl) ?_
  refine lv_bipush (v := 22) hx hb dX9_check_20 (by decide) ?_
  refine hs_callv0 (w1 := (mW o ad cd tn td cs hd kd rt vl hr hw cu si acc (bdT 22 st))) (hs_runV (q0 := 0) SF cal_X9_body tw_598 (c_X9_body l D o ad cd tn td cs hd kd rt vl hr hw cu si acc st (okM_mono hok (by decide)) 22) hK hP hD rfl rfl ⟨Nat.le_of_ble_eq_true rfl, Nat.le_of_ble_eq_true rfl⟩ rfl hl.1 rfl (Nat.le_of_ble_eq_true rfl) dX9_check_22 ⟨Nat.le_of_ble_eq_true rfl, Nat.le_of_ble_eq_true rfl⟩) hD hS hA (fun H locs hP hD hS => ?_)
  refine lv_iconst (v := 2) hx hb dX9_check_25 (by decide) ?_
  refine lv_istore_n (lv' := [(3, .int 2), (2, .int 3), (0, .ref o), (1, .int t)]) hx hb dX9_check_26 rfl hl (by decide) rfl (fun ls hl => ?_)
  refine lv_iload_n hx hb dX9_check_27 rfl (lv_at hl 1 rfl) ?_
  refine lv_bipush (v := 6) hx hb dX9_check_28 (by decide) ?_
  refine lv_icmp_ne (tgt := 41) hx hb dX9_check_30 (by decide) (fun c30 => ?_) (fun c30 => absurd c30 ((by decide)))
  refine lv_iload_n hx hb dX9_check_41 rfl (lv_at hl 1 rfl) ?_
  refine lv_if_le (tgt := 54) hx hb dX9_check_42 (by decide) (fun c42 => absurd c42 ((by decide))) (fun c42 => ?_)
  refine lv_aload_n hx hb dX9_check_45 rfl (lv_at hl 2 rfl) ?_
  refine lv_bipush (v := 21) hx hb dX9_check_46 (by decide) ?_
  refine hs_callv0 (w1 := (mW o ad cd tn td cs hd kd rt vl hr hw cu si acc (bdT 21 (bdT 22 st)))) (hs_runV (q0 := 0) SF cal_X9_body tw_598 (c_X9_body l D o ad cd tn td cs hd kd rt vl hr hw cu si acc (bdT 22 st) (okM_mono (okM_bd 22 hok) (by decide)) 21) hK hP hD rfl rfl ⟨Nat.le_of_ble_eq_true rfl, Nat.le_of_ble_eq_true rfl⟩ rfl hl.1 rfl (Nat.le_of_ble_eq_true rfl) dX9_check_48 ⟨Nat.le_of_ble_eq_true rfl, Nat.le_of_ble_eq_true rfl⟩) hD hS hA (fun H locs hP hD hS => ?_)
  refine lv_iinc (v := (2 + 1)) (lv' := [(3, .int (2 + 1)), (2, .int 3), (0, .ref o), (1, .int t)]) hx hb dX9_check_51 hl (k := 0) rfl rfl (by decide) rfl (fun ls hl => ?_)
  refine lv_aload_n hx hb dX9_check_54 rfl (lv_at hl 2 rfl) ?_
  refine lv_bipush (v := 20) hx hb dX9_check_55 (by decide) ?_
  refine hs_callv0 (w1 := (mW o ad cd tn td cs hd kd rt vl hr hw cu si acc (bdT 20 (bdT 21 (bdT 22 st))))) (hs_runV (q0 := 0) SF cal_X9_body tw_598 (c_X9_body l D o ad cd tn td cs hd kd rt vl hr hw cu si acc (bdT 21 (bdT 22 st)) (okM_bd 21 (okM_bd 22 hok)) 20) hK hP hD rfl rfl ⟨Nat.le_of_ble_eq_true rfl, Nat.le_of_ble_eq_true rfl⟩ rfl hl.1 rfl (Nat.le_of_ble_eq_true rfl) dX9_check_57 ⟨Nat.le_of_ble_eq_true rfl, Nat.le_of_ble_eq_true rfl⟩) hD hS hA (fun H locs hP hD hS => ?_)
  refine lv_aload_n hx hb dX9_check_60 rfl (lv_at hl 2 rfl) ?_
  refine va_get (D := D) (ci := 9) (v := .ref (ad 4)) (C := RX9) (T := TX9) (N := 15) hx hb htg in_X9 hown hK hP 0 rfl rfl 4 (by decide) (htg _ tw_524) (fun _ h9 => h9) rfl dX9_check_61 ?_
  refine lv_iload_n hx hb dX9_check_64 rfl (lv_at hl 3 rfl) ?_
  refine va_iald hx hb hK hP 4 3 rfl rfl (ht) dX9_check_65 ?_
  rw [hhr]
  refine lv_bipush (v := 10) hx hb dX9_check_66 (by decide) ?_
  refine lv_idiv hx hb dX9_check_68 (by decide) ?_
  refine lv_iload_n hx hb dX9_check_69 rfl (lv_at hl 0 rfl) ?_
  refine lv_iadd hx hb dX9_check_70 ?_
  exact hs_iret hx hb hrt hlocks hK hP hD hS dX9_check_71 (by first | rfl | (show _ = x / 10 + 1 + 2; rw [Int32.add_assoc]; rfl) | (unfold ckF; simp; done)) (by first | (simp only [bds, ckN, List.foldl_cons, List.foldl_nil]; done) | rfl)

set_option maxHeartbeats 400000 in
set_option maxRecDepth 100000 in
theorem c_X9_check_4 (l : Launch) (D : va_G) (o : Nat) (ad : Nat → Nat) (cd : Nat → ClassId) (tn td cs hd : Int32) (kd rt vl hr hw cu si : Nat → Int32) (acc : Nat → Int64) (st : TS) (t : Int32) (ht : vp_in t 24) (hkd : kd t.toNatClampNeg = nI 4) (hok : okM 3 st) (x : Int32) (hhr : hr t.toNatClampNeg = x) : CM l D yX9_check cX9_check 4 (some .int) { frames := 1, cells := 0, slots := 0, locals := 21 } (tyM cd) [.ref o, .int t] (mW o ad cd tn td cs hd kd rt vl hr hw cu si acc st) (hs_QI D (tyM cd) (ckF 4 x) (mW o ad cd tn td cs hd kd rt vl hr hw cu si acc (bds (ckN 4) st))) := by
  refine CM.of (by decide) (Nat.le_of_ble_eq_true rfl) ?_
  intro p e s m below meth c A ls hx hb hrt hml htg hown hlocks hnm hA hK hP hD hS hl
  have hown : s.vm.findClass RX9 = some m.cls := hown
  have hl : lv_has ls 4 [(0, .ref o), (1, .int t)] := hl
  have SF : CallFix p m c cX9_check 4 s _ hs_gt RX9 := ⟨hx, hb, hml, hown, htg⟩
  have hkd : kd t.toNatClampNeg = 4 := hkd
  refine lv_aload_n hx hb dX9_check_0 rfl (lv_at hl 0 rfl) ?_
  refine va_get (D := D) (ci := 9) (v := .ref (ad 1)) (C := RX9) (T := TX9) (N := 15) hx hb htg in_X9 hown hK hP 0 rfl rfl 1 (by decide) (htg _ tw_521) (fun _ h9 => h9) rfl dX9_check_1 ?_
  refine lv_iload_n hx hb dX9_check_4 rfl (lv_at hl 1 rfl) ?_
  refine va_iald hx hb hK hP 1 0 rfl rfl (ht) dX9_check_5 ?_
  rw [hkd]
  refine lv_istore_n (lv' := [(2, .int 4), (0, .ref o), (1, .int t)]) hx hb dX9_check_6 rfl hl (by decide) rfl (fun ls hl => ?_)
  refine lv_iconst (v := 0) hx hb dX9_check_7 (by decide) ?_
  refine lv_istore_n (lv' := [(3, .int 0), (2, .int 4), (0, .ref o), (1, .int t)]) hx hb dX9_check_8 rfl hl (by decide) rfl (fun ls hl => ?_)
  refine lv_iload_n hx hb dX9_check_9 rfl (lv_at hl 1 rfl) ?_
  refine lv_iconst (v := 3) hx hb dX9_check_10 (by decide) ?_
  refine lv_icmp_eq (tgt := 19) hx hb dX9_check_11 (by decide) (fun c11 => absurd c11 ((by decide))) (fun c11 => ?_)
  refine lv_iload_n hx hb dX9_check_14 rfl (lv_at hl 1 rfl) ?_
  refine lv_iconst (v := 4) hx hb dX9_check_15 (by decide) ?_
  refine lv_icmp_ne (tgt := 27) hx hb dX9_check_16 (by decide) (fun c16 => absurd c16 ((by decide))) (fun c16 => ?_)
  refine lv_aload_n hx hb dX9_check_19 rfl (lv_at hl 2 rfl) ?_
  refine lv_bipush (v := 22) hx hb dX9_check_20 (by decide) ?_
  refine hs_callv0 (w1 := (mW o ad cd tn td cs hd kd rt vl hr hw cu si acc (bdT 22 st))) (hs_runV (q0 := 0) SF cal_X9_body tw_598 (c_X9_body l D o ad cd tn td cs hd kd rt vl hr hw cu si acc st (okM_mono hok (by decide)) 22) hK hP hD rfl rfl ⟨Nat.le_of_ble_eq_true rfl, Nat.le_of_ble_eq_true rfl⟩ rfl hl.1 rfl (Nat.le_of_ble_eq_true rfl) dX9_check_22 ⟨Nat.le_of_ble_eq_true rfl, Nat.le_of_ble_eq_true rfl⟩) hD hS hA (fun H locs hP hD hS => ?_)
  refine lv_iconst (v := 2) hx hb dX9_check_25 (by decide) ?_
  refine lv_istore_n (lv' := [(3, .int 2), (2, .int 4), (0, .ref o), (1, .int t)]) hx hb dX9_check_26 rfl hl (by decide) rfl (fun ls hl => ?_)
  refine lv_iload_n hx hb dX9_check_27 rfl (lv_at hl 1 rfl) ?_
  refine lv_bipush (v := 6) hx hb dX9_check_28 (by decide) ?_
  refine lv_icmp_ne (tgt := 41) hx hb dX9_check_30 (by decide) (fun c30 => ?_) (fun c30 => absurd c30 ((by decide)))
  refine lv_iload_n hx hb dX9_check_41 rfl (lv_at hl 1 rfl) ?_
  refine lv_if_le (tgt := 54) hx hb dX9_check_42 (by decide) (fun c42 => absurd c42 ((by decide))) (fun c42 => ?_)
  refine lv_aload_n hx hb dX9_check_45 rfl (lv_at hl 2 rfl) ?_
  refine lv_bipush (v := 21) hx hb dX9_check_46 (by decide) ?_
  refine hs_callv0 (w1 := (mW o ad cd tn td cs hd kd rt vl hr hw cu si acc (bdT 21 (bdT 22 st)))) (hs_runV (q0 := 0) SF cal_X9_body tw_598 (c_X9_body l D o ad cd tn td cs hd kd rt vl hr hw cu si acc (bdT 22 st) (okM_mono (okM_bd 22 hok) (by decide)) 21) hK hP hD rfl rfl ⟨Nat.le_of_ble_eq_true rfl, Nat.le_of_ble_eq_true rfl⟩ rfl hl.1 rfl (Nat.le_of_ble_eq_true rfl) dX9_check_48 ⟨Nat.le_of_ble_eq_true rfl, Nat.le_of_ble_eq_true rfl⟩) hD hS hA (fun H locs hP hD hS => ?_)
  refine lv_iinc (v := (2 + 1)) (lv' := [(3, .int (2 + 1)), (2, .int 4), (0, .ref o), (1, .int t)]) hx hb dX9_check_51 hl (k := 0) rfl rfl (by decide) rfl (fun ls hl => ?_)
  refine lv_aload_n hx hb dX9_check_54 rfl (lv_at hl 2 rfl) ?_
  refine lv_bipush (v := 20) hx hb dX9_check_55 (by decide) ?_
  refine hs_callv0 (w1 := (mW o ad cd tn td cs hd kd rt vl hr hw cu si acc (bdT 20 (bdT 21 (bdT 22 st))))) (hs_runV (q0 := 0) SF cal_X9_body tw_598 (c_X9_body l D o ad cd tn td cs hd kd rt vl hr hw cu si acc (bdT 21 (bdT 22 st)) (okM_bd 21 (okM_bd 22 hok)) 20) hK hP hD rfl rfl ⟨Nat.le_of_ble_eq_true rfl, Nat.le_of_ble_eq_true rfl⟩ rfl hl.1 rfl (Nat.le_of_ble_eq_true rfl) dX9_check_57 ⟨Nat.le_of_ble_eq_true rfl, Nat.le_of_ble_eq_true rfl⟩) hD hS hA (fun H locs hP hD hS => ?_)
  refine lv_aload_n hx hb dX9_check_60 rfl (lv_at hl 2 rfl) ?_
  refine va_get (D := D) (ci := 9) (v := .ref (ad 4)) (C := RX9) (T := TX9) (N := 15) hx hb htg in_X9 hown hK hP 0 rfl rfl 4 (by decide) (htg _ tw_524) (fun _ h9 => h9) rfl dX9_check_61 ?_
  refine lv_iload_n hx hb dX9_check_64 rfl (lv_at hl 3 rfl) ?_
  refine va_iald hx hb hK hP 4 3 rfl rfl (ht) dX9_check_65 ?_
  rw [hhr]
  refine lv_bipush (v := 10) hx hb dX9_check_66 (by decide) ?_
  refine lv_idiv hx hb dX9_check_68 (by decide) ?_
  refine lv_iload_n hx hb dX9_check_69 rfl (lv_at hl 0 rfl) ?_
  refine lv_iadd hx hb dX9_check_70 ?_
  exact hs_iret hx hb hrt hlocks hK hP hD hS dX9_check_71 (by first | rfl | (show _ = x / 10 + 1 + 2; rw [Int32.add_assoc]; rfl) | (unfold ckF; simp; done)) (by first | (simp only [bds, ckN, List.foldl_cons, List.foldl_nil]; done) | rfl)

set_option maxHeartbeats 400000 in
set_option maxRecDepth 100000 in
theorem c_X9_check_5 (l : Launch) (D : va_G) (o : Nat) (ad : Nat → Nat) (cd : Nat → ClassId) (tn td cs hd : Int32) (kd rt vl hr hw cu si : Nat → Int32) (acc : Nat → Int64) (st : TS) (t : Int32) (ht : vp_in t 24) (hkd : kd t.toNatClampNeg = nI 5) (hok : okM 3 st) (x : Int32) (hhr : hr t.toNatClampNeg = x) : CM l D yX9_check cX9_check 4 (some .int) { frames := 1, cells := 0, slots := 0, locals := 21 } (tyM cd) [.ref o, .int t] (mW o ad cd tn td cs hd kd rt vl hr hw cu si acc st) (hs_QI D (tyM cd) (ckF 5 x) (mW o ad cd tn td cs hd kd rt vl hr hw cu si acc (bds (ckN 5) st))) := by
  refine CM.of (by decide) (Nat.le_of_ble_eq_true rfl) ?_
  intro p e s m below meth c A ls hx hb hrt hml htg hown hlocks hnm hA hK hP hD hS hl
  have hown : s.vm.findClass RX9 = some m.cls := hown
  have hl : lv_has ls 4 [(0, .ref o), (1, .int t)] := hl
  have SF : CallFix p m c cX9_check 4 s _ hs_gt RX9 := ⟨hx, hb, hml, hown, htg⟩
  have hkd : kd t.toNatClampNeg = 5 := hkd
  refine lv_aload_n hx hb dX9_check_0 rfl (lv_at hl 0 rfl) ?_
  refine va_get (D := D) (ci := 9) (v := .ref (ad 1)) (C := RX9) (T := TX9) (N := 15) hx hb htg in_X9 hown hK hP 0 rfl rfl 1 (by decide) (htg _ tw_521) (fun _ h9 => h9) rfl dX9_check_1 ?_
  refine lv_iload_n hx hb dX9_check_4 rfl (lv_at hl 1 rfl) ?_
  refine va_iald hx hb hK hP 1 0 rfl rfl (ht) dX9_check_5 ?_
  rw [hkd]
  refine lv_istore_n (lv' := [(2, .int 5), (0, .ref o), (1, .int t)]) hx hb dX9_check_6 rfl hl (by decide) rfl (fun ls hl => ?_)
  refine lv_iconst (v := 0) hx hb dX9_check_7 (by decide) ?_
  refine lv_istore_n (lv' := [(3, .int 0), (2, .int 5), (0, .ref o), (1, .int t)]) hx hb dX9_check_8 rfl hl (by decide) rfl (fun ls hl => ?_)
  refine lv_iload_n hx hb dX9_check_9 rfl (lv_at hl 1 rfl) ?_
  refine lv_iconst (v := 3) hx hb dX9_check_10 (by decide) ?_
  refine lv_icmp_eq (tgt := 19) hx hb dX9_check_11 (by decide) (fun c11 => absurd c11 ((by decide))) (fun c11 => ?_)
  refine lv_iload_n hx hb dX9_check_14 rfl (lv_at hl 1 rfl) ?_
  refine lv_iconst (v := 4) hx hb dX9_check_15 (by decide) ?_
  refine lv_icmp_ne (tgt := 27) hx hb dX9_check_16 (by decide) (fun c16 => ?_) (fun c16 => absurd c16 ((by decide)))
  refine lv_iload_n hx hb dX9_check_27 rfl (lv_at hl 1 rfl) ?_
  refine lv_bipush (v := 6) hx hb dX9_check_28 (by decide) ?_
  refine lv_icmp_ne (tgt := 41) hx hb dX9_check_30 (by decide) (fun c30 => ?_) (fun c30 => absurd c30 ((by decide)))
  refine lv_iload_n hx hb dX9_check_41 rfl (lv_at hl 1 rfl) ?_
  refine lv_if_le (tgt := 54) hx hb dX9_check_42 (by decide) (fun c42 => absurd c42 ((by decide))) (fun c42 => ?_)
  refine lv_aload_n hx hb dX9_check_45 rfl (lv_at hl 2 rfl) ?_
  refine lv_bipush (v := 21) hx hb dX9_check_46 (by decide) ?_
  refine hs_callv0 (w1 := (mW o ad cd tn td cs hd kd rt vl hr hw cu si acc (bdT 21 st))) (hs_runV (q0 := 0) SF cal_X9_body tw_598 (c_X9_body l D o ad cd tn td cs hd kd rt vl hr hw cu si acc st (okM_mono hok (by decide)) 21) hK hP hD rfl rfl ⟨Nat.le_of_ble_eq_true rfl, Nat.le_of_ble_eq_true rfl⟩ rfl hl.1 rfl (Nat.le_of_ble_eq_true rfl) dX9_check_48 ⟨Nat.le_of_ble_eq_true rfl, Nat.le_of_ble_eq_true rfl⟩) hD hS hA (fun H locs hP hD hS => ?_)
  refine lv_iinc (v := (0 + 1)) (lv' := [(3, .int (0 + 1)), (2, .int 5), (0, .ref o), (1, .int t)]) hx hb dX9_check_51 hl (k := 0) rfl rfl (by decide) rfl (fun ls hl => ?_)
  refine lv_aload_n hx hb dX9_check_54 rfl (lv_at hl 2 rfl) ?_
  refine lv_bipush (v := 20) hx hb dX9_check_55 (by decide) ?_
  refine hs_callv0 (w1 := (mW o ad cd tn td cs hd kd rt vl hr hw cu si acc (bdT 20 (bdT 21 st)))) (hs_runV (q0 := 0) SF cal_X9_body tw_598 (c_X9_body l D o ad cd tn td cs hd kd rt vl hr hw cu si acc (bdT 21 st) (okM_mono (okM_bd 21 hok) (by decide)) 20) hK hP hD rfl rfl ⟨Nat.le_of_ble_eq_true rfl, Nat.le_of_ble_eq_true rfl⟩ rfl hl.1 rfl (Nat.le_of_ble_eq_true rfl) dX9_check_57 ⟨Nat.le_of_ble_eq_true rfl, Nat.le_of_ble_eq_true rfl⟩) hD hS hA (fun H locs hP hD hS => ?_)
  refine lv_aload_n hx hb dX9_check_60 rfl (lv_at hl 2 rfl) ?_
  refine va_get (D := D) (ci := 9) (v := .ref (ad 4)) (C := RX9) (T := TX9) (N := 15) hx hb htg in_X9 hown hK hP 0 rfl rfl 4 (by decide) (htg _ tw_524) (fun _ h9 => h9) rfl dX9_check_61 ?_
  refine lv_iload_n hx hb dX9_check_64 rfl (lv_at hl 3 rfl) ?_
  refine va_iald hx hb hK hP 4 3 rfl rfl (ht) dX9_check_65 ?_
  rw [hhr]
  refine lv_bipush (v := 10) hx hb dX9_check_66 (by decide) ?_
  refine lv_idiv hx hb dX9_check_68 (by decide) ?_
  refine lv_iload_n hx hb dX9_check_69 rfl (lv_at hl 0 rfl) ?_
  refine lv_iadd hx hb dX9_check_70 ?_
  exact hs_iret hx hb hrt hlocks hK hP hD hS dX9_check_71 (by first | rfl | (show _ = x / 10 + 1 + 2; rw [Int32.add_assoc]; rfl) | (unfold ckF; simp; done)) (by first | (simp only [bds, ckN, List.foldl_cons, List.foldl_nil]; done) | rfl)

set_option maxHeartbeats 400000 in
set_option maxRecDepth 100000 in
theorem c_X9_check_6 (l : Launch) (D : va_G) (o : Nat) (ad : Nat → Nat) (cd : Nat → ClassId) (tn td cs hd : Int32) (kd rt vl hr hw cu si : Nat → Int32) (acc : Nat → Int64) (st : TS) (t : Int32) (ht : vp_in t 24) (hkd : kd t.toNatClampNeg = nI 6) (hok : okM 3 st) (x : Int32) (hhr : hr t.toNatClampNeg = x) : CM l D yX9_check cX9_check 4 (some .int) { frames := 1, cells := 0, slots := 0, locals := 21 } (tyM cd) [.ref o, .int t] (mW o ad cd tn td cs hd kd rt vl hr hw cu si acc st) (hs_QI D (tyM cd) (ckF 6 x) (mW o ad cd tn td cs hd kd rt vl hr hw cu si acc (bds (ckN 6) st))) := by
  refine CM.of (by decide) (Nat.le_of_ble_eq_true rfl) ?_
  intro p e s m below meth c A ls hx hb hrt hml htg hown hlocks hnm hA hK hP hD hS hl
  have hown : s.vm.findClass RX9 = some m.cls := hown
  have hl : lv_has ls 4 [(0, .ref o), (1, .int t)] := hl
  have SF : CallFix p m c cX9_check 4 s _ hs_gt RX9 := ⟨hx, hb, hml, hown, htg⟩
  have hkd : kd t.toNatClampNeg = 6 := hkd
  refine lv_aload_n hx hb dX9_check_0 rfl (lv_at hl 0 rfl) ?_
  refine va_get (D := D) (ci := 9) (v := .ref (ad 1)) (C := RX9) (T := TX9) (N := 15) hx hb htg in_X9 hown hK hP 0 rfl rfl 1 (by decide) (htg _ tw_521) (fun _ h9 => h9) rfl dX9_check_1 ?_
  refine lv_iload_n hx hb dX9_check_4 rfl (lv_at hl 1 rfl) ?_
  refine va_iald hx hb hK hP 1 0 rfl rfl (ht) dX9_check_5 ?_
  rw [hkd]
  refine lv_istore_n (lv' := [(2, .int 6), (0, .ref o), (1, .int t)]) hx hb dX9_check_6 rfl hl (by decide) rfl (fun ls hl => ?_)
  refine lv_iconst (v := 0) hx hb dX9_check_7 (by decide) ?_
  refine lv_istore_n (lv' := [(3, .int 0), (2, .int 6), (0, .ref o), (1, .int t)]) hx hb dX9_check_8 rfl hl (by decide) rfl (fun ls hl => ?_)
  refine lv_iload_n hx hb dX9_check_9 rfl (lv_at hl 1 rfl) ?_
  refine lv_iconst (v := 3) hx hb dX9_check_10 (by decide) ?_
  refine lv_icmp_eq (tgt := 19) hx hb dX9_check_11 (by decide) (fun c11 => absurd c11 ((by decide))) (fun c11 => ?_)
  refine lv_iload_n hx hb dX9_check_14 rfl (lv_at hl 1 rfl) ?_
  refine lv_iconst (v := 4) hx hb dX9_check_15 (by decide) ?_
  refine lv_icmp_ne (tgt := 27) hx hb dX9_check_16 (by decide) (fun c16 => ?_) (fun c16 => absurd c16 ((by decide)))
  refine lv_iload_n hx hb dX9_check_27 rfl (lv_at hl 1 rfl) ?_
  refine lv_bipush (v := 6) hx hb dX9_check_28 (by decide) ?_
  refine lv_icmp_ne (tgt := 41) hx hb dX9_check_30 (by decide) (fun c30 => absurd c30 ((by decide))) (fun c30 => ?_)
  refine lv_aload_n hx hb dX9_check_33 rfl (lv_at hl 2 rfl) ?_
  refine lv_bipush (v := 23) hx hb dX9_check_34 (by decide) ?_
  refine hs_callv0 (w1 := (mW o ad cd tn td cs hd kd rt vl hr hw cu si acc (bdT 23 st))) (hs_runV (q0 := 0) SF cal_X9_body tw_598 (c_X9_body l D o ad cd tn td cs hd kd rt vl hr hw cu si acc st (okM_mono hok (by decide)) 23) hK hP hD rfl rfl ⟨Nat.le_of_ble_eq_true rfl, Nat.le_of_ble_eq_true rfl⟩ rfl hl.1 rfl (Nat.le_of_ble_eq_true rfl) dX9_check_36 ⟨Nat.le_of_ble_eq_true rfl, Nat.le_of_ble_eq_true rfl⟩) hD hS hA (fun H locs hP hD hS => ?_)
  refine lv_iconst (v := 4) hx hb dX9_check_39 (by decide) ?_
  refine lv_istore_n (lv' := [(3, .int 4), (2, .int 6), (0, .ref o), (1, .int t)]) hx hb dX9_check_40 rfl hl (by decide) rfl (fun ls hl => ?_)
  refine lv_iload_n hx hb dX9_check_41 rfl (lv_at hl 1 rfl) ?_
  refine lv_if_le (tgt := 54) hx hb dX9_check_42 (by decide) (fun c42 => absurd c42 ((by decide))) (fun c42 => ?_)
  refine lv_aload_n hx hb dX9_check_45 rfl (lv_at hl 2 rfl) ?_
  refine lv_bipush (v := 21) hx hb dX9_check_46 (by decide) ?_
  refine hs_callv0 (w1 := (mW o ad cd tn td cs hd kd rt vl hr hw cu si acc (bdT 21 (bdT 23 st)))) (hs_runV (q0 := 0) SF cal_X9_body tw_598 (c_X9_body l D o ad cd tn td cs hd kd rt vl hr hw cu si acc (bdT 23 st) (okM_mono (okM_bd 23 hok) (by decide)) 21) hK hP hD rfl rfl ⟨Nat.le_of_ble_eq_true rfl, Nat.le_of_ble_eq_true rfl⟩ rfl hl.1 rfl (Nat.le_of_ble_eq_true rfl) dX9_check_48 ⟨Nat.le_of_ble_eq_true rfl, Nat.le_of_ble_eq_true rfl⟩) hD hS hA (fun H locs hP hD hS => ?_)
  refine lv_iinc (v := (4 + 1)) (lv' := [(3, .int (4 + 1)), (2, .int 6), (0, .ref o), (1, .int t)]) hx hb dX9_check_51 hl (k := 0) rfl rfl (by decide) rfl (fun ls hl => ?_)
  refine lv_aload_n hx hb dX9_check_54 rfl (lv_at hl 2 rfl) ?_
  refine lv_bipush (v := 20) hx hb dX9_check_55 (by decide) ?_
  refine hs_callv0 (w1 := (mW o ad cd tn td cs hd kd rt vl hr hw cu si acc (bdT 20 (bdT 21 (bdT 23 st))))) (hs_runV (q0 := 0) SF cal_X9_body tw_598 (c_X9_body l D o ad cd tn td cs hd kd rt vl hr hw cu si acc (bdT 21 (bdT 23 st)) (okM_bd 21 (okM_bd 23 hok)) 20) hK hP hD rfl rfl ⟨Nat.le_of_ble_eq_true rfl, Nat.le_of_ble_eq_true rfl⟩ rfl hl.1 rfl (Nat.le_of_ble_eq_true rfl) dX9_check_57 ⟨Nat.le_of_ble_eq_true rfl, Nat.le_of_ble_eq_true rfl⟩) hD hS hA (fun H locs hP hD hS => ?_)
  refine lv_aload_n hx hb dX9_check_60 rfl (lv_at hl 2 rfl) ?_
  refine va_get (D := D) (ci := 9) (v := .ref (ad 4)) (C := RX9) (T := TX9) (N := 15) hx hb htg in_X9 hown hK hP 0 rfl rfl 4 (by decide) (htg _ tw_524) (fun _ h9 => h9) rfl dX9_check_61 ?_
  refine lv_iload_n hx hb dX9_check_64 rfl (lv_at hl 3 rfl) ?_
  refine va_iald hx hb hK hP 4 3 rfl rfl (ht) dX9_check_65 ?_
  rw [hhr]
  refine lv_bipush (v := 10) hx hb dX9_check_66 (by decide) ?_
  refine lv_idiv hx hb dX9_check_68 (by decide) ?_
  refine lv_iload_n hx hb dX9_check_69 rfl (lv_at hl 0 rfl) ?_
  refine lv_iadd hx hb dX9_check_70 ?_
  exact hs_iret hx hb hrt hlocks hK hP hD hS dX9_check_71 (by first | rfl | (show _ = x / 10 + 1 + 4; rw [Int32.add_assoc]; rfl) | (unfold ckF; simp; done)) (by first | (simp only [bds, ckN, List.foldl_cons, List.foldl_nil]; done) | rfl)

theorem c_X9_check (l : Launch) (D : va_G) (o : Nat) (ad : Nat → Nat) (cd : Nat → ClassId) (tn td cs hd : Int32) (kd rt vl hr hw cu si : Nat → Int32) (acc : Nat → Int64) (st : TS) (t : Int32) (ht : vp_in t 24) (k : Nat) (hk : k < 7) (hkd : kd t.toNatClampNeg = nI k) (hok : okM 3 st) (x : Int32) (hhr : hr t.toNatClampNeg = x) : CM l D yX9_check cX9_check 4 (some .int) { frames := 1, cells := 0, slots := 0, locals := 21 } (tyM cd) [.ref o, .int t] (mW o ad cd tn td cs hd kd rt vl hr hw cu si acc st) (hs_QI D (tyM cd) (ckF k x) (mW o ad cd tn td cs hd kd rt vl hr hw cu si acc (bds (ckN k) st))) := by
  match k, hk, hkd with
  | 0, _, hkd => exact c_X9_check_0 l D o ad cd tn td cs hd kd rt vl hr hw cu si acc st t ht hkd hok x hhr
  | 1, _, hkd => exact c_X9_check_1 l D o ad cd tn td cs hd kd rt vl hr hw cu si acc st t ht hkd hok x hhr
  | 2, _, hkd => exact c_X9_check_2 l D o ad cd tn td cs hd kd rt vl hr hw cu si acc st t ht hkd hok x hhr
  | 3, _, hkd => exact c_X9_check_3 l D o ad cd tn td cs hd kd rt vl hr hw cu si acc st t ht hkd hok x hhr
  | 4, _, hkd => exact c_X9_check_4 l D o ad cd tn td cs hd kd rt vl hr hw cu si acc st t ht hkd hok x hhr
  | 5, _, hkd => exact c_X9_check_5 l D o ad cd tn td cs hd kd rt vl hr hw cu si acc st t ht hkd hok x hhr
  | 6, _, hkd => exact c_X9_check_6 l D o ad cd tn td cs hd kd rt vl hr hw cu si acc st t ht hkd hok x hhr
  | k + 7, hk, _ => exact absurd hk (by omega)

theorem cal_X9_check : hs_cV yX9_check cX9_check 4 (some .int) 1 := ⟨tw_609, tw_608, tw_11, tw_19, by decide +kernel⟩

set_option maxHeartbeats 400000 in
set_option maxRecDepth 100000 in
theorem c_X9_deposit_1 (l : Launch) (D : va_G) (o : Nat) (ad : Nat → Nat) (cd : Nat → ClassId) (tn td cs hd : Int32) (kd rt vl hr hw cu si : Nat → Int32) (acc : Nat → Int64) (st : TS) (t : Int32) (ht : vp_in t 24) (hkd : kd t.toNatClampNeg = nI 1) (hok : okM 2 st) : CM l D yX9_deposit cX9_deposit 2 (some .int) { frames := 1, cells := 0, slots := 0, locals := 21 } (tyM cd) [.ref o, .int t] (mW o ad cd tn td cs hd kd rt vl hr hw cu si acc st) (hs_QI D (tyM cd) (dpF 1 (vl t.toNatClampNeg)) (mW o ad cd tn td cs hd kd rt vl hr hw cu si acc (bds (dpN 1) st))) := by
  refine CM.of (by decide) (Nat.le_of_ble_eq_true rfl) ?_
  intro p e s m below meth c A ls hx hb hrt hml htg hown hlocks hnm hA hK hP hD hS hl
  have hown : s.vm.findClass RX9 = some m.cls := hown
  have hl : lv_has ls 2 [(0, .ref o), (1, .int t)] := hl
  have SF : CallFix p m c cX9_deposit 2 s _ hs_gt RX9 := ⟨hx, hb, hml, hown, htg⟩
  have hkd : kd t.toNatClampNeg = 1 := hkd
  refine lv_aload_n hx hb dX9_deposit_0 rfl (lv_at hl 0 rfl) ?_
  refine va_get (D := D) (ci := 9) (v := .ref (ad 1)) (C := RX9) (T := TX9) (N := 15) hx hb htg in_X9 hown hK hP 0 rfl rfl 1 (by decide) (htg _ tw_521) (fun _ h9 => h9) rfl dX9_deposit_1 ?_
  refine lv_iload_n hx hb dX9_deposit_4 rfl (lv_at hl 1 rfl) ?_
  refine va_iald hx hb hK hP 1 0 rfl rfl (ht) dX9_deposit_5 ?_
  rw [hkd]
  refine lv_iconst (v := 4) hx hb dX9_deposit_6 (by decide) ?_
  refine lv_icmp_ne (tgt := 16) hx hb dX9_deposit_7 (by decide) (fun c7 => ?_) (fun c7 => absurd c7 ((by decide)))
  refine lv_aload_n hx hb dX9_deposit_16 rfl (lv_at hl 0 rfl) ?_
  refine lv_bipush (v := 31) hx hb dX9_deposit_17 (by decide) ?_
  refine hs_callv0 (w1 := (mW o ad cd tn td cs hd kd rt vl hr hw cu si acc (bdT 31 st))) (hs_runV (q0 := 0) SF cal_X9_body tw_598 (c_X9_body l D o ad cd tn td cs hd kd rt vl hr hw cu si acc st (okM_mono hok (by decide)) 31) hK hP hD rfl rfl ⟨Nat.le_of_ble_eq_true rfl, Nat.le_of_ble_eq_true rfl⟩ rfl hl.1 rfl (Nat.le_of_ble_eq_true rfl) dX9_deposit_19 ⟨Nat.le_of_ble_eq_true rfl, Nat.le_of_ble_eq_true rfl⟩) hD hS hA (fun H locs hP hD hS => ?_)
  refine lv_aload_n hx hb dX9_deposit_22 rfl (lv_at hl 0 rfl) ?_
  refine va_get (D := D) (ci := 9) (v := .ref (ad 3)) (C := RX9) (T := TX9) (N := 15) hx hb htg in_X9 hown hK hP 0 rfl rfl 3 (by decide) (htg _ tw_523) (fun _ h9 => h9) rfl dX9_deposit_23 ?_
  refine lv_iload_n hx hb dX9_deposit_26 rfl (lv_at hl 1 rfl) ?_
  refine va_iald hx hb hK hP 3 2 rfl rfl (ht) dX9_deposit_27 ?_
  refine lv_iconst (v := 2) hx hb dX9_deposit_28 (by decide) ?_
  refine lv_idiv hx hb dX9_deposit_29 (by decide) ?_
  refine lv_aload_n hx hb dX9_deposit_30 rfl (lv_at hl 0 rfl) ?_
  refine va_get (D := D) (ci := 9) (v := .ref (ad 1)) (C := RX9) (T := TX9) (N := 15) hx hb htg in_X9 hown hK hP 0 rfl rfl 1 (by decide) (htg _ tw_521) (fun _ h9 => h9) rfl dX9_deposit_31 ?_
  refine lv_iload_n hx hb dX9_deposit_34 rfl (lv_at hl 1 rfl) ?_
  refine va_iald hx hb hK hP 1 0 rfl rfl (ht) dX9_deposit_35 ?_
  rw [hkd]
  refine lv_iconst (v := 4) hx hb dX9_deposit_36 (by decide) ?_
  refine lv_icmp_ne (tgt := 46) hx hb dX9_deposit_37 (by decide) (fun c37 => ?_) (fun c37 => absurd c37 ((by decide)))
  refine lv_iconst (v := 0) hx hb dX9_deposit_46 (by decide) ?_
  refine lv_iadd hx hb dX9_deposit_47 ?_
  exact hs_iret hx hb hrt hlocks hK hP hD hS dX9_deposit_48 (by unfold dpF; first | rfl | (simp; done)) (by first | (simp only [bds, dpN, List.foldl_cons, List.foldl_nil]; done) | rfl)

set_option maxHeartbeats 400000 in
set_option maxRecDepth 100000 in
theorem c_X9_deposit_2 (l : Launch) (D : va_G) (o : Nat) (ad : Nat → Nat) (cd : Nat → ClassId) (tn td cs hd : Int32) (kd rt vl hr hw cu si : Nat → Int32) (acc : Nat → Int64) (st : TS) (t : Int32) (ht : vp_in t 24) (hkd : kd t.toNatClampNeg = nI 2) (hok : okM 2 st) : CM l D yX9_deposit cX9_deposit 2 (some .int) { frames := 1, cells := 0, slots := 0, locals := 21 } (tyM cd) [.ref o, .int t] (mW o ad cd tn td cs hd kd rt vl hr hw cu si acc st) (hs_QI D (tyM cd) (dpF 2 (vl t.toNatClampNeg)) (mW o ad cd tn td cs hd kd rt vl hr hw cu si acc (bds (dpN 2) st))) := by
  refine CM.of (by decide) (Nat.le_of_ble_eq_true rfl) ?_
  intro p e s m below meth c A ls hx hb hrt hml htg hown hlocks hnm hA hK hP hD hS hl
  have hown : s.vm.findClass RX9 = some m.cls := hown
  have hl : lv_has ls 2 [(0, .ref o), (1, .int t)] := hl
  have SF : CallFix p m c cX9_deposit 2 s _ hs_gt RX9 := ⟨hx, hb, hml, hown, htg⟩
  have hkd : kd t.toNatClampNeg = 2 := hkd
  refine lv_aload_n hx hb dX9_deposit_0 rfl (lv_at hl 0 rfl) ?_
  refine va_get (D := D) (ci := 9) (v := .ref (ad 1)) (C := RX9) (T := TX9) (N := 15) hx hb htg in_X9 hown hK hP 0 rfl rfl 1 (by decide) (htg _ tw_521) (fun _ h9 => h9) rfl dX9_deposit_1 ?_
  refine lv_iload_n hx hb dX9_deposit_4 rfl (lv_at hl 1 rfl) ?_
  refine va_iald hx hb hK hP 1 0 rfl rfl (ht) dX9_deposit_5 ?_
  rw [hkd]
  refine lv_iconst (v := 4) hx hb dX9_deposit_6 (by decide) ?_
  refine lv_icmp_ne (tgt := 16) hx hb dX9_deposit_7 (by decide) (fun c7 => ?_) (fun c7 => absurd c7 ((by decide)))
  refine lv_aload_n hx hb dX9_deposit_16 rfl (lv_at hl 0 rfl) ?_
  refine lv_bipush (v := 31) hx hb dX9_deposit_17 (by decide) ?_
  refine hs_callv0 (w1 := (mW o ad cd tn td cs hd kd rt vl hr hw cu si acc (bdT 31 st))) (hs_runV (q0 := 0) SF cal_X9_body tw_598 (c_X9_body l D o ad cd tn td cs hd kd rt vl hr hw cu si acc st (okM_mono hok (by decide)) 31) hK hP hD rfl rfl ⟨Nat.le_of_ble_eq_true rfl, Nat.le_of_ble_eq_true rfl⟩ rfl hl.1 rfl (Nat.le_of_ble_eq_true rfl) dX9_deposit_19 ⟨Nat.le_of_ble_eq_true rfl, Nat.le_of_ble_eq_true rfl⟩) hD hS hA (fun H locs hP hD hS => ?_)
  refine lv_aload_n hx hb dX9_deposit_22 rfl (lv_at hl 0 rfl) ?_
  refine va_get (D := D) (ci := 9) (v := .ref (ad 3)) (C := RX9) (T := TX9) (N := 15) hx hb htg in_X9 hown hK hP 0 rfl rfl 3 (by decide) (htg _ tw_523) (fun _ h9 => h9) rfl dX9_deposit_23 ?_
  refine lv_iload_n hx hb dX9_deposit_26 rfl (lv_at hl 1 rfl) ?_
  refine va_iald hx hb hK hP 3 2 rfl rfl (ht) dX9_deposit_27 ?_
  refine lv_iconst (v := 2) hx hb dX9_deposit_28 (by decide) ?_
  refine lv_idiv hx hb dX9_deposit_29 (by decide) ?_
  refine lv_aload_n hx hb dX9_deposit_30 rfl (lv_at hl 0 rfl) ?_
  refine va_get (D := D) (ci := 9) (v := .ref (ad 1)) (C := RX9) (T := TX9) (N := 15) hx hb htg in_X9 hown hK hP 0 rfl rfl 1 (by decide) (htg _ tw_521) (fun _ h9 => h9) rfl dX9_deposit_31 ?_
  refine lv_iload_n hx hb dX9_deposit_34 rfl (lv_at hl 1 rfl) ?_
  refine va_iald hx hb hK hP 1 0 rfl rfl (ht) dX9_deposit_35 ?_
  rw [hkd]
  refine lv_iconst (v := 4) hx hb dX9_deposit_36 (by decide) ?_
  refine lv_icmp_ne (tgt := 46) hx hb dX9_deposit_37 (by decide) (fun c37 => ?_) (fun c37 => absurd c37 ((by decide)))
  refine lv_iconst (v := 0) hx hb dX9_deposit_46 (by decide) ?_
  refine lv_iadd hx hb dX9_deposit_47 ?_
  exact hs_iret hx hb hrt hlocks hK hP hD hS dX9_deposit_48 (by unfold dpF; first | rfl | (simp; done)) (by first | (simp only [bds, dpN, List.foldl_cons, List.foldl_nil]; done) | rfl)

set_option maxHeartbeats 400000 in
set_option maxRecDepth 100000 in
theorem c_X9_deposit_3 (l : Launch) (D : va_G) (o : Nat) (ad : Nat → Nat) (cd : Nat → ClassId) (tn td cs hd : Int32) (kd rt vl hr hw cu si : Nat → Int32) (acc : Nat → Int64) (st : TS) (t : Int32) (ht : vp_in t 24) (hkd : kd t.toNatClampNeg = nI 3) (hok : okM 2 st) : CM l D yX9_deposit cX9_deposit 2 (some .int) { frames := 1, cells := 0, slots := 0, locals := 21 } (tyM cd) [.ref o, .int t] (mW o ad cd tn td cs hd kd rt vl hr hw cu si acc st) (hs_QI D (tyM cd) (dpF 3 (vl t.toNatClampNeg)) (mW o ad cd tn td cs hd kd rt vl hr hw cu si acc (bds (dpN 3) st))) := by
  refine CM.of (by decide) (Nat.le_of_ble_eq_true rfl) ?_
  intro p e s m below meth c A ls hx hb hrt hml htg hown hlocks hnm hA hK hP hD hS hl
  have hown : s.vm.findClass RX9 = some m.cls := hown
  have hl : lv_has ls 2 [(0, .ref o), (1, .int t)] := hl
  have SF : CallFix p m c cX9_deposit 2 s _ hs_gt RX9 := ⟨hx, hb, hml, hown, htg⟩
  have hkd : kd t.toNatClampNeg = 3 := hkd
  refine lv_aload_n hx hb dX9_deposit_0 rfl (lv_at hl 0 rfl) ?_
  refine va_get (D := D) (ci := 9) (v := .ref (ad 1)) (C := RX9) (T := TX9) (N := 15) hx hb htg in_X9 hown hK hP 0 rfl rfl 1 (by decide) (htg _ tw_521) (fun _ h9 => h9) rfl dX9_deposit_1 ?_
  refine lv_iload_n hx hb dX9_deposit_4 rfl (lv_at hl 1 rfl) ?_
  refine va_iald hx hb hK hP 1 0 rfl rfl (ht) dX9_deposit_5 ?_
  rw [hkd]
  refine lv_iconst (v := 4) hx hb dX9_deposit_6 (by decide) ?_
  refine lv_icmp_ne (tgt := 16) hx hb dX9_deposit_7 (by decide) (fun c7 => ?_) (fun c7 => absurd c7 ((by decide)))
  refine lv_aload_n hx hb dX9_deposit_16 rfl (lv_at hl 0 rfl) ?_
  refine lv_bipush (v := 31) hx hb dX9_deposit_17 (by decide) ?_
  refine hs_callv0 (w1 := (mW o ad cd tn td cs hd kd rt vl hr hw cu si acc (bdT 31 st))) (hs_runV (q0 := 0) SF cal_X9_body tw_598 (c_X9_body l D o ad cd tn td cs hd kd rt vl hr hw cu si acc st (okM_mono hok (by decide)) 31) hK hP hD rfl rfl ⟨Nat.le_of_ble_eq_true rfl, Nat.le_of_ble_eq_true rfl⟩ rfl hl.1 rfl (Nat.le_of_ble_eq_true rfl) dX9_deposit_19 ⟨Nat.le_of_ble_eq_true rfl, Nat.le_of_ble_eq_true rfl⟩) hD hS hA (fun H locs hP hD hS => ?_)
  refine lv_aload_n hx hb dX9_deposit_22 rfl (lv_at hl 0 rfl) ?_
  refine va_get (D := D) (ci := 9) (v := .ref (ad 3)) (C := RX9) (T := TX9) (N := 15) hx hb htg in_X9 hown hK hP 0 rfl rfl 3 (by decide) (htg _ tw_523) (fun _ h9 => h9) rfl dX9_deposit_23 ?_
  refine lv_iload_n hx hb dX9_deposit_26 rfl (lv_at hl 1 rfl) ?_
  refine va_iald hx hb hK hP 3 2 rfl rfl (ht) dX9_deposit_27 ?_
  refine lv_iconst (v := 2) hx hb dX9_deposit_28 (by decide) ?_
  refine lv_idiv hx hb dX9_deposit_29 (by decide) ?_
  refine lv_aload_n hx hb dX9_deposit_30 rfl (lv_at hl 0 rfl) ?_
  refine va_get (D := D) (ci := 9) (v := .ref (ad 1)) (C := RX9) (T := TX9) (N := 15) hx hb htg in_X9 hown hK hP 0 rfl rfl 1 (by decide) (htg _ tw_521) (fun _ h9 => h9) rfl dX9_deposit_31 ?_
  refine lv_iload_n hx hb dX9_deposit_34 rfl (lv_at hl 1 rfl) ?_
  refine va_iald hx hb hK hP 1 0 rfl rfl (ht) dX9_deposit_35 ?_
  rw [hkd]
  refine lv_iconst (v := 4) hx hb dX9_deposit_36 (by decide) ?_
  refine lv_icmp_ne (tgt := 46) hx hb dX9_deposit_37 (by decide) (fun c37 => ?_) (fun c37 => absurd c37 ((by decide)))
  refine lv_iconst (v := 0) hx hb dX9_deposit_46 (by decide) ?_
  refine lv_iadd hx hb dX9_deposit_47 ?_
  exact hs_iret hx hb hrt hlocks hK hP hD hS dX9_deposit_48 (by unfold dpF; first | rfl | (simp; done)) (by first | (simp only [bds, dpN, List.foldl_cons, List.foldl_nil]; done) | rfl)

set_option maxHeartbeats 400000 in
set_option maxRecDepth 100000 in
theorem c_X9_deposit_4 (l : Launch) (D : va_G) (o : Nat) (ad : Nat → Nat) (cd : Nat → ClassId) (tn td cs hd : Int32) (kd rt vl hr hw cu si : Nat → Int32) (acc : Nat → Int64) (st : TS) (t : Int32) (ht : vp_in t 24) (hkd : kd t.toNatClampNeg = nI 4) (hok : okM 2 st) : CM l D yX9_deposit cX9_deposit 2 (some .int) { frames := 1, cells := 0, slots := 0, locals := 21 } (tyM cd) [.ref o, .int t] (mW o ad cd tn td cs hd kd rt vl hr hw cu si acc st) (hs_QI D (tyM cd) (dpF 4 (vl t.toNatClampNeg)) (mW o ad cd tn td cs hd kd rt vl hr hw cu si acc (bds (dpN 4) st))) := by
  refine CM.of (by decide) (Nat.le_of_ble_eq_true rfl) ?_
  intro p e s m below meth c A ls hx hb hrt hml htg hown hlocks hnm hA hK hP hD hS hl
  have hown : s.vm.findClass RX9 = some m.cls := hown
  have hl : lv_has ls 2 [(0, .ref o), (1, .int t)] := hl
  have SF : CallFix p m c cX9_deposit 2 s _ hs_gt RX9 := ⟨hx, hb, hml, hown, htg⟩
  have hkd : kd t.toNatClampNeg = 4 := hkd
  refine lv_aload_n hx hb dX9_deposit_0 rfl (lv_at hl 0 rfl) ?_
  refine va_get (D := D) (ci := 9) (v := .ref (ad 1)) (C := RX9) (T := TX9) (N := 15) hx hb htg in_X9 hown hK hP 0 rfl rfl 1 (by decide) (htg _ tw_521) (fun _ h9 => h9) rfl dX9_deposit_1 ?_
  refine lv_iload_n hx hb dX9_deposit_4 rfl (lv_at hl 1 rfl) ?_
  refine va_iald hx hb hK hP 1 0 rfl rfl (ht) dX9_deposit_5 ?_
  rw [hkd]
  refine lv_iconst (v := 4) hx hb dX9_deposit_6 (by decide) ?_
  refine lv_icmp_ne (tgt := 16) hx hb dX9_deposit_7 (by decide) (fun c7 => absurd c7 ((by decide))) (fun c7 => ?_)
  refine lv_aload_n hx hb dX9_deposit_10 rfl (lv_at hl 0 rfl) ?_
  refine lv_bipush (v := 32) hx hb dX9_deposit_11 (by decide) ?_
  refine hs_callv0 (w1 := (mW o ad cd tn td cs hd kd rt vl hr hw cu si acc (bdT 32 st))) (hs_runV (q0 := 0) SF cal_X9_body tw_598 (c_X9_body l D o ad cd tn td cs hd kd rt vl hr hw cu si acc st (okM_mono hok (by decide)) 32) hK hP hD rfl rfl ⟨Nat.le_of_ble_eq_true rfl, Nat.le_of_ble_eq_true rfl⟩ rfl hl.1 rfl (Nat.le_of_ble_eq_true rfl) dX9_deposit_13 ⟨Nat.le_of_ble_eq_true rfl, Nat.le_of_ble_eq_true rfl⟩) hD hS hA (fun H locs hP hD hS => ?_)
  refine lv_aload_n hx hb dX9_deposit_16 rfl (lv_at hl 0 rfl) ?_
  refine lv_bipush (v := 31) hx hb dX9_deposit_17 (by decide) ?_
  refine hs_callv0 (w1 := (mW o ad cd tn td cs hd kd rt vl hr hw cu si acc (bdT 31 (bdT 32 st)))) (hs_runV (q0 := 0) SF cal_X9_body tw_598 (c_X9_body l D o ad cd tn td cs hd kd rt vl hr hw cu si acc (bdT 32 st) (okM_bd 32 hok) 31) hK hP hD rfl rfl ⟨Nat.le_of_ble_eq_true rfl, Nat.le_of_ble_eq_true rfl⟩ rfl hl.1 rfl (Nat.le_of_ble_eq_true rfl) dX9_deposit_19 ⟨Nat.le_of_ble_eq_true rfl, Nat.le_of_ble_eq_true rfl⟩) hD hS hA (fun H locs hP hD hS => ?_)
  refine lv_aload_n hx hb dX9_deposit_22 rfl (lv_at hl 0 rfl) ?_
  refine va_get (D := D) (ci := 9) (v := .ref (ad 3)) (C := RX9) (T := TX9) (N := 15) hx hb htg in_X9 hown hK hP 0 rfl rfl 3 (by decide) (htg _ tw_523) (fun _ h9 => h9) rfl dX9_deposit_23 ?_
  refine lv_iload_n hx hb dX9_deposit_26 rfl (lv_at hl 1 rfl) ?_
  refine va_iald hx hb hK hP 3 2 rfl rfl (ht) dX9_deposit_27 ?_
  refine lv_iconst (v := 2) hx hb dX9_deposit_28 (by decide) ?_
  refine lv_idiv hx hb dX9_deposit_29 (by decide) ?_
  refine lv_aload_n hx hb dX9_deposit_30 rfl (lv_at hl 0 rfl) ?_
  refine va_get (D := D) (ci := 9) (v := .ref (ad 1)) (C := RX9) (T := TX9) (N := 15) hx hb htg in_X9 hown hK hP 0 rfl rfl 1 (by decide) (htg _ tw_521) (fun _ h9 => h9) rfl dX9_deposit_31 ?_
  refine lv_iload_n hx hb dX9_deposit_34 rfl (lv_at hl 1 rfl) ?_
  refine va_iald hx hb hK hP 1 0 rfl rfl (ht) dX9_deposit_35 ?_
  rw [hkd]
  refine lv_iconst (v := 4) hx hb dX9_deposit_36 (by decide) ?_
  refine lv_icmp_ne (tgt := 46) hx hb dX9_deposit_37 (by decide) (fun c37 => absurd c37 ((by decide))) (fun c37 => ?_)
  refine lv_sipush (v := 500) hx hb dX9_deposit_40 (by decide) ?_
  refine lv_goto (tgt := 47) hx hb dX9_deposit_43 (by decide) ?_
  refine lv_iadd hx hb dX9_deposit_47 ?_
  exact hs_iret hx hb hrt hlocks hK hP hD hS dX9_deposit_48 (by unfold dpF; first | rfl | (simp; done)) (by first | (simp only [bds, dpN, List.foldl_cons, List.foldl_nil]; done) | rfl)

set_option maxHeartbeats 400000 in
set_option maxRecDepth 100000 in
theorem c_X9_deposit_5 (l : Launch) (D : va_G) (o : Nat) (ad : Nat → Nat) (cd : Nat → ClassId) (tn td cs hd : Int32) (kd rt vl hr hw cu si : Nat → Int32) (acc : Nat → Int64) (st : TS) (t : Int32) (ht : vp_in t 24) (hkd : kd t.toNatClampNeg = nI 5) (hok : okM 2 st) : CM l D yX9_deposit cX9_deposit 2 (some .int) { frames := 1, cells := 0, slots := 0, locals := 21 } (tyM cd) [.ref o, .int t] (mW o ad cd tn td cs hd kd rt vl hr hw cu si acc st) (hs_QI D (tyM cd) (dpF 5 (vl t.toNatClampNeg)) (mW o ad cd tn td cs hd kd rt vl hr hw cu si acc (bds (dpN 5) st))) := by
  refine CM.of (by decide) (Nat.le_of_ble_eq_true rfl) ?_
  intro p e s m below meth c A ls hx hb hrt hml htg hown hlocks hnm hA hK hP hD hS hl
  have hown : s.vm.findClass RX9 = some m.cls := hown
  have hl : lv_has ls 2 [(0, .ref o), (1, .int t)] := hl
  have SF : CallFix p m c cX9_deposit 2 s _ hs_gt RX9 := ⟨hx, hb, hml, hown, htg⟩
  have hkd : kd t.toNatClampNeg = 5 := hkd
  refine lv_aload_n hx hb dX9_deposit_0 rfl (lv_at hl 0 rfl) ?_
  refine va_get (D := D) (ci := 9) (v := .ref (ad 1)) (C := RX9) (T := TX9) (N := 15) hx hb htg in_X9 hown hK hP 0 rfl rfl 1 (by decide) (htg _ tw_521) (fun _ h9 => h9) rfl dX9_deposit_1 ?_
  refine lv_iload_n hx hb dX9_deposit_4 rfl (lv_at hl 1 rfl) ?_
  refine va_iald hx hb hK hP 1 0 rfl rfl (ht) dX9_deposit_5 ?_
  rw [hkd]
  refine lv_iconst (v := 4) hx hb dX9_deposit_6 (by decide) ?_
  refine lv_icmp_ne (tgt := 16) hx hb dX9_deposit_7 (by decide) (fun c7 => ?_) (fun c7 => absurd c7 ((by decide)))
  refine lv_aload_n hx hb dX9_deposit_16 rfl (lv_at hl 0 rfl) ?_
  refine lv_bipush (v := 31) hx hb dX9_deposit_17 (by decide) ?_
  refine hs_callv0 (w1 := (mW o ad cd tn td cs hd kd rt vl hr hw cu si acc (bdT 31 st))) (hs_runV (q0 := 0) SF cal_X9_body tw_598 (c_X9_body l D o ad cd tn td cs hd kd rt vl hr hw cu si acc st (okM_mono hok (by decide)) 31) hK hP hD rfl rfl ⟨Nat.le_of_ble_eq_true rfl, Nat.le_of_ble_eq_true rfl⟩ rfl hl.1 rfl (Nat.le_of_ble_eq_true rfl) dX9_deposit_19 ⟨Nat.le_of_ble_eq_true rfl, Nat.le_of_ble_eq_true rfl⟩) hD hS hA (fun H locs hP hD hS => ?_)
  refine lv_aload_n hx hb dX9_deposit_22 rfl (lv_at hl 0 rfl) ?_
  refine va_get (D := D) (ci := 9) (v := .ref (ad 3)) (C := RX9) (T := TX9) (N := 15) hx hb htg in_X9 hown hK hP 0 rfl rfl 3 (by decide) (htg _ tw_523) (fun _ h9 => h9) rfl dX9_deposit_23 ?_
  refine lv_iload_n hx hb dX9_deposit_26 rfl (lv_at hl 1 rfl) ?_
  refine va_iald hx hb hK hP 3 2 rfl rfl (ht) dX9_deposit_27 ?_
  refine lv_iconst (v := 2) hx hb dX9_deposit_28 (by decide) ?_
  refine lv_idiv hx hb dX9_deposit_29 (by decide) ?_
  refine lv_aload_n hx hb dX9_deposit_30 rfl (lv_at hl 0 rfl) ?_
  refine va_get (D := D) (ci := 9) (v := .ref (ad 1)) (C := RX9) (T := TX9) (N := 15) hx hb htg in_X9 hown hK hP 0 rfl rfl 1 (by decide) (htg _ tw_521) (fun _ h9 => h9) rfl dX9_deposit_31 ?_
  refine lv_iload_n hx hb dX9_deposit_34 rfl (lv_at hl 1 rfl) ?_
  refine va_iald hx hb hK hP 1 0 rfl rfl (ht) dX9_deposit_35 ?_
  rw [hkd]
  refine lv_iconst (v := 4) hx hb dX9_deposit_36 (by decide) ?_
  refine lv_icmp_ne (tgt := 46) hx hb dX9_deposit_37 (by decide) (fun c37 => ?_) (fun c37 => absurd c37 ((by decide)))
  refine lv_iconst (v := 0) hx hb dX9_deposit_46 (by decide) ?_
  refine lv_iadd hx hb dX9_deposit_47 ?_
  exact hs_iret hx hb hrt hlocks hK hP hD hS dX9_deposit_48 (by unfold dpF; first | rfl | (simp; done)) (by first | (simp only [bds, dpN, List.foldl_cons, List.foldl_nil]; done) | rfl)

set_option maxHeartbeats 400000 in
set_option maxRecDepth 100000 in
theorem c_X9_deposit_6 (l : Launch) (D : va_G) (o : Nat) (ad : Nat → Nat) (cd : Nat → ClassId) (tn td cs hd : Int32) (kd rt vl hr hw cu si : Nat → Int32) (acc : Nat → Int64) (st : TS) (t : Int32) (ht : vp_in t 24) (hkd : kd t.toNatClampNeg = nI 6) (hok : okM 2 st) : CM l D yX9_deposit cX9_deposit 2 (some .int) { frames := 1, cells := 0, slots := 0, locals := 21 } (tyM cd) [.ref o, .int t] (mW o ad cd tn td cs hd kd rt vl hr hw cu si acc st) (hs_QI D (tyM cd) (dpF 6 (vl t.toNatClampNeg)) (mW o ad cd tn td cs hd kd rt vl hr hw cu si acc (bds (dpN 6) st))) := by
  refine CM.of (by decide) (Nat.le_of_ble_eq_true rfl) ?_
  intro p e s m below meth c A ls hx hb hrt hml htg hown hlocks hnm hA hK hP hD hS hl
  have hown : s.vm.findClass RX9 = some m.cls := hown
  have hl : lv_has ls 2 [(0, .ref o), (1, .int t)] := hl
  have SF : CallFix p m c cX9_deposit 2 s _ hs_gt RX9 := ⟨hx, hb, hml, hown, htg⟩
  have hkd : kd t.toNatClampNeg = 6 := hkd
  refine lv_aload_n hx hb dX9_deposit_0 rfl (lv_at hl 0 rfl) ?_
  refine va_get (D := D) (ci := 9) (v := .ref (ad 1)) (C := RX9) (T := TX9) (N := 15) hx hb htg in_X9 hown hK hP 0 rfl rfl 1 (by decide) (htg _ tw_521) (fun _ h9 => h9) rfl dX9_deposit_1 ?_
  refine lv_iload_n hx hb dX9_deposit_4 rfl (lv_at hl 1 rfl) ?_
  refine va_iald hx hb hK hP 1 0 rfl rfl (ht) dX9_deposit_5 ?_
  rw [hkd]
  refine lv_iconst (v := 4) hx hb dX9_deposit_6 (by decide) ?_
  refine lv_icmp_ne (tgt := 16) hx hb dX9_deposit_7 (by decide) (fun c7 => ?_) (fun c7 => absurd c7 ((by decide)))
  refine lv_aload_n hx hb dX9_deposit_16 rfl (lv_at hl 0 rfl) ?_
  refine lv_bipush (v := 31) hx hb dX9_deposit_17 (by decide) ?_
  refine hs_callv0 (w1 := (mW o ad cd tn td cs hd kd rt vl hr hw cu si acc (bdT 31 st))) (hs_runV (q0 := 0) SF cal_X9_body tw_598 (c_X9_body l D o ad cd tn td cs hd kd rt vl hr hw cu si acc st (okM_mono hok (by decide)) 31) hK hP hD rfl rfl ⟨Nat.le_of_ble_eq_true rfl, Nat.le_of_ble_eq_true rfl⟩ rfl hl.1 rfl (Nat.le_of_ble_eq_true rfl) dX9_deposit_19 ⟨Nat.le_of_ble_eq_true rfl, Nat.le_of_ble_eq_true rfl⟩) hD hS hA (fun H locs hP hD hS => ?_)
  refine lv_aload_n hx hb dX9_deposit_22 rfl (lv_at hl 0 rfl) ?_
  refine va_get (D := D) (ci := 9) (v := .ref (ad 3)) (C := RX9) (T := TX9) (N := 15) hx hb htg in_X9 hown hK hP 0 rfl rfl 3 (by decide) (htg _ tw_523) (fun _ h9 => h9) rfl dX9_deposit_23 ?_
  refine lv_iload_n hx hb dX9_deposit_26 rfl (lv_at hl 1 rfl) ?_
  refine va_iald hx hb hK hP 3 2 rfl rfl (ht) dX9_deposit_27 ?_
  refine lv_iconst (v := 2) hx hb dX9_deposit_28 (by decide) ?_
  refine lv_idiv hx hb dX9_deposit_29 (by decide) ?_
  refine lv_aload_n hx hb dX9_deposit_30 rfl (lv_at hl 0 rfl) ?_
  refine va_get (D := D) (ci := 9) (v := .ref (ad 1)) (C := RX9) (T := TX9) (N := 15) hx hb htg in_X9 hown hK hP 0 rfl rfl 1 (by decide) (htg _ tw_521) (fun _ h9 => h9) rfl dX9_deposit_31 ?_
  refine lv_iload_n hx hb dX9_deposit_34 rfl (lv_at hl 1 rfl) ?_
  refine va_iald hx hb hK hP 1 0 rfl rfl (ht) dX9_deposit_35 ?_
  rw [hkd]
  refine lv_iconst (v := 4) hx hb dX9_deposit_36 (by decide) ?_
  refine lv_icmp_ne (tgt := 46) hx hb dX9_deposit_37 (by decide) (fun c37 => ?_) (fun c37 => absurd c37 ((by decide)))
  refine lv_iconst (v := 0) hx hb dX9_deposit_46 (by decide) ?_
  refine lv_iadd hx hb dX9_deposit_47 ?_
  exact hs_iret hx hb hrt hlocks hK hP hD hS dX9_deposit_48 (by unfold dpF; first | rfl | (simp; done)) (by first | (simp only [bds, dpN, List.foldl_cons, List.foldl_nil]; done) | rfl)

theorem c_X9_deposit (l : Launch) (D : va_G) (o : Nat) (ad : Nat → Nat) (cd : Nat → ClassId) (tn td cs hd : Int32) (kd rt vl hr hw cu si : Nat → Int32) (acc : Nat → Int64) (st : TS) (t : Int32) (ht : vp_in t 24) (k : Nat) (hk : k < 7) (hkd : kd t.toNatClampNeg = nI k) (hok : okM 2 st) (hg : ¬ hasD k = 0) : CM l D yX9_deposit cX9_deposit 2 (some .int) { frames := 1, cells := 0, slots := 0, locals := 21 } (tyM cd) [.ref o, .int t] (mW o ad cd tn td cs hd kd rt vl hr hw cu si acc st) (hs_QI D (tyM cd) (dpF k (vl t.toNatClampNeg)) (mW o ad cd tn td cs hd kd rt vl hr hw cu si acc (bds (dpN k) st))) := by
  match k, hk, hkd, hg with
  | 0, _, _, hg => exact absurd hg (by decide)
  | 1, _, hkd, hg => exact c_X9_deposit_1 l D o ad cd tn td cs hd kd rt vl hr hw cu si acc st t ht hkd hok 
  | 2, _, hkd, hg => exact c_X9_deposit_2 l D o ad cd tn td cs hd kd rt vl hr hw cu si acc st t ht hkd hok 
  | 3, _, hkd, hg => exact c_X9_deposit_3 l D o ad cd tn td cs hd kd rt vl hr hw cu si acc st t ht hkd hok 
  | 4, _, hkd, hg => exact c_X9_deposit_4 l D o ad cd tn td cs hd kd rt vl hr hw cu si acc st t ht hkd hok 
  | 5, _, hkd, hg => exact c_X9_deposit_5 l D o ad cd tn td cs hd kd rt vl hr hw cu si acc st t ht hkd hok 
  | 6, _, hkd, hg => exact c_X9_deposit_6 l D o ad cd tn td cs hd kd rt vl hr hw cu si acc st t ht hkd hok 
  | k + 7, hk, _, _ => exact absurd hk (by omega)

theorem cal_X9_deposit : hs_cV yX9_deposit cX9_deposit 2 (some .int) 1 := ⟨tw_613, tw_612, tw_12, tw_19, by decide +kernel⟩

set_option maxHeartbeats 400000 in
set_option maxRecDepth 100000 in
theorem c_X9_isInsured_0 (l : Launch) (D : va_G) (o : Nat) (ad : Nat → Nat) (cd : Nat → ClassId) (tn td cs hd : Int32) (kd rt vl hr hw cu si : Nat → Int32) (acc : Nat → Int64) (st : TS) (t : Int32) (ht : vp_in t 24) (hkd : kd t.toNatClampNeg = nI 0) : CM l D yX9_isInsured cX9_isInsured 2 (some .boolean) { frames := 1, cells := 0, slots := 0, locals := 22 } (tyM cd) [.ref o, .int t] (mW o ad cd tn td cs hd kd rt vl hr hw cu si acc st) (hs_QI D (tyM cd) (isI 0) (mW o ad cd tn td cs hd kd rt vl hr hw cu si acc st)) := by
  refine CM.of (by decide) (Nat.le_of_ble_eq_true rfl) ?_
  intro p e s m below meth c A ls hx hb hrt hml htg hown hlocks hnm hA hK hP hD hS hl
  have hown : s.vm.findClass RX9 = some m.cls := hown
  have hl : lv_has ls 2 [(0, .ref o), (1, .int t)] := hl
  have SF : CallFix p m c cX9_isInsured 2 s _ hs_gt RX9 := ⟨hx, hb, hml, hown, htg⟩
  have hkd : kd t.toNatClampNeg = 0 := hkd
  refine lv_aload_n hx hb dX9_isInsured_0 rfl (lv_at hl 0 rfl) ?_
  refine va_get (D := D) (ci := 9) (v := .ref (ad 1)) (C := RX9) (T := TX9) (N := 15) hx hb htg in_X9 hown hK hP 0 rfl rfl 1 (by decide) (htg _ tw_521) (fun _ h9 => h9) rfl dX9_isInsured_1 ?_
  refine lv_iload_n hx hb dX9_isInsured_4 rfl (lv_at hl 1 rfl) ?_
  refine va_iald hx hb hK hP 1 0 rfl rfl (ht) dX9_isInsured_5 ?_
  rw [hkd]
  refine lv_iconst (v := 2) hx hb dX9_isInsured_6 (by decide) ?_
  refine lv_iconst (v := 4) hx hb dX9_isInsured_7 (by decide) ?_
  refine hs_calli0 (w1 := (mW o ad cd tn td cs hd kd rt vl hr hw cu si acc st)) (hs_runS SF cal_X9_in tw_570 (c_X9_in l D o ad cd tn td cs hd kd rt vl hr hw cu si acc st 0 2 4) hK hP hD ⟨Nat.le_of_ble_eq_true rfl, Nat.le_of_ble_eq_true rfl⟩ rfl hl.1 rfl (Nat.le_of_ble_eq_true rfl) dX9_isInsured_8 ⟨Nat.le_of_ble_eq_true rfl, Nat.le_of_ble_eq_true rfl⟩) hD hS hA (fun H locs hP hD hS => ?_)
  exact hs_zret hx hb hrt hlocks hK hP hD hS dX9_isInsured_11 (nz_wi _ _ _) (by decide) (rfl)

set_option maxHeartbeats 400000 in
set_option maxRecDepth 100000 in
theorem c_X9_isInsured_1 (l : Launch) (D : va_G) (o : Nat) (ad : Nat → Nat) (cd : Nat → ClassId) (tn td cs hd : Int32) (kd rt vl hr hw cu si : Nat → Int32) (acc : Nat → Int64) (st : TS) (t : Int32) (ht : vp_in t 24) (hkd : kd t.toNatClampNeg = nI 1) : CM l D yX9_isInsured cX9_isInsured 2 (some .boolean) { frames := 1, cells := 0, slots := 0, locals := 22 } (tyM cd) [.ref o, .int t] (mW o ad cd tn td cs hd kd rt vl hr hw cu si acc st) (hs_QI D (tyM cd) (isI 1) (mW o ad cd tn td cs hd kd rt vl hr hw cu si acc st)) := by
  refine CM.of (by decide) (Nat.le_of_ble_eq_true rfl) ?_
  intro p e s m below meth c A ls hx hb hrt hml htg hown hlocks hnm hA hK hP hD hS hl
  have hown : s.vm.findClass RX9 = some m.cls := hown
  have hl : lv_has ls 2 [(0, .ref o), (1, .int t)] := hl
  have SF : CallFix p m c cX9_isInsured 2 s _ hs_gt RX9 := ⟨hx, hb, hml, hown, htg⟩
  have hkd : kd t.toNatClampNeg = 1 := hkd
  refine lv_aload_n hx hb dX9_isInsured_0 rfl (lv_at hl 0 rfl) ?_
  refine va_get (D := D) (ci := 9) (v := .ref (ad 1)) (C := RX9) (T := TX9) (N := 15) hx hb htg in_X9 hown hK hP 0 rfl rfl 1 (by decide) (htg _ tw_521) (fun _ h9 => h9) rfl dX9_isInsured_1 ?_
  refine lv_iload_n hx hb dX9_isInsured_4 rfl (lv_at hl 1 rfl) ?_
  refine va_iald hx hb hK hP 1 0 rfl rfl (ht) dX9_isInsured_5 ?_
  rw [hkd]
  refine lv_iconst (v := 2) hx hb dX9_isInsured_6 (by decide) ?_
  refine lv_iconst (v := 4) hx hb dX9_isInsured_7 (by decide) ?_
  refine hs_calli0 (w1 := (mW o ad cd tn td cs hd kd rt vl hr hw cu si acc st)) (hs_runS SF cal_X9_in tw_570 (c_X9_in l D o ad cd tn td cs hd kd rt vl hr hw cu si acc st 1 2 4) hK hP hD ⟨Nat.le_of_ble_eq_true rfl, Nat.le_of_ble_eq_true rfl⟩ rfl hl.1 rfl (Nat.le_of_ble_eq_true rfl) dX9_isInsured_8 ⟨Nat.le_of_ble_eq_true rfl, Nat.le_of_ble_eq_true rfl⟩) hD hS hA (fun H locs hP hD hS => ?_)
  exact hs_zret hx hb hrt hlocks hK hP hD hS dX9_isInsured_11 (nz_wi _ _ _) (by decide) (rfl)

set_option maxHeartbeats 400000 in
set_option maxRecDepth 100000 in
theorem c_X9_isInsured_2 (l : Launch) (D : va_G) (o : Nat) (ad : Nat → Nat) (cd : Nat → ClassId) (tn td cs hd : Int32) (kd rt vl hr hw cu si : Nat → Int32) (acc : Nat → Int64) (st : TS) (t : Int32) (ht : vp_in t 24) (hkd : kd t.toNatClampNeg = nI 2) : CM l D yX9_isInsured cX9_isInsured 2 (some .boolean) { frames := 1, cells := 0, slots := 0, locals := 22 } (tyM cd) [.ref o, .int t] (mW o ad cd tn td cs hd kd rt vl hr hw cu si acc st) (hs_QI D (tyM cd) (isI 2) (mW o ad cd tn td cs hd kd rt vl hr hw cu si acc st)) := by
  refine CM.of (by decide) (Nat.le_of_ble_eq_true rfl) ?_
  intro p e s m below meth c A ls hx hb hrt hml htg hown hlocks hnm hA hK hP hD hS hl
  have hown : s.vm.findClass RX9 = some m.cls := hown
  have hl : lv_has ls 2 [(0, .ref o), (1, .int t)] := hl
  have SF : CallFix p m c cX9_isInsured 2 s _ hs_gt RX9 := ⟨hx, hb, hml, hown, htg⟩
  have hkd : kd t.toNatClampNeg = 2 := hkd
  refine lv_aload_n hx hb dX9_isInsured_0 rfl (lv_at hl 0 rfl) ?_
  refine va_get (D := D) (ci := 9) (v := .ref (ad 1)) (C := RX9) (T := TX9) (N := 15) hx hb htg in_X9 hown hK hP 0 rfl rfl 1 (by decide) (htg _ tw_521) (fun _ h9 => h9) rfl dX9_isInsured_1 ?_
  refine lv_iload_n hx hb dX9_isInsured_4 rfl (lv_at hl 1 rfl) ?_
  refine va_iald hx hb hK hP 1 0 rfl rfl (ht) dX9_isInsured_5 ?_
  rw [hkd]
  refine lv_iconst (v := 2) hx hb dX9_isInsured_6 (by decide) ?_
  refine lv_iconst (v := 4) hx hb dX9_isInsured_7 (by decide) ?_
  refine hs_calli0 (w1 := (mW o ad cd tn td cs hd kd rt vl hr hw cu si acc st)) (hs_runS SF cal_X9_in tw_570 (c_X9_in l D o ad cd tn td cs hd kd rt vl hr hw cu si acc st 2 2 4) hK hP hD ⟨Nat.le_of_ble_eq_true rfl, Nat.le_of_ble_eq_true rfl⟩ rfl hl.1 rfl (Nat.le_of_ble_eq_true rfl) dX9_isInsured_8 ⟨Nat.le_of_ble_eq_true rfl, Nat.le_of_ble_eq_true rfl⟩) hD hS hA (fun H locs hP hD hS => ?_)
  exact hs_zret hx hb hrt hlocks hK hP hD hS dX9_isInsured_11 (nz_wi _ _ _) (by decide) (rfl)

set_option maxHeartbeats 400000 in
set_option maxRecDepth 100000 in
theorem c_X9_isInsured_3 (l : Launch) (D : va_G) (o : Nat) (ad : Nat → Nat) (cd : Nat → ClassId) (tn td cs hd : Int32) (kd rt vl hr hw cu si : Nat → Int32) (acc : Nat → Int64) (st : TS) (t : Int32) (ht : vp_in t 24) (hkd : kd t.toNatClampNeg = nI 3) : CM l D yX9_isInsured cX9_isInsured 2 (some .boolean) { frames := 1, cells := 0, slots := 0, locals := 22 } (tyM cd) [.ref o, .int t] (mW o ad cd tn td cs hd kd rt vl hr hw cu si acc st) (hs_QI D (tyM cd) (isI 3) (mW o ad cd tn td cs hd kd rt vl hr hw cu si acc st)) := by
  refine CM.of (by decide) (Nat.le_of_ble_eq_true rfl) ?_
  intro p e s m below meth c A ls hx hb hrt hml htg hown hlocks hnm hA hK hP hD hS hl
  have hown : s.vm.findClass RX9 = some m.cls := hown
  have hl : lv_has ls 2 [(0, .ref o), (1, .int t)] := hl
  have SF : CallFix p m c cX9_isInsured 2 s _ hs_gt RX9 := ⟨hx, hb, hml, hown, htg⟩
  have hkd : kd t.toNatClampNeg = 3 := hkd
  refine lv_aload_n hx hb dX9_isInsured_0 rfl (lv_at hl 0 rfl) ?_
  refine va_get (D := D) (ci := 9) (v := .ref (ad 1)) (C := RX9) (T := TX9) (N := 15) hx hb htg in_X9 hown hK hP 0 rfl rfl 1 (by decide) (htg _ tw_521) (fun _ h9 => h9) rfl dX9_isInsured_1 ?_
  refine lv_iload_n hx hb dX9_isInsured_4 rfl (lv_at hl 1 rfl) ?_
  refine va_iald hx hb hK hP 1 0 rfl rfl (ht) dX9_isInsured_5 ?_
  rw [hkd]
  refine lv_iconst (v := 2) hx hb dX9_isInsured_6 (by decide) ?_
  refine lv_iconst (v := 4) hx hb dX9_isInsured_7 (by decide) ?_
  refine hs_calli0 (w1 := (mW o ad cd tn td cs hd kd rt vl hr hw cu si acc st)) (hs_runS SF cal_X9_in tw_570 (c_X9_in l D o ad cd tn td cs hd kd rt vl hr hw cu si acc st 3 2 4) hK hP hD ⟨Nat.le_of_ble_eq_true rfl, Nat.le_of_ble_eq_true rfl⟩ rfl hl.1 rfl (Nat.le_of_ble_eq_true rfl) dX9_isInsured_8 ⟨Nat.le_of_ble_eq_true rfl, Nat.le_of_ble_eq_true rfl⟩) hD hS hA (fun H locs hP hD hS => ?_)
  exact hs_zret hx hb hrt hlocks hK hP hD hS dX9_isInsured_11 (nz_wi _ _ _) (by decide) (rfl)

set_option maxHeartbeats 400000 in
set_option maxRecDepth 100000 in
theorem c_X9_isInsured_4 (l : Launch) (D : va_G) (o : Nat) (ad : Nat → Nat) (cd : Nat → ClassId) (tn td cs hd : Int32) (kd rt vl hr hw cu si : Nat → Int32) (acc : Nat → Int64) (st : TS) (t : Int32) (ht : vp_in t 24) (hkd : kd t.toNatClampNeg = nI 4) : CM l D yX9_isInsured cX9_isInsured 2 (some .boolean) { frames := 1, cells := 0, slots := 0, locals := 22 } (tyM cd) [.ref o, .int t] (mW o ad cd tn td cs hd kd rt vl hr hw cu si acc st) (hs_QI D (tyM cd) (isI 4) (mW o ad cd tn td cs hd kd rt vl hr hw cu si acc st)) := by
  refine CM.of (by decide) (Nat.le_of_ble_eq_true rfl) ?_
  intro p e s m below meth c A ls hx hb hrt hml htg hown hlocks hnm hA hK hP hD hS hl
  have hown : s.vm.findClass RX9 = some m.cls := hown
  have hl : lv_has ls 2 [(0, .ref o), (1, .int t)] := hl
  have SF : CallFix p m c cX9_isInsured 2 s _ hs_gt RX9 := ⟨hx, hb, hml, hown, htg⟩
  have hkd : kd t.toNatClampNeg = 4 := hkd
  refine lv_aload_n hx hb dX9_isInsured_0 rfl (lv_at hl 0 rfl) ?_
  refine va_get (D := D) (ci := 9) (v := .ref (ad 1)) (C := RX9) (T := TX9) (N := 15) hx hb htg in_X9 hown hK hP 0 rfl rfl 1 (by decide) (htg _ tw_521) (fun _ h9 => h9) rfl dX9_isInsured_1 ?_
  refine lv_iload_n hx hb dX9_isInsured_4 rfl (lv_at hl 1 rfl) ?_
  refine va_iald hx hb hK hP 1 0 rfl rfl (ht) dX9_isInsured_5 ?_
  rw [hkd]
  refine lv_iconst (v := 2) hx hb dX9_isInsured_6 (by decide) ?_
  refine lv_iconst (v := 4) hx hb dX9_isInsured_7 (by decide) ?_
  refine hs_calli0 (w1 := (mW o ad cd tn td cs hd kd rt vl hr hw cu si acc st)) (hs_runS SF cal_X9_in tw_570 (c_X9_in l D o ad cd tn td cs hd kd rt vl hr hw cu si acc st 4 2 4) hK hP hD ⟨Nat.le_of_ble_eq_true rfl, Nat.le_of_ble_eq_true rfl⟩ rfl hl.1 rfl (Nat.le_of_ble_eq_true rfl) dX9_isInsured_8 ⟨Nat.le_of_ble_eq_true rfl, Nat.le_of_ble_eq_true rfl⟩) hD hS hA (fun H locs hP hD hS => ?_)
  exact hs_zret hx hb hrt hlocks hK hP hD hS dX9_isInsured_11 (nz_wi _ _ _) (by decide) (rfl)

set_option maxHeartbeats 400000 in
set_option maxRecDepth 100000 in
theorem c_X9_isInsured_5 (l : Launch) (D : va_G) (o : Nat) (ad : Nat → Nat) (cd : Nat → ClassId) (tn td cs hd : Int32) (kd rt vl hr hw cu si : Nat → Int32) (acc : Nat → Int64) (st : TS) (t : Int32) (ht : vp_in t 24) (hkd : kd t.toNatClampNeg = nI 5) : CM l D yX9_isInsured cX9_isInsured 2 (some .boolean) { frames := 1, cells := 0, slots := 0, locals := 22 } (tyM cd) [.ref o, .int t] (mW o ad cd tn td cs hd kd rt vl hr hw cu si acc st) (hs_QI D (tyM cd) (isI 5) (mW o ad cd tn td cs hd kd rt vl hr hw cu si acc st)) := by
  refine CM.of (by decide) (Nat.le_of_ble_eq_true rfl) ?_
  intro p e s m below meth c A ls hx hb hrt hml htg hown hlocks hnm hA hK hP hD hS hl
  have hown : s.vm.findClass RX9 = some m.cls := hown
  have hl : lv_has ls 2 [(0, .ref o), (1, .int t)] := hl
  have SF : CallFix p m c cX9_isInsured 2 s _ hs_gt RX9 := ⟨hx, hb, hml, hown, htg⟩
  have hkd : kd t.toNatClampNeg = 5 := hkd
  refine lv_aload_n hx hb dX9_isInsured_0 rfl (lv_at hl 0 rfl) ?_
  refine va_get (D := D) (ci := 9) (v := .ref (ad 1)) (C := RX9) (T := TX9) (N := 15) hx hb htg in_X9 hown hK hP 0 rfl rfl 1 (by decide) (htg _ tw_521) (fun _ h9 => h9) rfl dX9_isInsured_1 ?_
  refine lv_iload_n hx hb dX9_isInsured_4 rfl (lv_at hl 1 rfl) ?_
  refine va_iald hx hb hK hP 1 0 rfl rfl (ht) dX9_isInsured_5 ?_
  rw [hkd]
  refine lv_iconst (v := 2) hx hb dX9_isInsured_6 (by decide) ?_
  refine lv_iconst (v := 4) hx hb dX9_isInsured_7 (by decide) ?_
  refine hs_calli0 (w1 := (mW o ad cd tn td cs hd kd rt vl hr hw cu si acc st)) (hs_runS SF cal_X9_in tw_570 (c_X9_in l D o ad cd tn td cs hd kd rt vl hr hw cu si acc st 5 2 4) hK hP hD ⟨Nat.le_of_ble_eq_true rfl, Nat.le_of_ble_eq_true rfl⟩ rfl hl.1 rfl (Nat.le_of_ble_eq_true rfl) dX9_isInsured_8 ⟨Nat.le_of_ble_eq_true rfl, Nat.le_of_ble_eq_true rfl⟩) hD hS hA (fun H locs hP hD hS => ?_)
  exact hs_zret hx hb hrt hlocks hK hP hD hS dX9_isInsured_11 (nz_wi _ _ _) (by decide) (rfl)

set_option maxHeartbeats 400000 in
set_option maxRecDepth 100000 in
theorem c_X9_isInsured_6 (l : Launch) (D : va_G) (o : Nat) (ad : Nat → Nat) (cd : Nat → ClassId) (tn td cs hd : Int32) (kd rt vl hr hw cu si : Nat → Int32) (acc : Nat → Int64) (st : TS) (t : Int32) (ht : vp_in t 24) (hkd : kd t.toNatClampNeg = nI 6) : CM l D yX9_isInsured cX9_isInsured 2 (some .boolean) { frames := 1, cells := 0, slots := 0, locals := 22 } (tyM cd) [.ref o, .int t] (mW o ad cd tn td cs hd kd rt vl hr hw cu si acc st) (hs_QI D (tyM cd) (isI 6) (mW o ad cd tn td cs hd kd rt vl hr hw cu si acc st)) := by
  refine CM.of (by decide) (Nat.le_of_ble_eq_true rfl) ?_
  intro p e s m below meth c A ls hx hb hrt hml htg hown hlocks hnm hA hK hP hD hS hl
  have hown : s.vm.findClass RX9 = some m.cls := hown
  have hl : lv_has ls 2 [(0, .ref o), (1, .int t)] := hl
  have SF : CallFix p m c cX9_isInsured 2 s _ hs_gt RX9 := ⟨hx, hb, hml, hown, htg⟩
  have hkd : kd t.toNatClampNeg = 6 := hkd
  refine lv_aload_n hx hb dX9_isInsured_0 rfl (lv_at hl 0 rfl) ?_
  refine va_get (D := D) (ci := 9) (v := .ref (ad 1)) (C := RX9) (T := TX9) (N := 15) hx hb htg in_X9 hown hK hP 0 rfl rfl 1 (by decide) (htg _ tw_521) (fun _ h9 => h9) rfl dX9_isInsured_1 ?_
  refine lv_iload_n hx hb dX9_isInsured_4 rfl (lv_at hl 1 rfl) ?_
  refine va_iald hx hb hK hP 1 0 rfl rfl (ht) dX9_isInsured_5 ?_
  rw [hkd]
  refine lv_iconst (v := 2) hx hb dX9_isInsured_6 (by decide) ?_
  refine lv_iconst (v := 4) hx hb dX9_isInsured_7 (by decide) ?_
  refine hs_calli0 (w1 := (mW o ad cd tn td cs hd kd rt vl hr hw cu si acc st)) (hs_runS SF cal_X9_in tw_570 (c_X9_in l D o ad cd tn td cs hd kd rt vl hr hw cu si acc st 6 2 4) hK hP hD ⟨Nat.le_of_ble_eq_true rfl, Nat.le_of_ble_eq_true rfl⟩ rfl hl.1 rfl (Nat.le_of_ble_eq_true rfl) dX9_isInsured_8 ⟨Nat.le_of_ble_eq_true rfl, Nat.le_of_ble_eq_true rfl⟩) hD hS hA (fun H locs hP hD hS => ?_)
  exact hs_zret hx hb hrt hlocks hK hP hD hS dX9_isInsured_11 (nz_wi _ _ _) (by decide) (rfl)

theorem c_X9_isInsured (l : Launch) (D : va_G) (o : Nat) (ad : Nat → Nat) (cd : Nat → ClassId) (tn td cs hd : Int32) (kd rt vl hr hw cu si : Nat → Int32) (acc : Nat → Int64) (st : TS) (t : Int32) (ht : vp_in t 24) (k : Nat) (hk : k < 7) (hkd : kd t.toNatClampNeg = nI k) : CM l D yX9_isInsured cX9_isInsured 2 (some .boolean) { frames := 1, cells := 0, slots := 0, locals := 22 } (tyM cd) [.ref o, .int t] (mW o ad cd tn td cs hd kd rt vl hr hw cu si acc st) (hs_QI D (tyM cd) (isI k) (mW o ad cd tn td cs hd kd rt vl hr hw cu si acc st)) := by
  match k, hk, hkd with
  | 0, _, hkd => exact c_X9_isInsured_0 l D o ad cd tn td cs hd kd rt vl hr hw cu si acc st t ht hkd 
  | 1, _, hkd => exact c_X9_isInsured_1 l D o ad cd tn td cs hd kd rt vl hr hw cu si acc st t ht hkd 
  | 2, _, hkd => exact c_X9_isInsured_2 l D o ad cd tn td cs hd kd rt vl hr hw cu si acc st t ht hkd 
  | 3, _, hkd => exact c_X9_isInsured_3 l D o ad cd tn td cs hd kd rt vl hr hw cu si acc st t ht hkd 
  | 4, _, hkd => exact c_X9_isInsured_4 l D o ad cd tn td cs hd kd rt vl hr hw cu si acc st t ht hkd 
  | 5, _, hkd => exact c_X9_isInsured_5 l D o ad cd tn td cs hd kd rt vl hr hw cu si acc st t ht hkd 
  | 6, _, hkd => exact c_X9_isInsured_6 l D o ad cd tn td cs hd kd rt vl hr hw cu si acc st t ht hkd 
  | k + 7, hk, _ => exact absurd hk (by omega)

theorem cal_X9_isInsured : hs_cV yX9_isInsured cX9_isInsured 2 (some .boolean) 1 := ⟨tw_589, tw_588, tw_6, tw_19, by decide +kernel⟩

set_option maxHeartbeats 400000 in
set_option maxRecDepth 100000 in
theorem c_X9_isServiced_0 (l : Launch) (D : va_G) (o : Nat) (ad : Nat → Nat) (cd : Nat → ClassId) (tn td cs hd : Int32) (kd rt vl hr hw cu si : Nat → Int32) (acc : Nat → Int64) (st : TS) (t : Int32) (ht : vp_in t 24) (hkd : kd t.toNatClampNeg = nI 0) : CM l D yX9_isServiced cX9_isServiced 2 (some .boolean) { frames := 0, cells := 0, slots := 0, locals := 0 } (tyM cd) [.ref o, .int t] (mW o ad cd tn td cs hd kd rt vl hr hw cu si acc st) (hs_QI D (tyM cd) (isS 0) (mW o ad cd tn td cs hd kd rt vl hr hw cu si acc st)) := by
  refine CM.of (by decide) (Nat.le_of_ble_eq_true rfl) ?_
  intro p e s m below meth c A ls hx hb hrt hml htg hown hlocks hnm hA hK hP hD hS hl
  have hown : s.vm.findClass RX9 = some m.cls := hown
  have hl : lv_has ls 2 [(0, .ref o), (1, .int t)] := hl
  have SF : CallFix p m c cX9_isServiced 2 s _ hs_gt RX9 := ⟨hx, hb, hml, hown, htg⟩
  have hkd : kd t.toNatClampNeg = 0 := hkd
  refine lv_aload_n hx hb dX9_isServiced_0 rfl (lv_at hl 0 rfl) ?_
  refine va_get (D := D) (ci := 9) (v := .ref (ad 1)) (C := RX9) (T := TX9) (N := 15) hx hb htg in_X9 hown hK hP 0 rfl rfl 1 (by decide) (htg _ tw_521) (fun _ h9 => h9) rfl dX9_isServiced_1 ?_
  refine lv_iload_n hx hb dX9_isServiced_4 rfl (lv_at hl 1 rfl) ?_
  refine va_iald hx hb hK hP 1 0 rfl rfl (ht) dX9_isServiced_5 ?_
  rw [hkd]
  refine lv_iconst (v := 3) hx hb dX9_isServiced_6 (by decide) ?_
  refine lv_icmp_lt (tgt := 14) hx hb dX9_isServiced_7 (by decide) (fun c7 => ?_) (fun c7 => absurd c7 ((by decide)))
  refine lv_iconst (v := 0) hx hb dX9_isServiced_14 (by decide) ?_
  exact hs_zret hx hb hrt hlocks hK hP hD hS dX9_isServiced_15 rfl (by decide) (rfl)

set_option maxHeartbeats 400000 in
set_option maxRecDepth 100000 in
theorem c_X9_isServiced_1 (l : Launch) (D : va_G) (o : Nat) (ad : Nat → Nat) (cd : Nat → ClassId) (tn td cs hd : Int32) (kd rt vl hr hw cu si : Nat → Int32) (acc : Nat → Int64) (st : TS) (t : Int32) (ht : vp_in t 24) (hkd : kd t.toNatClampNeg = nI 1) : CM l D yX9_isServiced cX9_isServiced 2 (some .boolean) { frames := 0, cells := 0, slots := 0, locals := 0 } (tyM cd) [.ref o, .int t] (mW o ad cd tn td cs hd kd rt vl hr hw cu si acc st) (hs_QI D (tyM cd) (isS 1) (mW o ad cd tn td cs hd kd rt vl hr hw cu si acc st)) := by
  refine CM.of (by decide) (Nat.le_of_ble_eq_true rfl) ?_
  intro p e s m below meth c A ls hx hb hrt hml htg hown hlocks hnm hA hK hP hD hS hl
  have hown : s.vm.findClass RX9 = some m.cls := hown
  have hl : lv_has ls 2 [(0, .ref o), (1, .int t)] := hl
  have SF : CallFix p m c cX9_isServiced 2 s _ hs_gt RX9 := ⟨hx, hb, hml, hown, htg⟩
  have hkd : kd t.toNatClampNeg = 1 := hkd
  refine lv_aload_n hx hb dX9_isServiced_0 rfl (lv_at hl 0 rfl) ?_
  refine va_get (D := D) (ci := 9) (v := .ref (ad 1)) (C := RX9) (T := TX9) (N := 15) hx hb htg in_X9 hown hK hP 0 rfl rfl 1 (by decide) (htg _ tw_521) (fun _ h9 => h9) rfl dX9_isServiced_1 ?_
  refine lv_iload_n hx hb dX9_isServiced_4 rfl (lv_at hl 1 rfl) ?_
  refine va_iald hx hb hK hP 1 0 rfl rfl (ht) dX9_isServiced_5 ?_
  rw [hkd]
  refine lv_iconst (v := 3) hx hb dX9_isServiced_6 (by decide) ?_
  refine lv_icmp_lt (tgt := 14) hx hb dX9_isServiced_7 (by decide) (fun c7 => ?_) (fun c7 => absurd c7 ((by decide)))
  refine lv_iconst (v := 0) hx hb dX9_isServiced_14 (by decide) ?_
  exact hs_zret hx hb hrt hlocks hK hP hD hS dX9_isServiced_15 rfl (by decide) (rfl)

set_option maxHeartbeats 400000 in
set_option maxRecDepth 100000 in
theorem c_X9_isServiced_2 (l : Launch) (D : va_G) (o : Nat) (ad : Nat → Nat) (cd : Nat → ClassId) (tn td cs hd : Int32) (kd rt vl hr hw cu si : Nat → Int32) (acc : Nat → Int64) (st : TS) (t : Int32) (ht : vp_in t 24) (hkd : kd t.toNatClampNeg = nI 2) : CM l D yX9_isServiced cX9_isServiced 2 (some .boolean) { frames := 0, cells := 0, slots := 0, locals := 0 } (tyM cd) [.ref o, .int t] (mW o ad cd tn td cs hd kd rt vl hr hw cu si acc st) (hs_QI D (tyM cd) (isS 2) (mW o ad cd tn td cs hd kd rt vl hr hw cu si acc st)) := by
  refine CM.of (by decide) (Nat.le_of_ble_eq_true rfl) ?_
  intro p e s m below meth c A ls hx hb hrt hml htg hown hlocks hnm hA hK hP hD hS hl
  have hown : s.vm.findClass RX9 = some m.cls := hown
  have hl : lv_has ls 2 [(0, .ref o), (1, .int t)] := hl
  have SF : CallFix p m c cX9_isServiced 2 s _ hs_gt RX9 := ⟨hx, hb, hml, hown, htg⟩
  have hkd : kd t.toNatClampNeg = 2 := hkd
  refine lv_aload_n hx hb dX9_isServiced_0 rfl (lv_at hl 0 rfl) ?_
  refine va_get (D := D) (ci := 9) (v := .ref (ad 1)) (C := RX9) (T := TX9) (N := 15) hx hb htg in_X9 hown hK hP 0 rfl rfl 1 (by decide) (htg _ tw_521) (fun _ h9 => h9) rfl dX9_isServiced_1 ?_
  refine lv_iload_n hx hb dX9_isServiced_4 rfl (lv_at hl 1 rfl) ?_
  refine va_iald hx hb hK hP 1 0 rfl rfl (ht) dX9_isServiced_5 ?_
  rw [hkd]
  refine lv_iconst (v := 3) hx hb dX9_isServiced_6 (by decide) ?_
  refine lv_icmp_lt (tgt := 14) hx hb dX9_isServiced_7 (by decide) (fun c7 => ?_) (fun c7 => absurd c7 ((by decide)))
  refine lv_iconst (v := 0) hx hb dX9_isServiced_14 (by decide) ?_
  exact hs_zret hx hb hrt hlocks hK hP hD hS dX9_isServiced_15 rfl (by decide) (rfl)

set_option maxHeartbeats 400000 in
set_option maxRecDepth 100000 in
theorem c_X9_isServiced_3 (l : Launch) (D : va_G) (o : Nat) (ad : Nat → Nat) (cd : Nat → ClassId) (tn td cs hd : Int32) (kd rt vl hr hw cu si : Nat → Int32) (acc : Nat → Int64) (st : TS) (t : Int32) (ht : vp_in t 24) (hkd : kd t.toNatClampNeg = nI 3) : CM l D yX9_isServiced cX9_isServiced 2 (some .boolean) { frames := 0, cells := 0, slots := 0, locals := 0 } (tyM cd) [.ref o, .int t] (mW o ad cd tn td cs hd kd rt vl hr hw cu si acc st) (hs_QI D (tyM cd) (isS 3) (mW o ad cd tn td cs hd kd rt vl hr hw cu si acc st)) := by
  refine CM.of (by decide) (Nat.le_of_ble_eq_true rfl) ?_
  intro p e s m below meth c A ls hx hb hrt hml htg hown hlocks hnm hA hK hP hD hS hl
  have hown : s.vm.findClass RX9 = some m.cls := hown
  have hl : lv_has ls 2 [(0, .ref o), (1, .int t)] := hl
  have SF : CallFix p m c cX9_isServiced 2 s _ hs_gt RX9 := ⟨hx, hb, hml, hown, htg⟩
  have hkd : kd t.toNatClampNeg = 3 := hkd
  refine lv_aload_n hx hb dX9_isServiced_0 rfl (lv_at hl 0 rfl) ?_
  refine va_get (D := D) (ci := 9) (v := .ref (ad 1)) (C := RX9) (T := TX9) (N := 15) hx hb htg in_X9 hown hK hP 0 rfl rfl 1 (by decide) (htg _ tw_521) (fun _ h9 => h9) rfl dX9_isServiced_1 ?_
  refine lv_iload_n hx hb dX9_isServiced_4 rfl (lv_at hl 1 rfl) ?_
  refine va_iald hx hb hK hP 1 0 rfl rfl (ht) dX9_isServiced_5 ?_
  rw [hkd]
  refine lv_iconst (v := 3) hx hb dX9_isServiced_6 (by decide) ?_
  refine lv_icmp_lt (tgt := 14) hx hb dX9_isServiced_7 (by decide) (fun c7 => absurd c7 ((by decide))) (fun c7 => ?_)
  refine lv_iconst (v := 1) hx hb dX9_isServiced_10 (by decide) ?_
  refine lv_goto (tgt := 15) hx hb dX9_isServiced_11 (by decide) ?_
  exact hs_zret hx hb hrt hlocks hK hP hD hS dX9_isServiced_15 rfl (by decide) (rfl)

set_option maxHeartbeats 400000 in
set_option maxRecDepth 100000 in
theorem c_X9_isServiced_4 (l : Launch) (D : va_G) (o : Nat) (ad : Nat → Nat) (cd : Nat → ClassId) (tn td cs hd : Int32) (kd rt vl hr hw cu si : Nat → Int32) (acc : Nat → Int64) (st : TS) (t : Int32) (ht : vp_in t 24) (hkd : kd t.toNatClampNeg = nI 4) : CM l D yX9_isServiced cX9_isServiced 2 (some .boolean) { frames := 0, cells := 0, slots := 0, locals := 0 } (tyM cd) [.ref o, .int t] (mW o ad cd tn td cs hd kd rt vl hr hw cu si acc st) (hs_QI D (tyM cd) (isS 4) (mW o ad cd tn td cs hd kd rt vl hr hw cu si acc st)) := by
  refine CM.of (by decide) (Nat.le_of_ble_eq_true rfl) ?_
  intro p e s m below meth c A ls hx hb hrt hml htg hown hlocks hnm hA hK hP hD hS hl
  have hown : s.vm.findClass RX9 = some m.cls := hown
  have hl : lv_has ls 2 [(0, .ref o), (1, .int t)] := hl
  have SF : CallFix p m c cX9_isServiced 2 s _ hs_gt RX9 := ⟨hx, hb, hml, hown, htg⟩
  have hkd : kd t.toNatClampNeg = 4 := hkd
  refine lv_aload_n hx hb dX9_isServiced_0 rfl (lv_at hl 0 rfl) ?_
  refine va_get (D := D) (ci := 9) (v := .ref (ad 1)) (C := RX9) (T := TX9) (N := 15) hx hb htg in_X9 hown hK hP 0 rfl rfl 1 (by decide) (htg _ tw_521) (fun _ h9 => h9) rfl dX9_isServiced_1 ?_
  refine lv_iload_n hx hb dX9_isServiced_4 rfl (lv_at hl 1 rfl) ?_
  refine va_iald hx hb hK hP 1 0 rfl rfl (ht) dX9_isServiced_5 ?_
  rw [hkd]
  refine lv_iconst (v := 3) hx hb dX9_isServiced_6 (by decide) ?_
  refine lv_icmp_lt (tgt := 14) hx hb dX9_isServiced_7 (by decide) (fun c7 => absurd c7 ((by decide))) (fun c7 => ?_)
  refine lv_iconst (v := 1) hx hb dX9_isServiced_10 (by decide) ?_
  refine lv_goto (tgt := 15) hx hb dX9_isServiced_11 (by decide) ?_
  exact hs_zret hx hb hrt hlocks hK hP hD hS dX9_isServiced_15 rfl (by decide) (rfl)

set_option maxHeartbeats 400000 in
set_option maxRecDepth 100000 in
theorem c_X9_isServiced_5 (l : Launch) (D : va_G) (o : Nat) (ad : Nat → Nat) (cd : Nat → ClassId) (tn td cs hd : Int32) (kd rt vl hr hw cu si : Nat → Int32) (acc : Nat → Int64) (st : TS) (t : Int32) (ht : vp_in t 24) (hkd : kd t.toNatClampNeg = nI 5) : CM l D yX9_isServiced cX9_isServiced 2 (some .boolean) { frames := 0, cells := 0, slots := 0, locals := 0 } (tyM cd) [.ref o, .int t] (mW o ad cd tn td cs hd kd rt vl hr hw cu si acc st) (hs_QI D (tyM cd) (isS 5) (mW o ad cd tn td cs hd kd rt vl hr hw cu si acc st)) := by
  refine CM.of (by decide) (Nat.le_of_ble_eq_true rfl) ?_
  intro p e s m below meth c A ls hx hb hrt hml htg hown hlocks hnm hA hK hP hD hS hl
  have hown : s.vm.findClass RX9 = some m.cls := hown
  have hl : lv_has ls 2 [(0, .ref o), (1, .int t)] := hl
  have SF : CallFix p m c cX9_isServiced 2 s _ hs_gt RX9 := ⟨hx, hb, hml, hown, htg⟩
  have hkd : kd t.toNatClampNeg = 5 := hkd
  refine lv_aload_n hx hb dX9_isServiced_0 rfl (lv_at hl 0 rfl) ?_
  refine va_get (D := D) (ci := 9) (v := .ref (ad 1)) (C := RX9) (T := TX9) (N := 15) hx hb htg in_X9 hown hK hP 0 rfl rfl 1 (by decide) (htg _ tw_521) (fun _ h9 => h9) rfl dX9_isServiced_1 ?_
  refine lv_iload_n hx hb dX9_isServiced_4 rfl (lv_at hl 1 rfl) ?_
  refine va_iald hx hb hK hP 1 0 rfl rfl (ht) dX9_isServiced_5 ?_
  rw [hkd]
  refine lv_iconst (v := 3) hx hb dX9_isServiced_6 (by decide) ?_
  refine lv_icmp_lt (tgt := 14) hx hb dX9_isServiced_7 (by decide) (fun c7 => absurd c7 ((by decide))) (fun c7 => ?_)
  refine lv_iconst (v := 1) hx hb dX9_isServiced_10 (by decide) ?_
  refine lv_goto (tgt := 15) hx hb dX9_isServiced_11 (by decide) ?_
  exact hs_zret hx hb hrt hlocks hK hP hD hS dX9_isServiced_15 rfl (by decide) (rfl)

set_option maxHeartbeats 400000 in
set_option maxRecDepth 100000 in
theorem c_X9_isServiced_6 (l : Launch) (D : va_G) (o : Nat) (ad : Nat → Nat) (cd : Nat → ClassId) (tn td cs hd : Int32) (kd rt vl hr hw cu si : Nat → Int32) (acc : Nat → Int64) (st : TS) (t : Int32) (ht : vp_in t 24) (hkd : kd t.toNatClampNeg = nI 6) : CM l D yX9_isServiced cX9_isServiced 2 (some .boolean) { frames := 0, cells := 0, slots := 0, locals := 0 } (tyM cd) [.ref o, .int t] (mW o ad cd tn td cs hd kd rt vl hr hw cu si acc st) (hs_QI D (tyM cd) (isS 6) (mW o ad cd tn td cs hd kd rt vl hr hw cu si acc st)) := by
  refine CM.of (by decide) (Nat.le_of_ble_eq_true rfl) ?_
  intro p e s m below meth c A ls hx hb hrt hml htg hown hlocks hnm hA hK hP hD hS hl
  have hown : s.vm.findClass RX9 = some m.cls := hown
  have hl : lv_has ls 2 [(0, .ref o), (1, .int t)] := hl
  have SF : CallFix p m c cX9_isServiced 2 s _ hs_gt RX9 := ⟨hx, hb, hml, hown, htg⟩
  have hkd : kd t.toNatClampNeg = 6 := hkd
  refine lv_aload_n hx hb dX9_isServiced_0 rfl (lv_at hl 0 rfl) ?_
  refine va_get (D := D) (ci := 9) (v := .ref (ad 1)) (C := RX9) (T := TX9) (N := 15) hx hb htg in_X9 hown hK hP 0 rfl rfl 1 (by decide) (htg _ tw_521) (fun _ h9 => h9) rfl dX9_isServiced_1 ?_
  refine lv_iload_n hx hb dX9_isServiced_4 rfl (lv_at hl 1 rfl) ?_
  refine va_iald hx hb hK hP 1 0 rfl rfl (ht) dX9_isServiced_5 ?_
  rw [hkd]
  refine lv_iconst (v := 3) hx hb dX9_isServiced_6 (by decide) ?_
  refine lv_icmp_lt (tgt := 14) hx hb dX9_isServiced_7 (by decide) (fun c7 => absurd c7 ((by decide))) (fun c7 => ?_)
  refine lv_iconst (v := 1) hx hb dX9_isServiced_10 (by decide) ?_
  refine lv_goto (tgt := 15) hx hb dX9_isServiced_11 (by decide) ?_
  exact hs_zret hx hb hrt hlocks hK hP hD hS dX9_isServiced_15 rfl (by decide) (rfl)

theorem c_X9_isServiced (l : Launch) (D : va_G) (o : Nat) (ad : Nat → Nat) (cd : Nat → ClassId) (tn td cs hd : Int32) (kd rt vl hr hw cu si : Nat → Int32) (acc : Nat → Int64) (st : TS) (t : Int32) (ht : vp_in t 24) (k : Nat) (hk : k < 7) (hkd : kd t.toNatClampNeg = nI k) : CM l D yX9_isServiced cX9_isServiced 2 (some .boolean) { frames := 0, cells := 0, slots := 0, locals := 0 } (tyM cd) [.ref o, .int t] (mW o ad cd tn td cs hd kd rt vl hr hw cu si acc st) (hs_QI D (tyM cd) (isS k) (mW o ad cd tn td cs hd kd rt vl hr hw cu si acc st)) := by
  match k, hk, hkd with
  | 0, _, hkd => exact c_X9_isServiced_0 l D o ad cd tn td cs hd kd rt vl hr hw cu si acc st t ht hkd 
  | 1, _, hkd => exact c_X9_isServiced_1 l D o ad cd tn td cs hd kd rt vl hr hw cu si acc st t ht hkd 
  | 2, _, hkd => exact c_X9_isServiced_2 l D o ad cd tn td cs hd kd rt vl hr hw cu si acc st t ht hkd 
  | 3, _, hkd => exact c_X9_isServiced_3 l D o ad cd tn td cs hd kd rt vl hr hw cu si acc st t ht hkd 
  | 4, _, hkd => exact c_X9_isServiced_4 l D o ad cd tn td cs hd kd rt vl hr hw cu si acc st t ht hkd 
  | 5, _, hkd => exact c_X9_isServiced_5 l D o ad cd tn td cs hd kd rt vl hr hw cu si acc st t ht hkd 
  | 6, _, hkd => exact c_X9_isServiced_6 l D o ad cd tn td cs hd kd rt vl hr hw cu si acc st t ht hkd 
  | k + 7, hk, _ => exact absurd hk (by omega)

theorem cal_X9_isServiced : hs_cV yX9_isServiced cX9_isServiced 2 (some .boolean) 1 := ⟨tw_593, tw_592, tw_7, tw_19, by decide +kernel⟩

theorem isI_cases {k : Nat} (hk : k < 7) (h : ¬ isI k = 0) : k = 2 ∨ k = 3 ∨ k = 4 := by
  match k, hk, h with
  | 0, _, h => exact absurd h (by decide)
  | 1, _, h => exact absurd h (by decide)
  | 2, _, _ => exact Or.inl rfl
  | 3, _, _ => exact Or.inr (Or.inl rfl)
  | 4, _, _ => exact Or.inr (Or.inr rfl)
  | 5, _, h => exact absurd h (by decide)
  | 6, _, h => exact absurd h (by decide)
  | k + 7, hk, _ => exact absurd hk (by omega)

