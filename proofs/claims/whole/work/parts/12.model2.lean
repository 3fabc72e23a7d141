set_option maxHeartbeats 400000 in
set_option maxRecDepth 100000 in
theorem c_X9_premium_2 (l : Launch) (D : va_G) (o : Nat) (ad : Nat → Nat) (cd : Nat → ClassId) (tn td cs hd : Int32) (kd rt vl hr hw cu si : Nat → Int32) (acc : Nat → Int64) (st : TS) (t : Int32) (ht : vp_in t 24) (hkd : kd t.toNatClampNeg = nI 2) (hok : okM 6 st) (x : Int32) (hhr : hr t.toNatClampNeg = x) (d : Int32) : CM l D yX9_premium cX9_premium 4 (some .int) { frames := 2, cells := 0, slots := 0, locals := 44 } (tyM cd) [.ref o, .int t, .int d] (mW o ad cd tn td cs hd kd rt vl hr hw cu si acc st) (hs_QI D (tyM cd) (pmF 2 (vl t.toNatClampNeg) x d) (mW o ad cd tn td cs hd kd rt vl hr hw cu si acc (bds (pmN 2) st))) := by
  refine CM.of (by decide) (Nat.le_of_ble_eq_true rfl) ?_
  intro p e s m below meth c A ls hx hb hrt hml htg hown hlocks hnm hA hK hP hD hS hl
  have hown : s.vm.findClass RX9 = some m.cls := hown
  have hl : lv_has ls 4 [(0, .ref o), (1, .int t), (2, .int d)] := hl
  have SF : CallFix p m c cX9_premium 4 s _ hs_gt RX9 := ⟨hx, hb, hml, hown, htg⟩
  have hkd : kd t.toNatClampNeg = 2 := hkd
  refine lv_aload_n hx hb dX9_premium_0 rfl (lv_at hl 0 rfl) ?_
  refine va_get (D := D) (ci := 9) (v := .ref (ad 1)) (C := RX9) (T := TX9) (N := 15) hx hb htg in_X9 hown hK hP 0 rfl rfl 1 (by decide) (htg _ tw_521) (fun _ h9 => h9) rfl dX9_premium_1 ?_
  refine lv_iload_n hx hb dX9_premium_4 rfl (lv_at hl 1 rfl) ?_
  refine va_iald hx hb hK hP 1 0 rfl rfl (ht) dX9_premium_5 ?_
  rw [hkd]
  refine lv_iconst (v := 2) hx hb dX9_premium_6 (by decide) ?_
  refine lv_icmp_ne (tgt := 27) hx hb dX9_premium_7 (by decide) (fun c7 => absurd c7 ((by decide))) (fun c7 => ?_)
  refine lv_aload_n hx hb dX9_premium_10 rfl (lv_at hl 0 rfl) ?_
  refine lv_bipush (v := 41) hx hb dX9_premium_11 (by decide) ?_
  refine hs_callv0 (w1 := (mW o ad cd tn td cs hd kd rt vl hr hw cu si acc (bdT 41 st))) (hs_runV (q0 := 0) SF cal_X9_body tw_598 (c_X9_body l D o ad cd tn td cs hd kd rt vl hr hw cu si acc st (okM_mono hok (by decide)) 41) hK hP hD rfl rfl ⟨Nat.le_of_ble_eq_true rfl, Nat.le_of_ble_eq_true rfl⟩ rfl hl.1 rfl (Nat.le_of_ble_eq_true rfl) dX9_premium_13 ⟨Nat.le_of_ble_eq_true rfl, Nat.le_of_ble_eq_true rfl⟩) hD hS hA (fun H locs hP hD hS => ?_)
  refine lv_iload_n hx hb dX9_premium_16 rfl (lv_at hl 2 rfl) ?_
  refine lv_aload_n hx hb dX9_premium_17 rfl (lv_at hl 0 rfl) ?_
  refine lv_iload_n hx hb dX9_premium_18 rfl (lv_at hl 1 rfl) ?_
  refine hs_calli0 (w1 := (mW o ad cd tn td cs hd kd rt vl hr hw cu si acc (bds [31] (bdT 41 st)))) (hs_runV (q0 := 0) SF cal_X9_deposit tw_610 (c_X9_deposit l D o ad cd tn td cs hd kd rt vl hr hw cu si acc (bdT 41 st) t ht 2 (by decide) hkd (okM_mono (okM_bd 41 hok) (by decide)) (by decide)) hK hP hD rfl rfl ⟨Nat.le_of_ble_eq_true rfl, Nat.le_of_ble_eq_true rfl⟩ rfl hl.1 rfl (Nat.le_of_ble_eq_true rfl) dX9_premium_19 ⟨Nat.le_of_ble_eq_true rfl, Nat.le_of_ble_eq_true rfl⟩) hD hS hA (fun H locs hP hD hS => ?_)
  refine lv_bipush (v := 100) hx hb dX9_premium_22 (by decide) ?_
  refine lv_idiv hx hb dX9_premium_24 (by decide) ?_
  refine lv_imul hx hb dX9_premium_25 ?_
  exact hs_iret hx hb hrt hlocks hK hP hD hS dX9_premium_26 (by rfl) (by simp only [bds, pmN, List.foldl_cons, List.foldl_nil])

set_option maxHeartbeats 400000 in
set_option maxRecDepth 100000 in
theorem c_X9_premium_3 (l : Launch) (D : va_G) (o : Nat) (ad : Nat → Nat) (cd : Nat → ClassId) (tn td cs hd : Int32) (kd rt vl hr hw cu si : Nat → Int32) (acc : Nat → Int64) (st : TS) (t : Int32) (ht : vp_in t 24) (hkd : kd t.toNatClampNeg = nI 3) (hok : okM 6 st) (x : Int32) (hhr : hr t.toNatClampNeg = x) (d : Int32) : CM l D yX9_premium cX9_premium 4 (some .int) { frames := 2, cells := 0, slots := 0, locals := 44 } (tyM cd) [.ref o, .int t, .int d] (mW o ad cd tn td cs hd kd rt vl hr hw cu si acc st) (hs_QI D (tyM cd) (pmF 3 (vl t.toNatClampNeg) x d) (mW o ad cd tn td cs hd kd rt vl hr hw cu si acc (bds (pmN 3) st))) := by
  refine CM.of (by decide) (Nat.le_of_ble_eq_true rfl) ?_
  intro p e s m below meth c A ls hx hb hrt hml htg hown hlocks hnm hA hK hP hD hS hl
  have hown : s.vm.findClass RX9 = some m.cls := hown
  have hl : lv_has ls 4 [(0, .ref o), (1, .int t), (2, .int d)] := hl
  have SF : CallFix p m c cX9_premium 4 s _ hs_gt RX9 := ⟨hx, hb, hml, hown, htg⟩
  have hkd : kd t.toNatClampNeg = 3 := hkd
  refine lv_aload_n hx hb dX9_premium_0 rfl (lv_at hl 0 rfl) ?_
  refine va_get (D := D) (ci := 9) (v := .ref (ad 1)) (C := RX9) (T := TX9) (N := 15) hx hb htg in_X9 hown hK hP 0 rfl rfl 1 (by decide) (htg _ tw_521) (fun _ h9 => h9) rfl dX9_premium_1 ?_
  refine lv_iload_n hx hb dX9_premium_4 rfl (lv_at hl 1 rfl) ?_
  refine va_iald hx hb hK hP 1 0 rfl rfl (ht) dX9_premium_5 ?_
  rw [hkd]
  refine lv_iconst (v := 2) hx hb dX9_premium_6 (by decide) ?_
  refine lv_icmp_ne (tgt := 27) hx hb dX9_premium_7 (by decide) (fun c7 => ?_) (fun c7 => absurd c7 ((by decide)))
  refine lv_aload_n hx hb dX9_premium_27 rfl (lv_at hl 0 rfl) ?_
  refine lv_bipush (v := 42) hx hb dX9_premium_28 (by decide) ?_
  refine hs_callv0 (w1 := (mW o ad cd tn td cs hd kd rt vl hr hw cu si acc (bdT 42 st))) (hs_runV (q0 := 0) SF cal_X9_body tw_598 (c_X9_body l D o ad cd tn td cs hd kd rt vl hr hw cu si acc st (okM_mono hok (by decide)) 42) hK hP hD rfl rfl ⟨Nat.le_of_ble_eq_true rfl, Nat.le_of_ble_eq_true rfl⟩ rfl hl.1 rfl (Nat.le_of_ble_eq_true rfl) dX9_premium_30 ⟨Nat.le_of_ble_eq_true rfl, Nat.le_of_ble_eq_true rfl⟩) hD hS hA (fun H locs hP hD hS => ?_)
  refine lv_aload_n hx hb dX9_premium_33 rfl (lv_at hl 0 rfl) ?_
  refine lv_iload_n hx hb dX9_premium_34 rfl (lv_at hl 1 rfl) ?_
  refine hs_calli0 (w1 := (mW o ad cd tn td cs hd kd rt vl hr hw cu si acc (bds [22, 21, 20] (bdT 42 st)))) (hs_runV (q0 := 0) SF cal_X9_check tw_606 (c_X9_check l D o ad cd tn td cs hd kd rt vl hr hw cu si acc (bdT 42 st) t ht 3 (by decide) hkd (okM_mono (okM_bd 42 hok) (by decide)) x hhr) hK hP hD rfl rfl ⟨Nat.le_of_ble_eq_true rfl, Nat.le_of_ble_eq_true rfl⟩ rfl hl.1 rfl (Nat.le_of_ble_eq_true rfl) dX9_premium_35 ⟨Nat.le_of_ble_eq_true rfl, Nat.le_of_ble_eq_true rfl⟩) hD hS hA (fun H locs hP hD hS => ?_)
  refine lv_istore_n (lv' := [(3, .int (ckF 3 x)), (0, .ref o), (1, .int t), (2, .int d)]) hx hb dX9_premium_38 rfl hl (by decide) rfl (fun ls hl => ?_)
  refine lv_iload_n hx hb dX9_premium_39 rfl (lv_at hl 3 rfl) ?_
  refine lv_iload_n hx hb dX9_premium_40 rfl (lv_at hl 0 rfl) ?_
  refine lv_aload_n hx hb dX9_premium_41 rfl (lv_at hl 1 rfl) ?_
  refine lv_iload_n hx hb dX9_premium_42 rfl (lv_at hl 2 rfl) ?_
  refine hs_calli0 (w1 := (mW o ad cd tn td cs hd kd rt vl hr hw cu si acc (bds [31] (bds [22, 21, 20] (bdT 42 st))))) (hs_runV (q0 := 0) SF cal_X9_deposit tw_610 (c_X9_deposit l D o ad cd tn td cs hd kd rt vl hr hw cu si acc (bds [22, 21, 20] (bdT 42 st)) t ht 3 (by decide) hkd (okM_bds (n := 2) [22, 21, 20] (okM_bd 42 hok)) (by decide)) hK hP hD rfl rfl ⟨Nat.le_of_ble_eq_true rfl, Nat.le_of_ble_eq_true rfl⟩ rfl hl.1 rfl (Nat.le_of_ble_eq_true rfl) dX9_premium_43 ⟨Nat.le_of_ble_eq_true rfl, Nat.le_of_ble_eq_true rfl⟩) hD hS hA (fun H locs hP hD hS => ?_)
  refine lv_sipush (v := 200) hx hb dX9_premium_46 (by decide) ?_
  refine lv_idiv hx hb dX9_premium_49 (by decide) ?_
  refine lv_iadd hx hb dX9_premium_50 ?_
  refine lv_imul hx hb dX9_premium_51 ?_
  exact hs_iret hx hb hrt hlocks hK hP hD hS dX9_premium_52 (by rfl) (by simp only [bds, pmN, List.foldl_cons, List.foldl_nil])

set_option maxHeartbeats 400000 in
set_option maxRecDepth 100000 in
theorem c_X9_premium_4 (l : Launch) (D : va_G) (o : Nat) (ad : Nat → Nat) (cd : Nat → ClassId) (tn td cs hd : Int32) (kd rt vl hr hw cu si : Nat → Int32) (acc : Nat → Int64) (st : TS) (t : Int32) (ht : vp_in t 24) (hkd : kd t.toNatClampNeg = nI 4) (hok : okM 6 st) (x : Int32) (hhr : hr t.toNatClampNeg = x) (d : Int32) : CM l D yX9_premium cX9_premium 4 (some .int) { frames := 2, cells := 0, slots := 0, locals := 44 } (tyM cd) [.ref o, .int t, .int d] (mW o ad cd tn td cs hd kd rt vl hr hw cu si acc st) (hs_QI D (tyM cd) (pmF 4 (vl t.toNatClampNeg) x d) (mW o ad cd tn td cs hd kd rt vl hr hw cu si acc (bds (pmN 4) st))) := by
  refine CM.of (by decide) (Nat.le_of_ble_eq_true rfl) ?_
  intro p e s m below meth c A ls hx hb hrt hml htg hown hlocks hnm hA hK hP hD hS hl
  have hown : s.vm.findClass RX9 = some m.cls := hown
  have hl : lv_has ls 4 [(0, .ref o), (1, .int t), (2, .int d)] := hl
  have SF : CallFix p m c cX9_premium 4 s _ hs_gt RX9 := ⟨hx, hb, hml, hown, htg⟩
  have hkd : kd t.toNatClampNeg = 4 := hkd
  refine lv_aload_n hx hb dX9_premium_0 rfl (lv_at hl 0 rfl) ?_
  refine va_get (D := D) (ci := 9) (v := .ref (ad 1)) (C := RX9) (T := TX9) (N := 15) hx hb htg in_X9 hown hK hP 0 rfl rfl 1 (by decide) (htg _ tw_521) (fun _ h9 => h9) rfl dX9_premium_1 ?_
  refine lv_iload_n hx hb dX9_premium_4 rfl (lv_at hl 1 rfl) ?_
  refine va_iald hx hb hK hP 1 0 rfl rfl (ht) dX9_premium_5 ?_
  rw [hkd]
  refine lv_iconst (v := 2) hx hb dX9_premium_6 (by decide) ?_
  refine lv_icmp_ne (tgt := 27) hx hb dX9_premium_7 (by decide) (fun c7 => ?_) (fun c7 => absurd c7 ((by decide)))
  refine lv_aload_n hx hb dX9_premium_27 rfl (lv_at hl 0 rfl) ?_
  refine lv_bipush (v := 42) hx hb dX9_premium_28 (by decide) ?_
  refine hs_callv0 (w1 := (mW o ad cd tn td cs hd kd rt vl hr hw cu si acc (bdT 42 st))) (hs_runV (q0 := 0) SF cal_X9_body tw_598 (c_X9_body l D o ad cd tn td cs hd kd rt vl hr hw cu si acc st (okM_mono hok (by decide)) 42) hK hP hD rfl rfl ⟨Nat.le_of_ble_eq_true rfl, Nat.le_of_ble_eq_true rfl⟩ rfl hl.1 rfl (Nat.le_of_ble_eq_true rfl) dX9_premium_30 ⟨Nat.le_of_ble_eq_true rfl, Nat.le_of_ble_eq_true rfl⟩) hD hS hA (fun H locs hP hD hS => ?_)
  refine lv_aload_n hx hb dX9_premium_33 rfl (lv_at hl 0 rfl) ?_
  refine lv_iload_n hx hb dX9_premium_34 rfl (lv_at hl 1 rfl) ?_
  refine hs_calli0 (w1 := (mW o ad cd tn td cs hd kd rt vl hr hw cu si acc (bds [22, 21, 20] (bdT 42 st)))) (hs_runV (q0 := 0) SF cal_X9_check tw_606 (c_X9_check l D o ad cd tn td cs hd kd rt vl hr hw cu si acc (bdT 42 st) t ht 4 (by decide) hkd (okM_mono (okM_bd 42 hok) (by decide)) x hhr) hK hP hD rfl rfl ⟨Nat.le_of_ble_eq_true rfl, Nat.le_of_ble_eq_true rfl⟩ rfl hl.1 rfl (Nat.le_of_ble_eq_true rfl) dX9_premium_35 ⟨Nat.le_of_ble_eq_true rfl, Nat.le_of_ble_eq_true rfl⟩) hD hS hA (fun H locs hP hD hS => ?_)
  refine lv_istore_n (lv' := [(3, .int (ckF 4 x)), (0, .ref o), (1, .int t), (2, .int d)]) hx hb dX9_premium_38 rfl hl (by decide) rfl (fun ls hl => ?_)
  refine lv_iload_n hx hb dX9_premium_39 rfl (lv_at hl 3 rfl) ?_
  refine lv_iload_n hx hb dX9_premium_40 rfl (lv_at hl 0 rfl) ?_
  refine lv_aload_n hx hb dX9_premium_41 rfl (lv_at hl 1 rfl) ?_
  refine lv_iload_n hx hb dX9_premium_42 rfl (lv_at hl 2 rfl) ?_
  refine hs_calli0 (w1 := (mW o ad cd tn td cs hd kd rt vl hr hw cu si acc (bds [32, 31] (bds [22, 21, 20] (bdT 42 st))))) (hs_runV (q0 := 0) SF cal_X9_deposit tw_610 (c_X9_deposit l D o ad cd tn td cs hd kd rt vl hr hw cu si acc (bds [22, 21, 20] (bdT 42 st)) t ht 4 (by decide) hkd (okM_bds (n := 2) [22, 21, 20] (okM_bd 42 hok)) (by decide)) hK hP hD rfl rfl ⟨Nat.le_of_ble_eq_true rfl, Nat.le_of_ble_eq_true rfl⟩ rfl hl.1 rfl (Nat.le_of_ble_eq_true rfl) dX9_premium_43 ⟨Nat.le_of_ble_eq_true rfl, Nat.le_of_ble_eq_true rfl⟩) hD hS hA (fun H locs hP hD hS => ?_)
  refine lv_sipush (v := 200) hx hb dX9_premium_46 (by decide) ?_
  refine lv_idiv hx hb dX9_premium_49 (by decide) ?_
  refine lv_iadd hx hb dX9_premium_50 ?_
  refine lv_imul hx hb dX9_premium_51 ?_
  exact hs_iret hx hb hrt hlocks hK hP hD hS dX9_premium_52 (by rfl) (by simp only [bds, pmN, List.foldl_cons, List.foldl_nil])

theorem c_X9_premium (l : Launch) (D : va_G) (o : Nat) (ad : Nat → Nat) (cd : Nat → ClassId) (tn td cs hd : Int32) (kd rt vl hr hw cu si : Nat → Int32) (acc : Nat → Int64) (st : TS) (t : Int32) (ht : vp_in t 24) (k : Nat) (hk : k < 7) (hkd : kd t.toNatClampNeg = nI k) (hok : okM 6 st) (x : Int32) (hhr : hr t.toNatClampNeg = x) (d : Int32) (hg : ¬ isI k = 0) : CM l D yX9_premium cX9_premium 4 (some .int) { frames := 2, cells := 0, slots := 0, locals := 44 } (tyM cd) [.ref o, .int t, .int d] (mW o ad cd tn td cs hd kd rt vl hr hw cu si acc st) (hs_QI D (tyM cd) (pmF k (vl t.toNatClampNeg) x d) (mW o ad cd tn td cs hd kd rt vl hr hw cu si acc (bds (pmN k) st))) := by
  match k, hk, hkd, hg with
  | 0, _, _, hg => exact absurd hg (by decide)
  | 1, _, _, hg => exact absurd hg (by decide)
  | 2, _, hkd, hg => exact c_X9_premium_2 l D o ad cd tn td cs hd kd rt vl hr hw cu si acc st t ht hkd hok x hhr d
  | 3, _, hkd, hg => exact c_X9_premium_3 l D o ad cd tn td cs hd kd rt vl hr hw cu si acc st t ht hkd hok x hhr d
  | 4, _, hkd, hg => exact c_X9_premium_4 l D o ad cd tn td cs hd kd rt vl hr hw cu si acc st t ht hkd hok x hhr d
  | 5, _, _, hg => exact absurd hg (by decide)
  | 6, _, _, hg => exact absurd hg (by decide)
  | k + 7, hk, _, _ => exact absurd hk (by omega)

theorem cal_X9_premium : hs_cV yX9_premium cX9_premium 4 (some .int) 2 := ⟨tw_617, tw_616, tw_13, tw_19, by decide +kernel⟩

set_option maxHeartbeats 400000 in
set_option maxRecDepth 100000 in
theorem c_X9_due_3 (l : Launch) (D : va_G) (o : Nat) (ad : Nat → Nat) (cd : Nat → ClassId) (tn td cs hd : Int32) (kd rt vl hr hw cu si : Nat → Int32) (acc : Nat → Int64) (st : TS) (t : Int32) (ht : vp_in t 24) (hkd : kd t.toNatClampNeg = nI 3) (hok : okM 3 st) (x : Int32) (hhr : hr t.toNatClampNeg = x) (d : Int32) : CM l D yX9_due cX9_due 3 (some .int) { frames := 2, cells := 0, slots := 0, locals := 44 } (tyM cd) [.ref o, .int t, .int d] (mW o ad cd tn td cs hd kd rt vl hr hw cu si acc st) (hs_QI D (tyM cd) (duF 3 x d) (mW o ad cd tn td cs hd kd rt vl hr hw cu si acc (bds (duN 3) st))) := by
  refine CM.of (by decide) (Nat.le_of_ble_eq_true rfl) ?_
  intro p e s m below meth c A ls hx hb hrt hml htg hown hlocks hnm hA hK hP hD hS hl
  have hown : s.vm.findClass RX9 = some m.cls := hown
  have hl : lv_has ls 3 [(0, .ref o), (1, .int t), (2, .int d)] := hl
  have SF : CallFix p m c cX9_due 3 s _ hs_gt RX9 := ⟨hx, hb, hml, hown, htg⟩
  have hkd : kd t.toNatClampNeg = 3 := hkd
  refine lv_aload_n hx hb dX9_due_0 rfl (lv_at hl 0 rfl) ?_
  refine lv_bipush (v := 43) hx hb dX9_due_1 (by decide) ?_
  refine hs_callv0 (w1 := (mW o ad cd tn td cs hd kd rt vl hr hw cu si acc (bdT 43 st))) (hs_runV (q0 := 0) SF cal_X9_body tw_598 (c_X9_body l D o ad cd tn td cs hd kd rt vl hr hw cu si acc st (okM_mono hok (by decide)) 43) hK hP hD rfl rfl ⟨Nat.le_of_ble_eq_true rfl, Nat.le_of_ble_eq_true rfl⟩ rfl hl.1 rfl (Nat.le_of_ble_eq_true rfl) dX9_due_3 ⟨Nat.le_of_ble_eq_true rfl, Nat.le_of_ble_eq_true rfl⟩) hD hS hA (fun H locs hP hD hS => ?_)
  refine lv_aload_n hx hb dX9_due_6 rfl (lv_at hl 0 rfl) ?_
  refine va_get (D := D) (ci := 9) (v := .ref (ad 4)) (C := RX9) (T := TX9) (N := 15) hx hb htg in_X9 hown hK hP 0 rfl rfl 4 (by decide) (htg _ tw_524) (fun _ h9 => h9) rfl dX9_due_7 ?_
  refine lv_iload_n hx hb dX9_due_10 rfl (lv_at hl 1 rfl) ?_
  refine va_iald hx hb hK hP 4 3 rfl rfl (ht) dX9_due_11 ?_
  rw [hhr]
  refine lv_aload_n hx hb dX9_due_12 rfl (lv_at hl 0 rfl) ?_
  refine lv_iload_n hx hb dX9_due_13 rfl (lv_at hl 1 rfl) ?_
  refine lv_iload_n hx hb dX9_due_14 rfl (lv_at hl 2 rfl) ?_
  refine hs_calli0 (w1 := (mW o ad cd tn td cs hd kd rt vl hr hw cu si acc (bds [11] (bdT 43 st)))) (hs_runV (q0 := 0) SF cal_X9_wear tw_602 (c_X9_wear l D o ad cd tn td cs hd kd rt vl hr hw cu si acc (bdT 43 st) t ht 3 (by decide) hkd (okM_bd 43 hok) x hhr d) hK hP hD rfl rfl ⟨Nat.le_of_ble_eq_true rfl, Nat.le_of_ble_eq_true rfl⟩ rfl hl.1 rfl (Nat.le_of_ble_eq_true rfl) dX9_due_15 ⟨Nat.le_of_ble_eq_true rfl, Nat.le_of_ble_eq_true rfl⟩) hD hS hA (fun H locs hP hD hS => ?_)
  refine lv_iadd hx hb dX9_due_18 ?_
  refine lv_bipush (v := 60) hx hb dX9_due_19 (by decide) ?_
  refine lv_icmp_le (tgt := 28) hx hb dX9_due_21 (by decide) (fun c21 => ?_) (fun c21 => ?_)
  · refine lv_iconst (v := 0) hx hb dX9_due_28 (by decide) ?_
    exact hs_iret hx hb hrt hlocks hK hP hD hS dX9_due_29 (by unfold duF; rw [if_neg (by decide)]; first | rw [if_pos c21] | rw [if_neg c21]) (by unfold duN; rw [if_neg (by decide)]; simp only [bds, weN, List.foldl_cons, List.foldl_nil])
  · refine lv_iconst (v := 1) hx hb dX9_due_24 (by decide) ?_
    refine lv_goto (tgt := 29) hx hb dX9_due_25 (by decide) ?_
    exact hs_iret hx hb hrt hlocks hK hP hD hS dX9_due_29 (by unfold duF; rw [if_neg (by decide)]; first | rw [if_pos c21] | rw [if_neg c21]) (by unfold duN; rw [if_neg (by decide)]; simp only [bds, weN, List.foldl_cons, List.foldl_nil])

set_option maxHeartbeats 400000 in
set_option maxRecDepth 100000 in
theorem c_X9_due_4 (l : Launch) (D : va_G) (o : Nat) (ad : Nat → Nat) (cd : Nat → ClassId) (tn td cs hd : Int32) (kd rt vl hr hw cu si : Nat → Int32) (acc : Nat → Int64) (st : TS) (t : Int32) (ht : vp_in t 24) (hkd : kd t.toNatClampNeg = nI 4) (hok : okM 3 st) (x : Int32) (hhr : hr t.toNatClampNeg = x) (d : Int32) : CM l D yX9_due cX9_due 3 (some .int) { frames := 2, cells := 0, slots := 0, locals := 44 } (tyM cd) [.ref o, .int t, .int d] (mW o ad cd tn td cs hd kd rt vl hr hw cu si acc st) (hs_QI D (tyM cd) (duF 4 x d) (mW o ad cd tn td cs hd kd rt vl hr hw cu si acc (bds (duN 4) st))) := by
  refine CM.of (by decide) (Nat.le_of_ble_eq_true rfl) ?_
  intro p e s m below meth c A ls hx hb hrt hml htg hown hlocks hnm hA hK hP hD hS hl
  have hown : s.vm.findClass RX9 = some m.cls := hown
  have hl : lv_has ls 3 [(0, .ref o), (1, .int t), (2, .int d)] := hl
  have SF : CallFix p m c cX9_due 3 s _ hs_gt RX9 := ⟨hx, hb, hml, hown, htg⟩
  have hkd : kd t.toNatClampNeg = 4 := hkd
  refine lv_aload_n hx hb dX9_due_0 rfl (lv_at hl 0 rfl) ?_
  refine lv_bipush (v := 43) hx hb dX9_due_1 (by decide) ?_
  refine hs_callv0 (w1 := (mW o ad cd tn td cs hd kd rt vl hr hw cu si acc (bdT 43 st))) (hs_runV (q0 := 0) SF cal_X9_body tw_598 (c_X9_body l D o ad cd tn td cs hd kd rt vl hr hw cu si acc st (okM_mono hok (by decide)) 43) hK hP hD rfl rfl ⟨Nat.le_of_ble_eq_true rfl, Nat.le_of_ble_eq_true rfl⟩ rfl hl.1 rfl (Nat.le_of_ble_eq_true rfl) dX9_due_3 ⟨Nat.le_of_ble_eq_true rfl, Nat.le_of_ble_eq_true rfl⟩) hD hS hA (fun H locs hP hD hS => ?_)
  refine lv_aload_n hx hb dX9_due_6 rfl (lv_at hl 0 rfl) ?_
  refine va_get (D := D) (ci := 9) (v := .ref (ad 4)) (C := RX9) (T := TX9) (N := 15) hx hb htg in_X9 hown hK hP 0 rfl rfl 4 (by decide) (htg _ tw_524) (fun _ h9 => h9) rfl dX9_due_7 ?_
  refine lv_iload_n hx hb dX9_due_10 rfl (lv_at hl 1 rfl) ?_
  refine va_iald hx hb hK hP 4 3 rfl rfl (ht) dX9_due_11 ?_
  rw [hhr]
  refine lv_aload_n hx hb dX9_due_12 rfl (lv_at hl 0 rfl) ?_
  refine lv_iload_n hx hb dX9_due_13 rfl (lv_at hl 1 rfl) ?_
  refine lv_iload_n hx hb dX9_due_14 rfl (lv_at hl 2 rfl) ?_
  refine hs_calli0 (w1 := (mW o ad cd tn td cs hd kd rt vl hr hw cu si acc (bds [12, 11] (bdT 43 st)))) (hs_runV (q0 := 0) SF cal_X9_wear tw_602 (c_X9_wear l D o ad cd tn td cs hd kd rt vl hr hw cu si acc (bdT 43 st) t ht 4 (by decide) hkd (okM_bd 43 hok) x hhr d) hK hP hD rfl rfl ⟨Nat.le_of_ble_eq_true rfl, Nat.le_of_ble_eq_true rfl⟩ rfl hl.1 rfl (Nat.le_of_ble_eq_true rfl) dX9_due_15 ⟨Nat.le_of_ble_eq_true rfl, Nat.le_of_ble_eq_true rfl⟩) hD hS hA (fun H locs hP hD hS => ?_)
  refine lv_iadd hx hb dX9_due_18 ?_
  refine lv_bipush (v := 60) hx hb dX9_due_19 (by decide) ?_
  refine lv_icmp_le (tgt := 28) hx hb dX9_due_21 (by decide) (fun c21 => ?_) (fun c21 => ?_)
  · refine lv_iconst (v := 0) hx hb dX9_due_28 (by decide) ?_
    exact hs_iret hx hb hrt hlocks hK hP hD hS dX9_due_29 (by unfold duF; rw [if_neg (by decide)]; first | rw [if_pos c21] | rw [if_neg c21]) (by unfold duN; rw [if_neg (by decide)]; simp only [bds, weN, List.foldl_cons, List.foldl_nil])
  · refine lv_iconst (v := 1) hx hb dX9_due_24 (by decide) ?_
    refine lv_goto (tgt := 29) hx hb dX9_due_25 (by decide) ?_
    exact hs_iret hx hb hrt hlocks hK hP hD hS dX9_due_29 (by unfold duF; rw [if_neg (by decide)]; first | rw [if_pos c21] | rw [if_neg c21]) (by unfold duN; rw [if_neg (by decide)]; simp only [bds, weN, List.foldl_cons, List.foldl_nil])

set_option maxHeartbeats 400000 in
set_option maxRecDepth 100000 in
theorem c_X9_due_5 (l : Launch) (D : va_G) (o : Nat) (ad : Nat → Nat) (cd : Nat → ClassId) (tn td cs hd : Int32) (kd rt vl hr hw cu si : Nat → Int32) (acc : Nat → Int64) (st : TS) (t : Int32) (ht : vp_in t 24) (hkd : kd t.toNatClampNeg = nI 5) (hok : okM 3 st) (x : Int32) (hhr : hr t.toNatClampNeg = x) (d : Int32) : CM l D yX9_due cX9_due 3 (some .int) { frames := 2, cells := 0, slots := 0, locals := 44 } (tyM cd) [.ref o, .int t, .int d] (mW o ad cd tn td cs hd kd rt vl hr hw cu si acc st) (hs_QI D (tyM cd) (duF 5 x d) (mW o ad cd tn td cs hd kd rt vl hr hw cu si acc (bds (duN 5) st))) := by
  refine CM.of (by decide) (Nat.le_of_ble_eq_true rfl) ?_
  intro p e s m below meth c A ls hx hb hrt hml htg hown hlocks hnm hA hK hP hD hS hl
  have hown : s.vm.findClass RX9 = some m.cls := hown
  have hl : lv_has ls 3 [(0, .ref o), (1, .int t), (2, .int d)] := hl
  have SF : CallFix p m c cX9_due 3 s _ hs_gt RX9 := ⟨hx, hb, hml, hown, htg⟩
  have hkd : kd t.toNatClampNeg = 5 := hkd
  refine lv_aload_n hx hb dX9_due_0 rfl (lv_at hl 0 rfl) ?_
  refine lv_bipush (v := 43) hx hb dX9_due_1 (by decide) ?_
  refine hs_callv0 (w1 := (mW o ad cd tn td cs hd kd rt vl hr hw cu si acc (bdT 43 st))) (hs_runV (q0 := 0) SF cal_X9_body tw_598 (c_X9_body l D o ad cd tn td cs hd kd rt vl hr hw cu si acc st (okM_mono hok (by decide)) 43) hK hP hD rfl rfl ⟨Nat.le_of_ble_eq_true rfl, Nat.le_of_ble_eq_true rfl⟩ rfl hl.1 rfl (Nat.le_of_ble_eq_true rfl) dX9_due_3 ⟨Nat.le_of_ble_eq_true rfl, Nat.le_of_ble_eq_true rfl⟩) hD hS hA (fun H locs hP hD hS => ?_)
  refine lv_aload_n hx hb dX9_due_6 rfl (lv_at hl 0 rfl) ?_
  refine va_get (D := D) (ci := 9) (v := .ref (ad 4)) (C := RX9) (T := TX9) (N := 15) hx hb htg in_X9 hown hK hP 0 rfl rfl 4 (by decide) (htg _ tw_524) (fun _ h9 => h9) rfl dX9_due_7 ?_
  refine lv_iload_n hx hb dX9_due_10 rfl (lv_at hl 1 rfl) ?_
  refine va_iald hx hb hK hP 4 3 rfl rfl (ht) dX9_due_11 ?_
  rw [hhr]
  refine lv_aload_n hx hb dX9_due_12 rfl (lv_at hl 0 rfl) ?_
  refine lv_iload_n hx hb dX9_due_13 rfl (lv_at hl 1 rfl) ?_
  refine lv_iload_n hx hb dX9_due_14 rfl (lv_at hl 2 rfl) ?_
  refine hs_calli0 (w1 := (mW o ad cd tn td cs hd kd rt vl hr hw cu si acc (bds [13, 11] (bdT 43 st)))) (hs_runV (q0 := 0) SF cal_X9_wear tw_602 (c_X9_wear l D o ad cd tn td cs hd kd rt vl hr hw cu si acc (bdT 43 st) t ht 5 (by decide) hkd (okM_bd 43 hok) x hhr d) hK hP hD rfl rfl ⟨Nat.le_of_ble_eq_true rfl, Nat.le_of_ble_eq_true rfl⟩ rfl hl.1 rfl (Nat.le_of_ble_eq_true rfl) dX9_due_15 ⟨Nat.le_of_ble_eq_true rfl, Nat.le_of_ble_eq_true rfl⟩) hD hS hA (fun H locs hP hD hS => ?_)
  refine lv_iadd hx hb dX9_due_18 ?_
  refine lv_bipush (v := 60) hx hb dX9_due_19 (by decide) ?_
  refine lv_icmp_le (tgt := 28) hx hb dX9_due_21 (by decide) (fun c21 => ?_) (fun c21 => ?_)
  · refine lv_iconst (v := 0) hx hb dX9_due_28 (by decide) ?_
    exact hs_iret hx hb hrt hlocks hK hP hD hS dX9_due_29 (by unfold duF; rw [if_neg (by decide)]; first | rw [if_pos c21] | rw [if_neg c21]) (by unfold duN; rw [if_neg (by decide)]; simp only [bds, weN, List.foldl_cons, List.foldl_nil])
  · refine lv_iconst (v := 1) hx hb dX9_due_24 (by decide) ?_
    refine lv_goto (tgt := 29) hx hb dX9_due_25 (by decide) ?_
    exact hs_iret hx hb hrt hlocks hK hP hD hS dX9_due_29 (by unfold duF; rw [if_neg (by decide)]; first | rw [if_pos c21] | rw [if_neg c21]) (by unfold duN; rw [if_neg (by decide)]; simp only [bds, weN, List.foldl_cons, List.foldl_nil])

set_option maxHeartbeats 400000 in
set_option maxRecDepth 100000 in
theorem c_X9_due_6 (l : Launch) (D : va_G) (o : Nat) (ad : Nat → Nat) (cd : Nat → ClassId) (tn td cs hd : Int32) (kd rt vl hr hw cu si : Nat → Int32) (acc : Nat → Int64) (st : TS) (t : Int32) (ht : vp_in t 24) (hkd : kd t.toNatClampNeg = nI 6) (hok : okM 3 st) (x : Int32) (hhr : hr t.toNatClampNeg = x) (d : Int32) : CM l D yX9_due cX9_due 3 (some .int) { frames := 2, cells := 0, slots := 0, locals := 44 } (tyM cd) [.ref o, .int t, .int d] (mW o ad cd tn td cs hd kd rt vl hr hw cu si acc st) (hs_QI D (tyM cd) (duF 6 x d) (mW o ad cd tn td cs hd kd rt vl hr hw cu si acc (bds (duN 6) st))) := by
  refine CM.of (by decide) (Nat.le_of_ble_eq_true rfl) ?_
  intro p e s m below meth c A ls hx hb hrt hml htg hown hlocks hnm hA hK hP hD hS hl
  have hown : s.vm.findClass RX9 = some m.cls := hown
  have hl : lv_has ls 3 [(0, .ref o), (1, .int t), (2, .int d)] := hl
  have SF : CallFix p m c cX9_due 3 s _ hs_gt RX9 := ⟨hx, hb, hml, hown, htg⟩
  have hkd : kd t.toNatClampNeg = 6 := hkd
  refine lv_aload_n hx hb dX9_due_0 rfl (lv_at hl 0 rfl) ?_
  refine lv_bipush (v := 43) hx hb dX9_due_1 (by decide) ?_
  refine hs_callv0 (w1 := (mW o ad cd tn td cs hd kd rt vl hr hw cu si acc (bdT 43 st))) (hs_runV (q0 := 0) SF cal_X9_body tw_598 (c_X9_body l D o ad cd tn td cs hd kd rt vl hr hw cu si acc st (okM_mono hok (by decide)) 43) hK hP hD rfl rfl ⟨Nat.le_of_ble_eq_true rfl, Nat.le_of_ble_eq_true rfl⟩ rfl hl.1 rfl (Nat.le_of_ble_eq_true rfl) dX9_due_3 ⟨Nat.le_of_ble_eq_true rfl, Nat.le_of_ble_eq_true rfl⟩) hD hS hA (fun H locs hP hD hS => ?_)
  refine lv_aload_n hx hb dX9_due_6 rfl (lv_at hl 0 rfl) ?_
  refine va_get (D := D) (ci := 9) (v := .ref (ad 4)) (C := RX9) (T := TX9) (N := 15) hx hb htg in_X9 hown hK hP 0 rfl rfl 4 (by decide) (htg _ tw_524) (fun _ h9 => h9) rfl dX9_due_7 ?_
  refine lv_iload_n hx hb dX9_due_10 rfl (lv_at hl 1 rfl) ?_
  refine va_iald hx hb hK hP 4 3 rfl rfl (ht) dX9_due_11 ?_
  rw [hhr]
  refine lv_aload_n hx hb dX9_due_12 rfl (lv_at hl 0 rfl) ?_
  refine lv_iload_n hx hb dX9_due_13 rfl (lv_at hl 1 rfl) ?_
  refine lv_iload_n hx hb dX9_due_14 rfl (lv_at hl 2 rfl) ?_
  refine hs_calli0 (w1 := (mW o ad cd tn td cs hd kd rt vl hr hw cu si acc (bds [13, 11] (bdT 43 st)))) (hs_runV (q0 := 0) SF cal_X9_wear tw_602 (c_X9_wear l D o ad cd tn td cs hd kd rt vl hr hw cu si acc (bdT 43 st) t ht 6 (by decide) hkd (okM_bd 43 hok) x hhr d) hK hP hD rfl rfl ⟨Nat.le_of_ble_eq_true rfl, Nat.le_of_ble_eq_true rfl⟩ rfl hl.1 rfl (Nat.le_of_ble_eq_true rfl) dX9_due_15 ⟨Nat.le_of_ble_eq_true rfl, Nat.le_of_ble_eq_true rfl⟩) hD hS hA (fun H locs hP hD hS => ?_)
  refine lv_iadd hx hb dX9_due_18 ?_
  refine lv_bipush (v := 60) hx hb dX9_due_19 (by decide) ?_
  refine lv_icmp_le (tgt := 28) hx hb dX9_due_21 (by decide) (fun c21 => ?_) (fun c21 => ?_)
  · refine lv_iconst (v := 0) hx hb dX9_due_28 (by decide) ?_
    exact hs_iret hx hb hrt hlocks hK hP hD hS dX9_due_29 (by unfold duF; rw [if_neg (by decide)]; first | rw [if_pos c21] | rw [if_neg c21]) (by unfold duN; rw [if_neg (by decide)]; simp only [bds, weN, List.foldl_cons, List.foldl_nil])
  · refine lv_iconst (v := 1) hx hb dX9_due_24 (by decide) ?_
    refine lv_goto (tgt := 29) hx hb dX9_due_25 (by decide) ?_
    exact hs_iret hx hb hrt hlocks hK hP hD hS dX9_due_29 (by unfold duF; rw [if_neg (by decide)]; first | rw [if_pos c21] | rw [if_neg c21]) (by unfold duN; rw [if_neg (by decide)]; simp only [bds, weN, List.foldl_cons, List.foldl_nil])

theorem c_X9_due (l : Launch) (D : va_G) (o : Nat) (ad : Nat → Nat) (cd : Nat → ClassId) (tn td cs hd : Int32) (kd rt vl hr hw cu si : Nat → Int32) (acc : Nat → Int64) (st : TS) (t : Int32) (ht : vp_in t 24) (k : Nat) (hk : k < 7) (hkd : kd t.toNatClampNeg = nI k) (hok : okM 3 st) (x : Int32) (hhr : hr t.toNatClampNeg = x) (d : Int32) (hg : ¬ isS k = 0) : CM l D yX9_due cX9_due 3 (some .int) { frames := 2, cells := 0, slots := 0, locals := 44 } (tyM cd) [.ref o, .int t, .int d] (mW o ad cd tn td cs hd kd rt vl hr hw cu si acc st) (hs_QI D (tyM cd) (duF k x d) (mW o ad cd tn td cs hd kd rt vl hr hw cu si acc (bds (duN k) st))) := by
  match k, hk, hkd, hg with
  | 0, _, _, hg => exact absurd hg (by decide)
  | 1, _, _, hg => exact absurd hg (by decide)
  | 2, _, _, hg => exact absurd hg (by decide)
  | 3, _, hkd, hg => exact c_X9_due_3 l D o ad cd tn td cs hd kd rt vl hr hw cu si acc st t ht hkd hok x hhr d
  | 4, _, hkd, hg => exact c_X9_due_4 l D o ad cd tn td cs hd kd rt vl hr hw cu si acc st t ht hkd hok x hhr d
  | 5, _, hkd, hg => exact c_X9_due_5 l D o ad cd tn td cs hd kd rt vl hr hw cu si acc st t ht hkd hok x hhr d
  | 6, _, hkd, hg => exact c_X9_due_6 l D o ad cd tn td cs hd kd rt vl hr hw cu si acc st t ht hkd hok x hhr d
  | k + 7, hk, _, _ => exact absurd hk (by omega)

theorem cal_X9_due : hs_cV yX9_due cX9_due 3 (some .int) 2 := ⟨tw_621, tw_620, tw_14, tw_19, by decide +kernel⟩

set_option maxHeartbeats 400000 in
set_option maxRecDepth 100000 in
theorem c_X9_lent_0 (l : Launch) (D : va_G) (o : Nat) (ad : Nat → Nat) (cd : Nat → ClassId) (tn td cs hd : Int32) (kd rt vl hr hw cu si : Nat → Int32) (acc : Nat → Int64) (st : TS) (t : Int32) (ht : vp_in t 24) (hkd : kd t.toNatClampNeg = nI 0) (hok : okM 2 st) : CM l D yX9_lent cX9_lent 2 (some .int) { frames := 2, cells := 0, slots := 0, locals := 42 } (tyM cd) [.ref o, .int t] (mW o ad cd tn td cs hd kd rt vl hr hw cu si acc st) (hs_QI D (tyM cd) (dpF 0 (vl t.toNatClampNeg)) (mW o ad cd tn td cs hd kd rt vl hr hw cu si acc (bds (dpN 0) st))) := by
  refine CM.of (by decide) (Nat.le_of_ble_eq_true rfl) ?_
  intro p e s m below meth c A ls hx hb hrt hml htg hown hlocks hnm hA hK hP hD hS hl
  have hown : s.vm.findClass RX9 = some m.cls := hown
  have hl : lv_has ls 2 [(0, .ref o), (1, .int t)] := hl
  have SF : CallFix p m c cX9_lent 2 s _ hs_gt RX9 := ⟨hx, hb, hml, hown, htg⟩
  have hkd : kd t.toNatClampNeg = 0 := hkd
  refine lv_aload_n hx hb dX9_lent_0 rfl (lv_at hl 0 rfl) ?_
  refine va_get (D := D) (ci := 9) (v := .ref (ad 1)) (C := RX9) (T := TX9) (N := 15) hx hb htg in_X9 hown hK hP 0 rfl rfl 1 (by decide) (htg _ tw_521) (fun _ h9 => h9) rfl dX9_lent_1 ?_
  refine lv_iload_n hx hb dX9_lent_4 rfl (lv_at hl 1 rfl) ?_
  refine va_iald hx hb hK hP 1 0 rfl rfl (ht) dX9_lent_5 ?_
  rw [hkd]
  refine lv_if_le (tgt := 17) hx hb dX9_lent_6 (by decide) (fun c6 => ?_) (fun c6 => absurd c6 ((by decide)))
  refine lv_iconst (v := 0) hx hb dX9_lent_17 (by decide) ?_
  exact hs_iret hx hb hrt hlocks hK hP hD hS dX9_lent_18 (rfl) (by first | (simp only [bds, dpN, List.foldl_cons, List.foldl_nil]; done) | rfl)

set_option maxHeartbeats 400000 in
set_option maxRecDepth 100000 in
theorem c_X9_lent_1 (l : Launch) (D : va_G) (o : Nat) (ad : Nat → Nat) (cd : Nat → ClassId) (tn td cs hd : Int32) (kd rt vl hr hw cu si : Nat → Int32) (acc : Nat → Int64) (st : TS) (t : Int32) (ht : vp_in t 24) (hkd : kd t.toNatClampNeg = nI 1) (hok : okM 2 st) : CM l D yX9_lent cX9_lent 2 (some .int) { frames := 2, cells := 0, slots := 0, locals := 42 } (tyM cd) [.ref o, .int t] (mW o ad cd tn td cs hd kd rt vl hr hw cu si acc st) (hs_QI D (tyM cd) (dpF 1 (vl t.toNatClampNeg)) (mW o ad cd tn td cs hd kd rt vl hr hw cu si acc (bds (dpN 1) st))) := by
  refine CM.of (by decide) (Nat.le_of_ble_eq_true rfl) ?_
  intro p e s m below meth c A ls hx hb hrt hml htg hown hlocks hnm hA hK hP hD hS hl
  have hown : s.vm.findClass RX9 = some m.cls := hown
  have hl : lv_has ls 2 [(0, .ref o), (1, .int t)] := hl
  have SF : CallFix p m c cX9_lent 2 s _ hs_gt RX9 := ⟨hx, hb, hml, hown, htg⟩
  have hkd : kd t.toNatClampNeg = 1 := hkd
  refine lv_aload_n hx hb dX9_lent_0 rfl (lv_at hl 0 rfl) ?_
  refine va_get (D := D) (ci := 9) (v := .ref (ad 1)) (C := RX9) (T := TX9) (N := 15) hx hb htg in_X9 hown hK hP 0 rfl rfl 1 (by decide) (htg _ tw_521) (fun _ h9 => h9) rfl dX9_lent_1 ?_
  refine lv_iload_n hx hb dX9_lent_4 rfl (lv_at hl 1 rfl) ?_
  refine va_iald hx hb hK hP 1 0 rfl rfl (ht) dX9_lent_5 ?_
  rw [hkd]
  refine lv_if_le (tgt := 17) hx hb dX9_lent_6 (by decide) (fun c6 => absurd c6 ((by decide))) (fun c6 => ?_)
  refine lv_aload_n hx hb dX9_lent_9 rfl (lv_at hl 0 rfl) ?_
  refine lv_iload_n hx hb dX9_lent_10 rfl (lv_at hl 1 rfl) ?_
  refine hs_calli0 (w1 := (mW o ad cd tn td cs hd kd rt vl hr hw cu si acc (bds [31] st))) (hs_runV (q0 := 0) SF cal_X9_deposit tw_610 (c_X9_deposit l D o ad cd tn td cs hd kd rt vl hr hw cu si acc st t ht 1 (by decide) hkd hok (by decide)) hK hP hD rfl rfl ⟨Nat.le_of_ble_eq_true rfl, Nat.le_of_ble_eq_true rfl⟩ rfl hl.1 rfl (Nat.le_of_ble_eq_true rfl) dX9_lent_11 ⟨Nat.le_of_ble_eq_true rfl, Nat.le_of_ble_eq_true rfl⟩) hD hS hA (fun H locs hP hD hS => ?_)
  refine lv_goto (tgt := 18) hx hb dX9_lent_14 (by decide) ?_
  exact hs_iret hx hb hrt hlocks hK hP hD hS dX9_lent_18 (rfl) (by first | (simp only [bds, dpN, List.foldl_cons, List.foldl_nil]; done) | rfl)

set_option maxHeartbeats 400000 in
set_option maxRecDepth 100000 in
theorem c_X9_lent_2 (l : Launch) (D : va_G) (o : Nat) (ad : Nat → Nat) (cd : Nat → ClassId) (tn td cs hd : Int32) (kd rt vl hr hw cu si : Nat → Int32) (acc : Nat → Int64) (st : TS) (t : Int32) (ht : vp_in t 24) (hkd : kd t.toNatClampNeg = nI 2) (hok : okM 2 st) : CM l D yX9_lent cX9_lent 2 (some .int) { frames := 2, cells := 0, slots := 0, locals := 42 } (tyM cd) [.ref o, .int t] (mW o ad cd tn td cs hd kd rt vl hr hw cu si acc st) (hs_QI D (tyM cd) (dpF 2 (vl t.toNatClampNeg)) (mW o ad cd tn td cs hd kd rt vl hr hw cu si acc (bds (dpN 2) st))) := by
  refine CM.of (by decide) (Nat.le_of_ble_eq_true rfl) ?_
  intro p e s m below meth c A ls hx hb hrt hml htg hown hlocks hnm hA hK hP hD hS hl
  have hown : s.vm.findClass RX9 = some m.cls := hown
  have hl : lv_has ls 2 [(0, .ref o), (1, .int t)] := hl
  have SF : CallFix p m c cX9_lent 2 s _ hs_gt RX9 := ⟨hx, hb, hml, hown, htg⟩
  have hkd : kd t.toNatClampNeg = 2 := hkd
  refine lv_aload_n hx hb dX9_lent_0 rfl (lv_at hl 0 rfl) ?_
  refine va_get (D := D) (ci := 9) (v := .ref (ad 1)) (C := RX9) (T := TX9) (N := 15) hx hb htg in_X9 hown hK hP 0 rfl rfl 1 (by decide) (htg _ tw_521) (fun _ h9 => h9) rfl dX9_lent_1 ?_
  refine lv_iload_n hx hb dX9_lent_4 rfl (lv_at hl 1 rfl) ?_
  refine va_iald hx hb hK hP 1 0 rfl rfl (ht) dX9_lent_5 ?_
  rw [hkd]
  refine lv_if_le (tgt := 17) hx hb dX9_lent_6 (by decide) (fun c6 => absurd c6 ((by decide))) (fun c6 => ?_)
  refine lv_aload_n hx hb dX9_lent_9 rfl (lv_at hl 0 rfl) ?_
  refine lv_iload_n hx hb dX9_lent_10 rfl (lv_at hl 1 rfl) ?_
  refine hs_calli0 (w1 := (mW o ad cd tn td cs hd kd rt vl hr hw cu si acc (bds [31] st))) (hs_runV (q0 := 0) SF cal_X9_deposit tw_610 (c_X9_deposit l D o ad cd tn td cs hd kd rt vl hr hw cu si acc st t ht 2 (by decide) hkd hok (by decide)) hK hP hD rfl rfl ⟨Nat.le_of_ble_eq_true rfl, Nat.le_of_ble_eq_true rfl⟩ rfl hl.1 rfl (Nat.le_of_ble_eq_true rfl) dX9_lent_11 ⟨Nat.le_of_ble_eq_true rfl, Nat.le_of_ble_eq_true rfl⟩) hD hS hA (fun H locs hP hD hS => ?_)
  refine lv_goto (tgt := 18) hx hb dX9_lent_14 (by decide) ?_
  exact hs_iret hx hb hrt hlocks hK hP hD hS dX9_lent_18 (rfl) (by first | (simp only [bds, dpN, List.foldl_cons, List.foldl_nil]; done) | rfl)

set_option maxHeartbeats 400000 in
set_option maxRecDepth 100000 in
theorem c_X9_lent_3 (l : Launch) (D : va_G) (o : Nat) (ad : Nat → Nat) (cd : Nat → ClassId) (tn td cs hd : Int32) (kd rt vl hr hw cu si : Nat → Int32) (acc : Nat → Int64) (st : TS) (t : Int32) (ht : vp_in t 24) (hkd : kd t.toNatClampNeg = nI 3) (hok : okM 2 st) : CM l D yX9_lent cX9_lent 2 (some .int) { frames := 2, cells := 0, slots := 0, locals := 42 } (tyM cd) [.ref o, .int t] (mW o ad cd tn td cs hd kd rt vl hr hw cu si acc st) (hs_QI D (tyM cd) (dpF 3 (vl t.toNatClampNeg)) (mW o ad cd tn td cs hd kd rt vl hr hw cu si acc (bds (dpN 3) st))) := by
  refine CM.of (by decide) (Nat.le_of_ble_eq_true rfl) ?_
  intro p e s m below meth c A ls hx hb hrt hml htg hown hlocks hnm hA hK hP hD hS hl
  have hown : s.vm.findClass RX9 = some m.cls := hown
  have hl : lv_has ls 2 [(0, .ref o), (1, .int t)] := hl
  have SF : CallFix p m c cX9_lent 2 s _ hs_gt RX9 := ⟨hx, hb, hml, hown, htg⟩
  have hkd : kd t.toNatClampNeg = 3 := hkd
  refine lv_aload_n hx hb dX9_lent_0 rfl (lv_at hl 0 rfl) ?_
  refine va_get (D := D) (ci := 9) (v := .ref (ad 1)) (C := RX9) (T := TX9) (N := 15) hx hb htg in_X9 hown hK hP 0 rfl rfl 1 (by decide) (htg _ tw_521) (fun _ h9 => h9) rfl dX9_lent_1 ?_
  refine lv_iload_n hx hb dX9_lent_4 rfl (lv_at hl 1 rfl) ?_
  refine va_iald hx hb hK hP 1 0 rfl rfl (ht) dX9_lent_5 ?_
  rw [hkd]
  refine lv_if_le (tgt := 17) hx hb dX9_lent_6 (by decide) (fun c6 => absurd c6 ((by decide))) (fun c6 => ?_)
  refine lv_aload_n hx hb dX9_lent_9 rfl (lv_at hl 0 rfl) ?_
  refine lv_iload_n hx hb dX9_lent_10 rfl (lv_at hl 1 rfl) ?_
  refine hs_calli0 (w1 := (mW o ad cd tn td cs hd kd rt vl hr hw cu si acc (bds [31] st))) (hs_runV (q0 := 0) SF cal_X9_deposit tw_610 (c_X9_deposit l D o ad cd tn td cs hd kd rt vl hr hw cu si acc st t ht 3 (by decide) hkd hok (by decide)) hK hP hD rfl rfl ⟨Nat.le_of_ble_eq_true rfl, Nat.le_of_ble_eq_true rfl⟩ rfl hl.1 rfl (Nat.le_of_ble_eq_true rfl) dX9_lent_11 ⟨Nat.le_of_ble_eq_true rfl, Nat.le_of_ble_eq_true rfl⟩) hD hS hA (fun H locs hP hD hS => ?_)
  refine lv_goto (tgt := 18) hx hb dX9_lent_14 (by decide) ?_
  exact hs_iret hx hb hrt hlocks hK hP hD hS dX9_lent_18 (rfl) (by first | (simp only [bds, dpN, List.foldl_cons, List.foldl_nil]; done) | rfl)

set_option maxHeartbeats 400000 in
set_option maxRecDepth 100000 in
theorem c_X9_lent_4 (l : Launch) (D : va_G) (o : Nat) (ad : Nat → Nat) (cd : Nat → ClassId) (tn td cs hd : Int32) (kd rt vl hr hw cu si : Nat → Int32) (acc : Nat → Int64) (st : TS) (t : Int32) (ht : vp_in t 24) (hkd : kd t.toNatClampNeg = nI 4) (hok : okM 2 st) : CM l D yX9_lent cX9_lent 2 (some .int) { frames := 2, cells := 0, slots := 0, locals := 42 } (tyM cd) [.ref o, .int t] (mW o ad cd tn td cs hd kd rt vl hr hw cu si acc st) (hs_QI D (tyM cd) (dpF 4 (vl t.toNatClampNeg)) (mW o ad cd tn td cs hd kd rt vl hr hw cu si acc (bds (dpN 4) st))) := by
  refine CM.of (by decide) (Nat.le_of_ble_eq_true rfl) ?_
  intro p e s m below meth c A ls hx hb hrt hml htg hown hlocks hnm hA hK hP hD hS hl
  have hown : s.vm.findClass RX9 = some m.cls := hown
  have hl : lv_has ls 2 [(0, .ref o), (1, .int t)] := hl
  have SF : CallFix p m c cX9_lent 2 s _ hs_gt RX9 := ⟨hx, hb, hml, hown, htg⟩
  have hkd : kd t.toNatClampNeg = 4 := hkd
  refine lv_aload_n hx hb dX9_lent_0 rfl (lv_at hl 0 rfl) ?_
  refine va_get (D := D) (ci := 9) (v := .ref (ad 1)) (C := RX9) (T := TX9) (N := 15) hx hb htg in_X9 hown hK hP 0 rfl rfl 1 (by decide) (htg _ tw_521) (fun _ h9 => h9) rfl dX9_lent_1 ?_
  refine lv_iload_n hx hb dX9_lent_4 rfl (lv_at hl 1 rfl) ?_
  refine va_iald hx hb hK hP 1 0 rfl rfl (ht) dX9_lent_5 ?_
  rw [hkd]
  refine lv_if_le (tgt := 17) hx hb dX9_lent_6 (by decide) (fun c6 => absurd c6 ((by decide))) (fun c6 => ?_)
  refine lv_aload_n hx hb dX9_lent_9 rfl (lv_at hl 0 rfl) ?_
  refine lv_iload_n hx hb dX9_lent_10 rfl (lv_at hl 1 rfl) ?_
  refine hs_calli0 (w1 := (mW o ad cd tn td cs hd kd rt vl hr hw cu si acc (bds [32, 31] st))) (hs_runV (q0 := 0) SF cal_X9_deposit tw_610 (c_X9_deposit l D o ad cd tn td cs hd kd rt vl hr hw cu si acc st t ht 4 (by decide) hkd hok (by decide)) hK hP hD rfl rfl ⟨Nat.le_of_ble_eq_true rfl, Nat.le_of_ble_eq_true rfl⟩ rfl hl.1 rfl (Nat.le_of_ble_eq_true rfl) dX9_lent_11 ⟨Nat.le_of_ble_eq_true rfl, Nat.le_of_ble_eq_true rfl⟩) hD hS hA (fun H locs hP hD hS => ?_)
  refine lv_goto (tgt := 18) hx hb dX9_lent_14 (by decide) ?_
  exact hs_iret hx hb hrt hlocks hK hP hD hS dX9_lent_18 (rfl) (by first | (simp only [bds, dpN, List.foldl_cons, List.foldl_nil]; done) | rfl)

set_option maxHeartbeats 400000 in
set_option maxRecDepth 100000 in
theorem c_X9_lent_5 (l : Launch) (D : va_G) (o : Nat) (ad : Nat → Nat) (cd : Nat → ClassId) (tn td cs hd : Int32) (kd rt vl hr hw cu si : Nat → Int32) (acc : Nat → Int64) (st : TS) (t : Int32) (ht : vp_in t 24) (hkd : kd t.toNatClampNeg = nI 5) (hok : okM 2 st) : CM l D yX9_lent cX9_lent 2 (some .int) { frames := 2, cells := 0, slots := 0, locals := 42 } (tyM cd) [.ref o, .int t] (mW o ad cd tn td cs hd kd rt vl hr hw cu si acc st) (hs_QI D (tyM cd) (dpF 5 (vl t.toNatClampNeg)) (mW o ad cd tn td cs hd kd rt vl hr hw cu si acc (bds (dpN 5) st))) := by
  refine CM.of (by decide) (Nat.le_of_ble_eq_true rfl) ?_
  intro p e s m below meth c A ls hx hb hrt hml htg hown hlocks hnm hA hK hP hD hS hl
  have hown : s.vm.findClass RX9 = some m.cls := hown
  have hl : lv_has ls 2 [(0, .ref o), (1, .int t)] := hl
  have SF : CallFix p m c cX9_lent 2 s _ hs_gt RX9 := ⟨hx, hb, hml, hown, htg⟩
  have hkd : kd t.toNatClampNeg = 5 := hkd
  refine lv_aload_n hx hb dX9_lent_0 rfl (lv_at hl 0 rfl) ?_
  refine va_get (D := D) (ci := 9) (v := .ref (ad 1)) (C := RX9) (T := TX9) (N := 15) hx hb htg in_X9 hown hK hP 0 rfl rfl 1 (by decide) (htg _ tw_521) (fun _ h9 => h9) rfl dX9_lent_1 ?_
  refine lv_iload_n hx hb dX9_lent_4 rfl (lv_at hl 1 rfl) ?_
  refine va_iald hx hb hK hP 1 0 rfl rfl (ht) dX9_lent_5 ?_
  rw [hkd]
  refine lv_if_le (tgt := 17) hx hb dX9_lent_6 (by decide) (fun c6 => absurd c6 ((by decide))) (fun c6 => ?_)
  refine lv_aload_n hx hb dX9_lent_9 rfl (lv_at hl 0 rfl) ?_
  refine lv_iload_n hx hb dX9_lent_10 rfl (lv_at hl 1 rfl) ?_
  refine hs_calli0 (w1 := (mW o ad cd tn td cs hd kd rt vl hr hw cu si acc (bds [31] st))) (hs_runV (q0 := 0) SF cal_X9_deposit tw_610 (c_X9_deposit l D o ad cd tn td cs hd kd rt vl hr hw cu si acc st t ht 5 (by decide) hkd hok (by decide)) hK hP hD rfl rfl ⟨Nat.le_of_ble_eq_true rfl, Nat.le_of_ble_eq_true rfl⟩ rfl hl.1 rfl (Nat.le_of_ble_eq_true rfl) dX9_lent_11 ⟨Nat.le_of_ble_eq_true rfl, Nat.le_of_ble_eq_true rfl⟩) hD hS hA (fun H locs hP hD hS => ?_)
  refine lv_goto (tgt := 18) hx hb dX9_lent_14 (by decide) ?_
  exact hs_iret hx hb hrt hlocks hK hP hD hS dX9_lent_18 (rfl) (by first | (simp only [bds, dpN, List.foldl_cons, List.foldl_nil]; done) | rfl)

set_option maxHeartbeats 400000 in
set_option maxRecDepth 100000 in
theorem c_X9_lent_6 (l : Launch) (D : va_G) (o : Nat) (ad : Nat → Nat) (cd : Nat → ClassId) (tn td cs hd : Int32) (kd rt vl hr hw cu si : Nat → Int32) (acc : Nat → Int64) (st : TS) (t : Int32) (ht : vp_in t 24) (hkd : kd t.toNatClampNeg = nI 6) (hok : okM 2 st) : CM l D yX9_lent cX9_lent 2 (some .int) { frames := 2, cells := 0, slots := 0, locals := 42 } (tyM cd) [.ref o, .int t] (mW o ad cd tn td cs hd kd rt vl hr hw cu si acc st) (hs_QI D (tyM cd) (dpF 6 (vl t.toNatClampNeg)) (mW o ad cd tn td cs hd kd rt vl hr hw cu si acc (bds (dpN 6) st))) := by
  refine CM.of (by decide) (Nat.le_of_ble_eq_true rfl) ?_
  intro p e s m below meth c A ls hx hb hrt hml htg hown hlocks hnm hA hK hP hD hS hl
  have hown : s.vm.findClass RX9 = some m.cls := hown
  have hl : lv_has ls 2 [(0, .ref o), (1, .int t)] := hl
  have SF : CallFix p m c cX9_lent 2 s _ hs_gt RX9 := ⟨hx, hb, hml, hown, htg⟩
  have hkd : kd t.toNatClampNeg = 6 := hkd
  refine lv_aload_n hx hb dX9_lent_0 rfl (lv_at hl 0 rfl) ?_
  refine va_get (D := D) (ci := 9) (v := .ref (ad 1)) (C := RX9) (T := TX9) (N := 15) hx hb htg in_X9 hown hK hP 0 rfl rfl 1 (by decide) (htg _ tw_521) (fun _ h9 => h9) rfl dX9_lent_1 ?_
  refine lv_iload_n hx hb dX9_lent_4 rfl (lv_at hl 1 rfl) ?_
  refine va_iald hx hb hK hP 1 0 rfl rfl (ht) dX9_lent_5 ?_
  rw [hkd]
  refine lv_if_le (tgt := 17) hx hb dX9_lent_6 (by decide) (fun c6 => absurd c6 ((by decide))) (fun c6 => ?_)
  refine lv_aload_n hx hb dX9_lent_9 rfl (lv_at hl 0 rfl) ?_
  refine lv_iload_n hx hb dX9_lent_10 rfl (lv_at hl 1 rfl) ?_
  refine hs_calli0 (w1 := (mW o ad cd tn td cs hd kd rt vl hr hw cu si acc (bds [31] st))) (hs_runV (q0 := 0) SF cal_X9_deposit tw_610 (c_X9_deposit l D o ad cd tn td cs hd kd rt vl hr hw cu si acc st t ht 6 (by decide) hkd hok (by decide)) hK hP hD rfl rfl ⟨Nat.le_of_ble_eq_true rfl, Nat.le_of_ble_eq_true rfl⟩ rfl hl.1 rfl (Nat.le_of_ble_eq_true rfl) dX9_lent_11 ⟨Nat.le_of_ble_eq_true rfl, Nat.le_of_ble_eq_true rfl⟩) hD hS hA (fun H locs hP hD hS => ?_)
  refine lv_goto (tgt := 18) hx hb dX9_lent_14 (by decide) ?_
  exact hs_iret hx hb hrt hlocks hK hP hD hS dX9_lent_18 (rfl) (by first | (simp only [bds, dpN, List.foldl_cons, List.foldl_nil]; done) | rfl)

theorem c_X9_lent (l : Launch) (D : va_G) (o : Nat) (ad : Nat → Nat) (cd : Nat → ClassId) (tn td cs hd : Int32) (kd rt vl hr hw cu si : Nat → Int32) (acc : Nat → Int64) (st : TS) (t : Int32) (ht : vp_in t 24) (k : Nat) (hk : k < 7) (hkd : kd t.toNatClampNeg = nI k) (hok : okM 2 st) : CM l D yX9_lent cX9_lent 2 (some .int) { frames := 2, cells := 0, slots := 0, locals := 42 } (tyM cd) [.ref o, .int t] (mW o ad cd tn td cs hd kd rt vl hr hw cu si acc st) (hs_QI D (tyM cd) (dpF k (vl t.toNatClampNeg)) (mW o ad cd tn td cs hd kd rt vl hr hw cu si acc (bds (dpN k) st))) := by
  match k, hk, hkd with
  | 0, _, hkd => exact c_X9_lent_0 l D o ad cd tn td cs hd kd rt vl hr hw cu si acc st t ht hkd hok 
  | 1, _, hkd => exact c_X9_lent_1 l D o ad cd tn td cs hd kd rt vl hr hw cu si acc st t ht hkd hok 
  | 2, _, hkd => exact c_X9_lent_2 l D o ad cd tn td cs hd kd rt vl hr hw cu si acc st t ht hkd hok 
  | 3, _, hkd => exact c_X9_lent_3 l D o ad cd tn td cs hd kd rt vl hr hw cu si acc st t ht hkd hok 
  | 4, _, hkd => exact c_X9_lent_4 l D o ad cd tn td cs hd kd rt vl hr hw cu si acc st t ht hkd hok 
  | 5, _, hkd => exact c_X9_lent_5 l D o ad cd tn td cs hd kd rt vl hr hw cu si acc st t ht hkd hok 
  | 6, _, hkd => exact c_X9_lent_6 l D o ad cd tn td cs hd kd rt vl hr hw cu si acc st t ht hkd hok 
  | k + 7, hk, _ => exact absurd hk (by omega)

theorem cal_X9_lent : hs_cV yX9_lent cX9_lent 2 (some .int) 1 := ⟨tw_633, tw_632, tw_15, tw_19, by decide +kernel⟩

set_option maxHeartbeats 400000 in
set_option maxRecDepth 100000 in
theorem c_X9_answers_0 (l : Launch) (D : va_G) (o : Nat) (ad : Nat → Nat) (cd : Nat → ClassId) (tn td cs hd : Int32) (kd rt vl hr hw cu si : Nat → Int32) (acc : Nat → Int64) (st : TS) (t : Int32) (ht : vp_in t 24) (hkd : kd t.toNatClampNeg = nI 0) (w : Int32) : CM l D yX9_answers cX9_answers 3 (some .boolean) { frames := 2, cells := 0, slots := 0, locals := 43 } (tyM cd) [.ref o, .int t, .int w] (mW o ad cd tn td cs hd kd rt vl hr hw cu si acc st) (hs_QI D (tyM cd) (hasA 0 w) (mW o ad cd tn td cs hd kd rt vl hr hw cu si acc st)) := by
  refine CM.of (by decide) (Nat.le_of_ble_eq_true rfl) ?_
  intro p e s m below meth c A ls hx hb hrt hml htg hown hlocks hnm hA hK hP hD hS hl
  have hown : s.vm.findClass RX9 = some m.cls := hown
  have hl : lv_has ls 3 [(0, .ref o), (1, .int t), (2, .int w)] := hl
  have SF : CallFix p m c cX9_answers 3 s _ hs_gt RX9 := ⟨hx, hb, hml, hown, htg⟩
  have hkd : kd t.toNatClampNeg = 0 := hkd
  refine lv_iload_n hx hb dX9_answers_0 rfl (lv_at hl 2 rfl) ?_
  refine lv_iconst (v := 3) hx hb dX9_answers_1 (by decide) ?_
  refine lv_icmp_ne (tgt := 22) hx hb dX9_answers_2 (by decide) (fun c2 => ?_) (fun c2 => ?_)
  · refine lv_iload_n hx hb dX9_answers_22 rfl (lv_at hl 2 rfl) ?_
    refine lv_iconst (v := 4) hx hb dX9_answers_23 (by decide) ?_
    refine lv_icmp_ne (tgt := 35) hx hb dX9_answers_24 (by decide) (fun c24 => ?_) (fun c24 => ?_)
    · refine lv_iload_n hx hb dX9_answers_35 rfl (lv_at hl 2 rfl) ?_
      refine lv_iconst (v := 5) hx hb dX9_answers_36 (by decide) ?_
      refine lv_icmp_ne (tgt := 48) hx hb dX9_answers_37 (by decide) (fun c37 => ?_) (fun c37 => ?_)
      · refine lv_iconst (v := 1) hx hb dX9_answers_48 (by decide) ?_
        exact hs_zret hx hb hrt hlocks hK hP hD hS dX9_answers_49 rfl (by unfold hasA; first | (rw [if_neg c2, if_neg c24, if_neg c37]; done) | (rw [if_neg c2, if_neg c24, if_pos c37]; done) | (rw [if_neg c2, if_pos c24]; done) | (rw [if_pos c2]; rfl)) (rfl)
      · refine lv_aload_n hx hb dX9_answers_40 rfl (lv_at hl 0 rfl) ?_
        refine lv_iload_n hx hb dX9_answers_41 rfl (lv_at hl 1 rfl) ?_
        refine hs_calli0 (w1 := (mW o ad cd tn td cs hd kd rt vl hr hw cu si acc st)) (hs_runV (q0 := 0) SF cal_X9_isServiced tw_590 (c_X9_isServiced l D o ad cd tn td cs hd kd rt vl hr hw cu si acc st t ht 0 (by decide) hkd ) hK hP hD rfl rfl ⟨Nat.le_of_ble_eq_true rfl, Nat.le_of_ble_eq_true rfl⟩ rfl hl.1 rfl (Nat.le_of_ble_eq_true rfl) dX9_answers_42 ⟨Nat.le_of_ble_eq_true rfl, Nat.le_of_ble_eq_true rfl⟩) hD hS hA (fun H locs hP hD hS => ?_)
        refine lv_goto (tgt := 49) hx hb dX9_answers_45 (by decide) ?_
        exact hs_zret hx hb hrt hlocks hK hP hD hS dX9_answers_49 (nz_isS _) (by unfold hasA; first | (rw [if_neg c2, if_neg c24, if_neg c37]; done) | (rw [if_neg c2, if_neg c24, if_pos c37]; done) | (rw [if_neg c2, if_pos c24]; done) | (rw [if_pos c2]; rfl)) (rfl)
    · refine lv_aload_n hx hb dX9_answers_27 rfl (lv_at hl 0 rfl) ?_
      refine lv_iload_n hx hb dX9_answers_28 rfl (lv_at hl 1 rfl) ?_
      refine hs_calli0 (w1 := (mW o ad cd tn td cs hd kd rt vl hr hw cu si acc st)) (hs_runV (q0 := 0) SF cal_X9_isInsured tw_586 (c_X9_isInsured l D o ad cd tn td cs hd kd rt vl hr hw cu si acc st t ht 0 (by decide) hkd ) hK hP hD rfl rfl ⟨Nat.le_of_ble_eq_true rfl, Nat.le_of_ble_eq_true rfl⟩ rfl hl.1 rfl (Nat.le_of_ble_eq_true rfl) dX9_answers_29 ⟨Nat.le_of_ble_eq_true rfl, Nat.le_of_ble_eq_true rfl⟩) hD hS hA (fun H locs hP hD hS => ?_)
      refine lv_goto (tgt := 49) hx hb dX9_answers_32 (by decide) ?_
      exact hs_zret hx hb hrt hlocks hK hP hD hS dX9_answers_49 (nz_isI _) (by unfold hasA; first | (rw [if_neg c2, if_neg c24, if_neg c37]; done) | (rw [if_neg c2, if_neg c24, if_pos c37]; done) | (rw [if_neg c2, if_pos c24]; done) | (rw [if_pos c2]; rfl)) (rfl)
  · refine lv_aload_n hx hb dX9_answers_5 rfl (lv_at hl 0 rfl) ?_
    refine va_get (D := D) (ci := 9) (v := .ref (ad 1)) (C := RX9) (T := TX9) (N := 15) hx hb htg in_X9 hown hK hP 0 rfl rfl 1 (by decide) (htg _ tw_521) (fun _ h9 => h9) rfl dX9_answers_6 ?_
    refine lv_iload_n hx hb dX9_answers_9 rfl (lv_at hl 1 rfl) ?_
    refine va_iald hx hb hK hP 1 0 rfl rfl (ht) dX9_answers_10 ?_
    rw [hkd]
    refine lv_if_le (tgt := 18) hx hb dX9_answers_11 (by decide) (fun c11 => ?_) (fun c11 => absurd c11 ((by decide)))
    refine lv_iconst (v := 0) hx hb dX9_answers_18 (by decide) ?_
    refine lv_goto (tgt := 49) hx hb dX9_answers_19 (by decide) ?_
    exact hs_zret hx hb hrt hlocks hK hP hD hS dX9_answers_49 rfl (by unfold hasA; first | (rw [if_neg c2, if_neg c24, if_neg c37]; done) | (rw [if_neg c2, if_neg c24, if_pos c37]; done) | (rw [if_neg c2, if_pos c24]; done) | (rw [if_pos c2]; rfl)) (rfl)

set_option maxHeartbeats 400000 in
set_option maxRecDepth 100000 in
theorem c_X9_answers_1 (l : Launch) (D : va_G) (o : Nat) (ad : Nat → Nat) (cd : Nat → ClassId) (tn td cs hd : Int32) (kd rt vl hr hw cu si : Nat → Int32) (acc : Nat → Int64) (st : TS) (t : Int32) (ht : vp_in t 24) (hkd : kd t.toNatClampNeg = nI 1) (w : Int32) : CM l D yX9_answers cX9_answers 3 (some .boolean) { frames := 2, cells := 0, slots := 0, locals := 43 } (tyM cd) [.ref o, .int t, .int w] (mW o ad cd tn td cs hd kd rt vl hr hw cu si acc st) (hs_QI D (tyM cd) (hasA 1 w) (mW o ad cd tn td cs hd kd rt vl hr hw cu si acc st)) := by
  refine CM.of (by decide) (Nat.le_of_ble_eq_true rfl) ?_
  intro p e s m below meth c A ls hx hb hrt hml htg hown hlocks hnm hA hK hP hD hS hl
  have hown : s.vm.findClass RX9 = some m.cls := hown
  have hl : lv_has ls 3 [(0, .ref o), (1, .int t), (2, .int w)] := hl
  have SF : CallFix p m c cX9_answers 3 s _ hs_gt RX9 := ⟨hx, hb, hml, hown, htg⟩
  have hkd : kd t.toNatClampNeg = 1 := hkd
  refine lv_iload_n hx hb dX9_answers_0 rfl (lv_at hl 2 rfl) ?_
  refine lv_iconst (v := 3) hx hb dX9_answers_1 (by decide) ?_
  refine lv_icmp_ne (tgt := 22) hx hb dX9_answers_2 (by decide) (fun c2 => ?_) (fun c2 => ?_)
  · refine lv_iload_n hx hb dX9_answers_22 rfl (lv_at hl 2 rfl) ?_
    refine lv_iconst (v := 4) hx hb dX9_answers_23 (by decide) ?_
    refine lv_icmp_ne (tgt := 35) hx hb dX9_answers_24 (by decide) (fun c24 => ?_) (fun c24 => ?_)
    · refine lv_iload_n hx hb dX9_answers_35 rfl (lv_at hl 2 rfl) ?_
      refine lv_iconst (v := 5) hx hb dX9_answers_36 (by decide) ?_
      refine lv_icmp_ne (tgt := 48) hx hb dX9_answers_37 (by decide) (fun c37 => ?_) (fun c37 => ?_)
      · refine lv_iconst (v := 1) hx hb dX9_answers_48 (by decide) ?_
        exact hs_zret hx hb hrt hlocks hK hP hD hS dX9_answers_49 rfl (by unfold hasA; first | (rw [if_neg c2, if_neg c24, if_neg c37]; done) | (rw [if_neg c2, if_neg c24, if_pos c37]; done) | (rw [if_neg c2, if_pos c24]; done) | (rw [if_pos c2]; rfl)) (rfl)
      · refine lv_aload_n hx hb dX9_answers_40 rfl (lv_at hl 0 rfl) ?_
        refine lv_iload_n hx hb dX9_answers_41 rfl (lv_at hl 1 rfl) ?_
        refine hs_calli0 (w1 := (mW o ad cd tn td cs hd kd rt vl hr hw cu si acc st)) (hs_runV (q0 := 0) SF cal_X9_isServiced tw_590 (c_X9_isServiced l D o ad cd tn td cs hd kd rt vl hr hw cu si acc st t ht 1 (by decide) hkd ) hK hP hD rfl rfl ⟨Nat.le_of_ble_eq_true rfl, Nat.le_of_ble_eq_true rfl⟩ rfl hl.1 rfl (Nat.le_of_ble_eq_true rfl) dX9_answers_42 ⟨Nat.le_of_ble_eq_true rfl, Nat.le_of_ble_eq_true rfl⟩) hD hS hA (fun H locs hP hD hS => ?_)
        refine lv_goto (tgt := 49) hx hb dX9_answers_45 (by decide) ?_
        exact hs_zret hx hb hrt hlocks hK hP hD hS dX9_answers_49 (nz_isS _) (by unfold hasA; first | (rw [if_neg c2, if_neg c24, if_neg c37]; done) | (rw [if_neg c2, if_neg c24, if_pos c37]; done) | (rw [if_neg c2, if_pos c24]; done) | (rw [if_pos c2]; rfl)) (rfl)
    · refine lv_aload_n hx hb dX9_answers_27 rfl (lv_at hl 0 rfl) ?_
      refine lv_iload_n hx hb dX9_answers_28 rfl (lv_at hl 1 rfl) ?_
      refine hs_calli0 (w1 := (mW o ad cd tn td cs hd kd rt vl hr hw cu si acc st)) (hs_runV (q0 := 0) SF cal_X9_isInsured tw_586 (c_X9_isInsured l D o ad cd tn td cs hd kd rt vl hr hw cu si acc st t ht 1 (by decide) hkd ) hK hP hD rfl rfl ⟨Nat.le_of_ble_eq_true rfl, Nat.le_of_ble_eq_true rfl⟩ rfl hl.1 rfl (Nat.le_of_ble_eq_true rfl) dX9_answers_29 ⟨Nat.le_of_ble_eq_true rfl, Nat.le_of_ble_eq_true rfl⟩) hD hS hA (fun H locs hP hD hS => ?_)
      refine lv_goto (tgt := 49) hx hb dX9_answers_32 (by decide) ?_
      exact hs_zret hx hb hrt hlocks hK hP hD hS dX9_answers_49 (nz_isI _) (by unfold hasA; first | (rw [if_neg c2, if_neg c24, if_neg c37]; done) | (rw [if_neg c2, if_neg c24, if_pos c37]; done) | (rw [if_neg c2, if_pos c24]; done) | (rw [if_pos c2]; rfl)) (rfl)
  · refine lv_aload_n hx hb dX9_answers_5 rfl (lv_at hl 0 rfl) ?_
    refine va_get (D := D) (ci := 9) (v := .ref (ad 1)) (C := RX9) (T := TX9) (N := 15) hx hb htg in_X9 hown hK hP 0 rfl rfl 1 (by decide) (htg _ tw_521) (fun _ h9 => h9) rfl dX9_answers_6 ?_
    refine lv_iload_n hx hb dX9_answers_9 rfl (lv_at hl 1 rfl) ?_
    refine va_iald hx hb hK hP 1 0 rfl rfl (ht) dX9_answers_10 ?_
    rw [hkd]
    refine lv_if_le (tgt := 18) hx hb dX9_answers_11 (by decide) (fun c11 => absurd c11 ((by decide))) (fun c11 => ?_)
    refine lv_iconst (v := 1) hx hb dX9_answers_14 (by decide) ?_
    refine lv_goto (tgt := 49) hx hb dX9_answers_15 (by decide) ?_
    exact hs_zret hx hb hrt hlocks hK hP hD hS dX9_answers_49 rfl (by unfold hasA; first | (rw [if_neg c2, if_neg c24, if_neg c37]; done) | (rw [if_neg c2, if_neg c24, if_pos c37]; done) | (rw [if_neg c2, if_pos c24]; done) | (rw [if_pos c2]; rfl)) (rfl)

set_option maxHeartbeats 400000 in
set_option maxRecDepth 100000 in
theorem c_X9_answers_2 (l : Launch) (D : va_G) (o : Nat) (ad : Nat → Nat) (cd : Nat → ClassId) (tn td cs hd : Int32) (kd rt vl hr hw cu si : Nat → Int32) (acc : Nat → Int64) (st : TS) (t : Int32) (ht : vp_in t 24) (hkd : kd t.toNatClampNeg = nI 2) (w : Int32) : CM l D yX9_answers cX9_answers 3 (some .boolean) { frames := 2, cells := 0, slots := 0, locals := 43 } (tyM cd) [.ref o, .int t, .int w] (mW o ad cd tn td cs hd kd rt vl hr hw cu si acc st) (hs_QI D (tyM cd) (hasA 2 w) (mW o ad cd tn td cs hd kd rt vl hr hw cu si acc st)) := by
  refine CM.of (by decide) (Nat.le_of_ble_eq_true rfl) ?_
  intro p e s m below meth c A ls hx hb hrt hml htg hown hlocks hnm hA hK hP hD hS hl
  have hown : s.vm.findClass RX9 = some m.cls := hown
  have hl : lv_has ls 3 [(0, .ref o), (1, .int t), (2, .int w)] := hl
  have SF : CallFix p m c cX9_answers 3 s _ hs_gt RX9 := ⟨hx, hb, hml, hown, htg⟩
  have hkd : kd t.toNatClampNeg = 2 := hkd
  refine lv_iload_n hx hb dX9_answers_0 rfl (lv_at hl 2 rfl) ?_
  refine lv_iconst (v := 3) hx hb dX9_answers_1 (by decide) ?_
  refine lv_icmp_ne (tgt := 22) hx hb dX9_answers_2 (by decide) (fun c2 => ?_) (fun c2 => ?_)
  · refine lv_iload_n hx hb dX9_answers_22 rfl (lv_at hl 2 rfl) ?_
    refine lv_iconst (v := 4) hx hb dX9_answers_23 (by decide) ?_
    refine lv_icmp_ne (tgt := 35) hx hb dX9_answers_24 (by decide) (fun c24 => ?_) (fun c24 => ?_)
    · refine lv_iload_n hx hb dX9_answers_35 rfl (lv_at hl 2 rfl) ?_
      refine lv_iconst (v := 5) hx hb dX9_answers_36 (by decide) ?_
      refine lv_icmp_ne (tgt := 48) hx hb dX9_answers_37 (by decide) (fun c37 => ?_) (fun c37 => ?_)
      · refine lv_iconst (v := 1) hx hb dX9_answers_48 (by decide) ?_
        exact hs_zret hx hb hrt hlocks hK hP hD hS dX9_answers_49 rfl (by unfold hasA; first | (rw [if_neg c2, if_neg c24, if_neg c37]; done) | (rw [if_neg c2, if_neg c24, if_pos c37]; done) | (rw [if_neg c2, if_pos c24]; done) | (rw [if_pos c2]; rfl)) (rfl)
      · refine lv_aload_n hx hb dX9_answers_40 rfl (lv_at hl 0 rfl) ?_
        refine lv_iload_n hx hb dX9_answers_41 rfl (lv_at hl 1 rfl) ?_
        refine hs_calli0 (w1 := (mW o ad cd tn td cs hd kd rt vl hr hw cu si acc st)) (hs_runV (q0 := 0) SF cal_X9_isServiced tw_590 (c_X9_isServiced l D o ad cd tn td cs hd kd rt vl hr hw cu si acc st t ht 2 (by decide) hkd ) hK hP hD rfl rfl ⟨Nat.le_of_ble_eq_true rfl, Nat.le_of_ble_eq_true rfl⟩ rfl hl.1 rfl (Nat.le_of_ble_eq_true rfl) dX9_answers_42 ⟨Nat.le_of_ble_eq_true rfl, Nat.le_of_ble_eq_true rfl⟩) hD hS hA (fun H locs hP hD hS => ?_)
        refine lv_goto (tgt := 49) hx hb dX9_answers_45 (by decide) ?_
        exact hs_zret hx hb hrt hlocks hK hP hD hS dX9_answers_49 (nz_isS _) (by unfold hasA; first | (rw [if_neg c2, if_neg c24, if_neg c37]; done) | (rw [if_neg c2, if_neg c24, if_pos c37]; done) | (rw [if_neg c2, if_pos c24]; done) | (rw [if_pos c2]; rfl)) (rfl)
    · refine lv_aload_n hx hb dX9_answers_27 rfl (lv_at hl 0 rfl) ?_
      refine lv_iload_n hx hb dX9_answers_28 rfl (lv_at hl 1 rfl) ?_
      refine hs_calli0 (w1 := (mW o ad cd tn td cs hd kd rt vl hr hw cu si acc st)) (hs_runV (q0 := 0) SF cal_X9_isInsured tw_586 (c_X9_isInsured l D o ad cd tn td cs hd kd rt vl hr hw cu si acc st t ht 2 (by decide) hkd ) hK hP hD rfl rfl ⟨Nat.le_of_ble_eq_true rfl, Nat.le_of_ble_eq_true rfl⟩ rfl hl.1 rfl (Nat.le_of_ble_eq_true rfl) dX9_answers_29 ⟨Nat.le_of_ble_eq_true rfl, Nat.le_of_ble_eq_true rfl⟩) hD hS hA (fun H locs hP hD hS => ?_)
      refine lv_goto (tgt := 49) hx hb dX9_answers_32 (by decide) ?_
      exact hs_zret hx hb hrt hlocks hK hP hD hS dX9_answers_49 (nz_isI _) (by unfold hasA; first | (rw [if_neg c2, if_neg c24, if_neg c37]; done) | (rw [if_neg c2, if_neg c24, if_pos c37]; done) | (rw [if_neg c2, if_pos c24]; done) | (rw [if_pos c2]; rfl)) (rfl)
  · refine lv_aload_n hx hb dX9_answers_5 rfl (lv_at hl 0 rfl) ?_
    refine va_get (D := D) (ci := 9) (v := .ref (ad 1)) (C := RX9) (T := TX9) (N := 15) hx hb htg in_X9 hown hK hP 0 rfl rfl 1 (by decide) (htg _ tw_521) (fun _ h9 => h9) rfl dX9_answers_6 ?_
    refine lv_iload_n hx hb dX9_answers_9 rfl (lv_at hl 1 rfl) ?_
    refine va_iald hx hb hK hP 1 0 rfl rfl (ht) dX9_answers_10 ?_
    rw [hkd]
    refine lv_if_le (tgt := 18) hx hb dX9_answers_11 (by decide) (fun c11 => absurd c11 ((by decide))) (fun c11 => ?_)
    refine lv_iconst (v := 1) hx hb dX9_answers_14 (by decide) ?_
    refine lv_goto (tgt := 49) hx hb dX9_answers_15 (by decide) ?_
    exact hs_zret hx hb hrt hlocks hK hP hD hS dX9_answers_49 rfl (by unfold hasA; first | (rw [if_neg c2, if_neg c24, if_neg c37]; done) | (rw [if_neg c2, if_neg c24, if_pos c37]; done) | (rw [if_neg c2, if_pos c24]; done) | (rw [if_pos c2]; rfl)) (rfl)

set_option maxHeartbeats 400000 in
set_option maxRecDepth 100000 in
theorem c_X9_answers_3 (l : Launch) (D : va_G) (o : Nat) (ad : Nat → Nat) (cd : Nat → ClassId) (tn td cs hd : Int32) (kd rt vl hr hw cu si : Nat → Int32) (acc : Nat → Int64) (st : TS) (t : Int32) (ht : vp_in t 24) (hkd : kd t.toNatClampNeg = nI 3) (w : Int32) : CM l D yX9_answers cX9_answers 3 (some .boolean) { frames := 2, cells := 0, slots := 0, locals := 43 } (tyM cd) [.ref o, .int t, .int w] (mW o ad cd tn td cs hd kd rt vl hr hw cu si acc st) (hs_QI D (tyM cd) (hasA 3 w) (mW o ad cd tn td cs hd kd rt vl hr hw cu si acc st)) := by
  refine CM.of (by decide) (Nat.le_of_ble_eq_true rfl) ?_
  intro p e s m below meth c A ls hx hb hrt hml htg hown hlocks hnm hA hK hP hD hS hl
  have hown : s.vm.findClass RX9 = some m.cls := hown
  have hl : lv_has ls 3 [(0, .ref o), (1, .int t), (2, .int w)] := hl
  have SF : CallFix p m c cX9_answers 3 s _ hs_gt RX9 := ⟨hx, hb, hml, hown, htg⟩
  have hkd : kd t.toNatClampNeg = 3 := hkd
  refine lv_iload_n hx hb dX9_answers_0 rfl (lv_at hl 2 rfl) ?_
  refine lv_iconst (v := 3) hx hb dX9_answers_1 (by decide) ?_
  refine lv_icmp_ne (tgt := 22) hx hb dX9_answers_2 (by decide) (fun c2 => ?_) (fun c2 => ?_)
  · refine lv_iload_n hx hb dX9_answers_22 rfl (lv_at hl 2 rfl) ?_
    refine lv_iconst (v := 4) hx hb dX9_answers_23 (by decide) ?_
    refine lv_icmp_ne (tgt := 35) hx hb dX9_answers_24 (by decide) (fun c24 => ?_) (fun c24 => ?_)
    · refine lv_iload_n hx hb dX9_answers_35 rfl (lv_at hl 2 rfl) ?_
      refine lv_iconst (v := 5) hx hb dX9_answers_36 (by decide) ?_
      refine lv_icmp_ne (tgt := 48) hx hb dX9_answers_37 (by decide) (fun c37 => ?_) (fun c37 => ?_)
      · refine lv_iconst (v := 1) hx hb dX9_answers_48 (by decide) ?_
        exact hs_zret hx hb hrt hlocks hK hP hD hS dX9_answers_49 rfl (by unfold hasA; first | (rw [if_neg c2, if_neg c24, if_neg c37]; done) | (rw [if_neg c2, if_neg c24, if_pos c37]; done) | (rw [if_neg c2, if_pos c24]; done) | (rw [if_pos c2]; rfl)) (rfl)
      · refine lv_aload_n hx hb dX9_answers_40 rfl (lv_at hl 0 rfl) ?_
        refine lv_iload_n hx hb dX9_answers_41 rfl (lv_at hl 1 rfl) ?_
        refine hs_calli0 (w1 := (mW o ad cd tn td cs hd kd rt vl hr hw cu si acc st)) (hs_runV (q0 := 0) SF cal_X9_isServiced tw_590 (c_X9_isServiced l D o ad cd tn td cs hd kd rt vl hr hw cu si acc st t ht 3 (by decide) hkd ) hK hP hD rfl rfl ⟨Nat.le_of_ble_eq_true rfl, Nat.le_of_ble_eq_true rfl⟩ rfl hl.1 rfl (Nat.le_of_ble_eq_true rfl) dX9_answers_42 ⟨Nat.le_of_ble_eq_true rfl, Nat.le_of_ble_eq_true rfl⟩) hD hS hA (fun H locs hP hD hS => ?_)
        refine lv_goto (tgt := 49) hx hb dX9_answers_45 (by decide) ?_
        exact hs_zret hx hb hrt hlocks hK hP hD hS dX9_answers_49 (nz_isS _) (by unfold hasA; first | (rw [if_neg c2, if_neg c24, if_neg c37]; done) | (rw [if_neg c2, if_neg c24, if_pos c37]; done) | (rw [if_neg c2, if_pos c24]; done) | (rw [if_pos c2]; rfl)) (rfl)
    · refine lv_aload_n hx hb dX9_answers_27 rfl (lv_at hl 0 rfl) ?_
      refine lv_iload_n hx hb dX9_answers_28 rfl (lv_at hl 1 rfl) ?_
      refine hs_calli0 (w1 := (mW o ad cd tn td cs hd kd rt vl hr hw cu si acc st)) (hs_runV (q0 := 0) SF cal_X9_isInsured tw_586 (c_X9_isInsured l D o ad cd tn td cs hd kd rt vl hr hw cu si acc st t ht 3 (by decide) hkd ) hK hP hD rfl rfl ⟨Nat.le_of_ble_eq_true rfl, Nat.le_of_ble_eq_true rfl⟩ rfl hl.1 rfl (Nat.le_of_ble_eq_true rfl) dX9_answers_29 ⟨Nat.le_of_ble_eq_true rfl, Nat.le_of_ble_eq_true rfl⟩) hD hS hA (fun H locs hP hD hS => ?_)
      refine lv_goto (tgt := 49) hx hb dX9_answers_32 (by decide) ?_
      exact hs_zret hx hb hrt hlocks hK hP hD hS dX9_answers_49 (nz_isI _) (by unfold hasA; first | (rw [if_neg c2, if_neg c24, if_neg c37]; done) | (rw [if_neg c2, if_neg c24, if_pos c37]; done) | (rw [if_neg c2, if_pos c24]; done) | (rw [if_pos c2]; rfl)) (rfl)
  · refine lv_aload_n hx hb dX9_answers_5 rfl (lv_at hl 0 rfl) ?_
    refine va_get (D := D) (ci := 9) (v := .ref (ad 1)) (C := RX9) (T := TX9) (N := 15) hx hb htg in_X9 hown hK hP 0 rfl rfl 1 (by decide) (htg _ tw_521) (fun _ h9 => h9) rfl dX9_answers_6 ?_
    refine lv_iload_n hx hb dX9_answers_9 rfl (lv_at hl 1 rfl) ?_
    refine va_iald hx hb hK hP 1 0 rfl rfl (ht) dX9_answers_10 ?_
    rw [hkd]
    refine lv_if_le (tgt := 18) hx hb dX9_answers_11 (by decide) (fun c11 => absurd c11 ((by decide))) (fun c11 => ?_)
    refine lv_iconst (v := 1) hx hb dX9_answers_14 (by decide) ?_
    refine lv_goto (tgt := 49) hx hb dX9_answers_15 (by decide) ?_
    exact hs_zret hx hb hrt hlocks hK hP hD hS dX9_answers_49 rfl (by unfold hasA; first | (rw [if_neg c2, if_neg c24, if_neg c37]; done) | (rw [if_neg c2, if_neg c24, if_pos c37]; done) | (rw [if_neg c2, if_pos c24]; done) | (rw [if_pos c2]; rfl)) (rfl)

set_option maxHeartbeats 400000 in
set_option maxRecDepth 100000 in
theorem c_X9_answers_4 (l : Launch) (D : va_G) (o : Nat) (ad : Nat → Nat) (cd : Nat → ClassId) (tn td cs hd : Int32) (kd rt vl hr hw cu si : Nat → Int32) (acc : Nat → Int64) (st : TS) (t : Int32) (ht : vp_in t 24) (hkd : kd t.toNatClampNeg = nI 4) (w : Int32) : CM l D yX9_answers cX9_answers 3 (some .boolean) { frames := 2, cells := 0, slots := 0, locals := 43 } (tyM cd) [.ref o, .int t, .int w] (mW o ad cd tn td cs hd kd rt vl hr hw cu si acc st) (hs_QI D (tyM cd) (hasA 4 w) (mW o ad cd tn td cs hd kd rt vl hr hw cu si acc st)) := by
  refine CM.of (by decide) (Nat.le_of_ble_eq_true rfl) ?_
  intro p e s m below meth c A ls hx hb hrt hml htg hown hlocks hnm hA hK hP hD hS hl
  have hown : s.vm.findClass RX9 = some m.cls := hown
  have hl : lv_has ls 3 [(0, .ref o), (1, .int t), (2, .int w)] := hl
  have SF : CallFix p m c cX9_answers 3 s _ hs_gt RX9 := ⟨hx, hb, hml, hown, htg⟩
  have hkd : kd t.toNatClampNeg = 4 := hkd
  refine lv_iload_n hx hb dX9_answers_0 rfl (lv_at hl 2 rfl) ?_
  refine lv_iconst (v := 3) hx hb dX9_answers_1 (by decide) ?_
  refine lv_icmp_ne (tgt := 22) hx hb dX9_answers_2 (by decide) (fun c2 => ?_) (fun c2 => ?_)
  · refine lv_iload_n hx hb dX9_answers_22 rfl (lv_at hl 2 rfl) ?_
    refine lv_iconst (v := 4) hx hb dX9_answers_23 (by decide) ?_
    refine lv_icmp_ne (tgt := 35) hx hb dX9_answers_24 (by decide) (fun c24 => ?_) (fun c24 => ?_)
    · refine lv_iload_n hx hb dX9_answers_35 rfl (lv_at hl 2 rfl) ?_
      refine lv_iconst (v := 5) hx hb dX9_answers_36 (by decide) ?_
      refine lv_icmp_ne (tgt := 48) hx hb dX9_answers_37 (by decide) (fun c37 => ?_) (fun c37 => ?_)
      · refine lv_iconst (v := 1) hx hb dX9_answers_48 (by decide) ?_
        exact hs_zret hx hb hrt hlocks hK hP hD hS dX9_answers_49 rfl (by unfold hasA; first | (rw [if_neg c2, if_neg c24, if_neg c37]; done) | (rw [if_neg c2, if_neg c24, if_pos c37]; done) | (rw [if_neg c2, if_pos c24]; done) | (rw [if_pos c2]; rfl)) (rfl)
      · refine lv_aload_n hx hb dX9_answers_40 rfl (lv_at hl 0 rfl) ?_
        refine lv_iload_n hx hb dX9_answers_41 rfl (lv_at hl 1 rfl) ?_
        refine hs_calli0 (w1 := (mW o ad cd tn td cs hd kd rt vl hr hw cu si acc st)) (hs_runV (q0 := 0) SF cal_X9_isServiced tw_590 (c_X9_isServiced l D o ad cd tn td cs hd kd rt vl hr hw cu si acc st t ht 4 (by decide) hkd ) hK hP hD rfl rfl ⟨Nat.le_of_ble_eq_true rfl, Nat.le_of_ble_eq_true rfl⟩ rfl hl.1 rfl (Nat.le_of_ble_eq_true rfl) dX9_answers_42 ⟨Nat.le_of_ble_eq_true rfl, Nat.le_of_ble_eq_true rfl⟩) hD hS hA (fun H locs hP hD hS => ?_)
        refine lv_goto (tgt := 49) hx hb dX9_answers_45 (by decide) ?_
        exact hs_zret hx hb hrt hlocks hK hP hD hS dX9_answers_49 (nz_isS _) (by unfold hasA; first | (rw [if_neg c2, if_neg c24, if_neg c37]; done) | (rw [if_neg c2, if_neg c24, if_pos c37]; done) | (rw [if_neg c2, if_pos c24]; done) | (rw [if_pos c2]; rfl)) (rfl)
    · refine lv_aload_n hx hb dX9_answers_27 rfl (lv_at hl 0 rfl) ?_
      refine lv_iload_n hx hb dX9_answers_28 rfl (lv_at hl 1 rfl) ?_
      refine hs_calli0 (w1 := (mW o ad cd tn td cs hd kd rt vl hr hw cu si acc st)) (hs_runV (q0 := 0) SF cal_X9_isInsured tw_586 (c_X9_isInsured l D o ad cd tn td cs hd kd rt vl hr hw cu si acc st t ht 4 (by decide) hkd ) hK hP hD rfl rfl ⟨Nat.le_of_ble_eq_true rfl, Nat.le_of_ble_eq_true rfl⟩ rfl hl.1 rfl (Nat.le_of_ble_eq_true rfl) dX9_answers_29 ⟨Nat.le_of_ble_eq_true rfl, Nat.le_of_ble_eq_true rfl⟩) hD hS hA (fun H locs hP hD hS => ?_)
      refine lv_goto (tgt := 49) hx hb dX9_answers_32 (by decide) ?_
      exact hs_zret hx hb hrt hlocks hK hP hD hS dX9_answers_49 (nz_isI _) (by unfold hasA; first | (rw [if_neg c2, if_neg c24, if_neg c37]; done) | (rw [if_neg c2, if_neg c24, if_pos c37]; done) | (rw [if_neg c2, if_pos c24]; done) | (rw [if_pos c2]; rfl)) (rfl)
  · refine lv_aload_n hx hb dX9_answers_5 rfl (lv_at hl 0 rfl) ?_
    refine va_get (D := D) (ci := 9) (v := .ref (ad 1)) (C := RX9) (T := TX9) (N := 15) hx hb htg in_X9 hown hK hP 0 rfl rfl 1 (by decide) (htg _ tw_521) (fun _ h9 => h9) rfl dX9_answers_6 ?_
    refine lv_iload_n hx hb dX9_answers_9 rfl (lv_at hl 1 rfl) ?_
    refine va_iald hx hb hK hP 1 0 rfl rfl (ht) dX9_answers_10 ?_
    rw [hkd]
    refine lv_if_le (tgt := 18) hx hb dX9_answers_11 (by decide) (fun c11 => absurd c11 ((by decide))) (fun c11 => ?_)
    refine lv_iconst (v := 1) hx hb dX9_answers_14 (by decide) ?_
    refine lv_goto (tgt := 49) hx hb dX9_answers_15 (by decide) ?_
    exact hs_zret hx hb hrt hlocks hK hP hD hS dX9_answers_49 rfl (by unfold hasA; first | (rw [if_neg c2, if_neg c24, if_neg c37]; done) | (rw [if_neg c2, if_neg c24, if_pos c37]; done) | (rw [if_neg c2, if_pos c24]; done) | (rw [if_pos c2]; rfl)) (rfl)

set_option maxHeartbeats 400000 in
set_option maxRecDepth 100000 in
theorem c_X9_answers_5 (l : Launch) (D : va_G) (o : Nat) (ad : Nat → Nat) (cd : Nat → ClassId) (tn td cs hd : Int32) (kd rt vl hr hw cu si : Nat → Int32) (acc : Nat → Int64) (st : TS) (t : Int32) (ht : vp_in t 24) (hkd : kd t.toNatClampNeg = nI 5) (w : Int32) : CM l D yX9_answers cX9_answers 3 (some .boolean) { frames := 2, cells := 0, slots := 0, locals := 43 } (tyM cd) [.ref o, .int t, .int w] (mW o ad cd tn td cs hd kd rt vl hr hw cu si acc st) (hs_QI D (tyM cd) (hasA 5 w) (mW o ad cd tn td cs hd kd rt vl hr hw cu si acc st)) := by
  refine CM.of (by decide) (Nat.le_of_ble_eq_true rfl) ?_
  intro p e s m below meth c A ls hx hb hrt hml htg hown hlocks hnm hA hK hP hD hS hl
  have hown : s.vm.findClass RX9 = some m.cls := hown
  have hl : lv_has ls 3 [(0, .ref o), (1, .int t), (2, .int w)] := hl
  have SF : CallFix p m c cX9_answers 3 s _ hs_gt RX9 := ⟨hx, hb, hml, hown, htg⟩
  have hkd : kd t.toNatClampNeg = 5 := hkd
  refine lv_iload_n hx hb dX9_answers_0 rfl (lv_at hl 2 rfl) ?_
  refine lv_iconst (v := 3) hx hb dX9_answers_1 (by decide) ?_
  refine lv_icmp_ne (tgt := 22) hx hb dX9_answers_2 (by decide) (fun c2 => ?_) (fun c2 => ?_)
  · refine lv_iload_n hx hb dX9_answers_22 rfl (lv_at hl 2 rfl) ?_
    refine lv_iconst (v := 4) hx hb dX9_answers_23 (by decide) ?_
    refine lv_icmp_ne (tgt := 35) hx hb dX9_answers_24 (by decide) (fun c24 => ?_) (fun c24 => ?_)
    · refine lv_iload_n hx hb dX9_answers_35 rfl (lv_at hl 2 rfl) ?_
      refine lv_iconst (v := 5) hx hb dX9_answers_36 (by decide) ?_
      refine lv_icmp_ne (tgt := 48) hx hb dX9_answers_37 (by decide) (fun c37 => ?_) (fun c37 => ?_)
      · refine lv_iconst (v := 1) hx hb dX9_answers_48 (by decide) ?_
        exact hs_zret hx hb hrt hlocks hK hP hD hS dX9_answers_49 rfl (by unfold hasA; first | (rw [if_neg c2, if_neg c24, if_neg c37]; done) | (rw [if_neg c2, if_neg c24, if_pos c37]; done) | (rw [if_neg c2, if_pos c24]; done) | (rw [if_pos c2]; rfl)) (rfl)
      · refine lv_aload_n hx hb dX9_answers_40 rfl (lv_at hl 0 rfl) ?_
        refine lv_iload_n hx hb dX9_answers_41 rfl (lv_at hl 1 rfl) ?_
        refine hs_calli0 (w1 := (mW o ad cd tn td cs hd kd rt vl hr hw cu si acc st)) (hs_runV (q0 := 0) SF cal_X9_isServiced tw_590 (c_X9_isServiced l D o ad cd tn td cs hd kd rt vl hr hw cu si acc st t ht 5 (by decide) hkd ) hK hP hD rfl rfl ⟨Nat.le_of_ble_eq_true rfl, Nat.le_of_ble_eq_true rfl⟩ rfl hl.1 rfl (Nat.le_of_ble_eq_true rfl) dX9_answers_42 ⟨Nat.le_of_ble_eq_true rfl, Nat.le_of_ble_eq_true rfl⟩) hD hS hA (fun H locs hP hD hS => ?_)
        refine lv_goto (tgt := 49) hx hb dX9_answers_45 (by decide) ?_
        exact hs_zret hx hb hrt hlocks hK hP hD hS dX9_answers_49 (nz_isS _) (by unfold hasA; first | (rw [if_neg c2, if_neg c24, if_neg c37]; done) | (rw [if_neg c2, if_neg c24, if_pos c37]; done) | (rw [if_neg c2, if_pos c24]; done) | (rw [if_pos c2]; rfl)) (rfl)
    · refine lv_aload_n hx hb dX9_answers_27 rfl (lv_at hl 0 rfl) ?_
      refine lv_iload_n hx hb dX9_answers_28 rfl (lv_at hl 1 rfl) ?_
      refine hs_calli0 (w1 := (mW o ad cd tn td cs hd kd rt vl hr hw cu si acc st)) (hs_runV (q0 := 0) SF cal_X9_isInsured tw_586 (c_X9_isInsured l D o ad cd tn td cs hd kd rt vl hr hw cu si acc st t ht 5 (by decide) hkd ) hK hP hD rfl rfl ⟨Nat.le_of_ble_eq_true rfl, Nat.le_of_ble_eq_true rfl⟩ rfl hl.1 rfl (Nat.le_of_ble_eq_true rfl) dX9_answers_29 ⟨Nat.le_of_ble_eq_true rfl, Nat.le_of_ble_eq_true rfl⟩) hD hS hA (fun H locs hP hD hS => ?_)
      refine lv_goto (tgt := 49) hx hb dX9_answers_32 (by decide) ?_
      exact hs_zret hx hb hrt hlocks hK hP hD hS dX9_answers_49 (nz_isI _) (by unfold hasA; first | (rw [if_neg c2, if_neg c24, if_neg c37]; done) | (rw [if_neg c2, if_neg c24, if_pos c37]; done) | (rw [if_neg c2, if_pos c24]; done) | (rw [if_pos c2]; rfl)) (rfl)
  · refine lv_aload_n hx hb dX9_answers_5 rfl (lv_at hl 0 rfl) ?_
    refine va_get (D := D) (ci := 9) (v := .ref (ad 1)) (C := RX9) (T := TX9) (N := 15) hx hb htg in_X9 hown hK hP 0 rfl rfl 1 (by decide) (htg _ tw_521) (fun _ h9 => h9) rfl dX9_answers_6 ?_
    refine lv_iload_n hx hb dX9_answers_9 rfl (lv_at hl 1 rfl) ?_
    refine va_iald hx hb hK hP 1 0 rfl rfl (ht) dX9_answers_10 ?_
    rw [hkd]
    refine lv_if_le (tgt := 18) hx hb dX9_answers_11 (by decide) (fun c11 => absurd c11 ((by decide))) (fun c11 => ?_)
    refine lv_iconst (v := 1) hx hb dX9_answers_14 (by decide) ?_
    refine lv_goto (tgt := 49) hx hb dX9_answers_15 (by decide) ?_
    exact hs_zret hx hb hrt hlocks hK hP hD hS dX9_answers_49 rfl (by unfold hasA; first | (rw [if_neg c2, if_neg c24, if_neg c37]; done) | (rw [if_neg c2, if_neg c24, if_pos c37]; done) | (rw [if_neg c2, if_pos c24]; done) | (rw [if_pos c2]; rfl)) (rfl)

set_option maxHeartbeats 400000 in
set_option maxRecDepth 100000 in
theorem c_X9_answers_6 (l : Launch) (D : va_G) (o : Nat) (ad : Nat → Nat) (cd : Nat → ClassId) (tn td cs hd : Int32) (kd rt vl hr hw cu si : Nat → Int32) (acc : Nat → Int64) (st : TS) (t : Int32) (ht : vp_in t 24) (hkd : kd t.toNatClampNeg = nI 6) (w : Int32) : CM l D yX9_answers cX9_answers 3 (some .boolean) { frames := 2, cells := 0, slots := 0, locals := 43 } (tyM cd) [.ref o, .int t, .int w] (mW o ad cd tn td cs hd kd rt vl hr hw cu si acc st) (hs_QI D (tyM cd) (hasA 6 w) (mW o ad cd tn td cs hd kd rt vl hr hw cu si acc st)) := by
  refine CM.of (by decide) (Nat.le_of_ble_eq_true rfl) ?_
  intro p e s m below meth c A ls hx hb hrt hml htg hown hlocks hnm hA hK hP hD hS hl
  have hown : s.vm.findClass RX9 = some m.cls := hown
  have hl : lv_has ls 3 [(0, .ref o), (1, .int t), (2, .int w)] := hl
  have SF : CallFix p m c cX9_answers 3 s _ hs_gt RX9 := ⟨hx, hb, hml, hown, htg⟩
  have hkd : kd t.toNatClampNeg = 6 := hkd
  refine lv_iload_n hx hb dX9_answers_0 rfl (lv_at hl 2 rfl) ?_
  refine lv_iconst (v := 3) hx hb dX9_answers_1 (by decide) ?_
  refine lv_icmp_ne (tgt := 22) hx hb dX9_answers_2 (by decide) (fun c2 => ?_) (fun c2 => ?_)
  · refine lv_iload_n hx hb dX9_answers_22 rfl (lv_at hl 2 rfl) ?_
    refine lv_iconst (v := 4) hx hb dX9_answers_23 (by decide) ?_
    refine lv_icmp_ne (tgt := 35) hx hb dX9_answers_24 (by decide) (fun c24 => ?_) (fun c24 => ?_)
    · refine lv_iload_n hx hb dX9_answers_35 rfl (lv_at hl 2 rfl) ?_
      refine lv_iconst (v := 5) hx hb dX9_answers_36 (by decide) ?_
      refine lv_icmp_ne (tgt := 48) hx hb dX9_answers_37 (by decide) (fun c37 => ?_) (fun c37 => ?_)
      · refine lv_iconst (v := 1) hx hb dX9_answers_48 (by decide) ?_
        exact hs_zret hx hb hrt hlocks hK hP hD hS dX9_answers_49 rfl (by unfold hasA; first | (rw [if_neg c2, if_neg c24, if_neg c37]; done) | (rw [if_neg c2, if_neg c24, if_pos c37]; done) | (rw [if_neg c2, if_pos c24]; done) | (rw [if_pos c2]; rfl)) (rfl)
      · refine lv_aload_n hx hb dX9_answers_40 rfl (lv_at hl 0 rfl) ?_
        refine lv_iload_n hx hb dX9_answers_41 rfl (lv_at hl 1 rfl) ?_
        refine hs_calli0 (w1 := (mW o ad cd tn td cs hd kd rt vl hr hw cu si acc st)) (hs_runV (q0 := 0) SF cal_X9_isServiced tw_590 (c_X9_isServiced l D o ad cd tn td cs hd kd rt vl hr hw cu si acc st t ht 6 (by decide) hkd ) hK hP hD rfl rfl ⟨Nat.le_of_ble_eq_true rfl, Nat.le_of_ble_eq_true rfl⟩ rfl hl.1 rfl (Nat.le_of_ble_eq_true rfl) dX9_answers_42 ⟨Nat.le_of_ble_eq_true rfl, Nat.le_of_ble_eq_true rfl⟩) hD hS hA (fun H locs hP hD hS => ?_)
        refine lv_goto (tgt := 49) hx hb dX9_answers_45 (by decide) ?_
        exact hs_zret hx hb hrt hlocks hK hP hD hS dX9_answers_49 (nz_isS _) (by unfold hasA; first | (rw [if_neg c2, if_neg c24, if_neg c37]; done) | (rw [if_neg c2, if_neg c24, if_pos c37]; done) | (rw [if_neg c2, if_pos c24]; done) | (rw [if_pos c2]; rfl)) (rfl)
    · refine lv_aload_n hx hb dX9_answers_27 rfl (lv_at hl 0 rfl) ?_
      refine lv_iload_n hx hb dX9_answers_28 rfl (lv_at hl 1 rfl) ?_
      refine hs_calli0 (w1 := (mW o ad cd tn td cs hd kd rt vl hr hw cu si acc st)) (hs_runV (q0 := 0) SF cal_X9_isInsured tw_586 (c_X9_isInsured l D o ad cd tn td cs hd kd rt vl hr hw cu si acc st t ht 6 (by decide) hkd ) hK hP hD rfl rfl ⟨Nat.le_of_ble_eq_true rfl, Nat.le_of_ble_eq_true rfl⟩ rfl hl.1 rfl (Nat.le_of_ble_eq_true rfl) dX9_answers_29 ⟨Nat.le_of_ble_eq_true rfl, Nat.le_of_ble_eq_true rfl⟩) hD hS hA (fun H locs hP hD hS => ?_)
      refine lv_goto (tgt := 49) hx hb dX9_answers_32 (by decide) ?_
      exact hs_zret hx hb hrt hlocks hK hP hD hS dX9_answers_49 (nz_isI _) (by unfold hasA; first | (rw [if_neg c2, if_neg c24, if_neg c37]; done) | (rw [if_neg c2, if_neg c24, if_pos c37]; done) | (rw [if_neg c2, if_pos c24]; done) | (rw [if_pos c2]; rfl)) (rfl)
  · refine lv_aload_n hx hb dX9_answers_5 rfl (lv_at hl 0 rfl) ?_
    refine va_get (D := D) (ci := 9) (v := .ref (ad 1)) (C := RX9) (T := TX9) (N := 15) hx hb htg in_X9 hown hK hP 0 rfl rfl 1 (by decide) (htg _ tw_521) (fun _ h9 => h9) rfl dX9_answers_6 ?_
    refine lv_iload_n hx hb dX9_answers_9 rfl (lv_at hl 1 rfl) ?_
    refine va_iald hx hb hK hP 1 0 rfl rfl (ht) dX9_answers_10 ?_
    rw [hkd]
    refine lv_if_le (tgt := 18) hx hb dX9_answers_11 (by decide) (fun c11 => absurd c11 ((by decide))) (fun c11 => ?_)
    refine lv_iconst (v := 1) hx hb dX9_answers_14 (by decide) ?_
    refine lv_goto (tgt := 49) hx hb dX9_answers_15 (by decide) ?_
    exact hs_zret hx hb hrt hlocks hK hP hD hS dX9_answers_49 rfl (by unfold hasA; first | (rw [if_neg c2, if_neg c24, if_neg c37]; done) | (rw [if_neg c2, if_neg c24, if_pos c37]; done) | (rw [if_neg c2, if_pos c24]; done) | (rw [if_pos c2]; rfl)) (rfl)

theorem c_X9_answers (l : Launch) (D : va_G) (o : Nat) (ad : Nat → Nat) (cd : Nat → ClassId) (tn td cs hd : Int32) (kd rt vl hr hw cu si : Nat → Int32) (acc : Nat → Int64) (st : TS) (t : Int32) (ht : vp_in t 24) (k : Nat) (hk : k < 7) (hkd : kd t.toNatClampNeg = nI k) (w : Int32) : CM l D yX9_answers cX9_answers 3 (some .boolean) { frames := 2, cells := 0, slots := 0, locals := 43 } (tyM cd) [.ref o, .int t, .int w] (mW o ad cd tn td cs hd kd rt vl hr hw cu si acc st) (hs_QI D (tyM cd) (hasA k w) (mW o ad cd tn td cs hd kd rt vl hr hw cu si acc st)) := by
  match k, hk, hkd with
  | 0, _, hkd => exact c_X9_answers_0 l D o ad cd tn td cs hd kd rt vl hr hw cu si acc st t ht hkd w
  | 1, _, hkd => exact c_X9_answers_1 l D o ad cd tn td cs hd kd rt vl hr hw cu si acc st t ht hkd w
  | 2, _, hkd => exact c_X9_answers_2 l D o ad cd tn td cs hd kd rt vl hr hw cu si acc st t ht hkd w
  | 3, _, hkd => exact c_X9_answers_3 l D o ad cd tn td cs hd kd rt vl hr hw cu si acc st t ht hkd w
  | 4, _, hkd => exact c_X9_answers_4 l D o ad cd tn td cs hd kd rt vl hr hw cu si acc st t ht hkd w
  | 5, _, hkd => exact c_X9_answers_5 l D o ad cd tn td cs hd kd rt vl hr hw cu si acc st t ht hkd w
  | 6, _, hkd => exact c_X9_answers_6 l D o ad cd tn td cs hd kd rt vl hr hw cu si acc st t ht hkd w
  | k + 7, hk, _ => exact absurd hk (by omega)

theorem cal_X9_answers : hs_cV yX9_answers cX9_answers 3 (some .boolean) 2 := ⟨tw_585, tw_584, tw_5, tw_19, by decide +kernel⟩

