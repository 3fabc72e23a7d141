set_option maxHeartbeats 400000 in
set_option maxRecDepth 100000 in
theorem c_X9_ask_none (l : Launch) (D : va_G) (o : Nat) (ad : Nat → Nat) (cd : Nat → ClassId) (tn td cs hd : Int32) (kd rt vl hr hw cu si : Nat → Int32) (acc : Nat → Int64) (st : TS) (t : Int32) (hT : wi t 0 (tn - 1) = 0) (w d : Int32) : CM l D yX9_ask cX9_ask 5 (some .int) { frames := 2, cells := 0, slots := 0, locals := 43 } (tyM cd) [.ref o, .int t, .int w, .int d] (mW o ad cd tn td cs hd kd rt vl hr hw cu si acc st) (hs_QI D (tyM cd) (-2) (mW o ad cd tn td cs hd kd rt vl hr hw cu si acc st)) := by
  refine CM.of (by decide) (Nat.le_of_ble_eq_true rfl) ?_
  intro p e s m below meth c A ls hx hb hrt hml htg hown hlocks hnm hA hK hP hD hS hl
  have hown : s.vm.findClass RX9 = some m.cls := hown
  have hl : lv_has ls 5 [(0, .ref o), (1, .int t), (2, .int w), (3, .int d)] := hl
  have SF : CallFix p m c cX9_ask 5 s _ hs_gt RX9 := ⟨hx, hb, hml, hown, htg⟩
  refine lv_aload_n hx hb dX9_ask_0 rfl (lv_at hl 0 rfl) ?_
  refine lv_iload_n hx hb dX9_ask_1 rfl (lv_at hl 1 rfl) ?_
  refine hs_calli0 (w1 := (mW o ad cd tn td cs hd kd rt vl hr hw cu si acc st)) (hs_runV (q0 := 0) SF cal_X9_isTool tw_578 (c_X9_isTool l D o ad cd tn td cs hd kd rt vl hr hw cu si acc st t) hK hP hD rfl rfl ⟨Nat.le_of_ble_eq_true rfl, Nat.le_of_ble_eq_true rfl⟩ rfl hl.1 rfl (Nat.le_of_ble_eq_true rfl) dX9_ask_2 ⟨Nat.le_of_ble_eq_true rfl, Nat.le_of_ble_eq_true rfl⟩) hD hS hA (fun H locs hP hD hS => ?_)
  refine lv_if_eq (tgt := 28) hx hb dX9_ask_5 (by decide) (fun c5 => ?_) (fun c5 => absurd c5 (fun q => q hT))
  refine lv_bipush (v := (-2)) hx hb dX9_ask_28 (by decide) ?_
  exact hs_iret hx hb hrt hlocks hK hP hD hS dX9_ask_30 (rfl) (rfl)

set_option maxHeartbeats 400000 in
set_option maxRecDepth 100000 in
theorem c_X9_hire_none (l : Launch) (D : va_G) (o : Nat) (ad : Nat → Nat) (cd : Nat → ClassId) (tn td cs hd : Int32) (kd rt vl hr hw cu si : Nat → Int32) (acc : Nat → Int64) (st : TS) (t : Int32) (hT : wi t 0 (tn - 1) = 0) (cm : Int32) : CM l D yX9_hire cX9_hire 3 (some .int) { frames := 2, cells := 0, slots := 0, locals := 43 } (tyM cd) [.ref o, .int t, .int cm] (mW o ad cd tn td cs hd kd rt vl hr hw cu si acc st) (hs_QI D (tyM cd) (-2) (mW o ad cd tn td cs hd kd rt vl hr hw cu si acc st)) := by
  refine CM.of (by decide) (Nat.le_of_ble_eq_true rfl) ?_
  intro p e s m below meth c A ls hx hb hrt hml htg hown hlocks hnm hA hK hP hD hS hl
  have hown : s.vm.findClass RX9 = some m.cls := hown
  have hl : lv_has ls 3 [(0, .ref o), (1, .int t), (2, .int cm)] := hl
  have SF : CallFix p m c cX9_hire 3 s _ hs_gt RX9 := ⟨hx, hb, hml, hown, htg⟩
  refine lv_aload_n hx hb dX9_hire_0 rfl (lv_at hl 0 rfl) ?_
  refine lv_iload_n hx hb dX9_hire_1 rfl (lv_at hl 1 rfl) ?_
  refine hs_calli0 (w1 := (mW o ad cd tn td cs hd kd rt vl hr hw cu si acc st)) (hs_runV (q0 := 0) SF cal_X9_isTool tw_578 (c_X9_isTool l D o ad cd tn td cs hd kd rt vl hr hw cu si acc st t) hK hP hD rfl rfl ⟨Nat.le_of_ble_eq_true rfl, Nat.le_of_ble_eq_true rfl⟩ rfl hl.1 rfl (Nat.le_of_ble_eq_true rfl) dX9_hire_2 ⟨Nat.le_of_ble_eq_true rfl, Nat.le_of_ble_eq_true rfl⟩) hD hS hA (fun H locs hP hD hS => ?_)
  refine lv_if_eq (tgt := 17) hx hb dX9_hire_5 (by decide) (fun c5 => ?_) (fun c5 => absurd c5 (fun q => q hT))
  refine lv_bipush (v := (-2)) hx hb dX9_hire_17 (by decide) ?_
  exact hs_iret hx hb hrt hlocks hK hP hD hS dX9_hire_19 (rfl) (rfl)

set_option maxHeartbeats 400000 in
set_option maxRecDepth 100000 in
theorem c_X9_back_none (l : Launch) (D : va_G) (o : Nat) (ad : Nat → Nat) (cd : Nat → ClassId) (tn td cs hd : Int32) (kd rt vl hr hw cu si : Nat → Int32) (acc : Nat → Int64) (st : TS) (t : Int32) (hT : wi t 0 (tn - 1) = 0) : CM l D yX9_back cX9_back 4 (some .int) { frames := 2, cells := 0, slots := 0, locals := 43 } (tyM cd) [.ref o, .int t] (mW o ad cd tn td cs hd kd rt vl hr hw cu si acc st) (hs_QI D (tyM cd) (-2) (mW o ad cd tn td cs hd kd rt vl hr hw cu si acc st)) := by
  refine CM.of (by decide) (Nat.le_of_ble_eq_true rfl) ?_
  intro p e s m below meth c A ls hx hb hrt hml htg hown hlocks hnm hA hK hP hD hS hl
  have hown : s.vm.findClass RX9 = some m.cls := hown
  have hl : lv_has ls 4 [(0, .ref o), (1, .int t)] := hl
  have SF : CallFix p m c cX9_back 4 s _ hs_gt RX9 := ⟨hx, hb, hml, hown, htg⟩
  refine lv_aload_n hx hb dX9_back_0 rfl (lv_at hl 0 rfl) ?_
  refine lv_iload_n hx hb dX9_back_1 rfl (lv_at hl 1 rfl) ?_
  refine hs_calli0 (w1 := (mW o ad cd tn td cs hd kd rt vl hr hw cu si acc st)) (hs_runV (q0 := 0) SF cal_X9_isTool tw_578 (c_X9_isTool l D o ad cd tn td cs hd kd rt vl hr hw cu si acc st t) hK hP hD rfl rfl ⟨Nat.le_of_ble_eq_true rfl, Nat.le_of_ble_eq_true rfl⟩ rfl hl.1 rfl (Nat.le_of_ble_eq_true rfl) dX9_back_2 ⟨Nat.le_of_ble_eq_true rfl, Nat.le_of_ble_eq_true rfl⟩) hD hS hA (fun H locs hP hD hS => ?_)
  refine lv_if_ne (tgt := 11) hx hb dX9_back_5 (by decide) (fun c5 => absurd c5 (fun q => q hT)) (fun c5 => ?_)
  refine lv_bipush (v := (-2)) hx hb dX9_back_8 (by decide) ?_
  exact hs_iret hx hb hrt hlocks hK hP hD hS dX9_back_10 (rfl) (rfl)

set_option maxHeartbeats 400000 in
set_option maxRecDepth 100000 in
theorem c_X9_service_none (l : Launch) (D : va_G) (o : Nat) (ad : Nat → Nat) (cd : Nat → ClassId) (tn td cs hd : Int32) (kd rt vl hr hw cu si : Nat → Int32) (acc : Nat → Int64) (st : TS) (t : Int32) (hT : wi t 0 (tn - 1) = 0) : CM l D yX9_service cX9_service 3 (some .int) { frames := 2, cells := 0, slots := 0, locals := 43 } (tyM cd) [.ref o, .int t] (mW o ad cd tn td cs hd kd rt vl hr hw cu si acc st) (hs_QI D (tyM cd) (-2) (mW o ad cd tn td cs hd kd rt vl hr hw cu si acc st)) := by
  refine CM.of (by decide) (Nat.le_of_ble_eq_true rfl) ?_
  intro p e s m below meth c A ls hx hb hrt hml htg hown hlocks hnm hA hK hP hD hS hl
  have hown : s.vm.findClass RX9 = some m.cls := hown
  have hl : lv_has ls 3 [(0, .ref o), (1, .int t)] := hl
  have SF : CallFix p m c cX9_service 3 s _ hs_gt RX9 := ⟨hx, hb, hml, hown, htg⟩
  refine lv_aload_n hx hb dX9_service_0 rfl (lv_at hl 0 rfl) ?_
  refine lv_iload_n hx hb dX9_service_1 rfl (lv_at hl 1 rfl) ?_
  refine hs_calli0 (w1 := (mW o ad cd tn td cs hd kd rt vl hr hw cu si acc st)) (hs_runV (q0 := 0) SF cal_X9_isTool tw_578 (c_X9_isTool l D o ad cd tn td cs hd kd rt vl hr hw cu si acc st t) hK hP hD rfl rfl ⟨Nat.le_of_ble_eq_true rfl, Nat.le_of_ble_eq_true rfl⟩ rfl hl.1 rfl (Nat.le_of_ble_eq_true rfl) dX9_service_2 ⟨Nat.le_of_ble_eq_true rfl, Nat.le_of_ble_eq_true rfl⟩) hD hS hA (fun H locs hP hD hS => ?_)
  refine lv_if_ne (tgt := 11) hx hb dX9_service_5 (by decide) (fun c5 => absurd c5 (fun q => q hT)) (fun c5 => ?_)
  refine lv_bipush (v := (-2)) hx hb dX9_service_8 (by decide) ?_
  exact hs_iret hx hb hrt hlocks hK hP hD hS dX9_service_10 (rfl) (rfl)

set_option maxHeartbeats 400000 in
set_option maxRecDepth 100000 in
theorem c_X9_told_none (l : Launch) (D : va_G) (o : Nat) (ad : Nat → Nat) (cd : Nat → ClassId) (tn td cs hd : Int32) (kd rt vl hr hw cu si : Nat → Int32) (acc : Nat → Int64) (st : TS) (t : Int32) (hT : wi t 0 (tn - 1) = 0) (w : Int32) : CM l D yX9_told cX9_told 3 (some .int) { frames := 2, cells := 0, slots := 0, locals := 43 } (tyM cd) [.ref o, .int t, .int w] (mW o ad cd tn td cs hd kd rt vl hr hw cu si acc st) (hs_QI D (tyM cd) (-2) (mW o ad cd tn td cs hd kd rt vl hr hw cu si acc st)) := by
  refine CM.of (by decide) (Nat.le_of_ble_eq_true rfl) ?_
  intro p e s m below meth c A ls hx hb hrt hml htg hown hlocks hnm hA hK hP hD hS hl
  have hown : s.vm.findClass RX9 = some m.cls := hown
  have hl : lv_has ls 3 [(0, .ref o), (1, .int t), (2, .int w)] := hl
  have SF : CallFix p m c cX9_told 3 s _ hs_gt RX9 := ⟨hx, hb, hml, hown, htg⟩
  refine lv_aload_n hx hb dX9_told_0 rfl (lv_at hl 0 rfl) ?_
  refine lv_iload_n hx hb dX9_told_1 rfl (lv_at hl 1 rfl) ?_
  refine hs_calli0 (w1 := (mW o ad cd tn td cs hd kd rt vl hr hw cu si acc st)) (hs_runV (q0 := 0) SF cal_X9_isTool tw_578 (c_X9_isTool l D o ad cd tn td cs hd kd rt vl hr hw cu si acc st t) hK hP hD rfl rfl ⟨Nat.le_of_ble_eq_true rfl, Nat.le_of_ble_eq_true rfl⟩ rfl hl.1 rfl (Nat.le_of_ble_eq_true rfl) dX9_told_2 ⟨Nat.le_of_ble_eq_true rfl, Nat.le_of_ble_eq_true rfl⟩) hD hS hA (fun H locs hP hD hS => ?_)
  refine lv_if_ne (tgt := 11) hx hb dX9_told_5 (by decide) (fun c5 => absurd c5 (fun q => q hT)) (fun c5 => ?_)
  refine lv_bipush (v := (-2)) hx hb dX9_told_8 (by decide) ?_
  exact hs_iret hx hb hrt hlocks hK hP hD hS dX9_told_10 (rfl) (rfl)

set_option maxHeartbeats 400000 in
set_option maxRecDepth 100000 in
theorem c_X9_ask_some (l : Launch) (D : va_G) (o : Nat) (ad : Nat → Nat) (cd : Nat → ClassId) (tn td cs hd : Int32) (kd rt vl hr hw cu si : Nat → Int32) (acc : Nat → Int64) (st : TS) (t : Int32) (ht : vp_in t 24) (k : Nat) (hk : k < 7) (hkd : kd t.toNatClampNeg = nI k) (hop : st.2.1 = 0) (hT : ¬ wi t 0 (tn - 1) = 0) (w d : Int32) : CM l D yX9_ask cX9_ask 5 (some .int) { frames := 3, cells := 0, slots := 0, locals := 67 } (tyM cd) [.ref o, .int t, .int w, .int d] (mW o ad cd tn td cs hd kd rt vl hr hw cu si acc st) (hs_QI D (tyM cd) (askF k w (rt t.toNatClampNeg) (vl t.toNatClampNeg) (hr t.toNatClampNeg) d) (mW o ad cd tn td cs hd kd rt vl hr hw cu si acc (askM k w d st))) := by
  refine CM.of (by decide) (Nat.le_of_ble_eq_true rfl) ?_
  intro p e s m below meth c A ls hx hb hrt hml htg hown hlocks hnm hA hK hP hD hS hl
  have hown : s.vm.findClass RX9 = some m.cls := hown
  have hl : lv_has ls 5 [(0, .ref o), (1, .int t), (2, .int w), (3, .int d)] := hl
  have SF : CallFix p m c cX9_ask 5 s _ hs_gt RX9 := ⟨hx, hb, hml, hown, htg⟩
  refine lv_aload_n hx hb dX9_ask_0 rfl (lv_at hl 0 rfl) ?_
  refine lv_iload_n hx hb dX9_ask_1 rfl (lv_at hl 1 rfl) ?_
  refine hs_calli0 (w1 := (mW o ad cd tn td cs hd kd rt vl hr hw cu si acc st)) (hs_runV (q0 := 0) SF cal_X9_isTool tw_578 (c_X9_isTool l D o ad cd tn td cs hd kd rt vl hr hw cu si acc st t) hK hP hD rfl rfl ⟨Nat.le_of_ble_eq_true rfl, Nat.le_of_ble_eq_true rfl⟩ rfl hl.1 rfl (Nat.le_of_ble_eq_true rfl) dX9_ask_2 ⟨Nat.le_of_ble_eq_true rfl, Nat.le_of_ble_eq_true rfl⟩) hD hS hA (fun H locs hP hD hS => ?_)
  refine lv_if_eq (tgt := 28) hx hb dX9_ask_5 (by decide) (fun c5 => absurd c5 (hT)) (fun c5 => ?_)
  refine lv_iload_n hx hb dX9_ask_8 rfl (lv_at hl 2 rfl) ?_
  refine lv_iconst (v := 0) hx hb dX9_ask_9 (by decide) ?_
  refine lv_iconst (v := 5) hx hb dX9_ask_10 (by decide) ?_
  refine hs_calli0 (w1 := (mW o ad cd tn td cs hd kd rt vl hr hw cu si acc st)) (hs_runS SF cal_X9_in tw_570 (c_X9_in l D o ad cd tn td cs hd kd rt vl hr hw cu si acc st w 0 5) hK hP hD ⟨Nat.le_of_ble_eq_true rfl, Nat.le_of_ble_eq_true rfl⟩ rfl hl.1 rfl (Nat.le_of_ble_eq_true rfl) dX9_ask_11 ⟨Nat.le_of_ble_eq_true rfl, Nat.le_of_ble_eq_true rfl⟩) hD hS hA (fun H locs hP hD hS => ?_)
  refine lv_if_eq (tgt := 28) hx hb dX9_ask_14 (by decide) (fun c14 => ?_) (fun c14 => ?_)
  · refine lv_bipush (v := (-2)) hx hb dX9_ask_28 (by decide) ?_
    exact hs_iret hx hb hrt hlocks hK hP hD hS dX9_ask_30 (by unfold askF; first | rw [if_pos c14] | rw [if_neg c14, if_pos c25] | rw [if_neg c14, if_neg c25, if_pos c42] | (rw [if_neg c14, if_neg c25, if_neg c42]; unfold ansF; first | rw [if_pos c54] | rw [if_neg c54, if_pos c68] | rw [if_neg c54, if_neg c68, if_pos c82] | rw [if_neg c54, if_neg c68, if_neg c82, if_pos c95] | rw [if_neg c54, if_neg c68, if_neg c82, if_neg c95, if_pos c108] | rw [if_neg c54, if_neg c68, if_neg c82, if_neg c95, if_neg c108, if_pos (w_5 c14 c54 c68 c82 c95 c108)])) (by unfold askM; first | rw [if_pos c14] | rw [if_neg c14, if_pos c25] | rw [if_neg c14, if_neg c25, if_pos c42] | (rw [if_neg c14, if_neg c25, if_neg c42]; unfold ansN; first | (rw [if_pos c54]; done) | (rw [if_neg c54, if_pos c68]; done) | (rw [if_neg c54, if_neg c68, if_pos c82]; done) | (rw [if_neg c54, if_neg c68, if_neg c82, if_pos c95]; done) | (rw [if_neg c54, if_neg c68, if_neg c82, if_neg c95, if_pos c108]; done) | (rw [if_neg c54, if_neg c68, if_neg c82, if_neg c95, if_neg c108, if_pos (w_5 c14 c54 c68 c82 c95 c108)]; done)))
  · refine lv_iload_n hx hb dX9_ask_17 rfl (lv_at hl 3 rfl) ?_
    refine lv_iconst (v := 0) hx hb dX9_ask_18 (by decide) ?_
    refine lv_sipush (v := 400) hx hb dX9_ask_19 (by decide) ?_
    refine hs_calli0 (w1 := (mW o ad cd tn td cs hd kd rt vl hr hw cu si acc st)) (hs_runS SF cal_X9_in tw_570 (c_X9_in l D o ad cd tn td cs hd kd rt vl hr hw cu si acc st d 0 400) hK hP hD ⟨Nat.le_of_ble_eq_true rfl, Nat.le_of_ble_eq_true rfl⟩ rfl hl.1 rfl (Nat.le_of_ble_eq_true rfl) dX9_ask_22 ⟨Nat.le_of_ble_eq_true rfl, Nat.le_of_ble_eq_true rfl⟩) hD hS hA (fun H locs hP hD hS => ?_)
    refine lv_if_ne (tgt := 31) hx hb dX9_ask_25 (by decide) (fun c25 => ?_) (fun c25 => ?_)
    · refine lv_aload_n hx hb dX9_ask_31 rfl (lv_at hl 0 rfl) ?_
      refine lv_iconst (v := 0) hx hb dX9_ask_32 (by decide) ?_
      refine va_put (D := D) (ci := 9) (v := .int 0) (ty := .int) (C := RX9) (T := TX9) (N := 15) hx hb htg in_X9 tyX9 tyX9_ok nmX9 hown hK hP hD hS 0 rfl rfl 13 (by decide) (htg _ tw_533) (fun _ h9 => h9) rfl (by decide +kernel) rfl rfl (Nat.le_of_ble_eq_true rfl) dX9_ask_33 (fun H locs hP hD hS => ?_)
      have hP : va_P D hs_cl (mW o ad cd tn td cs hd kd rt vl hr hw cu si acc (0, st.2.1, st.2.2)) H := hP
      have hD : va_D A (mW o ad cd tn td cs hd kd rt vl hr hw cu si acc (0, st.2.1, st.2.2)) := hD
      refine lv_aload_n hx hb dX9_ask_36 rfl (lv_at hl 0 rfl) ?_
      refine lv_iload_n hx hb dX9_ask_37 rfl (lv_at hl 1 rfl) ?_
      refine lv_iload_n hx hb dX9_ask_38 rfl (lv_at hl 2 rfl) ?_
      refine hs_calli0 (w1 := (mW o ad cd tn td cs hd kd rt vl hr hw cu si acc (0, st.2.1, st.2.2))) (hs_runV (q0 := 0) SF cal_X9_answers tw_582 (c_X9_answers l D o ad cd tn td cs hd kd rt vl hr hw cu si acc (0, st.2.1, st.2.2) t ht k hk hkd w) hK hP hD rfl rfl ⟨Nat.le_of_ble_eq_true rfl, Nat.le_of_ble_eq_true rfl⟩ rfl hl.1 rfl (Nat.le_of_ble_eq_true rfl) dX9_ask_39 ⟨Nat.le_of_ble_eq_true rfl, Nat.le_of_ble_eq_true rfl⟩) hD hS hA (fun H locs hP hD hS => ?_)
      refine lv_if_ne (tgt := 48) hx hb dX9_ask_42 (by decide) (fun c42 => ?_) (fun c42 => ?_)
      · refine lv_aload_n hx hb dX9_ask_48 rfl (lv_at hl 0 rfl) ?_
        refine lv_iconst (v := 1) hx hb dX9_ask_49 (by decide) ?_
        refine va_put (D := D) (ci := 9) (v := .int 1) (ty := .boolean) (C := RX9) (T := TX9) (N := 15) hx hb htg in_X9 tyX9 tyX9_ok nmX9 hown hK hP hD hS 0 rfl rfl 14 (by decide) (htg _ tw_534) (fun _ h9 => h9) rfl (by decide +kernel) rfl rfl (Nat.le_of_ble_eq_true rfl) dX9_ask_50 (fun H locs hP hD hS => ?_)
        have hP : va_P D hs_cl (mW o ad cd tn td cs hd kd rt vl hr hw cu si acc (0, 1, st.2.2)) H := hP
        have hD : va_D A (mW o ad cd tn td cs hd kd rt vl hr hw cu si acc (0, 1, st.2.2)) := hD
        refine lv_iload_n hx hb dX9_ask_53 rfl (lv_at hl 2 rfl) ?_
        refine lv_if_ne (tgt := 66) hx hb dX9_ask_54 (by decide) (fun c54 => ?_) (fun c54 => ?_)
        · refine lv_iload_n hx hb dX9_ask_66 rfl (lv_at hl 2 rfl) ?_
          refine lv_iconst (v := 1) hx hb dX9_ask_67 (by decide) ?_
          refine lv_icmp_ne (tgt := 80) hx hb dX9_ask_68 (by decide) (fun c68 => ?_) (fun c68 => ?_)
          · refine lv_iload_n hx hb dX9_ask_80 rfl (lv_at hl 2 rfl) ?_
            refine lv_iconst (v := 2) hx hb dX9_ask_81 (by decide) ?_
            refine lv_icmp_ne (tgt := 93) hx hb dX9_ask_82 (by decide) (fun c82 => ?_) (fun c82 => ?_)
            · refine lv_iload_n hx hb dX9_ask_93 rfl (lv_at hl 2 rfl) ?_
              refine lv_iconst (v := 3) hx hb dX9_ask_94 (by decide) ?_
              refine lv_icmp_ne (tgt := 106) hx hb dX9_ask_95 (by decide) (fun c95 => ?_) (fun c95 => ?_)
              · refine lv_iload_n hx hb dX9_ask_106 rfl (lv_at hl 2 rfl) ?_
                refine lv_iconst (v := 4) hx hb dX9_ask_107 (by decide) ?_
                refine lv_icmp_ne (tgt := 120) hx hb dX9_ask_108 (by decide) (fun c108 => ?_) (fun c108 => ?_)
                · refine lv_aload_n hx hb dX9_ask_120 rfl (lv_at hl 0 rfl) ?_
                  refine lv_iload_n hx hb dX9_ask_121 rfl (lv_at hl 1 rfl) ?_
                  refine lv_iload_n hx hb dX9_ask_122 rfl (lv_at hl 3 rfl) ?_
                  refine hs_calli0 (w1 := (mW o ad cd tn td cs hd kd rt vl hr hw cu si acc (bds (duN k) (0, 1, st.2.2)))) (hs_runV (q0 := 0) SF cal_X9_due tw_618 (c_X9_due l D o ad cd tn td cs hd kd rt vl hr hw cu si acc (0, 1, st.2.2) t ht k hk hkd (okM_mono (okM_0 _) (by decide)) (hr t.toNatClampNeg) rfl d (hasA_5 c42 (w_5 c14 c54 c68 c82 c95 c108))) hK hP hD rfl rfl ⟨Nat.le_of_ble_eq_true rfl, Nat.le_of_ble_eq_true rfl⟩ rfl hl.1 rfl (Nat.le_of_ble_eq_true rfl) dX9_ask_123 ⟨Nat.le_of_ble_eq_true rfl, Nat.le_of_ble_eq_true rfl⟩) hD hS hA (fun H locs hP hD hS => ?_)
                  refine lv_istore (lv' := [(4, .int (duF k (hr t.toNatClampNeg) d)), (0, .ref o), (1, .int t), (2, .int w), (3, .int d)]) hx hb dX9_ask_126 hl (by decide) rfl (fun ls hl => ?_)
                  refine lv_aload_n hx hb dX9_ask_128 rfl (lv_at hl 1 rfl) ?_
                  refine lv_iconst (v := 0) hx hb dX9_ask_129 (by decide) ?_
                  refine va_put (D := D) (ci := 9) (v := .int 0) (ty := .boolean) (C := RX9) (T := TX9) (N := 15) hx hb htg in_X9 tyX9 tyX9_ok nmX9 hown hK hP hD hS 0 rfl rfl 14 (by decide) (htg _ tw_534) (fun _ h9 => h9) rfl (by decide +kernel) rfl rfl (Nat.le_of_ble_eq_true rfl) dX9_ask_130 (fun H locs hP hD hS => ?_)
                  have hP : va_P D hs_cl (mW o ad cd tn td cs hd kd rt vl hr hw cu si acc ((bds (duN k) (0, 1, st.2.2)).1, 0, (bds (duN k) (0, 1, st.2.2)).2.2)) H := hP
                  have hD : va_D A (mW o ad cd tn td cs hd kd rt vl hr hw cu si acc ((bds (duN k) (0, 1, st.2.2)).1, 0, (bds (duN k) (0, 1, st.2.2)).2.2)) := hD
                  refine lv_iload hx hb dX9_ask_133 (lv_at hl 0 rfl) ?_
                  exact hs_iret hx hb hrt hlocks hK hP hD hS dX9_ask_135 (by unfold askF; first | rw [if_pos c14] | rw [if_neg c14, if_pos c25] | rw [if_neg c14, if_neg c25, if_pos c42] | (rw [if_neg c14, if_neg c25, if_neg c42]; unfold ansF; first | rw [if_pos c54] | rw [if_neg c54, if_pos c68] | rw [if_neg c54, if_neg c68, if_pos c82] | rw [if_neg c54, if_neg c68, if_neg c82, if_pos c95] | rw [if_neg c54, if_neg c68, if_neg c82, if_neg c95, if_pos c108] | rw [if_neg c54, if_neg c68, if_neg c82, if_neg c95, if_neg c108, if_pos (w_5 c14 c54 c68 c82 c95 c108)])) (by unfold askM; first | rw [if_pos c14] | rw [if_neg c14, if_pos c25] | rw [if_neg c14, if_neg c25, if_pos c42] | (rw [if_neg c14, if_neg c25, if_neg c42]; unfold ansN; first | (rw [if_pos c54]; done) | (rw [if_neg c54, if_pos c68]; done) | (rw [if_neg c54, if_neg c68, if_pos c82]; done) | (rw [if_neg c54, if_neg c68, if_neg c82, if_pos c95]; done) | (rw [if_neg c54, if_neg c68, if_neg c82, if_neg c95, if_pos c108]; done) | (rw [if_neg c54, if_neg c68, if_neg c82, if_neg c95, if_neg c108, if_pos (w_5 c14 c54 c68 c82 c95 c108)]; done)))
                · refine lv_aload_n hx hb dX9_ask_111 rfl (lv_at hl 0 rfl) ?_
                  refine lv_iload_n hx hb dX9_ask_112 rfl (lv_at hl 1 rfl) ?_
                  refine lv_iload_n hx hb dX9_ask_113 rfl (lv_at hl 3 rfl) ?_
                  refine hs_calli0 (w1 := (mW o ad cd tn td cs hd kd rt vl hr hw cu si acc (bds (pmN k) (0, 1, st.2.2)))) (hs_runV (q0 := 0) SF cal_X9_premium tw_614 (c_X9_premium l D o ad cd tn td cs hd kd rt vl hr hw cu si acc (0, 1, st.2.2) t ht k hk hkd (okM_0 _) (hr t.toNatClampNeg) rfl d (hasA_4 c42 c108)) hK hP hD rfl rfl ⟨Nat.le_of_ble_eq_true rfl, Nat.le_of_ble_eq_true rfl⟩ rfl hl.1 rfl (Nat.le_of_ble_eq_true rfl) dX9_ask_114 ⟨Nat.le_of_ble_eq_true rfl, Nat.le_of_ble_eq_true rfl⟩) hD hS hA (fun H locs hP hD hS => ?_)
                  refine lv_goto (tgt := 126) hx hb dX9_ask_117 (by decide) ?_
                  refine lv_istore (lv' := [(4, .int (pmF k (vl t.toNatClampNeg) (hr t.toNatClampNeg) d)), (0, .ref o), (1, .int t), (2, .int w), (3, .int d)]) hx hb dX9_ask_126 hl (by decide) rfl (fun ls hl => ?_)
                  refine lv_aload_n hx hb dX9_ask_128 rfl (lv_at hl 1 rfl) ?_
                  refine lv_iconst (v := 0) hx hb dX9_ask_129 (by decide) ?_
                  refine va_put (D := D) (ci := 9) (v := .int 0) (ty := .boolean) (C := RX9) (T := TX9) (N := 15) hx hb htg in_X9 tyX9 tyX9_ok nmX9 hown hK hP hD hS 0 rfl rfl 14 (by decide) (htg _ tw_534) (fun _ h9 => h9) rfl (by decide +kernel) rfl rfl (Nat.le_of_ble_eq_true rfl) dX9_ask_130 (fun H locs hP hD hS => ?_)
                  have hP : va_P D hs_cl (mW o ad cd tn td cs hd kd rt vl hr hw cu si acc ((bds (pmN k) (0, 1, st.2.2)).1, 0, (bds (pmN k) (0, 1, st.2.2)).2.2)) H := hP
                  have hD : va_D A (mW o ad cd tn td cs hd kd rt vl hr hw cu si acc ((bds (pmN k) (0, 1, st.2.2)).1, 0, (bds (pmN k) (0, 1, st.2.2)).2.2)) := hD
                  refine lv_iload hx hb dX9_ask_133 (lv_at hl 0 rfl) ?_
                  exact hs_iret hx hb hrt hlocks hK hP hD hS dX9_ask_135 (by unfold askF; first | rw [if_pos c14] | rw [if_neg c14, if_pos c25] | rw [if_neg c14, if_neg c25, if_pos c42] | (rw [if_neg c14, if_neg c25, if_neg c42]; unfold ansF; first | rw [if_pos c54] | rw [if_neg c54, if_pos c68] | rw [if_neg c54, if_neg c68, if_pos c82] | rw [if_neg c54, if_neg c68, if_neg c82, if_pos c95] | rw [if_neg c54, if_neg c68, if_neg c82, if_neg c95, if_pos c108] | rw [if_neg c54, if_neg c68, if_neg c82, if_neg c95, if_neg c108, if_pos (w_5 c14 c54 c68 c82 c95 c108)])) (by unfold askM; first | rw [if_pos c14] | rw [if_neg c14, if_pos c25] | rw [if_neg c14, if_neg c25, if_pos c42] | (rw [if_neg c14, if_neg c25, if_neg c42]; unfold ansN; first | (rw [if_pos c54]; done) | (rw [if_neg c54, if_pos c68]; done) | (rw [if_neg c54, if_neg c68, if_pos c82]; done) | (rw [if_neg c54, if_neg c68, if_neg c82, if_pos c95]; done) | (rw [if_neg c54, if_neg c68, if_neg c82, if_neg c95, if_pos c108]; done) | (rw [if_neg c54, if_neg c68, if_neg c82, if_neg c95, if_neg c108, if_pos (w_5 c14 c54 c68 c82 c95 c108)]; done)))
              · refine lv_aload_n hx hb dX9_ask_98 rfl (lv_at hl 0 rfl) ?_
                refine lv_iload_n hx hb dX9_ask_99 rfl (lv_at hl 1 rfl) ?_
                refine hs_calli0 (w1 := (mW o ad cd tn td cs hd kd rt vl hr hw cu si acc (bds (dpN k) (0, 1, st.2.2)))) (hs_runV (q0 := 0) SF cal_X9_deposit tw_610 (c_X9_deposit l D o ad cd tn td cs hd kd rt vl hr hw cu si acc (0, 1, st.2.2) t ht k hk hkd (okM_mono (okM_0 _) (by decide)) (hasA_3 c42 c95)) hK hP hD rfl rfl ⟨Nat.le_of_ble_eq_true rfl, Nat.le_of_ble_eq_true rfl⟩ rfl hl.1 rfl (Nat.le_of_ble_eq_true rfl) dX9_ask_100 ⟨Nat.le_of_ble_eq_true rfl, Nat.le_of_ble_eq_true rfl⟩) hD hS hA (fun H locs hP hD hS => ?_)
                refine lv_goto (tgt := 126) hx hb dX9_ask_103 (by decide) ?_
                refine lv_istore (lv' := [(4, .int (dpF k (vl t.toNatClampNeg))), (0, .ref o), (1, .int t), (2, .int w), (3, .int d)]) hx hb dX9_ask_126 hl (by decide) rfl (fun ls hl => ?_)
                refine lv_aload_n hx hb dX9_ask_128 rfl (lv_at hl 1 rfl) ?_
                refine lv_iconst (v := 0) hx hb dX9_ask_129 (by decide) ?_
                refine va_put (D := D) (ci := 9) (v := .int 0) (ty := .boolean) (C := RX9) (T := TX9) (N := 15) hx hb htg in_X9 tyX9 tyX9_ok nmX9 hown hK hP hD hS 0 rfl rfl 14 (by decide) (htg _ tw_534) (fun _ h9 => h9) rfl (by decide +kernel) rfl rfl (Nat.le_of_ble_eq_true rfl) dX9_ask_130 (fun H locs hP hD hS => ?_)
                have hP : va_P D hs_cl (mW o ad cd tn td cs hd kd rt vl hr hw cu si acc ((bds (dpN k) (0, 1, st.2.2)).1, 0, (bds (dpN k) (0, 1, st.2.2)).2.2)) H := hP
                have hD : va_D A (mW o ad cd tn td cs hd kd rt vl hr hw cu si acc ((bds (dpN k) (0, 1, st.2.2)).1, 0, (bds (dpN k) (0, 1, st.2.2)).2.2)) := hD
                refine lv_iload hx hb dX9_ask_133 (lv_at hl 0 rfl) ?_
                exact hs_iret hx hb hrt hlocks hK hP hD hS dX9_ask_135 (by unfold askF; first | rw [if_pos c14] | rw [if_neg c14, if_pos c25] | rw [if_neg c14, if_neg c25, if_pos c42] | (rw [if_neg c14, if_neg c25, if_neg c42]; unfold ansF; first | rw [if_pos c54] | rw [if_neg c54, if_pos c68] | rw [if_neg c54, if_neg c68, if_pos c82] | rw [if_neg c54, if_neg c68, if_neg c82, if_pos c95] | rw [if_neg c54, if_neg c68, if_neg c82, if_neg c95, if_pos c108] | rw [if_neg c54, if_neg c68, if_neg c82, if_neg c95, if_neg c108, if_pos (w_5 c14 c54 c68 c82 c95 c108)])) (by unfold askM; first | rw [if_pos c14] | rw [if_neg c14, if_pos c25] | rw [if_neg c14, if_neg c25, if_pos c42] | (rw [if_neg c14, if_neg c25, if_neg c42]; unfold ansN; first | (rw [if_pos c54]; done) | (rw [if_neg c54, if_pos c68]; done) | (rw [if_neg c54, if_neg c68, if_pos c82]; done) | (rw [if_neg c54, if_neg c68, if_neg c82, if_pos c95]; done) | (rw [if_neg c54, if_neg c68, if_neg c82, if_neg c95, if_pos c108]; done) | (rw [if_neg c54, if_neg c68, if_neg c82, if_neg c95, if_neg c108, if_pos (w_5 c14 c54 c68 c82 c95 c108)]; done)))
            · refine lv_aload_n hx hb dX9_ask_85 rfl (lv_at hl 0 rfl) ?_
              refine lv_iload_n hx hb dX9_ask_86 rfl (lv_at hl 1 rfl) ?_
              refine hs_calli0 (w1 := (mW o ad cd tn td cs hd kd rt vl hr hw cu si acc (bds (ckN k) (0, 1, st.2.2)))) (hs_runV (q0 := 0) SF cal_X9_check tw_606 (c_X9_check l D o ad cd tn td cs hd kd rt vl hr hw cu si acc (0, 1, st.2.2) t ht k hk hkd (okM_mono (okM_0 _) (by decide)) (hr t.toNatClampNeg) rfl) hK hP hD rfl rfl ⟨Nat.le_of_ble_eq_true rfl, Nat.le_of_ble_eq_true rfl⟩ rfl hl.1 rfl (Nat.le_of_ble_eq_true rfl) dX9_ask_87 ⟨Nat.le_of_ble_eq_true rfl, Nat.le_of_ble_eq_true rfl⟩) hD hS hA (fun H locs hP hD hS => ?_)
              refine lv_goto (tgt := 126) hx hb dX9_ask_90 (by decide) ?_
              refine lv_istore (lv' := [(4, .int (ckF k (hr t.toNatClampNeg))), (0, .ref o), (1, .int t), (2, .int w), (3, .int d)]) hx hb dX9_ask_126 hl (by decide) rfl (fun ls hl => ?_)
              refine lv_aload_n hx hb dX9_ask_128 rfl (lv_at hl 1 rfl) ?_
              refine lv_iconst (v := 0) hx hb dX9_ask_129 (by decide) ?_
              refine va_put (D := D) (ci := 9) (v := .int 0) (ty := .boolean) (C := RX9) (T := TX9) (N := 15) hx hb htg in_X9 tyX9 tyX9_ok nmX9 hown hK hP hD hS 0 rfl rfl 14 (by decide) (htg _ tw_534) (fun _ h9 => h9) rfl (by decide +kernel) rfl rfl (Nat.le_of_ble_eq_true rfl) dX9_ask_130 (fun H locs hP hD hS => ?_)
              have hP : va_P D hs_cl (mW o ad cd tn td cs hd kd rt vl hr hw cu si acc ((bds (ckN k) (0, 1, st.2.2)).1, 0, (bds (ckN k) (0, 1, st.2.2)).2.2)) H := hP
              have hD : va_D A (mW o ad cd tn td cs hd kd rt vl hr hw cu si acc ((bds (ckN k) (0, 1, st.2.2)).1, 0, (bds (ckN k) (0, 1, st.2.2)).2.2)) := hD
              refine lv_iload hx hb dX9_ask_133 (lv_at hl 0 rfl) ?_
              exact hs_iret hx hb hrt hlocks hK hP hD hS dX9_ask_135 (by unfold askF; first | rw [if_pos c14] | rw [if_neg c14, if_pos c25] | rw [if_neg c14, if_neg c25, if_pos c42] | (rw [if_neg c14, if_neg c25, if_neg c42]; unfold ansF; first | rw [if_pos c54] | rw [if_neg c54, if_pos c68] | rw [if_neg c54, if_neg c68, if_pos c82] | rw [if_neg c54, if_neg c68, if_neg c82, if_pos c95] | rw [if_neg c54, if_neg c68, if_neg c82, if_neg c95, if_pos c108] | rw [if_neg c54, if_neg c68, if_neg c82, if_neg c95, if_neg c108, if_pos (w_5 c14 c54 c68 c82 c95 c108)])) (by unfold askM; first | rw [if_pos c14] | rw [if_neg c14, if_pos c25] | rw [if_neg c14, if_neg c25, if_pos c42] | (rw [if_neg c14, if_neg c25, if_neg c42]; unfold ansN; first | (rw [if_pos c54]; done) | (rw [if_neg c54, if_pos c68]; done) | (rw [if_neg c54, if_neg c68, if_pos c82]; done) | (rw [if_neg c54, if_neg c68, if_neg c82, if_pos c95]; done) | (rw [if_neg c54, if_neg c68, if_neg c82, if_neg c95, if_pos c108]; done) | (rw [if_neg c54, if_neg c68, if_neg c82, if_neg c95, if_neg c108, if_pos (w_5 c14 c54 c68 c82 c95 c108)]; done)))
          · refine lv_aload_n hx hb dX9_ask_71 rfl (lv_at hl 0 rfl) ?_
            refine lv_iload_n hx hb dX9_ask_72 rfl (lv_at hl 1 rfl) ?_
            refine lv_iload_n hx hb dX9_ask_73 rfl (lv_at hl 3 rfl) ?_
            refine hs_calli0 (w1 := (mW o ad cd tn td cs hd kd rt vl hr hw cu si acc (bds (weN k) (0, 1, st.2.2)))) (hs_runV (q0 := 0) SF cal_X9_wear tw_602 (c_X9_wear l D o ad cd tn td cs hd kd rt vl hr hw cu si acc (0, 1, st.2.2) t ht k hk hkd (okM_mono (okM_0 _) (by decide)) (hr t.toNatClampNeg) rfl d) hK hP hD rfl rfl ⟨Nat.le_of_ble_eq_true rfl, Nat.le_of_ble_eq_true rfl⟩ rfl hl.1 rfl (Nat.le_of_ble_eq_true rfl) dX9_ask_74 ⟨Nat.le_of_ble_eq_true rfl, Nat.le_of_ble_eq_true rfl⟩) hD hS hA (fun H locs hP hD hS => ?_)
            refine lv_goto (tgt := 126) hx hb dX9_ask_77 (by decide) ?_
            refine lv_istore (lv' := [(4, .int (weF k (hr t.toNatClampNeg) d)), (0, .ref o), (1, .int t), (2, .int w), (3, .int d)]) hx hb dX9_ask_126 hl (by decide) rfl (fun ls hl => ?_)
            refine lv_aload_n hx hb dX9_ask_128 rfl (lv_at hl 1 rfl) ?_
            refine lv_iconst (v := 0) hx hb dX9_ask_129 (by decide) ?_
            refine va_put (D := D) (ci := 9) (v := .int 0) (ty := .boolean) (C := RX9) (T := TX9) (N := 15) hx hb htg in_X9 tyX9 tyX9_ok nmX9 hown hK hP hD hS 0 rfl rfl 14 (by decide) (htg _ tw_534) (fun _ h9 => h9) rfl (by decide +kernel) rfl rfl (Nat.le_of_ble_eq_true rfl) dX9_ask_130 (fun H locs hP hD hS => ?_)
            have hP : va_P D hs_cl (mW o ad cd tn td cs hd kd rt vl hr hw cu si acc ((bds (weN k) (0, 1, st.2.2)).1, 0, (bds (weN k) (0, 1, st.2.2)).2.2)) H := hP
            have hD : va_D A (mW o ad cd tn td cs hd kd rt vl hr hw cu si acc ((bds (weN k) (0, 1, st.2.2)).1, 0, (bds (weN k) (0, 1, st.2.2)).2.2)) := hD
            refine lv_iload hx hb dX9_ask_133 (lv_at hl 0 rfl) ?_
            exact hs_iret hx hb hrt hlocks hK hP hD hS dX9_ask_135 (by unfold askF; first | rw [if_pos c14] | rw [if_neg c14, if_pos c25] | rw [if_neg c14, if_neg c25, if_pos c42] | (rw [if_neg c14, if_neg c25, if_neg c42]; unfold ansF; first | rw [if_pos c54] | rw [if_neg c54, if_pos c68] | rw [if_neg c54, if_neg c68, if_pos c82] | rw [if_neg c54, if_neg c68, if_neg c82, if_pos c95] | rw [if_neg c54, if_neg c68, if_neg c82, if_neg c95, if_pos c108] | rw [if_neg c54, if_neg c68, if_neg c82, if_neg c95, if_neg c108, if_pos (w_5 c14 c54 c68 c82 c95 c108)])) (by unfold askM; first | rw [if_pos c14] | rw [if_neg c14, if_pos c25] | rw [if_neg c14, if_neg c25, if_pos c42] | (rw [if_neg c14, if_neg c25, if_neg c42]; unfold ansN; first | (rw [if_pos c54]; done) | (rw [if_neg c54, if_pos c68]; done) | (rw [if_neg c54, if_neg c68, if_pos c82]; done) | (rw [if_neg c54, if_neg c68, if_neg c82, if_pos c95]; done) | (rw [if_neg c54, if_neg c68, if_neg c82, if_neg c95, if_pos c108]; done) | (rw [if_neg c54, if_neg c68, if_neg c82, if_neg c95, if_neg c108, if_pos (w_5 c14 c54 c68 c82 c95 c108)]; done)))
        · refine lv_aload_n hx hb dX9_ask_57 rfl (lv_at hl 0 rfl) ?_
          refine lv_iload_n hx hb dX9_ask_58 rfl (lv_at hl 1 rfl) ?_
          refine lv_iload_n hx hb dX9_ask_59 rfl (lv_at hl 3 rfl) ?_
          refine hs_calli0 (w1 := (mW o ad cd tn td cs hd kd rt vl hr hw cu si acc (bds (chN k) (0, 1, st.2.2)))) (hs_runV (q0 := 0) SF cal_X9_charge tw_594 (c_X9_charge l D o ad cd tn td cs hd kd rt vl hr hw cu si acc (0, 1, st.2.2) t ht k hk hkd (okM_mono (okM_0 _) (by decide)) d (dOk_400 c25)) hK hP hD rfl rfl ⟨Nat.le_of_ble_eq_true rfl, Nat.le_of_ble_eq_true rfl⟩ rfl hl.1 rfl (Nat.le_of_ble_eq_true rfl) dX9_ask_60 ⟨Nat.le_of_ble_eq_true rfl, Nat.le_of_ble_eq_true rfl⟩) hD hS hA (fun H locs hP hD hS => ?_)
          refine lv_goto (tgt := 126) hx hb dX9_ask_63 (by decide) ?_
          refine lv_istore (lv' := [(4, .int (chF k (rt t.toNatClampNeg) (vl t.toNatClampNeg) d)), (0, .ref o), (1, .int t), (2, .int w), (3, .int d)]) hx hb dX9_ask_126 hl (by decide) rfl (fun ls hl => ?_)
          refine lv_aload_n hx hb dX9_ask_128 rfl (lv_at hl 1 rfl) ?_
          refine lv_iconst (v := 0) hx hb dX9_ask_129 (by decide) ?_
          refine va_put (D := D) (ci := 9) (v := .int 0) (ty := .boolean) (C := RX9) (T := TX9) (N := 15) hx hb htg in_X9 tyX9 tyX9_ok nmX9 hown hK hP hD hS 0 rfl rfl 14 (by decide) (htg _ tw_534) (fun _ h9 => h9) rfl (by decide +kernel) rfl rfl (Nat.le_of_ble_eq_true rfl) dX9_ask_130 (fun H locs hP hD hS => ?_)
          have hP : va_P D hs_cl (mW o ad cd tn td cs hd kd rt vl hr hw cu si acc ((bds (chN k) (0, 1, st.2.2)).1, 0, (bds (chN k) (0, 1, st.2.2)).2.2)) H := hP
          have hD : va_D A (mW o ad cd tn td cs hd kd rt vl hr hw cu si acc ((bds (chN k) (0, 1, st.2.2)).1, 0, (bds (chN k) (0, 1, st.2.2)).2.2)) := hD
          refine lv_iload hx hb dX9_ask_133 (lv_at hl 0 rfl) ?_
          exact hs_iret hx hb hrt hlocks hK hP hD hS dX9_ask_135 (by unfold askF; first | rw [if_pos c14] | rw [if_neg c14, if_pos c25] | rw [if_neg c14, if_neg c25, if_pos c42] | (rw [if_neg c14, if_neg c25, if_neg c42]; unfold ansF; first | rw [if_pos c54] | rw [if_neg c54, if_pos c68] | rw [if_neg c54, if_neg c68, if_pos c82] | rw [if_neg c54, if_neg c68, if_neg c82, if_pos c95] | rw [if_neg c54, if_neg c68, if_neg c82, if_neg c95, if_pos c108] | rw [if_neg c54, if_neg c68, if_neg c82, if_neg c95, if_neg c108, if_pos (w_5 c14 c54 c68 c82 c95 c108)])) (by unfold askM; first | rw [if_pos c14] | rw [if_neg c14, if_pos c25] | rw [if_neg c14, if_neg c25, if_pos c42] | (rw [if_neg c14, if_neg c25, if_neg c42]; unfold ansN; first | (rw [if_pos c54]; done) | (rw [if_neg c54, if_pos c68]; done) | (rw [if_neg c54, if_neg c68, if_pos c82]; done) | (rw [if_neg c54, if_neg c68, if_neg c82, if_pos c95]; done) | (rw [if_neg c54, if_neg c68, if_neg c82, if_neg c95, if_pos c108]; done) | (rw [if_neg c54, if_neg c68, if_neg c82, if_neg c95, if_neg c108, if_pos (w_5 c14 c54 c68 c82 c95 c108)]; done)))
      · refine lv_bipush (v := (-3)) hx hb dX9_ask_45 (by decide) ?_
        exact hs_iret hx hb hrt hlocks hK hP hD hS dX9_ask_47 (by unfold askF; first | rw [if_pos c14] | rw [if_neg c14, if_pos c25] | rw [if_neg c14, if_neg c25, if_pos c42] | (rw [if_neg c14, if_neg c25, if_neg c42]; unfold ansF; first | rw [if_pos c54] | rw [if_neg c54, if_pos c68] | rw [if_neg c54, if_neg c68, if_pos c82] | rw [if_neg c54, if_neg c68, if_neg c82, if_pos c95] | rw [if_neg c54, if_neg c68, if_neg c82, if_neg c95, if_pos c108] | rw [if_neg c54, if_neg c68, if_neg c82, if_neg c95, if_neg c108, if_pos (w_5 c14 c54 c68 c82 c95 c108)])) (by unfold askM; first | rw [if_pos c14] | rw [if_neg c14, if_pos c25] | rw [if_neg c14, if_neg c25, if_pos c42] | (rw [if_neg c14, if_neg c25, if_neg c42]; unfold ansN; first | (rw [if_pos c54]; done) | (rw [if_neg c54, if_pos c68]; done) | (rw [if_neg c54, if_neg c68, if_pos c82]; done) | (rw [if_neg c54, if_neg c68, if_neg c82, if_pos c95]; done) | (rw [if_neg c54, if_neg c68, if_neg c82, if_neg c95, if_pos c108]; done) | (rw [if_neg c54, if_neg c68, if_neg c82, if_neg c95, if_neg c108, if_pos (w_5 c14 c54 c68 c82 c95 c108)]; done)))
    · refine lv_bipush (v := (-2)) hx hb dX9_ask_28 (by decide) ?_
      exact hs_iret hx hb hrt hlocks hK hP hD hS dX9_ask_30 (by unfold askF; first | rw [if_pos c14] | rw [if_neg c14, if_pos c25] | rw [if_neg c14, if_neg c25, if_pos c42] | (rw [if_neg c14, if_neg c25, if_neg c42]; unfold ansF; first | rw [if_pos c54] | rw [if_neg c54, if_pos c68] | rw [if_neg c54, if_neg c68, if_pos c82] | rw [if_neg c54, if_neg c68, if_neg c82, if_pos c95] | rw [if_neg c54, if_neg c68, if_neg c82, if_neg c95, if_pos c108] | rw [if_neg c54, if_neg c68, if_neg c82, if_neg c95, if_neg c108, if_pos (w_5 c14 c54 c68 c82 c95 c108)])) (by unfold askM; first | rw [if_pos c14] | rw [if_neg c14, if_pos c25] | rw [if_neg c14, if_neg c25, if_pos c42] | (rw [if_neg c14, if_neg c25, if_neg c42]; unfold ansN; first | (rw [if_pos c54]; done) | (rw [if_neg c54, if_pos c68]; done) | (rw [if_neg c54, if_neg c68, if_pos c82]; done) | (rw [if_neg c54, if_neg c68, if_neg c82, if_pos c95]; done) | (rw [if_neg c54, if_neg c68, if_neg c82, if_neg c95, if_pos c108]; done) | (rw [if_neg c54, if_neg c68, if_neg c82, if_neg c95, if_neg c108, if_pos (w_5 c14 c54 c68 c82 c95 c108)]; done)))

set_option maxHeartbeats 400000 in
set_option maxRecDepth 100000 in
theorem c_X9_trace (l : Launch) (D : va_G) (o : Nat) (ad : Nat → Nat) (cd : Nat → ClassId) (tn td cs hd : Int32) (kd rt vl hr hw cu si : Nat → Int32) (acc : Nat → Int64) (st : TS) (j : Nat) (hj : j ≤ 16) (ej : st.1 = nI j) (i : Int32) : CM l D yX9_trace cX9_trace 2 (some .int) { frames := 1, cells := 0, slots := 0, locals := 22 } (tyM cd) [.ref o, .int i] (mW o ad cd tn td cs hd kd rt vl hr hw cu si acc st) (hs_QI D (tyM cd) (nAtM st i) (mW o ad cd tn td cs hd kd rt vl hr hw cu si acc st)) := by
  refine CM.of (by decide) (Nat.le_of_ble_eq_true rfl) ?_
  intro p e s m below meth c A ls hx hb hrt hml htg hown hlocks hnm hA hK hP hD hS hl
  have hown : s.vm.findClass RX9 = some m.cls := hown
  have hl : lv_has ls 2 [(0, .ref o), (1, .int i)] := hl
  have SF : CallFix p m c cX9_trace 2 s _ hs_gt RX9 := ⟨hx, hb, hml, hown, htg⟩
  refine lv_iload_n hx hb dX9_trace_0 rfl (lv_at hl 1 rfl) ?_
  refine lv_iconst (v := 0) hx hb dX9_trace_1 (by decide) ?_
  refine lv_aload_n hx hb dX9_trace_2 rfl (lv_at hl 0 rfl) ?_
  refine va_get (D := D) (ci := 9) (v := .int st.1) (C := RX9) (T := TX9) (N := 15) hx hb htg in_X9 hown hK hP 0 rfl rfl 13 (by decide) (htg _ tw_533) (fun _ h9 => h9) rfl dX9_trace_3 ?_
  refine lv_iconst (v := 1) hx hb dX9_trace_6 (by decide) ?_
  refine lv_isub hx hb dX9_trace_7 ?_
  refine hs_calli0 (w1 := (mW o ad cd tn td cs hd kd rt vl hr hw cu si acc st)) (hs_runS SF cal_X9_in tw_570 (c_X9_in l D o ad cd tn td cs hd kd rt vl hr hw cu si acc st i 0 (st.1 - 1)) hK hP hD ⟨Nat.le_of_ble_eq_true rfl, Nat.le_of_ble_eq_true rfl⟩ rfl hl.1 rfl (Nat.le_of_ble_eq_true rfl) dX9_trace_8 ⟨Nat.le_of_ble_eq_true rfl, Nat.le_of_ble_eq_true rfl⟩) hD hS hA (fun H locs hP hD hS => ?_)
  refine lv_if_eq (tgt := 23) hx hb dX9_trace_11 (by decide) (fun c11 => ?_) (fun c11 => ?_)
  · refine lv_iconst (v := (-1)) hx hb dX9_trace_23 (by decide) ?_
    exact hs_iret hx hb hrt hlocks hK hP hD hS dX9_trace_24 (by unfold nAtM; first | rw [if_pos c11] | rw [if_neg c11]) (rfl)
  · refine lv_aload_n hx hb dX9_trace_14 rfl (lv_at hl 0 rfl) ?_
    refine va_get (D := D) (ci := 9) (v := .ref (ad 9)) (C := RX9) (T := TX9) (N := 15) hx hb htg in_X9 hown hK hP 0 rfl rfl 12 (by decide) (htg _ tw_532) (fun _ h9 => h9) rfl dX9_trace_15 ?_
    refine lv_iload_n hx hb dX9_trace_18 rfl (lv_at hl 1 rfl) ?_
    refine va_iald hx hb hK hP 9 8 rfl rfl (trM_in hj ej c11) dX9_trace_19 ?_
    refine lv_goto (tgt := 24) hx hb dX9_trace_20 (by decide) ?_
    exact hs_iret hx hb hrt hlocks hK hP hD hS dX9_trace_24 (by unfold nAtM; first | rw [if_pos c11] | rw [if_neg c11]) (rfl)

set_option maxHeartbeats 400000 in
set_option maxRecDepth 100000 in
theorem c_X9_hire_no (l : Launch) (D : va_G) (o : Nat) (ad : Nat → Nat) (cd : Nat → ClassId) (tn td cs hd : Int32) (kd rt vl hr hw cu si : Nat → Int32) (acc : Nat → Int64) (st : TS) (t : Int32) (ht : vp_in t 24) (k : Nat) (hk : k < 7) (hkd : kd t.toNatClampNeg = nI k) (hop : st.2.1 = 0) (hT : ¬ wi t 0 (tn - 1) = 0) (cm : Int32) (hno : ¬ hireOk k (hr t.toNatClampNeg) (hw t.toNatClampNeg) cm) : CM l D yX9_hire cX9_hire 3 (some .int) { frames := 3, cells := 0, slots := 0, locals := 66 } (tyM cd) [.ref o, .int t, .int cm] (mW o ad cd tn td cs hd kd rt vl hr hw cu si acc st) (hs_QI D (tyM cd) (hireF k (vl t.toNatClampNeg) (hr t.toNatClampNeg) (hw t.toNatClampNeg) cm) (mW o ad cd tn td cs hd kd rt vl hr hw cu si acc st)) := by
  refine CM.of (by decide) (Nat.le_of_ble_eq_true rfl) ?_
  intro p e s m below meth c A ls hx hb hrt hml htg hown hlocks hnm hA hK hP hD hS hl
  have hown : s.vm.findClass RX9 = some m.cls := hown
  have hl : lv_has ls 3 [(0, .ref o), (1, .int t), (2, .int cm)] := hl
  have SF : CallFix p m c cX9_hire 3 s _ hs_gt RX9 := ⟨hx, hb, hml, hown, htg⟩
  refine lv_aload_n hx hb dX9_hire_0 rfl (lv_at hl 0 rfl) ?_
  refine lv_iload_n hx hb dX9_hire_1 rfl (lv_at hl 1 rfl) ?_
  refine hs_calli0 (w1 := (mW o ad cd tn td cs hd kd rt vl hr hw cu si acc st)) (hs_runV (q0 := 0) SF cal_X9_isTool tw_578 (c_X9_isTool l D o ad cd tn td cs hd kd rt vl hr hw cu si acc st t) hK hP hD rfl rfl ⟨Nat.le_of_ble_eq_true rfl, Nat.le_of_ble_eq_true rfl⟩ rfl hl.1 rfl (Nat.le_of_ble_eq_true rfl) dX9_hire_2 ⟨Nat.le_of_ble_eq_true rfl, Nat.le_of_ble_eq_true rfl⟩) hD hS hA (fun H locs hP hD hS => ?_)
  refine lv_if_eq (tgt := 17) hx hb dX9_hire_5 (by decide) (fun c5 => absurd c5 (hT)) (fun c5 => ?_)
  refine lv_iload_n hx hb dX9_hire_8 rfl (lv_at hl 2 rfl) ?_
  refine lv_iconst (v := 0) hx hb dX9_hire_9 (by decide) ?_
  refine lv_iconst (v := 5) hx hb dX9_hire_10 (by decide) ?_
  refine hs_calli0 (w1 := (mW o ad cd tn td cs hd kd rt vl hr hw cu si acc st)) (hs_runS SF cal_X9_in tw_570 (c_X9_in l D o ad cd tn td cs hd kd rt vl hr hw cu si acc st cm 0 5) hK hP hD ⟨Nat.le_of_ble_eq_true rfl, Nat.le_of_ble_eq_true rfl⟩ rfl hl.1 rfl (Nat.le_of_ble_eq_true rfl) dX9_hire_11 ⟨Nat.le_of_ble_eq_true rfl, Nat.le_of_ble_eq_true rfl⟩) hD hS hA (fun H locs hP hD hS => ?_)
  refine lv_if_ne (tgt := 20) hx hb dX9_hire_14 (by decide) (fun c14 => ?_) (fun c14 => ?_)
  · refine lv_aload_n hx hb dX9_hire_20 rfl (lv_at hl 0 rfl) ?_
    refine va_get (D := D) (ci := 9) (v := .ref (ad 5)) (C := RX9) (T := TX9) (N := 15) hx hb htg in_X9 hown hK hP 0 rfl rfl 5 (by decide) (htg _ tw_525) (fun _ h9 => h9) rfl dX9_hire_21 ?_
    refine lv_iload_n hx hb dX9_hire_24 rfl (lv_at hl 1 rfl) ?_
    refine va_iald hx hb hK hP 5 4 rfl rfl (ht) dX9_hire_25 ?_
    refine lv_if_ne (tgt := 47) hx hb dX9_hire_26 (by decide) (fun c26 => ?_) (fun c26 => ?_)
    · refine lv_bipush (v := (-3)) hx hb dX9_hire_47 (by decide) ?_
      exact hs_iret hx hb hrt hlocks hK hP hD hS dX9_hire_49 (by unfold hireF; first | rw [if_pos c14] | rw [if_neg c14, if_pos c26] | rw [if_neg c14, if_neg (fun q => q c26), if_pos c44]) (rfl)
    · refine lv_aload_n hx hb dX9_hire_29 rfl (lv_at hl 0 rfl) ?_
      refine lv_iload_n hx hb dX9_hire_30 rfl (lv_at hl 1 rfl) ?_
      refine hs_calli0 (w1 := (mW o ad cd tn td cs hd kd rt vl hr hw cu si acc st)) (hs_runV (q0 := 0) SF cal_X9_isServiced tw_590 (c_X9_isServiced l D o ad cd tn td cs hd kd rt vl hr hw cu si acc st t ht k hk hkd ) hK hP hD rfl rfl ⟨Nat.le_of_ble_eq_true rfl, Nat.le_of_ble_eq_true rfl⟩ rfl hl.1 rfl (Nat.le_of_ble_eq_true rfl) dX9_hire_31 ⟨Nat.le_of_ble_eq_true rfl, Nat.le_of_ble_eq_true rfl⟩) hD hS hA (fun H locs hP hD hS => ?_)
      refine lv_if_eq (tgt := 50) hx hb dX9_hire_34 (by decide) (fun c34 => False.elim (hno ⟨c14, c26, duF_0 c34⟩)) (fun c34 => ?_)
      refine lv_aload_n hx hb dX9_hire_37 rfl (lv_at hl 0 rfl) ?_
      refine lv_iload_n hx hb dX9_hire_38 rfl (lv_at hl 1 rfl) ?_
      refine lv_iconst (v := 1) hx hb dX9_hire_39 (by decide) ?_
      refine hs_calli0 (w1 := (mW o ad cd tn td cs hd kd rt vl hr hw cu si acc (bds (duN k) st))) (hs_runV (q0 := 0) SF cal_X9_due tw_618 (c_X9_due l D o ad cd tn td cs hd kd rt vl hr hw cu si acc st t ht k hk hkd (Or.inl hop) (hr t.toNatClampNeg) rfl 1 c34) hK hP hD rfl rfl ⟨Nat.le_of_ble_eq_true rfl, Nat.le_of_ble_eq_true rfl⟩ rfl hl.1 rfl (Nat.le_of_ble_eq_true rfl) dX9_hire_40 ⟨Nat.le_of_ble_eq_true rfl, Nat.le_of_ble_eq_true rfl⟩) hD hS hA (fun H locs hP hD hS => ?_)
      rw [bds_off (duN k) hop] at hP hD
      refine lv_iconst (v := 1) hx hb dX9_hire_43 (by decide) ?_
      refine lv_icmp_ne (tgt := 50) hx hb dX9_hire_44 (by decide) (fun c44 => False.elim (hno ⟨c14, c26, c44⟩)) (fun c44 => ?_)
      refine lv_bipush (v := (-3)) hx hb dX9_hire_47 (by decide) ?_
      exact hs_iret hx hb hrt hlocks hK hP hD hS dX9_hire_49 (by unfold hireF; first | rw [if_pos c14] | rw [if_neg c14, if_pos c26] | rw [if_neg c14, if_neg (fun q => q c26), if_pos c44]) (rfl)
  · refine lv_bipush (v := (-2)) hx hb dX9_hire_17 (by decide) ?_
    exact hs_iret hx hb hrt hlocks hK hP hD hS dX9_hire_19 (by unfold hireF; first | rw [if_pos c14] | rw [if_neg c14, if_pos c26] | rw [if_neg c14, if_neg (fun q => q c26), if_pos c44]) (rfl)

set_option maxHeartbeats 400000 in
set_option maxRecDepth 100000 in
theorem c_X9_hire_ok (l : Launch) (D : va_G) (o : Nat) (ad : Nat → Nat) (cd : Nat → ClassId) (tn td cs hd : Int32) (kd rt vl hr hw cu si : Nat → Int32) (acc : Nat → Int64) (st : TS) (t : Int32) (ht : vp_in t 24) (k : Nat) (hk : k < 7) (hkd : kd t.toNatClampNeg = nI k) (hop : st.2.1 = 0) (hT : ¬ wi t 0 (tn - 1) = 0) (cm : Int32) (hyes : hireOk k (hr t.toNatClampNeg) (hw t.toNatClampNeg) cm) : CM l D yX9_hire cX9_hire 3 (some .int) { frames := 3, cells := 0, slots := 0, locals := 66 } (tyM cd) [.ref o, .int t, .int cm] (mW o ad cd tn td cs hd kd rt vl hr hw cu si acc st) (hs_QI D (tyM cd) (dpF k (vl t.toNatClampNeg)) (mW o ad cd tn td cs (hd + 1) kd rt vl hr (upd hw t.toNatClampNeg 1) (upd cu t.toNatClampNeg cm) (upd si t.toNatClampNeg td) (vp_updL acc cm.toNatClampNeg (acc cm.toNatClampNeg - (dpF k (vl t.toNatClampNeg)).toInt64)) st)) := by
  refine CM.of (by decide) (Nat.le_of_ble_eq_true rfl) ?_
  intro p e s m below meth c A ls hx hb hrt hml htg hown hlocks hnm hA hK hP hD hS hl
  have hown : s.vm.findClass RX9 = some m.cls := hown
  have hl : lv_has ls 3 [(0, .ref o), (1, .int t), (2, .int cm)] := hl
  have SF : CallFix p m c cX9_hire 3 s _ hs_gt RX9 := ⟨hx, hb, hml, hown, htg⟩
  refine lv_aload_n hx hb dX9_hire_0 rfl (lv_at hl 0 rfl) ?_
  refine lv_iload_n hx hb dX9_hire_1 rfl (lv_at hl 1 rfl) ?_
  refine hs_calli0 (w1 := (mW o ad cd tn td cs hd kd rt vl hr hw cu si acc st)) (hs_runV (q0 := 0) SF cal_X9_isTool tw_578 (c_X9_isTool l D o ad cd tn td cs hd kd rt vl hr hw cu si acc st t) hK hP hD rfl rfl ⟨Nat.le_of_ble_eq_true rfl, Nat.le_of_ble_eq_true rfl⟩ rfl hl.1 rfl (Nat.le_of_ble_eq_true rfl) dX9_hire_2 ⟨Nat.le_of_ble_eq_true rfl, Nat.le_of_ble_eq_true rfl⟩) hD hS hA (fun H locs hP hD hS => ?_)
  refine lv_if_eq (tgt := 17) hx hb dX9_hire_5 (by decide) (fun c5 => absurd c5 (hT)) (fun c5 => ?_)
  refine lv_iload_n hx hb dX9_hire_8 rfl (lv_at hl 2 rfl) ?_
  refine lv_iconst (v := 0) hx hb dX9_hire_9 (by decide) ?_
  refine lv_iconst (v := 5) hx hb dX9_hire_10 (by decide) ?_
  refine hs_calli0 (w1 := (mW o ad cd tn td cs hd kd rt vl hr hw cu si acc st)) (hs_runS SF cal_X9_in tw_570 (c_X9_in l D o ad cd tn td cs hd kd rt vl hr hw cu si acc st cm 0 5) hK hP hD ⟨Nat.le_of_ble_eq_true rfl, Nat.le_of_ble_eq_true rfl⟩ rfl hl.1 rfl (Nat.le_of_ble_eq_true rfl) dX9_hire_11 ⟨Nat.le_of_ble_eq_true rfl, Nat.le_of_ble_eq_true rfl⟩) hD hS hA (fun H locs hP hD hS => ?_)
  refine lv_if_ne (tgt := 20) hx hb dX9_hire_14 (by decide) (fun c14 => ?_) (fun c14 => absurd c14 (hyes.1))
  refine lv_aload_n hx hb dX9_hire_20 rfl (lv_at hl 0 rfl) ?_
  refine va_get (D := D) (ci := 9) (v := .ref (ad 5)) (C := RX9) (T := TX9) (N := 15) hx hb htg in_X9 hown hK hP 0 rfl rfl 5 (by decide) (htg _ tw_525) (fun _ h9 => h9) rfl dX9_hire_21 ?_
  refine lv_iload_n hx hb dX9_hire_24 rfl (lv_at hl 1 rfl) ?_
  refine va_iald hx hb hK hP 5 4 rfl rfl (ht) dX9_hire_25 ?_
  refine lv_if_ne (tgt := 47) hx hb dX9_hire_26 (by decide) (fun c26 => absurd c26 (fun q => q hyes.2.1)) (fun c26 => ?_)
  refine lv_aload_n hx hb dX9_hire_29 rfl (lv_at hl 0 rfl) ?_
  refine lv_iload_n hx hb dX9_hire_30 rfl (lv_at hl 1 rfl) ?_
  refine hs_calli0 (w1 := (mW o ad cd tn td cs hd kd rt vl hr hw cu si acc st)) (hs_runV (q0 := 0) SF cal_X9_isServiced tw_590 (c_X9_isServiced l D o ad cd tn td cs hd kd rt vl hr hw cu si acc st t ht k hk hkd ) hK hP hD rfl rfl ⟨Nat.le_of_ble_eq_true rfl, Nat.le_of_ble_eq_true rfl⟩ rfl hl.1 rfl (Nat.le_of_ble_eq_true rfl) dX9_hire_31 ⟨Nat.le_of_ble_eq_true rfl, Nat.le_of_ble_eq_true rfl⟩) hD hS hA (fun H locs hP hD hS => ?_)
  refine lv_if_eq (tgt := 50) hx hb dX9_hire_34 (by decide) (fun c34 => ?_) (fun c34 => ?_)
  · refine lv_aload_n hx hb dX9_hire_50 rfl (lv_at hl 0 rfl) ?_
    refine va_get (D := D) (ci := 9) (v := .ref (ad 8)) (C := RX9) (T := TX9) (N := 15) hx hb htg in_X9 hown hK hP 0 rfl rfl 8 (by decide) (htg _ tw_528) (fun _ h9 => h9) rfl dX9_hire_51 ?_
    refine lv_iload_n hx hb dX9_hire_54 rfl (lv_at hl 2 rfl) ?_
    refine lv_dup2_11 hx hb dX9_hire_55 rfl rfl ?_
    refine va_lald hx hb hK hP 8 7 rfl rfl (wi_in (n := 5) (by decide) (by decide) hyes.1) dX9_hire_56 ?_
    refine lv_aload_n hx hb dX9_hire_57 rfl (lv_at hl 0 rfl) ?_
    refine lv_iload_n hx hb dX9_hire_58 rfl (lv_at hl 1 rfl) ?_
    refine hs_calli0 (w1 := (mW o ad cd tn td cs hd kd rt vl hr hw cu si acc (bds (dpN k) st))) (hs_runV (q0 := 0) SF cal_X9_lent tw_630 (c_X9_lent l D o ad cd tn td cs hd kd rt vl hr hw cu si acc st t ht k hk hkd (Or.inl hop) ) hK hP hD rfl rfl ⟨Nat.le_of_ble_eq_true rfl, Nat.le_of_ble_eq_true rfl⟩ rfl hl.1 rfl (Nat.le_of_ble_eq_true rfl) dX9_hire_59 ⟨Nat.le_of_ble_eq_true rfl, Nat.le_of_ble_eq_true rfl⟩) hD hS hA (fun H locs hP hD hS => ?_)
    rw [bds_off (dpN k) hop] at hP hD
    refine lv_i2l hx hb dX9_hire_62 rfl ?_
    refine lv_lsub hx hb dX9_hire_63 ?_
    refine va_last hx hb hK hP hD hS 8 7 rfl rfl (wi_in (n := 5) (by decide) (by decide) hyes.1) dX9_hire_64 (fun H locs hP hD hS => ?_)
    have hP : va_P D hs_cl (mW o ad cd tn td cs hd kd rt vl hr hw cu si (vp_updL acc cm.toNatClampNeg ((acc cm.toNatClampNeg) - ((dpF k (vl t.toNatClampNeg)).toInt64))) st) H := hP
    have hD : va_D A (mW o ad cd tn td cs hd kd rt vl hr hw cu si (vp_updL acc cm.toNatClampNeg ((acc cm.toNatClampNeg) - ((dpF k (vl t.toNatClampNeg)).toInt64))) st) := hD
    refine lv_aload_n hx hb dX9_hire_65 rfl (lv_at hl 0 rfl) ?_
    refine va_get (D := D) (ci := 9) (v := .ref (ad 5)) (C := RX9) (T := TX9) (N := 15) hx hb htg in_X9 hown hK hP 0 rfl rfl 5 (by decide) (htg _ tw_525) (fun _ h9 => h9) rfl dX9_hire_66 ?_
    refine lv_iload_n hx hb dX9_hire_69 rfl (lv_at hl 1 rfl) ?_
    refine lv_iconst (v := 1) hx hb dX9_hire_70 (by decide) ?_
    refine va_iast hx hb hK hP hD hS 5 4 rfl rfl (ht) dX9_hire_71 (fun H locs hP hD hS => ?_)
    have hP : va_P D hs_cl (mW o ad cd tn td cs hd kd rt vl hr (upd hw t.toNatClampNeg 1) cu si (vp_updL acc cm.toNatClampNeg ((acc cm.toNatClampNeg) - ((dpF k (vl t.toNatClampNeg)).toInt64))) st) H := hP
    have hD : va_D A (mW o ad cd tn td cs hd kd rt vl hr (upd hw t.toNatClampNeg 1) cu si (vp_updL acc cm.toNatClampNeg ((acc cm.toNatClampNeg) - ((dpF k (vl t.toNatClampNeg)).toInt64))) st) := hD
    refine lv_aload_n hx hb dX9_hire_72 rfl (lv_at hl 0 rfl) ?_
    refine va_get (D := D) (ci := 9) (v := .ref (ad 6)) (C := RX9) (T := TX9) (N := 15) hx hb htg in_X9 hown hK hP 0 rfl rfl 6 (by decide) (htg _ tw_526) (fun _ h9 => h9) rfl dX9_hire_73 ?_
    refine lv_iload_n hx hb dX9_hire_76 rfl (lv_at hl 1 rfl) ?_
    refine lv_iload_n hx hb dX9_hire_77 rfl (lv_at hl 2 rfl) ?_
    refine va_iast hx hb hK hP hD hS 6 5 rfl rfl (ht) dX9_hire_78 (fun H locs hP hD hS => ?_)
    have hP : va_P D hs_cl (mW o ad cd tn td cs hd kd rt vl hr (upd hw t.toNatClampNeg 1) (upd cu t.toNatClampNeg cm) si (vp_updL acc cm.toNatClampNeg ((acc cm.toNatClampNeg) - ((dpF k (vl t.toNatClampNeg)).toInt64))) st) H := hP
    have hD : va_D A (mW o ad cd tn td cs hd kd rt vl hr (upd hw t.toNatClampNeg 1) (upd cu t.toNatClampNeg cm) si (vp_updL acc cm.toNatClampNeg ((acc cm.toNatClampNeg) - ((dpF k (vl t.toNatClampNeg)).toInt64))) st) := hD
    refine lv_aload_n hx hb dX9_hire_79 rfl (lv_at hl 0 rfl) ?_
    refine va_get (D := D) (ci := 9) (v := .ref (ad 7)) (C := RX9) (T := TX9) (N := 15) hx hb htg in_X9 hown hK hP 0 rfl rfl 7 (by decide) (htg _ tw_527) (fun _ h9 => h9) rfl dX9_hire_80 ?_
    refine lv_iload_n hx hb dX9_hire_83 rfl (lv_at hl 1 rfl) ?_
    refine lv_aload_n hx hb dX9_hire_84 rfl (lv_at hl 0 rfl) ?_
    refine va_get (D := D) (ci := 9) (v := .int td) (C := RX9) (T := TX9) (N := 15) hx hb htg in_X9 hown hK hP 0 rfl rfl 9 (by decide) (htg _ tw_529) (fun _ h9 => h9) rfl dX9_hire_85 ?_
    refine va_iast hx hb hK hP hD hS 7 6 rfl rfl (ht) dX9_hire_88 (fun H locs hP hD hS => ?_)
    have hP : va_P D hs_cl (mW o ad cd tn td cs hd kd rt vl hr (upd hw t.toNatClampNeg 1) (upd cu t.toNatClampNeg cm) (upd si t.toNatClampNeg td) (vp_updL acc cm.toNatClampNeg ((acc cm.toNatClampNeg) - ((dpF k (vl t.toNatClampNeg)).toInt64))) st) H := hP
    have hD : va_D A (mW o ad cd tn td cs hd kd rt vl hr (upd hw t.toNatClampNeg 1) (upd cu t.toNatClampNeg cm) (upd si t.toNatClampNeg td) (vp_updL acc cm.toNatClampNeg ((acc cm.toNatClampNeg) - ((dpF k (vl t.toNatClampNeg)).toInt64))) st) := hD
    refine lv_aload_n hx hb dX9_hire_89 rfl (lv_at hl 0 rfl) ?_
    refine lv_dup hx hb dX9_hire_90 rfl ?_
    refine va_get (D := D) (ci := 9) (v := .int hd) (C := RX9) (T := TX9) (N := 15) hx hb htg in_X9 hown hK hP 0 rfl rfl 11 (by decide) (htg _ tw_531) (fun _ h9 => h9) rfl dX9_hire_91 ?_
    refine lv_iconst (v := 1) hx hb dX9_hire_94 (by decide) ?_
    refine lv_iadd hx hb dX9_hire_95 ?_
    refine va_put (D := D) (ci := 9) (v := .int (hd + 1)) (ty := .int) (C := RX9) (T := TX9) (N := 15) hx hb htg in_X9 tyX9 tyX9_ok nmX9 hown hK hP hD hS 0 rfl rfl 11 (by decide) (htg _ tw_531) (fun _ h9 => h9) rfl (by decide +kernel) rfl rfl (Nat.le_of_ble_eq_true rfl) dX9_hire_96 (fun H locs hP hD hS => ?_)
    have hP : va_P D hs_cl (mW o ad cd tn td cs (hd + 1) kd rt vl hr (upd hw t.toNatClampNeg 1) (upd cu t.toNatClampNeg cm) (upd si t.toNatClampNeg td) (vp_updL acc cm.toNatClampNeg ((acc cm.toNatClampNeg) - ((dpF k (vl t.toNatClampNeg)).toInt64))) st) H := hP
    have hD : va_D A (mW o ad cd tn td cs (hd + 1) kd rt vl hr (upd hw t.toNatClampNeg 1) (upd cu t.toNatClampNeg cm) (upd si t.toNatClampNeg td) (vp_updL acc cm.toNatClampNeg ((acc cm.toNatClampNeg) - ((dpF k (vl t.toNatClampNeg)).toInt64))) st) := hD
    refine lv_aload_n hx hb dX9_hire_99 rfl (lv_at hl 0 rfl) ?_
    refine lv_iload_n hx hb dX9_hire_100 rfl (lv_at hl 1 rfl) ?_
    refine hs_calli0 (w1 := (mW o ad cd tn td cs (hd + 1) kd rt vl hr (upd hw t.toNatClampNeg 1) (upd cu t.toNatClampNeg cm) (upd si t.toNatClampNeg td) (vp_updL acc cm.toNatClampNeg ((acc cm.toNatClampNeg) - ((dpF k (vl t.toNatClampNeg)).toInt64))) (bds (dpN k) st))) (hs_runV (q0 := 0) SF cal_X9_lent tw_630 (c_X9_lent l D o ad cd tn td cs (hd + 1) kd rt vl hr (upd hw t.toNatClampNeg 1) (upd cu t.toNatClampNeg cm) (upd si t.toNatClampNeg td) (vp_updL acc cm.toNatClampNeg ((acc cm.toNatClampNeg) - ((dpF k (vl t.toNatClampNeg)).toInt64))) st t ht k hk hkd (Or.inl hop) ) hK hP hD rfl rfl ⟨Nat.le_of_ble_eq_true rfl, Nat.le_of_ble_eq_true rfl⟩ rfl hl.1 rfl (Nat.le_of_ble_eq_true rfl) dX9_hire_101 ⟨Nat.le_of_ble_eq_true rfl, Nat.le_of_ble_eq_true rfl⟩) hD hS hA (fun H locs hP hD hS => ?_)
    rw [bds_off (dpN k) hop] at hP hD
    exact hs_iret hx hb hrt hlocks hK hP hD hS dX9_hire_104 (rfl) (rfl)
  · refine lv_aload_n hx hb dX9_hire_37 rfl (lv_at hl 0 rfl) ?_
    refine lv_iload_n hx hb dX9_hire_38 rfl (lv_at hl 1 rfl) ?_
    refine lv_iconst (v := 1) hx hb dX9_hire_39 (by decide) ?_
    refine hs_calli0 (w1 := (mW o ad cd tn td cs hd kd rt vl hr hw cu si acc (bds (duN k) st))) (hs_runV (q0 := 0) SF cal_X9_due tw_618 (c_X9_due l D o ad cd tn td cs hd kd rt vl hr hw cu si acc st t ht k hk hkd (Or.inl hop) (hr t.toNatClampNeg) rfl 1 c34) hK hP hD rfl rfl ⟨Nat.le_of_ble_eq_true rfl, Nat.le_of_ble_eq_true rfl⟩ rfl hl.1 rfl (Nat.le_of_ble_eq_true rfl) dX9_hire_40 ⟨Nat.le_of_ble_eq_true rfl, Nat.le_of_ble_eq_true rfl⟩) hD hS hA (fun H locs hP hD hS => ?_)
    rw [bds_off (duN k) hop] at hP hD
    refine lv_iconst (v := 1) hx hb dX9_hire_43 (by decide) ?_
    refine lv_icmp_ne (tgt := 50) hx hb dX9_hire_44 (by decide) (fun c44 => ?_) (fun c44 => absurd c44 (hyes.2.2))
    refine lv_aload_n hx hb dX9_hire_50 rfl (lv_at hl 0 rfl) ?_
    refine va_get (D := D) (ci := 9) (v := .ref (ad 8)) (C := RX9) (T := TX9) (N := 15) hx hb htg in_X9 hown hK hP 0 rfl rfl 8 (by decide) (htg _ tw_528) (fun _ h9 => h9) rfl dX9_hire_51 ?_
    refine lv_iload_n hx hb dX9_hire_54 rfl (lv_at hl 2 rfl) ?_
    refine lv_dup2_11 hx hb dX9_hire_55 rfl rfl ?_
    refine va_lald hx hb hK hP 8 7 rfl rfl (wi_in (n := 5) (by decide) (by decide) hyes.1) dX9_hire_56 ?_
    refine lv_aload_n hx hb dX9_hire_57 rfl (lv_at hl 0 rfl) ?_
    refine lv_iload_n hx hb dX9_hire_58 rfl (lv_at hl 1 rfl) ?_
    refine hs_calli0 (w1 := (mW o ad cd tn td cs hd kd rt vl hr hw cu si acc (bds (dpN k) st))) (hs_runV (q0 := 0) SF cal_X9_lent tw_630 (c_X9_lent l D o ad cd tn td cs hd kd rt vl hr hw cu si acc st t ht k hk hkd (Or.inl hop) ) hK hP hD rfl rfl ⟨Nat.le_of_ble_eq_true rfl, Nat.le_of_ble_eq_true rfl⟩ rfl hl.1 rfl (Nat.le_of_ble_eq_true rfl) dX9_hire_59 ⟨Nat.le_of_ble_eq_true rfl, Nat.le_of_ble_eq_true rfl⟩) hD hS hA (fun H locs hP hD hS => ?_)
    rw [bds_off (dpN k) hop] at hP hD
    refine lv_i2l hx hb dX9_hire_62 rfl ?_
    refine lv_lsub hx hb dX9_hire_63 ?_
    refine va_last hx hb hK hP hD hS 8 7 rfl rfl (wi_in (n := 5) (by decide) (by decide) hyes.1) dX9_hire_64 (fun H locs hP hD hS => ?_)
    have hP : va_P D hs_cl (mW o ad cd tn td cs hd kd rt vl hr hw cu si (vp_updL acc cm.toNatClampNeg ((acc cm.toNatClampNeg) - ((dpF k (vl t.toNatClampNeg)).toInt64))) st) H := hP
    have hD : va_D A (mW o ad cd tn td cs hd kd rt vl hr hw cu si (vp_updL acc cm.toNatClampNeg ((acc cm.toNatClampNeg) - ((dpF k (vl t.toNatClampNeg)).toInt64))) st) := hD
    refine lv_aload_n hx hb dX9_hire_65 rfl (lv_at hl 0 rfl) ?_
    refine va_get (D := D) (ci := 9) (v := .ref (ad 5)) (C := RX9) (T := TX9) (N := 15) hx hb htg in_X9 hown hK hP 0 rfl rfl 5 (by decide) (htg _ tw_525) (fun _ h9 => h9) rfl dX9_hire_66 ?_
    refine lv_iload_n hx hb dX9_hire_69 rfl (lv_at hl 1 rfl) ?_
    refine lv_iconst (v := 1) hx hb dX9_hire_70 (by decide) ?_
    refine va_iast hx hb hK hP hD hS 5 4 rfl rfl (ht) dX9_hire_71 (fun H locs hP hD hS => ?_)
    have hP : va_P D hs_cl (mW o ad cd tn td cs hd kd rt vl hr (upd hw t.toNatClampNeg 1) cu si (vp_updL acc cm.toNatClampNeg ((acc cm.toNatClampNeg) - ((dpF k (vl t.toNatClampNeg)).toInt64))) st) H := hP
    have hD : va_D A (mW o ad cd tn td cs hd kd rt vl hr (upd hw t.toNatClampNeg 1) cu si (vp_updL acc cm.toNatClampNeg ((acc cm.toNatClampNeg) - ((dpF k (vl t.toNatClampNeg)).toInt64))) st) := hD
    refine lv_aload_n hx hb dX9_hire_72 rfl (lv_at hl 0 rfl) ?_
    refine va_get (D := D) (ci := 9) (v := .ref (ad 6)) (C := RX9) (T := TX9) (N := 15) hx hb htg in_X9 hown hK hP 0 rfl rfl 6 (by decide) (htg _ tw_526) (fun _ h9 => h9) rfl dX9_hire_73 ?_
    refine lv_iload_n hx hb dX9_hire_76 rfl (lv_at hl 1 rfl) ?_
    refine lv_iload_n hx hb dX9_hire_77 rfl (lv_at hl 2 rfl) ?_
    refine va_iast hx hb hK hP hD hS 6 5 rfl rfl (ht) dX9_hire_78 (fun H locs hP hD hS => ?_)
    have hP : va_P D hs_cl (mW o ad cd tn td cs hd kd rt vl hr (upd hw t.toNatClampNeg 1) (upd cu t.toNatClampNeg cm) si (vp_updL acc cm.toNatClampNeg ((acc cm.toNatClampNeg) - ((dpF k (vl t.toNatClampNeg)).toInt64))) st) H := hP
    have hD : va_D A (mW o ad cd tn td cs hd kd rt vl hr (upd hw t.toNatClampNeg 1) (upd cu t.toNatClampNeg cm) si (vp_updL acc cm.toNatClampNeg ((acc cm.toNatClampNeg) - ((dpF k (vl t.toNatClampNeg)).toInt64))) st) := hD
    refine lv_aload_n hx hb dX9_hire_79 rfl (lv_at hl 0 rfl) ?_
    refine va_get (D := D) (ci := 9) (v := .ref (ad 7)) (C := RX9) (T := TX9) (N := 15) hx hb htg in_X9 hown hK hP 0 rfl rfl 7 (by decide) (htg _ tw_527) (fun _ h9 => h9) rfl dX9_hire_80 ?_
    refine lv_iload_n hx hb dX9_hire_83 rfl (lv_at hl 1 rfl) ?_
    refine lv_aload_n hx hb dX9_hire_84 rfl (lv_at hl 0 rfl) ?_
    refine va_get (D := D) (ci := 9) (v := .int td) (C := RX9) (T := TX9) (N := 15) hx hb htg in_X9 hown hK hP 0 rfl rfl 9 (by decide) (htg _ tw_529) (fun _ h9 => h9) rfl dX9_hire_85 ?_
    refine va_iast hx hb hK hP hD hS 7 6 rfl rfl (ht) dX9_hire_88 (fun H locs hP hD hS => ?_)
    have hP : va_P D hs_cl (mW o ad cd tn td cs hd kd rt vl hr (upd hw t.toNatClampNeg 1) (upd cu t.toNatClampNeg cm) (upd si t.toNatClampNeg td) (vp_updL acc cm.toNatClampNeg ((acc cm.toNatClampNeg) - ((dpF k (vl t.toNatClampNeg)).toInt64))) st) H := hP
    have hD : va_D A (mW o ad cd tn td cs hd kd rt vl hr (upd hw t.toNatClampNeg 1) (upd cu t.toNatClampNeg cm) (upd si t.toNatClampNeg td) (vp_updL acc cm.toNatClampNeg ((acc cm.toNatClampNeg) - ((dpF k (vl t.toNatClampNeg)).toInt64))) st) := hD
    refine lv_aload_n hx hb dX9_hire_89 rfl (lv_at hl 0 rfl) ?_
    refine lv_dup hx hb dX9_hire_90 rfl ?_
    refine va_get (D := D) (ci := 9) (v := .int hd) (C := RX9) (T := TX9) (N := 15) hx hb htg in_X9 hown hK hP 0 rfl rfl 11 (by decide) (htg _ tw_531) (fun _ h9 => h9) rfl dX9_hire_91 ?_
    refine lv_iconst (v := 1) hx hb dX9_hire_94 (by decide) ?_
    refine lv_iadd hx hb dX9_hire_95 ?_
    refine va_put (D := D) (ci := 9) (v := .int (hd + 1)) (ty := .int) (C := RX9) (T := TX9) (N := 15) hx hb htg in_X9 tyX9 tyX9_ok nmX9 hown hK hP hD hS 0 rfl rfl 11 (by decide) (htg _ tw_531) (fun _ h9 => h9) rfl (by decide +kernel) rfl rfl (Nat.le_of_ble_eq_true rfl) dX9_hire_96 (fun H locs hP hD hS => ?_)
    have hP : va_P D hs_cl (mW o ad cd tn td cs (hd + 1) kd rt vl hr (upd hw t.toNatClampNeg 1) (upd cu t.toNatClampNeg cm) (upd si t.toNatClampNeg td) (vp_updL acc cm.toNatClampNeg ((acc cm.toNatClampNeg) - ((dpF k (vl t.toNatClampNeg)).toInt64))) st) H := hP
    have hD : va_D A (mW o ad cd tn td cs (hd + 1) kd rt vl hr (upd hw t.toNatClampNeg 1) (upd cu t.toNatClampNeg cm) (upd si t.toNatClampNeg td) (vp_updL acc cm.toNatClampNeg ((acc cm.toNatClampNeg) - ((dpF k (vl t.toNatClampNeg)).toInt64))) st) := hD
    refine lv_aload_n hx hb dX9_hire_99 rfl (lv_at hl 0 rfl) ?_
    refine lv_iload_n hx hb dX9_hire_100 rfl (lv_at hl 1 rfl) ?_
    refine hs_calli0 (w1 := (mW o ad cd tn td cs (hd + 1) kd rt vl hr (upd hw t.toNatClampNeg 1) (upd cu t.toNatClampNeg cm) (upd si t.toNatClampNeg td) (vp_updL acc cm.toNatClampNeg ((acc cm.toNatClampNeg) - ((dpF k (vl t.toNatClampNeg)).toInt64))) (bds (dpN k) st))) (hs_runV (q0 := 0) SF cal_X9_lent tw_630 (c_X9_lent l D o ad cd tn td cs (hd + 1) kd rt vl hr (upd hw t.toNatClampNeg 1) (upd cu t.toNatClampNeg cm) (upd si t.toNatClampNeg td) (vp_updL acc cm.toNatClampNeg ((acc cm.toNatClampNeg) - ((dpF k (vl t.toNatClampNeg)).toInt64))) st t ht k hk hkd (Or.inl hop) ) hK hP hD rfl rfl ⟨Nat.le_of_ble_eq_true rfl, Nat.le_of_ble_eq_true rfl⟩ rfl hl.1 rfl (Nat.le_of_ble_eq_true rfl) dX9_hire_101 ⟨Nat.le_of_ble_eq_true rfl, Nat.le_of_ble_eq_true rfl⟩) hD hS hA (fun H locs hP hD hS => ?_)
    rw [bds_off (dpN k) hop] at hP hD
    exact hs_iret hx hb hrt hlocks hK hP hD hS dX9_hire_104 (rfl) (rfl)

set_option maxHeartbeats 400000 in
set_option maxRecDepth 100000 in
theorem c_X9_back_no (l : Launch) (D : va_G) (o : Nat) (ad : Nat → Nat) (cd : Nat → ClassId) (tn td cs hd : Int32) (kd rt vl hr hw cu si : Nat → Int32) (acc : Nat → Int64) (st : TS) (t : Int32) (ht : vp_in t 24) (k : Nat) (hk : k < 7) (hkd : kd t.toNatClampNeg = nI k) (hop : st.2.1 = 0) (hT : ¬ wi t 0 (tn - 1) = 0) (hno : ¬ hw t.toNatClampNeg = 1) : CM l D yX9_back cX9_back 4 (some .int) { frames := 2, cells := 0, slots := 0, locals := 43 } (tyM cd) [.ref o, .int t] (mW o ad cd tn td cs hd kd rt vl hr hw cu si acc st) (hs_QI D (tyM cd) (-3) (mW o ad cd tn td cs hd kd rt vl hr hw cu si acc st)) := by
  refine CM.of (by decide) (Nat.le_of_ble_eq_true rfl) ?_
  intro p e s m below meth c A ls hx hb hrt hml htg hown hlocks hnm hA hK hP hD hS hl
  have hown : s.vm.findClass RX9 = some m.cls := hown
  have hl : lv_has ls 4 [(0, .ref o), (1, .int t)] := hl
  have SF : CallFix p m c cX9_back 4 s _ hs_gt RX9 := ⟨hx, hb, hml, hown, htg⟩
  refine lv_aload_n hx hb dX9_back_0 rfl (lv_at hl 0 rfl) ?_
  refine lv_iload_n hx hb dX9_back_1 rfl (lv_at hl 1 rfl) ?_
  refine hs_calli0 (w1 := (mW o ad cd tn td cs hd kd rt vl hr hw cu si acc st)) (hs_runV (q0 := 0) SF cal_X9_isTool tw_578 (c_X9_isTool l D o ad cd tn td cs hd kd rt vl hr hw cu si acc st t) hK hP hD rfl rfl ⟨Nat.le_of_ble_eq_true rfl, Nat.le_of_ble_eq_true rfl⟩ rfl hl.1 rfl (Nat.le_of_ble_eq_true rfl) dX9_back_2 ⟨Nat.le_of_ble_eq_true rfl, Nat.le_of_ble_eq_true rfl⟩) hD hS hA (fun H locs hP hD hS => ?_)
  refine lv_if_ne (tgt := 11) hx hb dX9_back_5 (by decide) (fun c5 => ?_) (fun c5 => absurd c5 (hT))
  refine lv_aload_n hx hb dX9_back_11 rfl (lv_at hl 0 rfl) ?_
  refine va_get (D := D) (ci := 9) (v := .ref (ad 5)) (C := RX9) (T := TX9) (N := 15) hx hb htg in_X9 hown hK hP 0 rfl rfl 5 (by decide) (htg _ tw_525) (fun _ h9 => h9) rfl dX9_back_12 ?_
  refine lv_iload_n hx hb dX9_back_15 rfl (lv_at hl 1 rfl) ?_
  refine va_iald hx hb hK hP 5 4 rfl rfl (ht) dX9_back_16 ?_
  refine lv_iconst (v := 1) hx hb dX9_back_17 (by decide) ?_
  refine lv_icmp_eq (tgt := 24) hx hb dX9_back_18 (by decide) (fun c18 => absurd c18 (hno)) (fun c18 => ?_)
  refine lv_bipush (v := (-3)) hx hb dX9_back_21 (by decide) ?_
  exact hs_iret hx hb hrt hlocks hK hP hD hS dX9_back_23 (rfl) (rfl)

set_option maxHeartbeats 400000 in
set_option maxRecDepth 100000 in
theorem c_X9_back_ok (l : Launch) (D : va_G) (o : Nat) (ad : Nat → Nat) (cd : Nat → ClassId) (tn td cs hd : Int32) (kd rt vl hr hw cu si : Nat → Int32) (acc : Nat → Int64) (st : TS) (t : Int32) (ht : vp_in t 24) (k : Nat) (hk : k < 7) (hkd : kd t.toNatClampNeg = nI k) (hop : st.2.1 = 0) (hT : ¬ wi t 0 (tn - 1) = 0) (hyes : hw t.toNatClampNeg = 1) (hcu : vp_in (cu t.toNatClampNeg) 6) (hdk : dOk (daysF td (si t.toNatClampNeg))) : CM l D yX9_back cX9_back 4 (some .int) { frames := 3, cells := 0, slots := 0, locals := 67 } (tyM cd) [.ref o, .int t] (mW o ad cd tn td cs hd kd rt vl hr hw cu si acc st) (hs_QI D (tyM cd) (priceF k (rt t.toNatClampNeg) (vl t.toNatClampNeg) (hr t.toNatClampNeg) (daysF td (si t.toNatClampNeg))) (mW o ad cd tn td cs hd kd rt vl (upd hr t.toNatClampNeg (hoursF k (hr t.toNatClampNeg) (daysF td (si t.toNatClampNeg)))) (upd hw t.toNatClampNeg (howF k (hr t.toNatClampNeg) (daysF td (si t.toNatClampNeg)))) cu si (vp_updL acc (cu t.toNatClampNeg).toNatClampNeg (acc (cu t.toNatClampNeg).toNatClampNeg + (dpF k (vl t.toNatClampNeg) - (priceF k (rt t.toNatClampNeg) (vl t.toNatClampNeg) (hr t.toNatClampNeg) (daysF td (si t.toNatClampNeg)))).toInt64)) st)) := by
  refine CM.of (by decide) (Nat.le_of_ble_eq_true rfl) ?_
  intro p e s m below meth c A ls hx hb hrt hml htg hown hlocks hnm hA hK hP hD hS hl
  have hown : s.vm.findClass RX9 = some m.cls := hown
  have hl : lv_has ls 4 [(0, .ref o), (1, .int t)] := hl
  have SF : CallFix p m c cX9_back 4 s _ hs_gt RX9 := ⟨hx, hb, hml, hown, htg⟩
  refine lv_aload_n hx hb dX9_back_0 rfl (lv_at hl 0 rfl) ?_
  refine lv_iload_n hx hb dX9_back_1 rfl (lv_at hl 1 rfl) ?_
  refine hs_calli0 (w1 := (mW o ad cd tn td cs hd kd rt vl hr hw cu si acc st)) (hs_runV (q0 := 0) SF cal_X9_isTool tw_578 (c_X9_isTool l D o ad cd tn td cs hd kd rt vl hr hw cu si acc st t) hK hP hD rfl rfl ⟨Nat.le_of_ble_eq_true rfl, Nat.le_of_ble_eq_true rfl⟩ rfl hl.1 rfl (Nat.le_of_ble_eq_true rfl) dX9_back_2 ⟨Nat.le_of_ble_eq_true rfl, Nat.le_of_ble_eq_true rfl⟩) hD hS hA (fun H locs hP hD hS => ?_)
  refine lv_if_ne (tgt := 11) hx hb dX9_back_5 (by decide) (fun c5 => ?_) (fun c5 => absurd c5 (hT))
  refine lv_aload_n hx hb dX9_back_11 rfl (lv_at hl 0 rfl) ?_
  refine va_get (D := D) (ci := 9) (v := .ref (ad 5)) (C := RX9) (T := TX9) (N := 15) hx hb htg in_X9 hown hK hP 0 rfl rfl 5 (by decide) (htg _ tw_525) (fun _ h9 => h9) rfl dX9_back_12 ?_
  refine lv_iload_n hx hb dX9_back_15 rfl (lv_at hl 1 rfl) ?_
  refine va_iald hx hb hK hP 5 4 rfl rfl (ht) dX9_back_16 ?_
  refine lv_iconst (v := 1) hx hb dX9_back_17 (by decide) ?_
  refine lv_icmp_eq (tgt := 24) hx hb dX9_back_18 (by decide) (fun c18 => ?_) (fun c18 => absurd c18 (fun q => q hyes))
  refine lv_aload_n hx hb dX9_back_24 rfl (lv_at hl 0 rfl) ?_
  refine va_get (D := D) (ci := 9) (v := .int td) (C := RX9) (T := TX9) (N := 15) hx hb htg in_X9 hown hK hP 0 rfl rfl 9 (by decide) (htg _ tw_529) (fun _ h9 => h9) rfl dX9_back_25 ?_
  refine lv_aload_n hx hb dX9_back_28 rfl (lv_at hl 0 rfl) ?_
  refine va_get (D := D) (ci := 9) (v := .ref (ad 7)) (C := RX9) (T := TX9) (N := 15) hx hb htg in_X9 hown hK hP 0 rfl rfl 7 (by decide) (htg _ tw_527) (fun _ h9 => h9) rfl dX9_back_29 ?_
  refine lv_iload_n hx hb dX9_back_32 rfl (lv_at hl 1 rfl) ?_
  refine va_iald hx hb hK hP 7 6 rfl rfl (ht) dX9_back_33 ?_
  refine lv_isub hx hb dX9_back_34 ?_
  refine lv_iconst (v := 1) hx hb dX9_back_35 (by decide) ?_
  refine lv_icmp_ge (tgt := 43) hx hb dX9_back_36 (by decide) (fun c36 => ?_) (fun c36 => ?_)
  · refine lv_aload_n hx hb dX9_back_43 rfl (lv_at hl 0 rfl) ?_
    refine va_get (D := D) (ci := 9) (v := .int td) (C := RX9) (T := TX9) (N := 15) hx hb htg in_X9 hown hK hP 0 rfl rfl 9 (by decide) (htg _ tw_529) (fun _ h9 => h9) rfl dX9_back_44 ?_
    refine lv_aload_n hx hb dX9_back_47 rfl (lv_at hl 0 rfl) ?_
    refine va_get (D := D) (ci := 9) (v := .ref (ad 7)) (C := RX9) (T := TX9) (N := 15) hx hb htg in_X9 hown hK hP 0 rfl rfl 7 (by decide) (htg _ tw_527) (fun _ h9 => h9) rfl dX9_back_48 ?_
    refine lv_iload_n hx hb dX9_back_51 rfl (lv_at hl 1 rfl) ?_
    refine va_iald hx hb hK hP 7 6 rfl rfl (ht) dX9_back_52 ?_
    refine lv_isub hx hb dX9_back_53 ?_
    refine lv_topi (fun dd edd => ?_)
    have edd : dd = (daysF td (si t.toNatClampNeg)) := by rw [edd]; first | exact daysF_ge c36 | exact daysF_lt c36
    subst edd
    refine lv_istore_n (lv' := [(2, .int (daysF td (si t.toNatClampNeg))), (0, .ref o), (1, .int t)]) hx hb dX9_back_54 rfl hl (by decide) rfl (fun ls hl => ?_)
    refine lv_aload_n hx hb dX9_back_55 rfl (lv_at hl 1 rfl) ?_
    refine lv_iload_n hx hb dX9_back_56 rfl (lv_at hl 2 rfl) ?_
    refine lv_iload_n hx hb dX9_back_57 rfl (lv_at hl 0 rfl) ?_
    refine hs_calli0 (w1 := (mW o ad cd tn td cs hd kd rt vl hr hw cu si acc (bds (chN k) st))) (hs_runV (q0 := 0) SF cal_X9_charge tw_594 (c_X9_charge l D o ad cd tn td cs hd kd rt vl hr hw cu si acc st t ht k hk hkd (Or.inl hop) (daysF td (si t.toNatClampNeg)) hdk) hK hP hD rfl rfl ⟨Nat.le_of_ble_eq_true rfl, Nat.le_of_ble_eq_true rfl⟩ rfl hl.1 rfl (Nat.le_of_ble_eq_true rfl) dX9_back_58 ⟨Nat.le_of_ble_eq_true rfl, Nat.le_of_ble_eq_true rfl⟩) hD hS hA (fun H locs hP hD hS => ?_)
    rw [bds_off (chN k) hop] at hP hD
    refine lv_aload_n hx hb dX9_back_61 rfl (lv_at hl 1 rfl) ?_
    refine lv_iload_n hx hb dX9_back_62 rfl (lv_at hl 2 rfl) ?_
    refine hs_calli0 (w1 := (mW o ad cd tn td cs hd kd rt vl hr hw cu si acc st)) (hs_runV (q0 := 0) SF cal_X9_isInsured tw_586 (c_X9_isInsured l D o ad cd tn td cs hd kd rt vl hr hw cu si acc st t ht k hk hkd ) hK hP hD rfl rfl ⟨Nat.le_of_ble_eq_true rfl, Nat.le_of_ble_eq_true rfl⟩ rfl hl.1 rfl (Nat.le_of_ble_eq_true rfl) dX9_back_63 ⟨Nat.le_of_ble_eq_true rfl, Nat.le_of_ble_eq_true rfl⟩) hD hS hA (fun H locs hP hD hS => ?_)
    refine lv_if_eq (tgt := 78) hx hb dX9_back_66 (by decide) (fun c66 => ?_) (fun c66 => ?_)
    · refine lv_iconst (v := 0) hx hb dX9_back_78 (by decide) ?_
      refine lv_iadd hx hb dX9_back_79 ?_
      refine lv_topi (fun dp edp => ?_)
      have edp : dp = (priceF k (rt t.toNatClampNeg) (vl t.toNatClampNeg) (hr t.toNatClampNeg) (daysF td (si t.toNatClampNeg))) := by rw [edp]; unfold priceF; first | (rw [pmF_0 c66]; done) | rfl
      subst edp
      refine lv_istore_n (lv' := [(3, .int (priceF k (rt t.toNatClampNeg) (vl t.toNatClampNeg) (hr t.toNatClampNeg) (daysF td (si t.toNatClampNeg)))), (2, .int (daysF td (si t.toNatClampNeg))), (0, .ref o), (1, .int t)]) hx hb dX9_back_80 rfl hl (by decide) rfl (fun ls hl => ?_)
      refine lv_aload_n hx hb dX9_back_81 rfl (lv_at hl 2 rfl) ?_
      refine va_get (D := D) (ci := 9) (v := .ref (ad 8)) (C := RX9) (T := TX9) (N := 15) hx hb htg in_X9 hown hK hP 0 rfl rfl 8 (by decide) (htg _ tw_528) (fun _ h9 => h9) rfl dX9_back_82 ?_
      refine lv_aload_n hx hb dX9_back_85 rfl (lv_at hl 2 rfl) ?_
      refine va_get (D := D) (ci := 9) (v := .ref (ad 6)) (C := RX9) (T := TX9) (N := 15) hx hb htg in_X9 hown hK hP 0 rfl rfl 6 (by decide) (htg _ tw_526) (fun _ h9 => h9) rfl dX9_back_86 ?_
      refine lv_iload_n hx hb dX9_back_89 rfl (lv_at hl 3 rfl) ?_
      refine va_iald hx hb hK hP 6 5 rfl rfl (ht) dX9_back_90 ?_
      refine lv_dup2_11 hx hb dX9_back_91 rfl rfl ?_
      refine va_lald hx hb hK hP 8 7 rfl rfl (hcu) dX9_back_92 ?_
      refine lv_aload_n hx hb dX9_back_93 rfl (lv_at hl 2 rfl) ?_
      refine lv_iload_n hx hb dX9_back_94 rfl (lv_at hl 3 rfl) ?_
      refine hs_calli0 (w1 := (mW o ad cd tn td cs hd kd rt vl hr hw cu si acc (bds (dpN k) st))) (hs_runV (q0 := 0) SF cal_X9_lent tw_630 (c_X9_lent l D o ad cd tn td cs hd kd rt vl hr hw cu si acc st t ht k hk hkd (Or.inl hop) ) hK hP hD rfl rfl ⟨Nat.le_of_ble_eq_true rfl, Nat.le_of_ble_eq_true rfl⟩ rfl hl.1 rfl (Nat.le_of_ble_eq_true rfl) dX9_back_95 ⟨Nat.le_of_ble_eq_true rfl, Nat.le_of_ble_eq_true rfl⟩) hD hS hA (fun H locs hP hD hS => ?_)
      rw [bds_off (dpN k) hop] at hP hD
      refine lv_iload_n hx hb dX9_back_98 rfl (lv_at hl 0 rfl) ?_
      refine lv_isub hx hb dX9_back_99 ?_
      refine lv_i2l hx hb dX9_back_100 rfl ?_
      refine lv_ladd hx hb dX9_back_101 ?_
      refine va_last hx hb hK hP hD hS 8 7 rfl rfl (hcu) dX9_back_102 (fun H locs hP hD hS => ?_)
      have hP : va_P D hs_cl (mW o ad cd tn td cs hd kd rt vl hr hw cu si (vp_updL acc (cu t.toNatClampNeg).toNatClampNeg ((acc (cu t.toNatClampNeg).toNatClampNeg) + (((dpF k (vl t.toNatClampNeg)) - (priceF k (rt t.toNatClampNeg) (vl t.toNatClampNeg) (hr t.toNatClampNeg) (daysF td (si t.toNatClampNeg)))).toInt64))) st) H := hP
      have hD : va_D A (mW o ad cd tn td cs hd kd rt vl hr hw cu si (vp_updL acc (cu t.toNatClampNeg).toNatClampNeg ((acc (cu t.toNatClampNeg).toNatClampNeg) + (((dpF k (vl t.toNatClampNeg)) - (priceF k (rt t.toNatClampNeg) (vl t.toNatClampNeg) (hr t.toNatClampNeg) (daysF td (si t.toNatClampNeg)))).toInt64))) st) := hD
      refine lv_aload_n hx hb dX9_back_103 rfl (lv_at hl 2 rfl) ?_
      refine va_get (D := D) (ci := 9) (v := .ref (ad 4)) (C := RX9) (T := TX9) (N := 15) hx hb htg in_X9 hown hK hP 0 rfl rfl 4 (by decide) (htg _ tw_524) (fun _ h9 => h9) rfl dX9_back_104 ?_
      refine lv_iload_n hx hb dX9_back_107 rfl (lv_at hl 3 rfl) ?_
      refine lv_dup2_11 hx hb dX9_back_108 rfl rfl ?_
      refine va_iald hx hb hK hP 4 3 rfl rfl (ht) dX9_back_109 ?_
      refine lv_aload_n hx hb dX9_back_110 rfl (lv_at hl 2 rfl) ?_
      refine lv_iload_n hx hb dX9_back_111 rfl (lv_at hl 3 rfl) ?_
      refine lv_iload_n hx hb dX9_back_112 rfl (lv_at hl 1 rfl) ?_
      refine hs_calli0 (w1 := (mW o ad cd tn td cs hd kd rt vl hr hw cu si (vp_updL acc (cu t.toNatClampNeg).toNatClampNeg ((acc (cu t.toNatClampNeg).toNatClampNeg) + (((dpF k (vl t.toNatClampNeg)) - (priceF k (rt t.toNatClampNeg) (vl t.toNatClampNeg) (hr t.toNatClampNeg) (daysF td (si t.toNatClampNeg)))).toInt64))) (bds (weN k) st))) (hs_runV (q0 := 0) SF cal_X9_wear tw_602 (c_X9_wear l D o ad cd tn td cs hd kd rt vl hr hw cu si (vp_updL acc (cu t.toNatClampNeg).toNatClampNeg ((acc (cu t.toNatClampNeg).toNatClampNeg) + (((dpF k (vl t.toNatClampNeg)) - (priceF k (rt t.toNatClampNeg) (vl t.toNatClampNeg) (hr t.toNatClampNeg) (daysF td (si t.toNatClampNeg)))).toInt64))) st t ht k hk hkd (Or.inl hop) (hr t.toNatClampNeg) rfl (daysF td (si t.toNatClampNeg))) hK hP hD rfl rfl ⟨Nat.le_of_ble_eq_true rfl, Nat.le_of_ble_eq_true rfl⟩ rfl hl.1 rfl (Nat.le_of_ble_eq_true rfl) dX9_back_113 ⟨Nat.le_of_ble_eq_true rfl, Nat.le_of_ble_eq_true rfl⟩) hD hS hA (fun H locs hP hD hS => ?_)
      rw [bds_off (weN k) hop] at hP hD
      refine lv_iadd hx hb dX9_back_116 ?_
      refine va_iast hx hb hK hP hD hS 4 3 rfl rfl (ht) dX9_back_117 (fun H locs hP hD hS => ?_)
      have hP : va_P D hs_cl (mW o ad cd tn td cs hd kd rt vl (upd hr t.toNatClampNeg ((hr t.toNatClampNeg) + (weF k (hr t.toNatClampNeg) (daysF td (si t.toNatClampNeg))))) hw cu si (vp_updL acc (cu t.toNatClampNeg).toNatClampNeg ((acc (cu t.toNatClampNeg).toNatClampNeg) + (((dpF k (vl t.toNatClampNeg)) - (priceF k (rt t.toNatClampNeg) (vl t.toNatClampNeg) (hr t.toNatClampNeg) (daysF td (si t.toNatClampNeg)))).toInt64))) st) H := hP
      have hD : va_D A (mW o ad cd tn td cs hd kd rt vl (upd hr t.toNatClampNeg ((hr t.toNatClampNeg) + (weF k (hr t.toNatClampNeg) (daysF td (si t.toNatClampNeg))))) hw cu si (vp_updL acc (cu t.toNatClampNeg).toNatClampNeg ((acc (cu t.toNatClampNeg).toNatClampNeg) + (((dpF k (vl t.toNatClampNeg)) - (priceF k (rt t.toNatClampNeg) (vl t.toNatClampNeg) (hr t.toNatClampNeg) (daysF td (si t.toNatClampNeg)))).toInt64))) st) := hD
      refine lv_aload_n hx hb dX9_back_118 rfl (lv_at hl 2 rfl) ?_
      refine va_get (D := D) (ci := 9) (v := .ref (ad 5)) (C := RX9) (T := TX9) (N := 15) hx hb htg in_X9 hown hK hP 0 rfl rfl 5 (by decide) (htg _ tw_525) (fun _ h9 => h9) rfl dX9_back_119 ?_
      refine lv_iload_n hx hb dX9_back_122 rfl (lv_at hl 3 rfl) ?_
      refine lv_aload_n hx hb dX9_back_123 rfl (lv_at hl 2 rfl) ?_
      refine lv_iload_n hx hb dX9_back_124 rfl (lv_at hl 3 rfl) ?_
      refine hs_calli0 (w1 := (mW o ad cd tn td cs hd kd rt vl (upd hr t.toNatClampNeg ((hr t.toNatClampNeg) + (weF k (hr t.toNatClampNeg) (daysF td (si t.toNatClampNeg))))) hw cu si (vp_updL acc (cu t.toNatClampNeg).toNatClampNeg ((acc (cu t.toNatClampNeg).toNatClampNeg) + (((dpF k (vl t.toNatClampNeg)) - (priceF k (rt t.toNatClampNeg) (vl t.toNatClampNeg) (hr t.toNatClampNeg) (daysF td (si t.toNatClampNeg)))).toInt64))) (bds (ckN k) st))) (hs_runV (q0 := 0) SF cal_X9_check tw_606 (c_X9_check l D o ad cd tn td cs hd kd rt vl (upd hr t.toNatClampNeg ((hr t.toNatClampNeg) + (weF k (hr t.toNatClampNeg) (daysF td (si t.toNatClampNeg))))) hw cu si (vp_updL acc (cu t.toNatClampNeg).toNatClampNeg ((acc (cu t.toNatClampNeg).toNatClampNeg) + (((dpF k (vl t.toNatClampNeg)) - (priceF k (rt t.toNatClampNeg) (vl t.toNatClampNeg) (hr t.toNatClampNeg) (daysF td (si t.toNatClampNeg)))).toInt64))) st t ht k hk hkd (Or.inl hop) (hoursF k (hr t.toNatClampNeg) (daysF td (si t.toNatClampNeg))) pk_us) hK hP hD rfl rfl ⟨Nat.le_of_ble_eq_true rfl, Nat.le_of_ble_eq_true rfl⟩ rfl hl.1 rfl (Nat.le_of_ble_eq_true rfl) dX9_back_125 ⟨Nat.le_of_ble_eq_true rfl, Nat.le_of_ble_eq_true rfl⟩) hD hS hA (fun H locs hP hD hS => ?_)
      rw [bds_off (ckN k) hop] at hP hD
      refine lv_bipush (v := 9) hx hb dX9_back_128 (by decide) ?_
      refine lv_icmp_le (tgt := 137) hx hb dX9_back_130 (by decide) (fun c130 => ?_) (fun c130 => ?_)
      · refine lv_iconst (v := 0) hx hb dX9_back_137 (by decide) ?_
        refine va_iast hx hb hK hP hD hS 5 4 rfl rfl (ht) dX9_back_138 (fun H locs hP hD hS => ?_)
        have hP : va_P D hs_cl (mW o ad cd tn td cs hd kd rt vl (upd hr t.toNatClampNeg ((hr t.toNatClampNeg) + (weF k (hr t.toNatClampNeg) (daysF td (si t.toNatClampNeg))))) (upd hw t.toNatClampNeg 0) cu si (vp_updL acc (cu t.toNatClampNeg).toNatClampNeg ((acc (cu t.toNatClampNeg).toNatClampNeg) + (((dpF k (vl t.toNatClampNeg)) - (priceF k (rt t.toNatClampNeg) (vl t.toNatClampNeg) (hr t.toNatClampNeg) (daysF td (si t.toNatClampNeg)))).toInt64))) st) H := hP
        have hD : va_D A (mW o ad cd tn td cs hd kd rt vl (upd hr t.toNatClampNeg ((hr t.toNatClampNeg) + (weF k (hr t.toNatClampNeg) (daysF td (si t.toNatClampNeg))))) (upd hw t.toNatClampNeg 0) cu si (vp_updL acc (cu t.toNatClampNeg).toNatClampNeg ((acc (cu t.toNatClampNeg).toNatClampNeg) + (((dpF k (vl t.toNatClampNeg)) - (priceF k (rt t.toNatClampNeg) (vl t.toNatClampNeg) (hr t.toNatClampNeg) (daysF td (si t.toNatClampNeg)))).toInt64))) st) := hD
        refine lv_iload_n hx hb dX9_back_139 rfl (lv_at hl 0 rfl) ?_
        exact hs_iret hx hb hrt hlocks hK hP hD hS dX9_back_140 (rfl) (by unfold howF; first | (rw [if_pos c130]; rfl) | (rw [if_neg c130]; rfl))
      · refine lv_iconst (v := 2) hx hb dX9_back_133 (by decide) ?_
        refine lv_goto (tgt := 138) hx hb dX9_back_134 (by decide) ?_
        refine va_iast hx hb hK hP hD hS 5 4 rfl rfl (ht) dX9_back_138 (fun H locs hP hD hS => ?_)
        have hP : va_P D hs_cl (mW o ad cd tn td cs hd kd rt vl (upd hr t.toNatClampNeg ((hr t.toNatClampNeg) + (weF k (hr t.toNatClampNeg) (daysF td (si t.toNatClampNeg))))) (upd hw t.toNatClampNeg 2) cu si (vp_updL acc (cu t.toNatClampNeg).toNatClampNeg ((acc (cu t.toNatClampNeg).toNatClampNeg) + (((dpF k (vl t.toNatClampNeg)) - (priceF k (rt t.toNatClampNeg) (vl t.toNatClampNeg) (hr t.toNatClampNeg) (daysF td (si t.toNatClampNeg)))).toInt64))) st) H := hP
        have hD : va_D A (mW o ad cd tn td cs hd kd rt vl (upd hr t.toNatClampNeg ((hr t.toNatClampNeg) + (weF k (hr t.toNatClampNeg) (daysF td (si t.toNatClampNeg))))) (upd hw t.toNatClampNeg 2) cu si (vp_updL acc (cu t.toNatClampNeg).toNatClampNeg ((acc (cu t.toNatClampNeg).toNatClampNeg) + (((dpF k (vl t.toNatClampNeg)) - (priceF k (rt t.toNatClampNeg) (vl t.toNatClampNeg) (hr t.toNatClampNeg) (daysF td (si t.toNatClampNeg)))).toInt64))) st) := hD
        refine lv_iload_n hx hb dX9_back_139 rfl (lv_at hl 0 rfl) ?_
        exact hs_iret hx hb hrt hlocks hK hP hD hS dX9_back_140 (rfl) (by unfold howF; first | (rw [if_pos c130]; rfl) | (rw [if_neg c130]; rfl))
    · refine lv_aload_n hx hb dX9_back_69 rfl (lv_at hl 1 rfl) ?_
      refine lv_iload_n hx hb dX9_back_70 rfl (lv_at hl 2 rfl) ?_
      refine lv_iload_n hx hb dX9_back_71 rfl (lv_at hl 0 rfl) ?_
      refine hs_calli0 (w1 := (mW o ad cd tn td cs hd kd rt vl hr hw cu si acc (bds (pmN k) st))) (hs_runV (q0 := 0) SF cal_X9_premium tw_614 (c_X9_premium l D o ad cd tn td cs hd kd rt vl hr hw cu si acc st t ht k hk hkd (Or.inl hop) (hr t.toNatClampNeg) rfl (daysF td (si t.toNatClampNeg)) c66) hK hP hD rfl rfl ⟨Nat.le_of_ble_eq_true rfl, Nat.le_of_ble_eq_true rfl⟩ rfl hl.1 rfl (Nat.le_of_ble_eq_true rfl) dX9_back_72 ⟨Nat.le_of_ble_eq_true rfl, Nat.le_of_ble_eq_true rfl⟩) hD hS hA (fun H locs hP hD hS => ?_)
      rw [bds_off (pmN k) hop] at hP hD
      refine lv_goto (tgt := 79) hx hb dX9_back_75 (by decide) ?_
      refine lv_iadd hx hb dX9_back_79 ?_
      refine lv_topi (fun dp edp => ?_)
      have edp : dp = (priceF k (rt t.toNatClampNeg) (vl t.toNatClampNeg) (hr t.toNatClampNeg) (daysF td (si t.toNatClampNeg))) := by rw [edp]; unfold priceF; first | (rw [pmF_0 c66]; done) | rfl
      subst edp
      refine lv_istore_n (lv' := [(3, .int (priceF k (rt t.toNatClampNeg) (vl t.toNatClampNeg) (hr t.toNatClampNeg) (daysF td (si t.toNatClampNeg)))), (2, .int (daysF td (si t.toNatClampNeg))), (0, .ref o), (1, .int t)]) hx hb dX9_back_80 rfl hl (by decide) rfl (fun ls hl => ?_)
      refine lv_aload_n hx hb dX9_back_81 rfl (lv_at hl 2 rfl) ?_
      refine va_get (D := D) (ci := 9) (v := .ref (ad 8)) (C := RX9) (T := TX9) (N := 15) hx hb htg in_X9 hown hK hP 0 rfl rfl 8 (by decide) (htg _ tw_528) (fun _ h9 => h9) rfl dX9_back_82 ?_
      refine lv_aload_n hx hb dX9_back_85 rfl (lv_at hl 2 rfl) ?_
      refine va_get (D := D) (ci := 9) (v := .ref (ad 6)) (C := RX9) (T := TX9) (N := 15) hx hb htg in_X9 hown hK hP 0 rfl rfl 6 (by decide) (htg _ tw_526) (fun _ h9 => h9) rfl dX9_back_86 ?_
      refine lv_iload_n hx hb dX9_back_89 rfl (lv_at hl 3 rfl) ?_
      refine va_iald hx hb hK hP 6 5 rfl rfl (ht) dX9_back_90 ?_
      refine lv_dup2_11 hx hb dX9_back_91 rfl rfl ?_
      refine va_lald hx hb hK hP 8 7 rfl rfl (hcu) dX9_back_92 ?_
      refine lv_aload_n hx hb dX9_back_93 rfl (lv_at hl 2 rfl) ?_
      refine lv_iload_n hx hb dX9_back_94 rfl (lv_at hl 3 rfl) ?_
      refine hs_calli0 (w1 := (mW o ad cd tn td cs hd kd rt vl hr hw cu si acc (bds (dpN k) st))) (hs_runV (q0 := 0) SF cal_X9_lent tw_630 (c_X9_lent l D o ad cd tn td cs hd kd rt vl hr hw cu si acc st t ht k hk hkd (Or.inl hop) ) hK hP hD rfl rfl ⟨Nat.le_of_ble_eq_true rfl, Nat.le_of_ble_eq_true rfl⟩ rfl hl.1 rfl (Nat.le_of_ble_eq_true rfl) dX9_back_95 ⟨Nat.le_of_ble_eq_true rfl, Nat.le_of_ble_eq_true rfl⟩) hD hS hA (fun H locs hP hD hS => ?_)
      rw [bds_off (dpN k) hop] at hP hD
      refine lv_iload_n hx hb dX9_back_98 rfl (lv_at hl 0 rfl) ?_
      refine lv_isub hx hb dX9_back_99 ?_
      refine lv_i2l hx hb dX9_back_100 rfl ?_
      refine lv_ladd hx hb dX9_back_101 ?_
      refine va_last hx hb hK hP hD hS 8 7 rfl rfl (hcu) dX9_back_102 (fun H locs hP hD hS => ?_)
      have hP : va_P D hs_cl (mW o ad cd tn td cs hd kd rt vl hr hw cu si (vp_updL acc (cu t.toNatClampNeg).toNatClampNeg ((acc (cu t.toNatClampNeg).toNatClampNeg) + (((dpF k (vl t.toNatClampNeg)) - (priceF k (rt t.toNatClampNeg) (vl t.toNatClampNeg) (hr t.toNatClampNeg) (daysF td (si t.toNatClampNeg)))).toInt64))) st) H := hP
      have hD : va_D A (mW o ad cd tn td cs hd kd rt vl hr hw cu si (vp_updL acc (cu t.toNatClampNeg).toNatClampNeg ((acc (cu t.toNatClampNeg).toNatClampNeg) + (((dpF k (vl t.toNatClampNeg)) - (priceF k (rt t.toNatClampNeg) (vl t.toNatClampNeg) (hr t.toNatClampNeg) (daysF td (si t.toNatClampNeg)))).toInt64))) st) := hD
      refine lv_aload_n hx hb dX9_back_103 rfl (lv_at hl 2 rfl) ?_
      refine va_get (D := D) (ci := 9) (v := .ref (ad 4)) (C := RX9) (T := TX9) (N := 15) hx hb htg in_X9 hown hK hP 0 rfl rfl 4 (by decide) (htg _ tw_524) (fun _ h9 => h9) rfl dX9_back_104 ?_
      refine lv_iload_n hx hb dX9_back_107 rfl (lv_at hl 3 rfl) ?_
      refine lv_dup2_11 hx hb dX9_back_108 rfl rfl ?_
      refine va_iald hx hb hK hP 4 3 rfl rfl (ht) dX9_back_109 ?_
      refine lv_aload_n hx hb dX9_back_110 rfl (lv_at hl 2 rfl) ?_
      refine lv_iload_n hx hb dX9_back_111 rfl (lv_at hl 3 rfl) ?_
      refine lv_iload_n hx hb dX9_back_112 rfl (lv_at hl 1 rfl) ?_
      refine hs_calli0 (w1 := (mW o ad cd tn td cs hd kd rt vl hr hw cu si (vp_updL acc (cu t.toNatClampNeg).toNatClampNeg ((acc (cu t.toNatClampNeg).toNatClampNeg) + (((dpF k (vl t.toNatClampNeg)) - (priceF k (rt t.toNatClampNeg) (vl t.toNatClampNeg) (hr t.toNatClampNeg) (daysF td (si t.toNatClampNeg)))).toInt64))) (bds (weN k) st))) (hs_runV (q0 := 0) SF cal_X9_wear tw_602 (c_X9_wear l D o ad cd tn td cs hd kd rt vl hr hw cu si (vp_updL acc (cu t.toNatClampNeg).toNatClampNeg ((acc (cu t.toNatClampNeg).toNatClampNeg) + (((dpF k (vl t.toNatClampNeg)) - (priceF k (rt t.toNatClampNeg) (vl t.toNatClampNeg) (hr t.toNatClampNeg) (daysF td (si t.toNatClampNeg)))).toInt64))) st t ht k hk hkd (Or.inl hop) (hr t.toNatClampNeg) rfl (daysF td (si t.toNatClampNeg))) hK hP hD rfl rfl ⟨Nat.le_of_ble_eq_true rfl, Nat.le_of_ble_eq_true rfl⟩ rfl hl.1 rfl (Nat.le_of_ble_eq_true rfl) dX9_back_113 ⟨Nat.le_of_ble_eq_true rfl, Nat.le_of_ble_eq_true rfl⟩) hD hS hA (fun H locs hP hD hS => ?_)
      rw [bds_off (weN k) hop] at hP hD
      refine lv_iadd hx hb dX9_back_116 ?_
      refine va_iast hx hb hK hP hD hS 4 3 rfl rfl (ht) dX9_back_117 (fun H locs hP hD hS => ?_)
      have hP : va_P D hs_cl (mW o ad cd tn td cs hd kd rt vl (upd hr t.toNatClampNeg ((hr t.toNatClampNeg) + (weF k (hr t.toNatClampNeg) (daysF td (si t.toNatClampNeg))))) hw cu si (vp_updL acc (cu t.toNatClampNeg).toNatClampNeg ((acc (cu t.toNatClampNeg).toNatClampNeg) + (((dpF k (vl t.toNatClampNeg)) - (priceF k (rt t.toNatClampNeg) (vl t.toNatClampNeg) (hr t.toNatClampNeg) (daysF td (si t.toNatClampNeg)))).toInt64))) st) H := hP
      have hD : va_D A (mW o ad cd tn td cs hd kd rt vl (upd hr t.toNatClampNeg ((hr t.toNatClampNeg) + (weF k (hr t.toNatClampNeg) (daysF td (si t.toNatClampNeg))))) hw cu si (vp_updL acc (cu t.toNatClampNeg).toNatClampNeg ((acc (cu t.toNatClampNeg).toNatClampNeg) + (((dpF k (vl t.toNatClampNeg)) - (priceF k (rt t.toNatClampNeg) (vl t.toNatClampNeg) (hr t.toNatClampNeg) (daysF td (si t.toNatClampNeg)))).toInt64))) st) := hD
      refine lv_aload_n hx hb dX9_back_118 rfl (lv_at hl 2 rfl) ?_
      refine va_get (D := D) (ci := 9) (v := .ref (ad 5)) (C := RX9) (T := TX9) (N := 15) hx hb htg in_X9 hown hK hP 0 rfl rfl 5 (by decide) (htg _ tw_525) (fun _ h9 => h9) rfl dX9_back_119 ?_
      refine lv_iload_n hx hb dX9_back_122 rfl (lv_at hl 3 rfl) ?_
      refine lv_aload_n hx hb dX9_back_123 rfl (lv_at hl 2 rfl) ?_
      refine lv_iload_n hx hb dX9_back_124 rfl (lv_at hl 3 rfl) ?_
      refine hs_calli0 (w1 := (mW o ad cd tn td cs hd kd rt vl (upd hr t.toNatClampNeg ((hr t.toNatClampNeg) + (weF k (hr t.toNatClampNeg) (daysF td (si t.toNatClampNeg))))) hw cu si (vp_updL acc (cu t.toNatClampNeg).toNatClampNeg ((acc (cu t.toNatClampNeg).toNatClampNeg) + (((dpF k (vl t.toNatClampNeg)) - (priceF k (rt t.toNatClampNeg) (vl t.toNatClampNeg) (hr t.toNatClampNeg) (daysF td (si t.toNatClampNeg)))).toInt64))) (bds (ckN k) st))) (hs_runV (q0 := 0) SF cal_X9_check tw_606 (c_X9_check l D o ad cd tn td cs hd kd rt vl (upd hr t.toNatClampNeg ((hr t.toNatClampNeg) + (weF k (hr t.toNatClampNeg) (daysF td (si t.toNatClampNeg))))) hw cu si (vp_updL acc (cu t.toNatClampNeg).toNatClampNeg ((acc (cu t.toNatClampNeg).toNatClampNeg) + (((dpF k (vl t.toNatClampNeg)) - (priceF k (rt t.toNatClampNeg) (vl t.toNatClampNeg) (hr t.toNatClampNeg) (daysF td (si t.toNatClampNeg)))).toInt64))) st t ht k hk hkd (Or.inl hop) (hoursF k (hr t.toNatClampNeg) (daysF td (si t.toNatClampNeg))) pk_us) hK hP hD rfl rfl ⟨Nat.le_of_ble_eq_true rfl, Nat.le_of_ble_eq_true rfl⟩ rfl hl.1 rfl (Nat.le_of_ble_eq_true rfl) dX9_back_125 ⟨Nat.le_of_ble_eq_true rfl, Nat.le_of_ble_eq_true rfl⟩) hD hS hA (fun H locs hP hD hS => ?_)
      rw [bds_off (ckN k) hop] at hP hD
      refine lv_bipush (v := 9) hx hb dX9_back_128 (by decide) ?_
      refine lv_icmp_le (tgt := 137) hx hb dX9_back_130 (by decide) (fun c130 => ?_) (fun c130 => ?_)
      · refine lv_iconst (v := 0) hx hb dX9_back_137 (by decide) ?_
        refine va_iast hx hb hK hP hD hS 5 4 rfl rfl (ht) dX9_back_138 (fun H locs hP hD hS => ?_)
        have hP : va_P D hs_cl (mW o ad cd tn td cs hd kd rt vl (upd hr t.toNatClampNeg ((hr t.toNatClampNeg) + (weF k (hr t.toNatClampNeg) (daysF td (si t.toNatClampNeg))))) (upd hw t.toNatClampNeg 0) cu si (vp_updL acc (cu t.toNatClampNeg).toNatClampNeg ((acc (cu t.toNatClampNeg).toNatClampNeg) + (((dpF k (vl t.toNatClampNeg)) - (priceF k (rt t.toNatClampNeg) (vl t.toNatClampNeg) (hr t.toNatClampNeg) (daysF td (si t.toNatClampNeg)))).toInt64))) st) H := hP
        have hD : va_D A (mW o ad cd tn td cs hd kd rt vl (upd hr t.toNatClampNeg ((hr t.toNatClampNeg) + (weF k (hr t.toNatClampNeg) (daysF td (si t.toNatClampNeg))))) (upd hw t.toNatClampNeg 0) cu si (vp_updL acc (cu t.toNatClampNeg).toNatClampNeg ((acc (cu t.toNatClampNeg).toNatClampNeg) + (((dpF k (vl t.toNatClampNeg)) - (priceF k (rt t.toNatClampNeg) (vl t.toNatClampNeg) (hr t.toNatClampNeg) (daysF td (si t.toNatClampNeg)))).toInt64))) st) := hD
        refine lv_iload_n hx hb dX9_back_139 rfl (lv_at hl 0 rfl) ?_
        exact hs_iret hx hb hrt hlocks hK hP hD hS dX9_back_140 (rfl) (by unfold howF; first | (rw [if_pos c130]; rfl) | (rw [if_neg c130]; rfl))
      · refine lv_iconst (v := 2) hx hb dX9_back_133 (by decide) ?_
        refine lv_goto (tgt := 138) hx hb dX9_back_134 (by decide) ?_
        refine va_iast hx hb hK hP hD hS 5 4 rfl rfl (ht) dX9_back_138 (fun H locs hP hD hS => ?_)
        have hP : va_P D hs_cl (mW o ad cd tn td cs hd kd rt vl (upd hr t.toNatClampNeg ((hr t.toNatClampNeg) + (weF k (hr t.toNatClampNeg) (daysF td (si t.toNatClampNeg))))) (upd hw t.toNatClampNeg 2) cu si (vp_updL acc (cu t.toNatClampNeg).toNatClampNeg ((acc (cu t.toNatClampNeg).toNatClampNeg) + (((dpF k (vl t.toNatClampNeg)) - (priceF k (rt t.toNatClampNeg) (vl t.toNatClampNeg) (hr t.toNatClampNeg) (daysF td (si t.toNatClampNeg)))).toInt64))) st) H := hP
        have hD : va_D A (mW o ad cd tn td cs hd kd rt vl (upd hr t.toNatClampNeg ((hr t.toNatClampNeg) + (weF k (hr t.toNatClampNeg) (daysF td (si t.toNatClampNeg))))) (upd hw t.toNatClampNeg 2) cu si (vp_updL acc (cu t.toNatClampNeg).toNatClampNeg ((acc (cu t.toNatClampNeg).toNatClampNeg) + (((dpF k (vl t.toNatClampNeg)) - (priceF k (rt t.toNatClampNeg) (vl t.toNatClampNeg) (hr t.toNatClampNeg) (daysF td (si t.toNatClampNeg)))).toInt64))) st) := hD
        refine lv_iload_n hx hb dX9_back_139 rfl (lv_at hl 0 rfl) ?_
        exact hs_iret hx hb hrt hlocks hK hP hD hS dX9_back_140 (rfl) (by unfold howF; first | (rw [if_pos c130]; rfl) | (rw [if_neg c130]; rfl))
  · refine lv_iconst (v := 1) hx hb dX9_back_39 (by decide) ?_
    refine lv_goto (tgt := 54) hx hb dX9_back_40 (by decide) ?_
    refine lv_topi (fun dd edd => ?_)
    have edd : dd = (daysF td (si t.toNatClampNeg)) := by rw [edd]; first | exact daysF_ge c36 | exact daysF_lt c36
    subst edd
    refine lv_istore_n (lv' := [(2, .int (daysF td (si t.toNatClampNeg))), (0, .ref o), (1, .int t)]) hx hb dX9_back_54 rfl hl (by decide) rfl (fun ls hl => ?_)
    refine lv_aload_n hx hb dX9_back_55 rfl (lv_at hl 1 rfl) ?_
    refine lv_iload_n hx hb dX9_back_56 rfl (lv_at hl 2 rfl) ?_
    refine lv_iload_n hx hb dX9_back_57 rfl (lv_at hl 0 rfl) ?_
    refine hs_calli0 (w1 := (mW o ad cd tn td cs hd kd rt vl hr hw cu si acc (bds (chN k) st))) (hs_runV (q0 := 0) SF cal_X9_charge tw_594 (c_X9_charge l D o ad cd tn td cs hd kd rt vl hr hw cu si acc st t ht k hk hkd (Or.inl hop) (daysF td (si t.toNatClampNeg)) hdk) hK hP hD rfl rfl ⟨Nat.le_of_ble_eq_true rfl, Nat.le_of_ble_eq_true rfl⟩ rfl hl.1 rfl (Nat.le_of_ble_eq_true rfl) dX9_back_58 ⟨Nat.le_of_ble_eq_true rfl, Nat.le_of_ble_eq_true rfl⟩) hD hS hA (fun H locs hP hD hS => ?_)
    rw [bds_off (chN k) hop] at hP hD
    refine lv_aload_n hx hb dX9_back_61 rfl (lv_at hl 1 rfl) ?_
    refine lv_iload_n hx hb dX9_back_62 rfl (lv_at hl 2 rfl) ?_
    refine hs_calli0 (w1 := (mW o ad cd tn td cs hd kd rt vl hr hw cu si acc st)) (hs_runV (q0 := 0) SF cal_X9_isInsured tw_586 (c_X9_isInsured l D o ad cd tn td cs hd kd rt vl hr hw cu si acc st t ht k hk hkd ) hK hP hD rfl rfl ⟨Nat.le_of_ble_eq_true rfl, Nat.le_of_ble_eq_true rfl⟩ rfl hl.1 rfl (Nat.le_of_ble_eq_true rfl) dX9_back_63 ⟨Nat.le_of_ble_eq_true rfl, Nat.le_of_ble_eq_true rfl⟩) hD hS hA (fun H locs hP hD hS => ?_)
    refine lv_if_eq (tgt := 78) hx hb dX9_back_66 (by decide) (fun c66 => ?_) (fun c66 => ?_)
    · refine lv_iconst (v := 0) hx hb dX9_back_78 (by decide) ?_
      refine lv_iadd hx hb dX9_back_79 ?_
      refine lv_topi (fun dp edp => ?_)
      have edp : dp = (priceF k (rt t.toNatClampNeg) (vl t.toNatClampNeg) (hr t.toNatClampNeg) (daysF td (si t.toNatClampNeg))) := by rw [edp]; unfold priceF; first | (rw [pmF_0 c66]; done) | rfl
      subst edp
      refine lv_istore_n (lv' := [(3, .int (priceF k (rt t.toNatClampNeg) (vl t.toNatClampNeg) (hr t.toNatClampNeg) (daysF td (si t.toNatClampNeg)))), (2, .int (daysF td (si t.toNatClampNeg))), (0, .ref o), (1, .int t)]) hx hb dX9_back_80 rfl hl (by decide) rfl (fun ls hl => ?_)
      refine lv_aload_n hx hb dX9_back_81 rfl (lv_at hl 2 rfl) ?_
      refine va_get (D := D) (ci := 9) (v := .ref (ad 8)) (C := RX9) (T := TX9) (N := 15) hx hb htg in_X9 hown hK hP 0 rfl rfl 8 (by decide) (htg _ tw_528) (fun _ h9 => h9) rfl dX9_back_82 ?_
      refine lv_aload_n hx hb dX9_back_85 rfl (lv_at hl 2 rfl) ?_
      refine va_get (D := D) (ci := 9) (v := .ref (ad 6)) (C := RX9) (T := TX9) (N := 15) hx hb htg in_X9 hown hK hP 0 rfl rfl 6 (by decide) (htg _ tw_526) (fun _ h9 => h9) rfl dX9_back_86 ?_
      refine lv_iload_n hx hb dX9_back_89 rfl (lv_at hl 3 rfl) ?_
      refine va_iald hx hb hK hP 6 5 rfl rfl (ht) dX9_back_90 ?_
      refine lv_dup2_11 hx hb dX9_back_91 rfl rfl ?_
      refine va_lald hx hb hK hP 8 7 rfl rfl (hcu) dX9_back_92 ?_
      refine lv_aload_n hx hb dX9_back_93 rfl (lv_at hl 2 rfl) ?_
      refine lv_iload_n hx hb dX9_back_94 rfl (lv_at hl 3 rfl) ?_
      refine hs_calli0 (w1 := (mW o ad cd tn td cs hd kd rt vl hr hw cu si acc (bds (dpN k) st))) (hs_runV (q0 := 0) SF cal_X9_lent tw_630 (c_X9_lent l D o ad cd tn td cs hd kd rt vl hr hw cu si acc st t ht k hk hkd (Or.inl hop) ) hK hP hD rfl rfl ⟨Nat.le_of_ble_eq_true rfl, Nat.le_of_ble_eq_true rfl⟩ rfl hl.1 rfl (Nat.le_of_ble_eq_true rfl) dX9_back_95 ⟨Nat.le_of_ble_eq_true rfl, Nat.le_of_ble_eq_true rfl⟩) hD hS hA (fun H locs hP hD hS => ?_)
      rw [bds_off (dpN k) hop] at hP hD
      refine lv_iload_n hx hb dX9_back_98 rfl (lv_at hl 0 rfl) ?_
      refine lv_isub hx hb dX9_back_99 ?_
      refine lv_i2l hx hb dX9_back_100 rfl ?_
      refine lv_ladd hx hb dX9_back_101 ?_
      refine va_last hx hb hK hP hD hS 8 7 rfl rfl (hcu) dX9_back_102 (fun H locs hP hD hS => ?_)
      have hP : va_P D hs_cl (mW o ad cd tn td cs hd kd rt vl hr hw cu si (vp_updL acc (cu t.toNatClampNeg).toNatClampNeg ((acc (cu t.toNatClampNeg).toNatClampNeg) + (((dpF k (vl t.toNatClampNeg)) - (priceF k (rt t.toNatClampNeg) (vl t.toNatClampNeg) (hr t.toNatClampNeg) (daysF td (si t.toNatClampNeg)))).toInt64))) st) H := hP
      have hD : va_D A (mW o ad cd tn td cs hd kd rt vl hr hw cu si (vp_updL acc (cu t.toNatClampNeg).toNatClampNeg ((acc (cu t.toNatClampNeg).toNatClampNeg) + (((dpF k (vl t.toNatClampNeg)) - (priceF k (rt t.toNatClampNeg) (vl t.toNatClampNeg) (hr t.toNatClampNeg) (daysF td (si t.toNatClampNeg)))).toInt64))) st) := hD
      refine lv_aload_n hx hb dX9_back_103 rfl (lv_at hl 2 rfl) ?_
      refine va_get (D := D) (ci := 9) (v := .ref (ad 4)) (C := RX9) (T := TX9) (N := 15) hx hb htg in_X9 hown hK hP 0 rfl rfl 4 (by decide) (htg _ tw_524) (fun _ h9 => h9) rfl dX9_back_104 ?_
      refine lv_iload_n hx hb dX9_back_107 rfl (lv_at hl 3 rfl) ?_
      refine lv_dup2_11 hx hb dX9_back_108 rfl rfl ?_
      refine va_iald hx hb hK hP 4 3 rfl rfl (ht) dX9_back_109 ?_
      refine lv_aload_n hx hb dX9_back_110 rfl (lv_at hl 2 rfl) ?_
      refine lv_iload_n hx hb dX9_back_111 rfl (lv_at hl 3 rfl) ?_
      refine lv_iload_n hx hb dX9_back_112 rfl (lv_at hl 1 rfl) ?_
      refine hs_calli0 (w1 := (mW o ad cd tn td cs hd kd rt vl hr hw cu si (vp_updL acc (cu t.toNatClampNeg).toNatClampNeg ((acc (cu t.toNatClampNeg).toNatClampNeg) + (((dpF k (vl t.toNatClampNeg)) - (priceF k (rt t.toNatClampNeg) (vl t.toNatClampNeg) (hr t.toNatClampNeg) (daysF td (si t.toNatClampNeg)))).toInt64))) (bds (weN k) st))) (hs_runV (q0 := 0) SF cal_X9_wear tw_602 (c_X9_wear l D o ad cd tn td cs hd kd rt vl hr hw cu si (vp_updL acc (cu t.toNatClampNeg).toNatClampNeg ((acc (cu t.toNatClampNeg).toNatClampNeg) + (((dpF k (vl t.toNatClampNeg)) - (priceF k (rt t.toNatClampNeg) (vl t.toNatClampNeg) (hr t.toNatClampNeg) (daysF td (si t.toNatClampNeg)))).toInt64))) st t ht k hk hkd (Or.inl hop) (hr t.toNatClampNeg) rfl (daysF td (si t.toNatClampNeg))) hK hP hD rfl rfl ⟨Nat.le_of_ble_eq_true rfl, Nat.le_of_ble_eq_true rfl⟩ rfl hl.1 rfl (Nat.le_of_ble_eq_true rfl) dX9_back_113 ⟨Nat.le_of_ble_eq_true rfl, Nat.le_of_ble_eq_true rfl⟩) hD hS hA (fun H locs hP hD hS => ?_)
      rw [bds_off (weN k) hop] at hP hD
      refine lv_iadd hx hb dX9_back_116 ?_
      refine va_iast hx hb hK hP hD hS 4 3 rfl rfl (ht) dX9_back_117 (fun H locs hP hD hS => ?_)
      have hP : va_P D hs_cl (mW o ad cd tn td cs hd kd rt vl (upd hr t.toNatClampNeg ((hr t.toNatClampNeg) + (weF k (hr t.toNatClampNeg) (daysF td (si t.toNatClampNeg))))) hw cu si (vp_updL acc (cu t.toNatClampNeg).toNatClampNeg ((acc (cu t.toNatClampNeg).toNatClampNeg) + (((dpF k (vl t.toNatClampNeg)) - (priceF k (rt t.toNatClampNeg) (vl t.toNatClampNeg) (hr t.toNatClampNeg) (daysF td (si t.toNatClampNeg)))).toInt64))) st) H := hP
      have hD : va_D A (mW o ad cd tn td cs hd kd rt vl (upd hr t.toNatClampNeg ((hr t.toNatClampNeg) + (weF k (hr t.toNatClampNeg) (daysF td (si t.toNatClampNeg))))) hw cu si (vp_updL acc (cu t.toNatClampNeg).toNatClampNeg ((acc (cu t.toNatClampNeg).toNatClampNeg) + (((dpF k (vl t.toNatClampNeg)) - (priceF k (rt t.toNatClampNeg) (vl t.toNatClampNeg) (hr t.toNatClampNeg) (daysF td (si t.toNatClampNeg)))).toInt64))) st) := hD
      refine lv_aload_n hx hb dX9_back_118 rfl (lv_at hl 2 rfl) ?_
      refine va_get (D := D) (ci := 9) (v := .ref (ad 5)) (C := RX9) (T := TX9) (N := 15) hx hb htg in_X9 hown hK hP 0 rfl rfl 5 (by decide) (htg _ tw_525) (fun _ h9 => h9) rfl dX9_back_119 ?_
      refine lv_iload_n hx hb dX9_back_122 rfl (lv_at hl 3 rfl) ?_
      refine lv_aload_n hx hb dX9_back_123 rfl (lv_at hl 2 rfl) ?_
      refine lv_iload_n hx hb dX9_back_124 rfl (lv_at hl 3 rfl) ?_
      refine hs_calli0 (w1 := (mW o ad cd tn td cs hd kd rt vl (upd hr t.toNatClampNeg ((hr t.toNatClampNeg) + (weF k (hr t.toNatClampNeg) (daysF td (si t.toNatClampNeg))))) hw cu si (vp_updL acc (cu t.toNatClampNeg).toNatClampNeg ((acc (cu t.toNatClampNeg).toNatClampNeg) + (((dpF k (vl t.toNatClampNeg)) - (priceF k (rt t.toNatClampNeg) (vl t.toNatClampNeg) (hr t.toNatClampNeg) (daysF td (si t.toNatClampNeg)))).toInt64))) (bds (ckN k) st))) (hs_runV (q0 := 0) SF cal_X9_check tw_606 (c_X9_check l D o ad cd tn td cs hd kd rt vl (upd hr t.toNatClampNeg ((hr t.toNatClampNeg) + (weF k (hr t.toNatClampNeg) (daysF td (si t.toNatClampNeg))))) hw cu si (vp_updL acc (cu t.toNatClampNeg).toNatClampNeg ((acc (cu t.toNatClampNeg).toNatClampNeg) + (((dpF k (vl t.toNatClampNeg)) - (priceF k (rt t.toNatClampNeg) (vl t.toNatClampNeg) (hr t.toNatClampNeg) (daysF td (si t.toNatClampNeg)))).toInt64))) st t ht k hk hkd (Or.inl hop) (hoursF k (hr t.toNatClampNeg) (daysF td (si t.toNatClampNeg))) pk_us) hK hP hD rfl rfl ⟨Nat.le_of_ble_eq_true rfl, Nat.le_of_ble_eq_true rfl⟩ rfl hl.1 rfl (Nat.le_of_ble_eq_true rfl) dX9_back_125 ⟨Nat.le_of_ble_eq_true rfl, Nat.le_of_ble_eq_true rfl⟩) hD hS hA (fun H locs hP hD hS => ?_)
      rw [bds_off (ckN k) hop] at hP hD
      refine lv_bipush (v := 9) hx hb dX9_back_128 (by decide) ?_
      refine lv_icmp_le (tgt := 137) hx hb dX9_back_130 (by decide) (fun c130 => ?_) (fun c130 => ?_)
      · refine lv_iconst (v := 0) hx hb dX9_back_137 (by decide) ?_
        refine va_iast hx hb hK hP hD hS 5 4 rfl rfl (ht) dX9_back_138 (fun H locs hP hD hS => ?_)
        have hP : va_P D hs_cl (mW o ad cd tn td cs hd kd rt vl (upd hr t.toNatClampNeg ((hr t.toNatClampNeg) + (weF k (hr t.toNatClampNeg) (daysF td (si t.toNatClampNeg))))) (upd hw t.toNatClampNeg 0) cu si (vp_updL acc (cu t.toNatClampNeg).toNatClampNeg ((acc (cu t.toNatClampNeg).toNatClampNeg) + (((dpF k (vl t.toNatClampNeg)) - (priceF k (rt t.toNatClampNeg) (vl t.toNatClampNeg) (hr t.toNatClampNeg) (daysF td (si t.toNatClampNeg)))).toInt64))) st) H := hP
        have hD : va_D A (mW o ad cd tn td cs hd kd rt vl (upd hr t.toNatClampNeg ((hr t.toNatClampNeg) + (weF k (hr t.toNatClampNeg) (daysF td (si t.toNatClampNeg))))) (upd hw t.toNatClampNeg 0) cu si (vp_updL acc (cu t.toNatClampNeg).toNatClampNeg ((acc (cu t.toNatClampNeg).toNatClampNeg) + (((dpF k (vl t.toNatClampNeg)) - (priceF k (rt t.toNatClampNeg) (vl t.toNatClampNeg) (hr t.toNatClampNeg) (daysF td (si t.toNatClampNeg)))).toInt64))) st) := hD
        refine lv_iload_n hx hb dX9_back_139 rfl (lv_at hl 0 rfl) ?_
        exact hs_iret hx hb hrt hlocks hK hP hD hS dX9_back_140 (rfl) (by unfold howF; first | (rw [if_pos c130]; rfl) | (rw [if_neg c130]; rfl))
      · refine lv_iconst (v := 2) hx hb dX9_back_133 (by decide) ?_
        refine lv_goto (tgt := 138) hx hb dX9_back_134 (by decide) ?_
        refine va_iast hx hb hK hP hD hS 5 4 rfl rfl (ht) dX9_back_138 (fun H locs hP hD hS => ?_)
        have hP : va_P D hs_cl (mW o ad cd tn td cs hd kd rt vl (upd hr t.toNatClampNeg ((hr t.toNatClampNeg) + (weF k (hr t.toNatClampNeg) (daysF td (si t.toNatClampNeg))))) (upd hw t.toNatClampNeg 2) cu si (vp_updL acc (cu t.toNatClampNeg).toNatClampNeg ((acc (cu t.toNatClampNeg).toNatClampNeg) + (((dpF k (vl t.toNatClampNeg)) - (priceF k (rt t.toNatClampNeg) (vl t.toNatClampNeg) (hr t.toNatClampNeg) (daysF td (si t.toNatClampNeg)))).toInt64))) st) H := hP
        have hD : va_D A (mW o ad cd tn td cs hd kd rt vl (upd hr t.toNatClampNeg ((hr t.toNatClampNeg) + (weF k (hr t.toNatClampNeg) (daysF td (si t.toNatClampNeg))))) (upd hw t.toNatClampNeg 2) cu si (vp_updL acc (cu t.toNatClampNeg).toNatClampNeg ((acc (cu t.toNatClampNeg).toNatClampNeg) + (((dpF k (vl t.toNatClampNeg)) - (priceF k (rt t.toNatClampNeg) (vl t.toNatClampNeg) (hr t.toNatClampNeg) (daysF td (si t.toNatClampNeg)))).toInt64))) st) := hD
        refine lv_iload_n hx hb dX9_back_139 rfl (lv_at hl 0 rfl) ?_
        exact hs_iret hx hb hrt hlocks hK hP hD hS dX9_back_140 (rfl) (by unfold howF; first | (rw [if_pos c130]; rfl) | (rw [if_neg c130]; rfl))
    · refine lv_aload_n hx hb dX9_back_69 rfl (lv_at hl 1 rfl) ?_
      refine lv_iload_n hx hb dX9_back_70 rfl (lv_at hl 2 rfl) ?_
      refine lv_iload_n hx hb dX9_back_71 rfl (lv_at hl 0 rfl) ?_
      refine hs_calli0 (w1 := (mW o ad cd tn td cs hd kd rt vl hr hw cu si acc (bds (pmN k) st))) (hs_runV (q0 := 0) SF cal_X9_premium tw_614 (c_X9_premium l D o ad cd tn td cs hd kd rt vl hr hw cu si acc st t ht k hk hkd (Or.inl hop) (hr t.toNatClampNeg) rfl (daysF td (si t.toNatClampNeg)) c66) hK hP hD rfl rfl ⟨Nat.le_of_ble_eq_true rfl, Nat.le_of_ble_eq_true rfl⟩ rfl hl.1 rfl (Nat.le_of_ble_eq_true rfl) dX9_back_72 ⟨Nat.le_of_ble_eq_true rfl, Nat.le_of_ble_eq_true rfl⟩) hD hS hA (fun H locs hP hD hS => ?_)
      rw [bds_off (pmN k) hop] at hP hD
      refine lv_goto (tgt := 79) hx hb dX9_back_75 (by decide) ?_
      refine lv_iadd hx hb dX9_back_79 ?_
      refine lv_topi (fun dp edp => ?_)
      have edp : dp = (priceF k (rt t.toNatClampNeg) (vl t.toNatClampNeg) (hr t.toNatClampNeg) (daysF td (si t.toNatClampNeg))) := by rw [edp]; unfold priceF; first | (rw [pmF_0 c66]; done) | rfl
      subst edp
      refine lv_istore_n (lv' := [(3, .int (priceF k (rt t.toNatClampNeg) (vl t.toNatClampNeg) (hr t.toNatClampNeg) (daysF td (si t.toNatClampNeg)))), (2, .int (daysF td (si t.toNatClampNeg))), (0, .ref o), (1, .int t)]) hx hb dX9_back_80 rfl hl (by decide) rfl (fun ls hl => ?_)
      refine lv_aload_n hx hb dX9_back_81 rfl (lv_at hl 2 rfl) ?_
      refine va_get (D := D) (ci := 9) (v := .ref (ad 8)) (C := RX9) (T := TX9) (N := 15) hx hb htg in_X9 hown hK hP 0 rfl rfl 8 (by decide) (htg _ tw_528) (fun _ h9 => h9) rfl dX9_back_82 ?_
      refine lv_aload_n hx hb dX9_back_85 rfl (lv_at hl 2 rfl) ?_
      refine va_get (D := D) (ci := 9) (v := .ref (ad 6)) (C := RX9) (T := TX9) (N := 15) hx hb htg in_X9 hown hK hP 0 rfl rfl 6 (by decide) (htg _ tw_526) (fun _ h9 => h9) rfl dX9_back_86 ?_
      refine lv_iload_n hx hb dX9_back_89 rfl (lv_at hl 3 rfl) ?_
      refine va_iald hx hb hK hP 6 5 rfl rfl (ht) dX9_back_90 ?_
      refine lv_dup2_11 hx hb dX9_back_91 rfl rfl ?_
      refine va_lald hx hb hK hP 8 7 rfl rfl (hcu) dX9_back_92 ?_
      refine lv_aload_n hx hb dX9_back_93 rfl (lv_at hl 2 rfl) ?_
      refine lv_iload_n hx hb dX9_back_94 rfl (lv_at hl 3 rfl) ?_
      refine hs_calli0 (w1 := (mW o ad cd tn td cs hd kd rt vl hr hw cu si acc (bds (dpN k) st))) (hs_runV (q0 := 0) SF cal_X9_lent tw_630 (c_X9_lent l D o ad cd tn td cs hd kd rt vl hr hw cu si acc st t ht k hk hkd (Or.inl hop) ) hK hP hD rfl rfl ⟨Nat.le_of_ble_eq_true rfl, Nat.le_of_ble_eq_true rfl⟩ rfl hl.1 rfl (Nat.le_of_ble_eq_true rfl) dX9_back_95 ⟨Nat.le_of_ble_eq_true rfl, Nat.le_of_ble_eq_true rfl⟩) hD hS hA (fun H locs hP hD hS => ?_)
      rw [bds_off (dpN k) hop] at hP hD
      refine lv_iload_n hx hb dX9_back_98 rfl (lv_at hl 0 rfl) ?_
      refine lv_isub hx hb dX9_back_99 ?_
      refine lv_i2l hx hb dX9_back_100 rfl ?_
      refine lv_ladd hx hb dX9_back_101 ?_
      refine va_last hx hb hK hP hD hS 8 7 rfl rfl (hcu) dX9_back_102 (fun H locs hP hD hS => ?_)
      have hP : va_P D hs_cl (mW o ad cd tn td cs hd kd rt vl hr hw cu si (vp_updL acc (cu t.toNatClampNeg).toNatClampNeg ((acc (cu t.toNatClampNeg).toNatClampNeg) + (((dpF k (vl t.toNatClampNeg)) - (priceF k (rt t.toNatClampNeg) (vl t.toNatClampNeg) (hr t.toNatClampNeg) (daysF td (si t.toNatClampNeg)))).toInt64))) st) H := hP
      have hD : va_D A (mW o ad cd tn td cs hd kd rt vl hr hw cu si (vp_updL acc (cu t.toNatClampNeg).toNatClampNeg ((acc (cu t.toNatClampNeg).toNatClampNeg) + (((dpF k (vl t.toNatClampNeg)) - (priceF k (rt t.toNatClampNeg) (vl t.toNatClampNeg) (hr t.toNatClampNeg) (daysF td (si t.toNatClampNeg)))).toInt64))) st) := hD
      refine lv_aload_n hx hb dX9_back_103 rfl (lv_at hl 2 rfl) ?_
      refine va_get (D := D) (ci := 9) (v := .ref (ad 4)) (C := RX9) (T := TX9) (N := 15) hx hb htg in_X9 hown hK hP 0 rfl rfl 4 (by decide) (htg _ tw_524) (fun _ h9 => h9) rfl dX9_back_104 ?_
      refine lv_iload_n hx hb dX9_back_107 rfl (lv_at hl 3 rfl) ?_
      refine lv_dup2_11 hx hb dX9_back_108 rfl rfl ?_
      refine va_iald hx hb hK hP 4 3 rfl rfl (ht) dX9_back_109 ?_
      refine lv_aload_n hx hb dX9_back_110 rfl (lv_at hl 2 rfl) ?_
      refine lv_iload_n hx hb dX9_back_111 rfl (lv_at hl 3 rfl) ?_
      refine lv_iload_n hx hb dX9_back_112 rfl (lv_at hl 1 rfl) ?_
      refine hs_calli0 (w1 := (mW o ad cd tn td cs hd kd rt vl hr hw cu si (vp_updL acc (cu t.toNatClampNeg).toNatClampNeg ((acc (cu t.toNatClampNeg).toNatClampNeg) + (((dpF k (vl t.toNatClampNeg)) - (priceF k (rt t.toNatClampNeg) (vl t.toNatClampNeg) (hr t.toNatClampNeg) (daysF td (si t.toNatClampNeg)))).toInt64))) (bds (weN k) st))) (hs_runV (q0 := 0) SF cal_X9_wear tw_602 (c_X9_wear l D o ad cd tn td cs hd kd rt vl hr hw cu si (vp_updL acc (cu t.toNatClampNeg).toNatClampNeg ((acc (cu t.toNatClampNeg).toNatClampNeg) + (((dpF k (vl t.toNatClampNeg)) - (priceF k (rt t.toNatClampNeg) (vl t.toNatClampNeg) (hr t.toNatClampNeg) (daysF td (si t.toNatClampNeg)))).toInt64))) st t ht k hk hkd (Or.inl hop) (hr t.toNatClampNeg) rfl (daysF td (si t.toNatClampNeg))) hK hP hD rfl rfl ⟨Nat.le_of_ble_eq_true rfl, Nat.le_of_ble_eq_true rfl⟩ rfl hl.1 rfl (Nat.le_of_ble_eq_true rfl) dX9_back_113 ⟨Nat.le_of_ble_eq_true rfl, Nat.le_of_ble_eq_true rfl⟩) hD hS hA (fun H locs hP hD hS => ?_)
      rw [bds_off (weN k) hop] at hP hD
      refine lv_iadd hx hb dX9_back_116 ?_
      refine va_iast hx hb hK hP hD hS 4 3 rfl rfl (ht) dX9_back_117 (fun H locs hP hD hS => ?_)
      have hP : va_P D hs_cl (mW o ad cd tn td cs hd kd rt vl (upd hr t.toNatClampNeg ((hr t.toNatClampNeg) + (weF k (hr t.toNatClampNeg) (daysF td (si t.toNatClampNeg))))) hw cu si (vp_updL acc (cu t.toNatClampNeg).toNatClampNeg ((acc (cu t.toNatClampNeg).toNatClampNeg) + (((dpF k (vl t.toNatClampNeg)) - (priceF k (rt t.toNatClampNeg) (vl t.toNatClampNeg) (hr t.toNatClampNeg) (daysF td (si t.toNatClampNeg)))).toInt64))) st) H := hP
      have hD : va_D A (mW o ad cd tn td cs hd kd rt vl (upd hr t.toNatClampNeg ((hr t.toNatClampNeg) + (weF k (hr t.toNatClampNeg) (daysF td (si t.toNatClampNeg))))) hw cu si (vp_updL acc (cu t.toNatClampNeg).toNatClampNeg ((acc (cu t.toNatClampNeg).toNatClampNeg) + (((dpF k (vl t.toNatClampNeg)) - (priceF k (rt t.toNatClampNeg) (vl t.toNatClampNeg) (hr t.toNatClampNeg) (daysF td (si t.toNatClampNeg)))).toInt64))) st) := hD
      refine lv_aload_n hx hb dX9_back_118 rfl (lv_at hl 2 rfl) ?_
      refine va_get (D := D) (ci := 9) (v := .ref (ad 5)) (C := RX9) (T := TX9) (N := 15) hx hb htg in_X9 hown hK hP 0 rfl rfl 5 (by decide) (htg _ tw_525) (fun _ h9 => h9) rfl dX9_back_119 ?_
      refine lv_iload_n hx hb dX9_back_122 rfl (lv_at hl 3 rfl) ?_
      refine lv_aload_n hx hb dX9_back_123 rfl (lv_at hl 2 rfl) ?_
      refine lv_iload_n hx hb dX9_back_124 rfl (lv_at hl 3 rfl) ?_
      refine hs_calli0 (w1 := (mW o ad cd tn td cs hd kd rt vl (upd hr t.toNatClampNeg ((hr t.toNatClampNeg) + (weF k (hr t.toNatClampNeg) (daysF td (si t.toNatClampNeg))))) hw cu si (vp_updL acc (cu t.toNatClampNeg).toNatClampNeg ((acc (cu t.toNatClampNeg).toNatClampNeg) + (((dpF k (vl t.toNatClampNeg)) - (priceF k (rt t.toNatClampNeg) (vl t.toNatClampNeg) (hr t.toNatClampNeg) (daysF td (si t.toNatClampNeg)))).toInt64))) (bds (ckN k) st))) (hs_runV (q0 := 0) SF cal_X9_check tw_606 (c_X9_check l D o ad cd tn td cs hd kd rt vl (upd hr t.toNatClampNeg ((hr t.toNatClampNeg) + (weF k (hr t.toNatClampNeg) (daysF td (si t.toNatClampNeg))))) hw cu si (vp_updL acc (cu t.toNatClampNeg).toNatClampNeg ((acc (cu t.toNatClampNeg).toNatClampNeg) + (((dpF k (vl t.toNatClampNeg)) - (priceF k (rt t.toNatClampNeg) (vl t.toNatClampNeg) (hr t.toNatClampNeg) (daysF td (si t.toNatClampNeg)))).toInt64))) st t ht k hk hkd (Or.inl hop) (hoursF k (hr t.toNatClampNeg) (daysF td (si t.toNatClampNeg))) pk_us) hK hP hD rfl rfl ⟨Nat.le_of_ble_eq_true rfl, Nat.le_of_ble_eq_true rfl⟩ rfl hl.1 rfl (Nat.le_of_ble_eq_true rfl) dX9_back_125 ⟨Nat.le_of_ble_eq_true rfl, Nat.le_of_ble_eq_true rfl⟩) hD hS hA (fun H locs hP hD hS => ?_)
      rw [bds_off (ckN k) hop] at hP hD
      refine lv_bipush (v := 9) hx hb dX9_back_128 (by decide) ?_
      refine lv_icmp_le (tgt := 137) hx hb dX9_back_130 (by decide) (fun c130 => ?_) (fun c130 => ?_)
      · refine lv_iconst (v := 0) hx hb dX9_back_137 (by decide) ?_
        refine va_iast hx hb hK hP hD hS 5 4 rfl rfl (ht) dX9_back_138 (fun H locs hP hD hS => ?_)
        have hP : va_P D hs_cl (mW o ad cd tn td cs hd kd rt vl (upd hr t.toNatClampNeg ((hr t.toNatClampNeg) + (weF k (hr t.toNatClampNeg) (daysF td (si t.toNatClampNeg))))) (upd hw t.toNatClampNeg 0) cu si (vp_updL acc (cu t.toNatClampNeg).toNatClampNeg ((acc (cu t.toNatClampNeg).toNatClampNeg) + (((dpF k (vl t.toNatClampNeg)) - (priceF k (rt t.toNatClampNeg) (vl t.toNatClampNeg) (hr t.toNatClampNeg) (daysF td (si t.toNatClampNeg)))).toInt64))) st) H := hP
        have hD : va_D A (mW o ad cd tn td cs hd kd rt vl (upd hr t.toNatClampNeg ((hr t.toNatClampNeg) + (weF k (hr t.toNatClampNeg) (daysF td (si t.toNatClampNeg))))) (upd hw t.toNatClampNeg 0) cu si (vp_updL acc (cu t.toNatClampNeg).toNatClampNeg ((acc (cu t.toNatClampNeg).toNatClampNeg) + (((dpF k (vl t.toNatClampNeg)) - (priceF k (rt t.toNatClampNeg) (vl t.toNatClampNeg) (hr t.toNatClampNeg) (daysF td (si t.toNatClampNeg)))).toInt64))) st) := hD
        refine lv_iload_n hx hb dX9_back_139 rfl (lv_at hl 0 rfl) ?_
        exact hs_iret hx hb hrt hlocks hK hP hD hS dX9_back_140 (rfl) (by unfold howF; first | (rw [if_pos c130]; rfl) | (rw [if_neg c130]; rfl))
      · refine lv_iconst (v := 2) hx hb dX9_back_133 (by decide) ?_
        refine lv_goto (tgt := 138) hx hb dX9_back_134 (by decide) ?_
        refine va_iast hx hb hK hP hD hS 5 4 rfl rfl (ht) dX9_back_138 (fun H locs hP hD hS => ?_)
        have hP : va_P D hs_cl (mW o ad cd tn td cs hd kd rt vl (upd hr t.toNatClampNeg ((hr t.toNatClampNeg) + (weF k (hr t.toNatClampNeg) (daysF td (si t.toNatClampNeg))))) (upd hw t.toNatClampNeg 2) cu si (vp_updL acc (cu t.toNatClampNeg).toNatClampNeg ((acc (cu t.toNatClampNeg).toNatClampNeg) + (((dpF k (vl t.toNatClampNeg)) - (priceF k (rt t.toNatClampNeg) (vl t.toNatClampNeg) (hr t.toNatClampNeg) (daysF td (si t.toNatClampNeg)))).toInt64))) st) H := hP
        have hD : va_D A (mW o ad cd tn td cs hd kd rt vl (upd hr t.toNatClampNeg ((hr t.toNatClampNeg) + (weF k (hr t.toNatClampNeg) (daysF td (si t.toNatClampNeg))))) (upd hw t.toNatClampNeg 2) cu si (vp_updL acc (cu t.toNatClampNeg).toNatClampNeg ((acc (cu t.toNatClampNeg).toNatClampNeg) + (((dpF k (vl t.toNatClampNeg)) - (priceF k (rt t.toNatClampNeg) (vl t.toNatClampNeg) (hr t.toNatClampNeg) (daysF td (si t.toNatClampNeg)))).toInt64))) st) := hD
        refine lv_iload_n hx hb dX9_back_139 rfl (lv_at hl 0 rfl) ?_
        exact hs_iret hx hb hrt hlocks hK hP hD hS dX9_back_140 (rfl) (by unfold howF; first | (rw [if_pos c130]; rfl) | (rw [if_neg c130]; rfl))

set_option maxHeartbeats 400000 in
set_option maxRecDepth 100000 in
theorem c_X9_service_no (l : Launch) (D : va_G) (o : Nat) (ad : Nat → Nat) (cd : Nat → ClassId) (tn td cs hd : Int32) (kd rt vl hr hw cu si : Nat → Int32) (acc : Nat → Int64) (st : TS) (t : Int32) (ht : vp_in t 24) (k : Nat) (hk : k < 7) (hkd : kd t.toNatClampNeg = nI k) (hop : st.2.1 = 0) (hT : ¬ wi t 0 (tn - 1) = 0) (hno : hw t.toNatClampNeg = 1) : CM l D yX9_service cX9_service 3 (some .int) { frames := 2, cells := 0, slots := 0, locals := 43 } (tyM cd) [.ref o, .int t] (mW o ad cd tn td cs hd kd rt vl hr hw cu si acc st) (hs_QI D (tyM cd) (-3) (mW o ad cd tn td cs hd kd rt vl hr hw cu si acc st)) := by
  refine CM.of (by decide) (Nat.le_of_ble_eq_true rfl) ?_
  intro p e s m below meth c A ls hx hb hrt hml htg hown hlocks hnm hA hK hP hD hS hl
  have hown : s.vm.findClass RX9 = some m.cls := hown
  have hl : lv_has ls 3 [(0, .ref o), (1, .int t)] := hl
  have SF : CallFix p m c cX9_service 3 s _ hs_gt RX9 := ⟨hx, hb, hml, hown, htg⟩
  refine lv_aload_n hx hb dX9_service_0 rfl (lv_at hl 0 rfl) ?_
  refine lv_iload_n hx hb dX9_service_1 rfl (lv_at hl 1 rfl) ?_
  refine hs_calli0 (w1 := (mW o ad cd tn td cs hd kd rt vl hr hw cu si acc st)) (hs_runV (q0 := 0) SF cal_X9_isTool tw_578 (c_X9_isTool l D o ad cd tn td cs hd kd rt vl hr hw cu si acc st t) hK hP hD rfl rfl ⟨Nat.le_of_ble_eq_true rfl, Nat.le_of_ble_eq_true rfl⟩ rfl hl.1 rfl (Nat.le_of_ble_eq_true rfl) dX9_service_2 ⟨Nat.le_of_ble_eq_true rfl, Nat.le_of_ble_eq_true rfl⟩) hD hS hA (fun H locs hP hD hS => ?_)
  refine lv_if_ne (tgt := 11) hx hb dX9_service_5 (by decide) (fun c5 => ?_) (fun c5 => absurd c5 (hT))
  refine lv_aload_n hx hb dX9_service_11 rfl (lv_at hl 0 rfl) ?_
  refine va_get (D := D) (ci := 9) (v := .ref (ad 5)) (C := RX9) (T := TX9) (N := 15) hx hb htg in_X9 hown hK hP 0 rfl rfl 5 (by decide) (htg _ tw_525) (fun _ h9 => h9) rfl dX9_service_12 ?_
  refine lv_iload_n hx hb dX9_service_15 rfl (lv_at hl 1 rfl) ?_
  refine va_iald hx hb hK hP 5 4 rfl rfl (ht) dX9_service_16 ?_
  refine lv_iconst (v := 1) hx hb dX9_service_17 (by decide) ?_
  refine lv_icmp_ne (tgt := 24) hx hb dX9_service_18 (by decide) (fun c18 => absurd c18 (fun q => q hno)) (fun c18 => ?_)
  refine lv_bipush (v := (-3)) hx hb dX9_service_21 (by decide) ?_
  exact hs_iret hx hb hrt hlocks hK hP hD hS dX9_service_23 (rfl) (rfl)

set_option maxHeartbeats 400000 in
set_option maxRecDepth 100000 in
theorem c_X9_service_ok (l : Launch) (D : va_G) (o : Nat) (ad : Nat → Nat) (cd : Nat → ClassId) (tn td cs hd : Int32) (kd rt vl hr hw cu si : Nat → Int32) (acc : Nat → Int64) (st : TS) (t : Int32) (ht : vp_in t 24) (k : Nat) (hk : k < 7) (hkd : kd t.toNatClampNeg = nI k) (hop : st.2.1 = 0) (hT : ¬ wi t 0 (tn - 1) = 0) (hyes : ¬ hw t.toNatClampNeg = 1) : CM l D yX9_service cX9_service 3 (some .int) { frames := 2, cells := 0, slots := 0, locals := 44 } (tyM cd) [.ref o, .int t] (mW o ad cd tn td cs hd kd rt vl hr hw cu si acc st) (hs_QI D (tyM cd) (100 + 50 * ckF k (hr t.toNatClampNeg)) (mW o ad cd tn td (cs + (100 + 50 * ckF k (hr t.toNatClampNeg))) hd kd rt vl (upd hr t.toNatClampNeg 0) (upd hw t.toNatClampNeg 0) cu si acc st)) := by
  refine CM.of (by decide) (Nat.le_of_ble_eq_true rfl) ?_
  intro p e s m below meth c A ls hx hb hrt hml htg hown hlocks hnm hA hK hP hD hS hl
  have hown : s.vm.findClass RX9 = some m.cls := hown
  have hl : lv_has ls 3 [(0, .ref o), (1, .int t)] := hl
  have SF : CallFix p m c cX9_service 3 s _ hs_gt RX9 := ⟨hx, hb, hml, hown, htg⟩
  refine lv_aload_n hx hb dX9_service_0 rfl (lv_at hl 0 rfl) ?_
  refine lv_iload_n hx hb dX9_service_1 rfl (lv_at hl 1 rfl) ?_
  refine hs_calli0 (w1 := (mW o ad cd tn td cs hd kd rt vl hr hw cu si acc st)) (hs_runV (q0 := 0) SF cal_X9_isTool tw_578 (c_X9_isTool l D o ad cd tn td cs hd kd rt vl hr hw cu si acc st t) hK hP hD rfl rfl ⟨Nat.le_of_ble_eq_true rfl, Nat.le_of_ble_eq_true rfl⟩ rfl hl.1 rfl (Nat.le_of_ble_eq_true rfl) dX9_service_2 ⟨Nat.le_of_ble_eq_true rfl, Nat.le_of_ble_eq_true rfl⟩) hD hS hA (fun H locs hP hD hS => ?_)
  refine lv_if_ne (tgt := 11) hx hb dX9_service_5 (by decide) (fun c5 => ?_) (fun c5 => absurd c5 (hT))
  refine lv_aload_n hx hb dX9_service_11 rfl (lv_at hl 0 rfl) ?_
  refine va_get (D := D) (ci := 9) (v := .ref (ad 5)) (C := RX9) (T := TX9) (N := 15) hx hb htg in_X9 hown hK hP 0 rfl rfl 5 (by decide) (htg _ tw_525) (fun _ h9 => h9) rfl dX9_service_12 ?_
  refine lv_iload_n hx hb dX9_service_15 rfl (lv_at hl 1 rfl) ?_
  refine va_iald hx hb hK hP 5 4 rfl rfl (ht) dX9_service_16 ?_
  refine lv_iconst (v := 1) hx hb dX9_service_17 (by decide) ?_
  refine lv_icmp_ne (tgt := 24) hx hb dX9_service_18 (by decide) (fun c18 => ?_) (fun c18 => absurd c18 (hyes))
  refine lv_bipush (v := 100) hx hb dX9_service_24 (by decide) ?_
  refine lv_bipush (v := 50) hx hb dX9_service_26 (by decide) ?_
  refine lv_aload_n hx hb dX9_service_28 rfl (lv_at hl 0 rfl) ?_
  refine lv_iload_n hx hb dX9_service_29 rfl (lv_at hl 1 rfl) ?_
  refine hs_calli0 (w1 := (mW o ad cd tn td cs hd kd rt vl hr hw cu si acc (bds (ckN k) st))) (hs_runV (q0 := 0) SF cal_X9_check tw_606 (c_X9_check l D o ad cd tn td cs hd kd rt vl hr hw cu si acc st t ht k hk hkd (Or.inl hop) (hr t.toNatClampNeg) rfl) hK hP hD rfl rfl ⟨Nat.le_of_ble_eq_true rfl, Nat.le_of_ble_eq_true rfl⟩ rfl hl.1 rfl (Nat.le_of_ble_eq_true rfl) dX9_service_30 ⟨Nat.le_of_ble_eq_true rfl, Nat.le_of_ble_eq_true rfl⟩) hD hS hA (fun H locs hP hD hS => ?_)
  rw [bds_off (ckN k) hop] at hP hD
  refine lv_imul hx hb dX9_service_33 ?_
  refine lv_iadd hx hb dX9_service_34 ?_
  refine lv_istore_n (lv' := [(2, .int (100 + (50 * (ckF k (hr t.toNatClampNeg))))), (0, .ref o), (1, .int t)]) hx hb dX9_service_35 rfl hl (by decide) rfl (fun ls hl => ?_)
  refine lv_aload_n hx hb dX9_service_36 rfl (lv_at hl 1 rfl) ?_
  refine va_get (D := D) (ci := 9) (v := .ref (ad 4)) (C := RX9) (T := TX9) (N := 15) hx hb htg in_X9 hown hK hP 0 rfl rfl 4 (by decide) (htg _ tw_524) (fun _ h9 => h9) rfl dX9_service_37 ?_
  refine lv_iload_n hx hb dX9_service_40 rfl (lv_at hl 2 rfl) ?_
  refine lv_iconst (v := 0) hx hb dX9_service_41 (by decide) ?_
  refine va_iast hx hb hK hP hD hS 4 3 rfl rfl (ht) dX9_service_42 (fun H locs hP hD hS => ?_)
  have hP : va_P D hs_cl (mW o ad cd tn td cs hd kd rt vl (upd hr t.toNatClampNeg 0) hw cu si acc st) H := hP
  have hD : va_D A (mW o ad cd tn td cs hd kd rt vl (upd hr t.toNatClampNeg 0) hw cu si acc st) := hD
  refine lv_aload_n hx hb dX9_service_43 rfl (lv_at hl 1 rfl) ?_
  refine va_get (D := D) (ci := 9) (v := .ref (ad 5)) (C := RX9) (T := TX9) (N := 15) hx hb htg in_X9 hown hK hP 0 rfl rfl 5 (by decide) (htg _ tw_525) (fun _ h9 => h9) rfl dX9_service_44 ?_
  refine lv_iload_n hx hb dX9_service_47 rfl (lv_at hl 2 rfl) ?_
  refine lv_iconst (v := 0) hx hb dX9_service_48 (by decide) ?_
  refine va_iast hx hb hK hP hD hS 5 4 rfl rfl (ht) dX9_service_49 (fun H locs hP hD hS => ?_)
  have hP : va_P D hs_cl (mW o ad cd tn td cs hd kd rt vl (upd hr t.toNatClampNeg 0) (upd hw t.toNatClampNeg 0) cu si acc st) H := hP
  have hD : va_D A (mW o ad cd tn td cs hd kd rt vl (upd hr t.toNatClampNeg 0) (upd hw t.toNatClampNeg 0) cu si acc st) := hD
  refine lv_aload_n hx hb dX9_service_50 rfl (lv_at hl 1 rfl) ?_
  refine lv_dup hx hb dX9_service_51 rfl ?_
  refine va_get (D := D) (ci := 9) (v := .int cs) (C := RX9) (T := TX9) (N := 15) hx hb htg in_X9 hown hK hP 0 rfl rfl 10 (by decide) (htg _ tw_530) (fun _ h9 => h9) rfl dX9_service_52 ?_
  refine lv_iload_n hx hb dX9_service_55 rfl (lv_at hl 0 rfl) ?_
  refine lv_iadd hx hb dX9_service_56 ?_
  refine va_put (D := D) (ci := 9) (v := .int (cs + (100 + (50 * (ckF k (hr t.toNatClampNeg)))))) (ty := .int) (C := RX9) (T := TX9) (N := 15) hx hb htg in_X9 tyX9 tyX9_ok nmX9 hown hK hP hD hS 0 rfl rfl 10 (by decide) (htg _ tw_530) (fun _ h9 => h9) rfl (by decide +kernel) rfl rfl (Nat.le_of_ble_eq_true rfl) dX9_service_57 (fun H locs hP hD hS => ?_)
  have hP : va_P D hs_cl (mW o ad cd tn td (cs + (100 + (50 * (ckF k (hr t.toNatClampNeg))))) hd kd rt vl (upd hr t.toNatClampNeg 0) (upd hw t.toNatClampNeg 0) cu si acc st) H := hP
  have hD : va_D A (mW o ad cd tn td (cs + (100 + (50 * (ckF k (hr t.toNatClampNeg))))) hd kd rt vl (upd hr t.toNatClampNeg 0) (upd hw t.toNatClampNeg 0) cu si acc st) := hD
  refine lv_iload_n hx hb dX9_service_60 rfl (lv_at hl 0 rfl) ?_
  exact hs_iret hx hb hrt hlocks hK hP hD hS dX9_service_61 (rfl) (rfl)

set_option maxHeartbeats 400000 in
set_option maxRecDepth 100000 in
theorem c_X9_day (l : Launch) (D : va_G) (o : Nat) (ad : Nat → Nat) (cd : Nat → ClassId) (tn td cs hd : Int32) (kd rt vl hr hw cu si : Nat → Int32) (acc : Nat → Int64) (st : TS) (n : Int32) : CM l D yX9_day cX9_day 2 (some .int) { frames := 1, cells := 0, slots := 0, locals := 22 } (tyM cd) [.ref o, .int n] (mW o ad cd tn td cs hd kd rt vl hr hw cu si acc st) (hs_QI D (tyM cd) (dayF td n) (mW o ad cd tn (dayT td n) cs hd kd rt vl hr hw cu si acc st)) := by
  refine CM.of (by decide) (Nat.le_of_ble_eq_true rfl) ?_
  intro p e s m below meth c A ls hx hb hrt hml htg hown hlocks hnm hA hK hP hD hS hl
  have hown : s.vm.findClass RX9 = some m.cls := hown
  have hl : lv_has ls 2 [(0, .ref o), (1, .int n)] := hl
  have SF : CallFix p m c cX9_day 2 s _ hs_gt RX9 := ⟨hx, hb, hml, hown, htg⟩
  refine lv_iload_n hx hb dX9_day_0 rfl (lv_at hl 1 rfl) ?_
  refine lv_iconst (v := 1) hx hb dX9_day_1 (by decide) ?_
  refine lv_bipush (v := 50) hx hb dX9_day_2 (by decide) ?_
  refine hs_calli0 (w1 := (mW o ad cd tn td cs hd kd rt vl hr hw cu si acc st)) (hs_runS SF cal_X9_in tw_570 (c_X9_in l D o ad cd tn td cs hd kd rt vl hr hw cu si acc st n 1 50) hK hP hD ⟨Nat.le_of_ble_eq_true rfl, Nat.le_of_ble_eq_true rfl⟩ rfl hl.1 rfl (Nat.le_of_ble_eq_true rfl) dX9_day_4 ⟨Nat.le_of_ble_eq_true rfl, Nat.le_of_ble_eq_true rfl⟩) hD hS hA (fun H locs hP hD hS => ?_)
  refine lv_if_ne (tgt := 13) hx hb dX9_day_7 (by decide) (fun c7 => ?_) (fun c7 => ?_)
  · refine lv_aload_n hx hb dX9_day_13 rfl (lv_at hl 0 rfl) ?_
    refine va_get (D := D) (ci := 9) (v := .int td) (C := RX9) (T := TX9) (N := 15) hx hb htg in_X9 hown hK hP 0 rfl rfl 9 (by decide) (htg _ tw_529) (fun _ h9 => h9) rfl dX9_day_14 ?_
    refine lv_iload_n hx hb dX9_day_17 rfl (lv_at hl 1 rfl) ?_
    refine lv_iadd hx hb dX9_day_18 ?_
    refine lv_sipush (v := 20000) hx hb dX9_day_19 (by decide) ?_
    refine lv_icmp_le (tgt := 28) hx hb dX9_day_22 (by decide) (fun c22 => ?_) (fun c22 => ?_)
    · refine lv_aload_n hx hb dX9_day_28 rfl (lv_at hl 0 rfl) ?_
      refine lv_dup hx hb dX9_day_29 rfl ?_
      refine va_get (D := D) (ci := 9) (v := .int td) (C := RX9) (T := TX9) (N := 15) hx hb htg in_X9 hown hK hP 0 rfl rfl 9 (by decide) (htg _ tw_529) (fun _ h9 => h9) rfl dX9_day_30 ?_
      refine lv_iload_n hx hb dX9_day_33 rfl (lv_at hl 1 rfl) ?_
      refine lv_iadd hx hb dX9_day_34 ?_
      refine va_put (D := D) (ci := 9) (v := .int (td + n)) (ty := .int) (C := RX9) (T := TX9) (N := 15) hx hb htg in_X9 tyX9 tyX9_ok nmX9 hown hK hP hD hS 0 rfl rfl 9 (by decide) (htg _ tw_529) (fun _ h9 => h9) rfl (by decide +kernel) rfl rfl (Nat.le_of_ble_eq_true rfl) dX9_day_35 (fun H locs hP hD hS => ?_)
      have hP : va_P D hs_cl (mW o ad cd tn (td + n) cs hd kd rt vl hr hw cu si acc st) H := hP
      have hD : va_D A (mW o ad cd tn (td + n) cs hd kd rt vl hr hw cu si acc st) := hD
      refine lv_aload_n hx hb dX9_day_38 rfl (lv_at hl 0 rfl) ?_
      refine va_get (D := D) (ci := 9) (v := .int (td + n)) (C := RX9) (T := TX9) (N := 15) hx hb htg in_X9 hown hK hP 0 rfl rfl 9 (by decide) (htg _ tw_529) (fun _ h9 => h9) rfl dX9_day_39 ?_
      exact hs_iret hx hb hrt hlocks hK hP hD hS dX9_day_42 (by unfold dayF; first | rw [if_pos c7] | rw [if_neg c7, if_pos c22] | rw [if_neg c7, if_neg c22]) (by unfold dayT; first | rw [if_pos c7] | rw [if_neg c7, if_pos c22] | rw [if_neg c7, if_neg c22])
    · refine lv_bipush (v := (-4)) hx hb dX9_day_25 (by decide) ?_
      exact hs_iret hx hb hrt hlocks hK hP hD hS dX9_day_27 (by unfold dayF; first | rw [if_pos c7] | rw [if_neg c7, if_pos c22] | rw [if_neg c7, if_neg c22]) (by unfold dayT; first | rw [if_pos c7] | rw [if_neg c7, if_pos c22] | rw [if_neg c7, if_neg c22])
  · refine lv_bipush (v := (-2)) hx hb dX9_day_10 (by decide) ?_
    exact hs_iret hx hb hrt hlocks hK hP hD hS dX9_day_12 (by unfold dayF; first | rw [if_pos c7] | rw [if_neg c7, if_pos c22] | rw [if_neg c7, if_neg c22]) (by unfold dayT; first | rw [if_pos c7] | rw [if_neg c7, if_pos c22] | rw [if_neg c7, if_neg c22])

set_option maxHeartbeats 400000 in
set_option maxRecDepth 100000 in
theorem c_X9_account (l : Launch) (D : va_G) (o : Nat) (ad : Nat → Nat) (cd : Nat → ClassId) (tn td cs hd : Int32) (kd rt vl hr hw cu si : Nat → Int32) (acc : Nat → Int64) (st : TS) (cm : Int32) : CM l D yX9_account cX9_account 2 (some .long) { frames := 1, cells := 0, slots := 0, locals := 22 } (tyM cd) [.ref o, .int cm] (mW o ad cd tn td cs hd kd rt vl hr hw cu si acc st) (hs_QL D (tyM cd) (accF acc cm) (mW o ad cd tn td cs hd kd rt vl hr hw cu si acc st)) := by
  refine CM.of (by decide) (Nat.le_of_ble_eq_true rfl) ?_
  intro p e s m below meth c A ls hx hb hrt hml htg hown hlocks hnm hA hK hP hD hS hl
  have hown : s.vm.findClass RX9 = some m.cls := hown
  have hl : lv_has ls 2 [(0, .ref o), (1, .int cm)] := hl
  have SF : CallFix p m c cX9_account 2 s _ hs_gt RX9 := ⟨hx, hb, hml, hown, htg⟩
  refine lv_iload_n hx hb dX9_account_0 rfl (lv_at hl 1 rfl) ?_
  refine lv_iconst (v := 0) hx hb dX9_account_1 (by decide) ?_
  refine lv_iconst (v := 5) hx hb dX9_account_2 (by decide) ?_
  refine hs_calli0 (w1 := (mW o ad cd tn td cs hd kd rt vl hr hw cu si acc st)) (hs_runS SF cal_X9_in tw_570 (c_X9_in l D o ad cd tn td cs hd kd rt vl hr hw cu si acc st cm 0 5) hK hP hD ⟨Nat.le_of_ble_eq_true rfl, Nat.le_of_ble_eq_true rfl⟩ rfl hl.1 rfl (Nat.le_of_ble_eq_true rfl) dX9_account_3 ⟨Nat.le_of_ble_eq_true rfl, Nat.le_of_ble_eq_true rfl⟩) hD hS hA (fun H locs hP hD hS => ?_)
  refine lv_if_eq (tgt := 18) hx hb dX9_account_6 (by decide) (fun c6 => ?_) (fun c6 => ?_)
  · refine lv_lconst (v := 0) hx hb dX9_account_18 (by decide) ?_
    exact hs_lret hx hb hrt hlocks hK hP hD hS dX9_account_19 (by unfold accF; first | rw [if_pos c6] | rw [if_neg c6]) (rfl)
  · refine lv_aload_n hx hb dX9_account_9 rfl (lv_at hl 0 rfl) ?_
    refine va_get (D := D) (ci := 9) (v := .ref (ad 8)) (C := RX9) (T := TX9) (N := 15) hx hb htg in_X9 hown hK hP 0 rfl rfl 8 (by decide) (htg _ tw_528) (fun _ h9 => h9) rfl dX9_account_10 ?_
    refine lv_iload_n hx hb dX9_account_13 rfl (lv_at hl 1 rfl) ?_
    refine va_lald hx hb hK hP 8 7 rfl rfl (wi_in (n := 5) (by decide) (by decide) c6) dX9_account_14 ?_
    refine lv_goto (tgt := 19) hx hb dX9_account_15 (by decide) ?_
    exact hs_lret hx hb hrt hlocks hK hP hD hS dX9_account_19 (by unfold accF; first | rw [if_pos c6] | rw [if_neg c6]) (rfl)

set_option maxHeartbeats 400000 in
set_option maxRecDepth 100000 in
theorem c_X9_told_some (l : Launch) (D : va_G) (o : Nat) (ad : Nat → Nat) (cd : Nat → ClassId) (tn td cs hd : Int32) (kd rt vl hr hw cu si : Nat → Int32) (acc : Nat → Int64) (st : TS) (t : Int32) (ht : vp_in t 24) (k : Nat) (hk : k < 7) (hkd : kd t.toNatClampNeg = nI k) (hop : st.2.1 = 0) (hT : ¬ wi t 0 (tn - 1) = 0) (w : Int32) : CM l D yX9_told cX9_told 3 (some .int) { frames := 2, cells := 0, slots := 0, locals := 43 } (tyM cd) [.ref o, .int t, .int w] (mW o ad cd tn td cs hd kd rt vl hr hw cu si acc st) (hs_QI D (tyM cd) (toldF k (kd t.toNatClampNeg) (hr t.toNatClampNeg) (hw t.toNatClampNeg) (if hw t.toNatClampNeg = 1 then cu t.toNatClampNeg else -1) (if hw t.toNatClampNeg = 1 then si t.toNatClampNeg else -1) w) (mW o ad cd tn td cs hd kd rt vl hr hw cu si acc st)) := by
  refine CM.of (by decide) (Nat.le_of_ble_eq_true rfl) ?_
  intro p e s m below meth c A ls hx hb hrt hml htg hown hlocks hnm hA hK hP hD hS hl
  have hown : s.vm.findClass RX9 = some m.cls := hown
  have hl : lv_has ls 3 [(0, .ref o), (1, .int t), (2, .int w)] := hl
  have SF : CallFix p m c cX9_told 3 s _ hs_gt RX9 := ⟨hx, hb, hml, hown, htg⟩
  refine lv_aload_n hx hb dX9_told_0 rfl (lv_at hl 0 rfl) ?_
  refine lv_iload_n hx hb dX9_told_1 rfl (lv_at hl 1 rfl) ?_
  refine hs_calli0 (w1 := (mW o ad cd tn td cs hd kd rt vl hr hw cu si acc st)) (hs_runV (q0 := 0) SF cal_X9_isTool tw_578 (c_X9_isTool l D o ad cd tn td cs hd kd rt vl hr hw cu si acc st t) hK hP hD rfl rfl ⟨Nat.le_of_ble_eq_true rfl, Nat.le_of_ble_eq_true rfl⟩ rfl hl.1 rfl (Nat.le_of_ble_eq_true rfl) dX9_told_2 ⟨Nat.le_of_ble_eq_true rfl, Nat.le_of_ble_eq_true rfl⟩) hD hS hA (fun H locs hP hD hS => ?_)
  refine lv_if_ne (tgt := 11) hx hb dX9_told_5 (by decide) (fun c5 => ?_) (fun c5 => absurd c5 (hT))
  refine lv_iload_n hx hb dX9_told_11 rfl (lv_at hl 2 rfl) ?_
  by_cases w0 : w = 0
  · subst w0
    refine lv_tableIn (off := 44) (tgt := 56) hx hb dX9_told_12 (by decide) (by decide) (by decide) (by decide) ?_
    refine lv_aload_n hx hb dX9_told_56 rfl (lv_at hl 0 rfl) ?_
    refine va_get (D := D) (ci := 9) (v := .ref (ad 1)) (C := RX9) (T := TX9) (N := 15) hx hb htg in_X9 hown hK hP 0 rfl rfl 1 (by decide) (htg _ tw_521) (fun _ h9 => h9) rfl dX9_told_57 ?_
    refine lv_iload_n hx hb dX9_told_60 rfl (lv_at hl 1 rfl) ?_
    refine va_iald hx hb hK hP 1 0 rfl rfl (ht) dX9_told_61 ?_
    exact hs_iret hx hb hrt hlocks hK hP hD hS dX9_told_62 (by simp [toldF, c5]) (rfl)
  by_cases w1 : w = 1
  · subst w1
    refine lv_tableIn (off := 51) (tgt := 63) hx hb dX9_told_12 (by decide) (by decide) (by decide) (by decide) ?_
    refine lv_aload_n hx hb dX9_told_63 rfl (lv_at hl 0 rfl) ?_
    refine va_get (D := D) (ci := 9) (v := .ref (ad 4)) (C := RX9) (T := TX9) (N := 15) hx hb htg in_X9 hown hK hP 0 rfl rfl 4 (by decide) (htg _ tw_524) (fun _ h9 => h9) rfl dX9_told_64 ?_
    refine lv_iload_n hx hb dX9_told_67 rfl (lv_at hl 1 rfl) ?_
    refine va_iald hx hb hK hP 4 3 rfl rfl (ht) dX9_told_68 ?_
    exact hs_iret hx hb hrt hlocks hK hP hD hS dX9_told_69 (by simp [toldF, c5]) (rfl)
  by_cases w2 : w = 2
  · subst w2
    refine lv_tableIn (off := 58) (tgt := 70) hx hb dX9_told_12 (by decide) (by decide) (by decide) (by decide) ?_
    refine lv_aload_n hx hb dX9_told_70 rfl (lv_at hl 0 rfl) ?_
    refine va_get (D := D) (ci := 9) (v := .ref (ad 5)) (C := RX9) (T := TX9) (N := 15) hx hb htg in_X9 hown hK hP 0 rfl rfl 5 (by decide) (htg _ tw_525) (fun _ h9 => h9) rfl dX9_told_71 ?_
    refine lv_iload_n hx hb dX9_told_74 rfl (lv_at hl 1 rfl) ?_
    refine va_iald hx hb hK hP 5 4 rfl rfl (ht) dX9_told_75 ?_
    exact hs_iret hx hb hrt hlocks hK hP hD hS dX9_told_76 (by simp [toldF, c5]) (rfl)
  by_cases w3 : w = 3
  · subst w3
    refine lv_tableIn (off := 65) (tgt := 77) hx hb dX9_told_12 (by decide) (by decide) (by decide) (by decide) ?_
    refine lv_aload_n hx hb dX9_told_77 rfl (lv_at hl 0 rfl) ?_
    refine va_get (D := D) (ci := 9) (v := .ref (ad 5)) (C := RX9) (T := TX9) (N := 15) hx hb htg in_X9 hown hK hP 0 rfl rfl 5 (by decide) (htg _ tw_525) (fun _ h9 => h9) rfl dX9_told_78 ?_
    refine lv_iload_n hx hb dX9_told_81 rfl (lv_at hl 1 rfl) ?_
    refine va_iald hx hb hK hP 5 4 rfl rfl (ht) dX9_told_82 ?_
    refine lv_iconst (v := 1) hx hb dX9_told_83 (by decide) ?_
    refine lv_icmp_ne (tgt := 96) hx hb dX9_told_84 (by decide) (fun c84 => ?_) (fun c84 => ?_)
    · refine lv_iconst (v := (-1)) hx hb dX9_told_96 (by decide) ?_
      exact hs_iret hx hb hrt hlocks hK hP hD hS dX9_told_97 (by simp [toldF, c5, c84]) (rfl)
    · refine lv_aload_n hx hb dX9_told_87 rfl (lv_at hl 0 rfl) ?_
      refine va_get (D := D) (ci := 9) (v := .ref (ad 6)) (C := RX9) (T := TX9) (N := 15) hx hb htg in_X9 hown hK hP 0 rfl rfl 6 (by decide) (htg _ tw_526) (fun _ h9 => h9) rfl dX9_told_88 ?_
      refine lv_iload_n hx hb dX9_told_91 rfl (lv_at hl 1 rfl) ?_
      refine va_iald hx hb hK hP 6 5 rfl rfl (ht) dX9_told_92 ?_
      refine lv_goto (tgt := 97) hx hb dX9_told_93 (by decide) ?_
      exact hs_iret hx hb hrt hlocks hK hP hD hS dX9_told_97 (by simp [toldF, c5, c84]) (rfl)
  by_cases w4 : w = 4
  · subst w4
    refine lv_tableIn (off := 86) (tgt := 98) hx hb dX9_told_12 (by decide) (by decide) (by decide) (by decide) ?_
    refine lv_aload_n hx hb dX9_told_98 rfl (lv_at hl 0 rfl) ?_
    refine va_get (D := D) (ci := 9) (v := .ref (ad 5)) (C := RX9) (T := TX9) (N := 15) hx hb htg in_X9 hown hK hP 0 rfl rfl 5 (by decide) (htg _ tw_525) (fun _ h9 => h9) rfl dX9_told_99 ?_
    refine lv_iload_n hx hb dX9_told_102 rfl (lv_at hl 1 rfl) ?_
    refine va_iald hx hb hK hP 5 4 rfl rfl (ht) dX9_told_103 ?_
    refine lv_iconst (v := 1) hx hb dX9_told_104 (by decide) ?_
    refine lv_icmp_ne (tgt := 117) hx hb dX9_told_105 (by decide) (fun c105 => ?_) (fun c105 => ?_)
    · refine lv_iconst (v := (-1)) hx hb dX9_told_117 (by decide) ?_
      exact hs_iret hx hb hrt hlocks hK hP hD hS dX9_told_118 (by simp [toldF, c5, c105]) (rfl)
    · refine lv_aload_n hx hb dX9_told_108 rfl (lv_at hl 0 rfl) ?_
      refine va_get (D := D) (ci := 9) (v := .ref (ad 7)) (C := RX9) (T := TX9) (N := 15) hx hb htg in_X9 hown hK hP 0 rfl rfl 7 (by decide) (htg _ tw_527) (fun _ h9 => h9) rfl dX9_told_109 ?_
      refine lv_iload_n hx hb dX9_told_112 rfl (lv_at hl 1 rfl) ?_
      refine va_iald hx hb hK hP 7 6 rfl rfl (ht) dX9_told_113 ?_
      refine lv_goto (tgt := 118) hx hb dX9_told_114 (by decide) ?_
      exact hs_iret hx hb hrt hlocks hK hP hD hS dX9_told_118 (by simp [toldF, c5, c105]) (rfl)
  by_cases w5 : w = 5
  · subst w5
    refine lv_tableIn (off := 107) (tgt := 119) hx hb dX9_told_12 (by decide) (by decide) (by decide) (by decide) ?_
    refine lv_aload_n hx hb dX9_told_119 rfl (lv_at hl 0 rfl) ?_
    refine lv_iload_n hx hb dX9_told_120 rfl (lv_at hl 1 rfl) ?_
    refine hs_calli0 (w1 := (mW o ad cd tn td cs hd kd rt vl hr hw cu si acc st)) (hs_runV (q0 := 0) SF cal_X9_isInsured tw_586 (c_X9_isInsured l D o ad cd tn td cs hd kd rt vl hr hw cu si acc st t ht k hk hkd ) hK hP hD rfl rfl ⟨Nat.le_of_ble_eq_true rfl, Nat.le_of_ble_eq_true rfl⟩ rfl hl.1 rfl (Nat.le_of_ble_eq_true rfl) dX9_told_121 ⟨Nat.le_of_ble_eq_true rfl, Nat.le_of_ble_eq_true rfl⟩) hD hS hA (fun H locs hP hD hS => ?_)
    refine lv_if_eq (tgt := 131) hx hb dX9_told_124 (by decide) (fun c124 => ?_) (fun c124 => ?_)
    · refine lv_iconst (v := 0) hx hb dX9_told_131 (by decide) ?_
      exact hs_iret hx hb hrt hlocks hK hP hD hS dX9_told_132 (by simp [toldF, c5, c124]) (rfl)
    · refine lv_iconst (v := 1) hx hb dX9_told_127 (by decide) ?_
      refine lv_goto (tgt := 132) hx hb dX9_told_128 (by decide) ?_
      exact hs_iret hx hb hrt hlocks hK hP hD hS dX9_told_132 (by simp [toldF, c5, c124]) (rfl)
  by_cases w6 : w = 6
  · subst w6
    refine lv_tableIn (off := 121) (tgt := 133) hx hb dX9_told_12 (by decide) (by decide) (by decide) (by decide) ?_
    refine lv_aload_n hx hb dX9_told_133 rfl (lv_at hl 0 rfl) ?_
    refine lv_iload_n hx hb dX9_told_134 rfl (lv_at hl 1 rfl) ?_
    refine hs_calli0 (w1 := (mW o ad cd tn td cs hd kd rt vl hr hw cu si acc st)) (hs_runV (q0 := 0) SF cal_X9_isServiced tw_590 (c_X9_isServiced l D o ad cd tn td cs hd kd rt vl hr hw cu si acc st t ht k hk hkd ) hK hP hD rfl rfl ⟨Nat.le_of_ble_eq_true rfl, Nat.le_of_ble_eq_true rfl⟩ rfl hl.1 rfl (Nat.le_of_ble_eq_true rfl) dX9_told_135 ⟨Nat.le_of_ble_eq_true rfl, Nat.le_of_ble_eq_true rfl⟩) hD hS hA (fun H locs hP hD hS => ?_)
    refine lv_if_eq (tgt := 145) hx hb dX9_told_138 (by decide) (fun c138 => ?_) (fun c138 => ?_)
    · refine lv_iconst (v := 0) hx hb dX9_told_145 (by decide) ?_
      exact hs_iret hx hb hrt hlocks hK hP hD hS dX9_told_146 (by simp [toldF, c5, c138]) (rfl)
    · refine lv_iconst (v := 1) hx hb dX9_told_141 (by decide) ?_
      refine lv_goto (tgt := 146) hx hb dX9_told_142 (by decide) ?_
      exact hs_iret hx hb hrt hlocks hK hP hD hS dX9_told_146 (by simp [toldF, c5, c138]) (rfl)
  refine lv_tableOut (tgt := 147) hx hb dX9_told_12 (by have := lv_neT w0 (a := 0) (by decide); have := lv_neT w1 (a := 1) (by decide); have := lv_neT w2 (a := 2) (by decide); have := lv_neT w3 (a := 3) (by decide); have := lv_neT w4 (a := 4) (by decide); have := lv_neT w5 (a := 5) (by decide); have := lv_neT w6 (a := 6) (by decide); omega) (by decide) ?_
  refine lv_bipush (v := (-2)) hx hb dX9_told_147 (by decide) ?_
  exact hs_iret hx hb hrt hlocks hK hP hD hS dX9_told_149 (by simp [toldF, c5, w0, w1, w2, w3, w4, w5, w6]) (rfl)

theorem cal_X9_ask : hs_cV yX9_ask cX9_ask 5 (some .int) 3 := ⟨tw_577, tw_575, tw_576, tw_19, by decide +kernel⟩

theorem cal_X9_hire : hs_cV yX9_hire cX9_hire 3 (some .int) 2 := ⟨tw_629, tw_627, tw_628, tw_19, by decide +kernel⟩

theorem cal_X9_back : hs_cV yX9_back cX9_back 4 (some .int) 1 := ⟨tw_637, tw_635, tw_636, tw_19, by decide +kernel⟩

theorem cal_X9_service : hs_cV yX9_service cX9_service 3 (some .int) 1 := ⟨tw_641, tw_639, tw_640, tw_19, by decide +kernel⟩

theorem cal_X9_told : hs_cV yX9_told cX9_told 3 (some .int) 2 := ⟨tw_653, tw_651, tw_652, tw_19, by decide +kernel⟩

theorem cal_X9_trace : hs_cV yX9_trace cX9_trace 2 (some .int) 1 := ⟨tw_625, tw_623, tw_624, tw_19, by decide +kernel⟩

theorem cal_X9_day : hs_cV yX9_day cX9_day 2 (some .int) 1 := ⟨tw_645, tw_643, tw_644, tw_19, by decide +kernel⟩

theorem cal_X9_account : hs_cV yX9_account cX9_account 2 (some .long) 1 := ⟨tw_649, tw_647, tw_648, tw_19, by decide +kernel⟩

