set_option maxHeartbeats 400000 in
set_option maxRecDepth 100000 in
theorem c_X5_due (l : Launch) (D : va_G) (cN cT cJ : ClassId) (h tr nb k : Nat) (kd rt vl hr hw cu si : Int32) (st : TS) (hst : okT st) (hk : k < 7) (d : Int32) : CM l D yX5_due cX5_due 2 (some .int) { frames := 3, cells := 0, slots := 0, locals := 63 } (tyS cN cT cJ) [.ref h, .int d] [(h, tlE k tr kd rt vl hr hw cu si), (tr, trE nb st), (nb, nbE cN st)] (hs_QI D (tyS cN cT cJ) (duF k hr d) [(h, tlE k tr kd rt vl hr hw cu si), (tr, trE nb (lvs (duN k) st)), (nb, nbE cN (lvs (duN k) st))]) := by
  refine CM.of (by decide) (Nat.le_of_ble_eq_true rfl) ?_
  intro p e s m below meth c A ls hx hb hrt hml htg hown hlocks hnm hA hK hP hD hS hl
  have hown : s.vm.findClass RX5 = some m.cls := hown
  have hl : lv_has ls 2 [(0, .ref h), (1, .int d)] := hl
  have SF : CallFix p m c cX5_due 2 s _ hs_gt RX5 := ⟨hx, hb, hml, hown, htg⟩
  refine lv_aload_n hx hb dX5_due_0 rfl (lv_at hl 0 rfl) ?_
  refine hs_calli0 (w1 := [(h, tlE k tr kd rt vl hr hw cu si), (tr, trE nb st), (nb, nbE cN st)]) (V_isServiced cN cT cJ h tr nb k hk kd rt vl hr hw cu si st hst  SF tw_426 hK hP hD ⟨Nat.le_of_ble_eq_true rfl, Nat.le_of_ble_eq_true rfl⟩ hl.1 (Nat.le_of_ble_eq_true rfl) dX5_due_1 ⟨Nat.le_of_ble_eq_true rfl, Nat.le_of_ble_eq_true rfl⟩) hD hS hA (fun H locs hP hD hS => ?_)
  refine lv_if_ne (tgt := 9) hx hb dX5_due_4 (by decide) (fun c4 => ?_) (fun c4 => ?_)
  · refine lv_aload_n hx hb dX5_due_9 rfl (lv_at hl 0 rfl) ?_
    refine va_get (D := D) (ci := (kc k)) (v := .ref tr) (C := (kR k)) (T := TX5) (N := 8) hx hb htg (kc_in k) hown hK hP 0 rfl (kc_cl k) 0 (by decide) (htg _ tw_99) (fun _ h9 => h9) rfl dX5_due_10 ?_
    refine lv_bipush (v := 43) hx hb dX5_due_13 (by decide) ?_
    refine hs_callv (wc := [(tr, trE nb st), (nb, nbE cN st)]) (w1 := [(tr, trE nb (lvT 43 st)), (nb, nbE cN (lvT 43 st))]) (wr := [(h, tlE k tr kd rt vl hr hw cu si)]) (ws2 := [(h, tlE k tr kd rt vl hr hw cu si), (tr, trE nb (lvT 43 st)), (nb, nbE cN (lvT 43 st))]) (hs_runV (q0 := 0) SF cal_X6_leave tw_326 (c_X6_leave l D cN cT cJ tr nb st hst 43) hK (hP.sub (ws' := [(tr, trE nb st), (nb, nbE cN st)]) [1, 2] rfl) (hD.sub (ws' := [(tr, trE nb st), (nb, nbE cN st)]) [1, 2] (by decide) rfl) rfl rfl ⟨Nat.le_of_ble_eq_true rfl, Nat.le_of_ble_eq_true rfl⟩ rfl hl.1 rfl (Nat.le_of_ble_eq_true rfl) dX5_due_15 ⟨Nat.le_of_ble_eq_true rfl, Nat.le_of_ble_eq_true rfl⟩) hP hD hS hA [1, 2] [0] [0, 1, 2] rfl rfl (by decide) (by decide) rfl (by decide) (fun H locs hP hD hS => ?_)
    refine lv_aload_n hx hb dX5_due_18 rfl (lv_at hl 0 rfl) ?_
    refine va_get (D := D) (ci := (kc k)) (v := .int hr) (C := (kR k)) (T := TX5) (N := 8) hx hb htg (kc_in k) hown hK hP 0 rfl (kc_cl k) 4 (by decide) (htg _ tw_120) (fun _ h9 => h9) rfl dX5_due_19 ?_
    refine lv_aload_n hx hb dX5_due_22 rfl (lv_at hl 0 rfl) ?_
    refine lv_iload_n hx hb dX5_due_23 rfl (lv_at hl 1 rfl) ?_
    refine hs_calli0 (w1 := [(h, tlE k tr kd rt vl hr hw cu si), (tr, trE nb (lvs (weN k) (lvT 43 st))), (nb, nbE cN (lvs (weN k) (lvT 43 st)))]) (V_wear cN cT cJ h tr nb k hk kd rt vl hr hw cu si (lvT 43 st) (okT_lv 43 hst) d SF tw_427 hK hP hD ⟨Nat.le_of_ble_eq_true rfl, Nat.le_of_ble_eq_true rfl⟩ hl.1 (Nat.le_of_ble_eq_true rfl) dX5_due_24 ⟨Nat.le_of_ble_eq_true rfl, Nat.le_of_ble_eq_true rfl⟩) hD hS hA (fun H locs hP hD hS => ?_)
    refine lv_iadd hx hb dX5_due_27 ?_
    refine lv_bipush (v := 60) hx hb dX5_due_28 (by decide) ?_
    refine lv_icmp_le (tgt := 37) hx hb dX5_due_30 (by decide) (fun c30 => ?_) (fun c30 => ?_)
    · refine lv_iconst (v := 0) hx hb dX5_due_37 (by decide) ?_
      exact hs_iret hx hb hrt hlocks hK hP hD hS dX5_due_38 (by unfold duF; first | (rw [if_pos c4]; done) | (rw [if_neg c4, if_pos c30]; done) | (rw [if_neg c4, if_neg c30]; done)) (by unfold duN; first | (rw [if_pos c4]; rfl) | (rw [if_neg c4]; rfl))
    · refine lv_iconst (v := 1) hx hb dX5_due_33 (by decide) ?_
      refine lv_goto (tgt := 38) hx hb dX5_due_34 (by decide) ?_
      exact hs_iret hx hb hrt hlocks hK hP hD hS dX5_due_38 (by unfold duF; first | (rw [if_pos c4]; done) | (rw [if_neg c4, if_pos c30]; done) | (rw [if_neg c4, if_neg c30]; done)) (by unfold duN; first | (rw [if_pos c4]; rfl) | (rw [if_neg c4]; rfl))
  · refine lv_iconst (v := 0) hx hb dX5_due_7 (by decide) ?_
    exact hs_iret hx hb hrt hlocks hK hP hD hS dX5_due_8 (by unfold duF; first | (rw [if_pos c4]; done) | (rw [if_neg c4, if_pos c30]; done) | (rw [if_neg c4, if_neg c30]; done)) (by unfold duN; first | (rw [if_pos c4]; rfl) | (rw [if_neg c4]; rfl))

set_option maxHeartbeats 400000 in
set_option maxRecDepth 100000 in
theorem c_X5_goOut (l : Launch) (D : va_G) (cN cT cJ : ClassId) (h tr nb k : Nat) (kd rt vl hr hw cu si : Int32) (st : TS) (hst : okT st) (cc td : Int32) : CM l D yX5_goOut cX5_goOut 3 none { frames := 0, cells := 0, slots := 0, locals := 0 } (tyS cN cT cJ) [.ref h, .int cc, .int td] [(h, tlE k tr kd rt vl hr hw cu si), (tr, trE nb st), (nb, nbE cN st)] (hs_QV D (tyS cN cT cJ) [(h, tlE k tr kd rt vl hr 1 cc td), (tr, trE nb st), (nb, nbE cN st)]) := by
  refine CM.of (by decide) (Nat.le_of_ble_eq_true rfl) ?_
  intro p e s m below meth c A ls hx hb hrt hml htg hown hlocks hnm hA hK hP hD hS hl
  have hown : s.vm.findClass RX5 = some m.cls := hown
  have hl : lv_has ls 3 [(0, .ref h), (1, .int cc), (2, .int td)] := hl
  have SF : CallFix p m c cX5_goOut 3 s _ hs_gt RX5 := ⟨hx, hb, hml, hown, htg⟩
  refine lv_aload_n hx hb dX5_goOut_0 rfl (lv_at hl 0 rfl) ?_
  refine lv_iconst (v := 1) hx hb dX5_goOut_1 (by decide) ?_
  refine va_put (D := D) (ci := (kc k)) (v := .int 1) (ty := .int) (C := (kR k)) (T := TX5) (N := 8) hx hb htg (kc_in k) tyX5 tyX5_ok nmX5 hown hK hP hD hS 0 rfl (kc_cl k) 5 (by decide) (htg _ tw_124) (fun _ h9 => h9) rfl (by decide +kernel) rfl rfl (Nat.le_of_ble_eq_true rfl) dX5_goOut_2 (fun H locs hP hD hS => ?_)
  have hP : va_P D hs_cl [(h, tlE k tr kd rt vl hr 1 cu si), (tr, trE nb st), (nb, nbE cN st)] H := hP
  have hD : va_D A [(h, tlE k tr kd rt vl hr 1 cu si), (tr, trE nb st), (nb, nbE cN st)] := hD
  refine lv_aload_n hx hb dX5_goOut_5 rfl (lv_at hl 0 rfl) ?_
  refine lv_iload_n hx hb dX5_goOut_6 rfl (lv_at hl 1 rfl) ?_
  refine va_put (D := D) (ci := (kc k)) (v := .int cc) (ty := .int) (C := (kR k)) (T := TX5) (N := 8) hx hb htg (kc_in k) tyX5 tyX5_ok nmX5 hown hK hP hD hS 0 rfl (kc_cl k) 6 (by decide) (htg _ tw_126) (fun _ h9 => h9) rfl (by decide +kernel) rfl rfl (Nat.le_of_ble_eq_true rfl) dX5_goOut_7 (fun H locs hP hD hS => ?_)
  have hP : va_P D hs_cl [(h, tlE k tr kd rt vl hr 1 cc si), (tr, trE nb st), (nb, nbE cN st)] H := hP
  have hD : va_D A [(h, tlE k tr kd rt vl hr 1 cc si), (tr, trE nb st), (nb, nbE cN st)] := hD
  refine lv_aload_n hx hb dX5_goOut_10 rfl (lv_at hl 0 rfl) ?_
  refine lv_iload_n hx hb dX5_goOut_11 rfl (lv_at hl 2 rfl) ?_
  refine va_put (D := D) (ci := (kc k)) (v := .int td) (ty := .int) (C := (kR k)) (T := TX5) (N := 8) hx hb htg (kc_in k) tyX5 tyX5_ok nmX5 hown hK hP hD hS 0 rfl (kc_cl k) 7 (by decide) (htg _ tw_128) (fun _ h9 => h9) rfl (by decide +kernel) rfl rfl (Nat.le_of_ble_eq_true rfl) dX5_goOut_12 (fun H locs hP hD hS => ?_)
  have hP : va_P D hs_cl [(h, tlE k tr kd rt vl hr 1 cc td), (tr, trE nb st), (nb, nbE cN st)] H := hP
  have hD : va_D A [(h, tlE k tr kd rt vl hr 1 cc td), (tr, trE nb st), (nb, nbE cN st)] := hD
  exact hs_vret hx hb hrt hlocks hK hP hD hS dX5_goOut_15 (rfl)

set_option maxHeartbeats 400000 in
set_option maxRecDepth 100000 in
theorem c_X5_renew (l : Launch) (D : va_G) (cN cT cJ : ClassId) (h tr nb k : Nat) (kd rt vl hr hw cu si : Int32) (st : TS) (hst : okT st) : CM l D yX5_renew cX5_renew 1 none { frames := 0, cells := 0, slots := 0, locals := 0 } (tyS cN cT cJ) [.ref h] [(h, tlE k tr kd rt vl hr hw cu si), (tr, trE nb st), (nb, nbE cN st)] (hs_QV D (tyS cN cT cJ) [(h, tlE k tr kd rt vl 0 0 cu si), (tr, trE nb st), (nb, nbE cN st)]) := by
  refine CM.of (by decide) (Nat.le_of_ble_eq_true rfl) ?_
  intro p e s m below meth c A ls hx hb hrt hml htg hown hlocks hnm hA hK hP hD hS hl
  have hown : s.vm.findClass RX5 = some m.cls := hown
  have hl : lv_has ls 1 [(0, .ref h)] := hl
  have SF : CallFix p m c cX5_renew 1 s _ hs_gt RX5 := ⟨hx, hb, hml, hown, htg⟩
  refine lv_aload_n hx hb dX5_renew_0 rfl (lv_at hl 0 rfl) ?_
  refine lv_iconst (v := 0) hx hb dX5_renew_1 (by decide) ?_
  refine va_put (D := D) (ci := (kc k)) (v := .int 0) (ty := .int) (C := (kR k)) (T := TX5) (N := 8) hx hb htg (kc_in k) tyX5 tyX5_ok nmX5 hown hK hP hD hS 0 rfl (kc_cl k) 4 (by decide) (htg _ tw_120) (fun _ h9 => h9) rfl (by decide +kernel) rfl rfl (Nat.le_of_ble_eq_true rfl) dX5_renew_2 (fun H locs hP hD hS => ?_)
  have hP : va_P D hs_cl [(h, tlE k tr kd rt vl 0 hw cu si), (tr, trE nb st), (nb, nbE cN st)] H := hP
  have hD : va_D A [(h, tlE k tr kd rt vl 0 hw cu si), (tr, trE nb st), (nb, nbE cN st)] := hD
  refine lv_aload_n hx hb dX5_renew_5 rfl (lv_at hl 0 rfl) ?_
  refine lv_iconst (v := 0) hx hb dX5_renew_6 (by decide) ?_
  refine va_put (D := D) (ci := (kc k)) (v := .int 0) (ty := .int) (C := (kR k)) (T := TX5) (N := 8) hx hb htg (kc_in k) tyX5 tyX5_ok nmX5 hown hK hP hD hS 0 rfl (kc_cl k) 5 (by decide) (htg _ tw_124) (fun _ h9 => h9) rfl (by decide +kernel) rfl rfl (Nat.le_of_ble_eq_true rfl) dX5_renew_7 (fun H locs hP hD hS => ?_)
  have hP : va_P D hs_cl [(h, tlE k tr kd rt vl 0 0 cu si), (tr, trE nb st), (nb, nbE cN st)] H := hP
  have hD : va_D A [(h, tlE k tr kd rt vl 0 0 cu si), (tr, trE nb st), (nb, nbE cN st)] := hD
  exact hs_vret hx hb hrt hlocks hK hP hD hS dX5_renew_10 (rfl)

def cbN (k : Nat) : List Int32 := weN k ++ ckN k
theorem lvs_app (a b : List Int32) (st : TS) : lvs b (lvs a st) = lvs (a ++ b) st := by simp [lvs]

set_option maxHeartbeats 400000 in
set_option maxRecDepth 100000 in
theorem c_X5_comeBack (l : Launch) (D : va_G) (cN cT cJ : ClassId) (h tr nb k : Nat) (kd rt vl hr hw cu si : Int32) (st : TS) (hst : okT st) (hk : k < 7) (d : Int32) : CM l D yX5_comeBack cX5_comeBack 2 none { frames := 4, cells := 0, slots := 0, locals := 81 } (tyS cN cT cJ) [.ref h, .int d] [(h, tlE k tr kd rt vl hr hw cu si), (tr, trE nb st), (nb, nbE cN st)] (hs_QV D (tyS cN cT cJ) [(h, tlE k tr kd rt vl (hr + weF k hr d) (if ckF k (hr + weF k hr d) ≤ 9 then 0 else 2) (-1) (-1)), (tr, trE nb (lvs (cbN k) st)), (nb, nbE cN (lvs (cbN k) st))]) := by
  refine CM.of (by decide) (Nat.le_of_ble_eq_true rfl) ?_
  intro p e s m below meth c A ls hx hb hrt hml htg hown hlocks hnm hA hK hP hD hS hl
  have hown : s.vm.findClass RX5 = some m.cls := hown
  have hl : lv_has ls 2 [(0, .ref h), (1, .int d)] := hl
  have SF : CallFix p m c cX5_comeBack 2 s _ hs_gt RX5 := ⟨hx, hb, hml, hown, htg⟩
  refine lv_aload_n hx hb dX5_comeBack_0 rfl (lv_at hl 0 rfl) ?_
  refine lv_iconst (v := (-1)) hx hb dX5_comeBack_1 (by decide) ?_
  refine va_put (D := D) (ci := (kc k)) (v := .int (-1)) (ty := .int) (C := (kR k)) (T := TX5) (N := 8) hx hb htg (kc_in k) tyX5 tyX5_ok nmX5 hown hK hP hD hS 0 rfl (kc_cl k) 6 (by decide) (htg _ tw_126) (fun _ h9 => h9) rfl (by decide +kernel) rfl rfl (Nat.le_of_ble_eq_true rfl) dX5_comeBack_2 (fun H locs hP hD hS => ?_)
  have hP : va_P D hs_cl [(h, tlE k tr kd rt vl hr hw (-1) si), (tr, trE nb st), (nb, nbE cN st)] H := hP
  have hD : va_D A [(h, tlE k tr kd rt vl hr hw (-1) si), (tr, trE nb st), (nb, nbE cN st)] := hD
  refine lv_aload_n hx hb dX5_comeBack_5 rfl (lv_at hl 0 rfl) ?_
  refine lv_iconst (v := (-1)) hx hb dX5_comeBack_6 (by decide) ?_
  refine va_put (D := D) (ci := (kc k)) (v := .int (-1)) (ty := .int) (C := (kR k)) (T := TX5) (N := 8) hx hb htg (kc_in k) tyX5 tyX5_ok nmX5 hown hK hP hD hS 0 rfl (kc_cl k) 7 (by decide) (htg _ tw_128) (fun _ h9 => h9) rfl (by decide +kernel) rfl rfl (Nat.le_of_ble_eq_true rfl) dX5_comeBack_7 (fun H locs hP hD hS => ?_)
  have hP : va_P D hs_cl [(h, tlE k tr kd rt vl hr hw (-1) (-1)), (tr, trE nb st), (nb, nbE cN st)] H := hP
  have hD : va_D A [(h, tlE k tr kd rt vl hr hw (-1) (-1)), (tr, trE nb st), (nb, nbE cN st)] := hD
  refine lv_aload_n hx hb dX5_comeBack_10 rfl (lv_at hl 0 rfl) ?_
  refine lv_dup hx hb dX5_comeBack_11 rfl ?_
  refine va_get (D := D) (ci := (kc k)) (v := .int hr) (C := (kR k)) (T := TX5) (N := 8) hx hb htg (kc_in k) hown hK hP 0 rfl (kc_cl k) 4 (by decide) (htg _ tw_120) (fun _ h9 => h9) rfl dX5_comeBack_12 ?_
  refine lv_aload_n hx hb dX5_comeBack_15 rfl (lv_at hl 0 rfl) ?_
  refine lv_iload_n hx hb dX5_comeBack_16 rfl (lv_at hl 1 rfl) ?_
  refine hs_calli0 (w1 := [(h, tlE k tr kd rt vl hr hw (-1) (-1)), (tr, trE nb (lvs (weN k) st)), (nb, nbE cN (lvs (weN k) st))]) (V_wear cN cT cJ h tr nb k hk kd rt vl hr hw (-1) (-1) st hst d SF tw_427 hK hP hD ⟨Nat.le_of_ble_eq_true rfl, Nat.le_of_ble_eq_true rfl⟩ hl.1 (Nat.le_of_ble_eq_true rfl) dX5_comeBack_17 ⟨Nat.le_of_ble_eq_true rfl, Nat.le_of_ble_eq_true rfl⟩) hD hS hA (fun H locs hP hD hS => ?_)
  refine lv_iadd hx hb dX5_comeBack_20 ?_
  refine va_put (D := D) (ci := (kc k)) (v := .int (hr + (weF k hr d))) (ty := .int) (C := (kR k)) (T := TX5) (N := 8) hx hb htg (kc_in k) tyX5 tyX5_ok nmX5 hown hK hP hD hS 0 rfl (kc_cl k) 4 (by decide) (htg _ tw_120) (fun _ h9 => h9) rfl (by decide +kernel) rfl rfl (Nat.le_of_ble_eq_true rfl) dX5_comeBack_21 (fun H locs hP hD hS => ?_)
  have hP : va_P D hs_cl [(h, tlE k tr kd rt vl (hr + (weF k hr d)) hw (-1) (-1)), (tr, trE nb (lvs (weN k) st)), (nb, nbE cN (lvs (weN k) st))] H := hP
  have hD : va_D A [(h, tlE k tr kd rt vl (hr + (weF k hr d)) hw (-1) (-1)), (tr, trE nb (lvs (weN k) st)), (nb, nbE cN (lvs (weN k) st))] := hD
  refine lv_aload_n hx hb dX5_comeBack_24 rfl (lv_at hl 0 rfl) ?_
  refine lv_aload_n hx hb dX5_comeBack_25 rfl (lv_at hl 0 rfl) ?_
  refine hs_calli0 (w1 := [(h, tlE k tr kd rt vl (hr + (weF k hr d)) hw (-1) (-1)), (tr, trE nb (lvs (ckN k) (lvs (weN k) st))), (nb, nbE cN (lvs (ckN k) (lvs (weN k) st)))]) (V_check cN cT cJ h tr nb k hk kd rt vl (hr + (weF k hr d)) hw (-1) (-1) (lvs (weN k) st) (okT_lvs (weN k) hst)  SF tw_478 hK hP hD ⟨Nat.le_of_ble_eq_true rfl, Nat.le_of_ble_eq_true rfl⟩ hl.1 (Nat.le_of_ble_eq_true rfl) dX5_comeBack_26 ⟨Nat.le_of_ble_eq_true rfl, Nat.le_of_ble_eq_true rfl⟩) hD hS hA (fun H locs hP hD hS => ?_)
  refine lv_bipush (v := 9) hx hb dX5_comeBack_29 (by decide) ?_
  refine lv_icmp_le (tgt := 38) hx hb dX5_comeBack_31 (by decide) (fun c31 => ?_) (fun c31 => ?_)
  · refine lv_iconst (v := 0) hx hb dX5_comeBack_38 (by decide) ?_
    refine va_put (D := D) (ci := (kc k)) (v := .int 0) (ty := .int) (C := (kR k)) (T := TX5) (N := 8) hx hb htg (kc_in k) tyX5 tyX5_ok nmX5 hown hK hP hD hS 0 rfl (kc_cl k) 5 (by decide) (htg _ tw_124) (fun _ h9 => h9) rfl (by decide +kernel) rfl rfl (Nat.le_of_ble_eq_true rfl) dX5_comeBack_39 (fun H locs hP hD hS => ?_)
    have hP : va_P D hs_cl [(h, tlE k tr kd rt vl (hr + (weF k hr d)) 0 (-1) (-1)), (tr, trE nb (lvs (ckN k) (lvs (weN k) st))), (nb, nbE cN (lvs (ckN k) (lvs (weN k) st)))] H := hP
    have hD : va_D A [(h, tlE k tr kd rt vl (hr + (weF k hr d)) 0 (-1) (-1)), (tr, trE nb (lvs (ckN k) (lvs (weN k) st))), (nb, nbE cN (lvs (ckN k) (lvs (weN k) st)))] := hD
    exact hs_vret hx hb hrt hlocks hK hP hD hS dX5_comeBack_42 (by rw [lvs_app]; first | (rw [if_pos c31]; rfl) | (rw [if_neg c31]; rfl))
  · refine lv_iconst (v := 2) hx hb dX5_comeBack_34 (by decide) ?_
    refine lv_goto (tgt := 39) hx hb dX5_comeBack_35 (by decide) ?_
    refine va_put (D := D) (ci := (kc k)) (v := .int 2) (ty := .int) (C := (kR k)) (T := TX5) (N := 8) hx hb htg (kc_in k) tyX5 tyX5_ok nmX5 hown hK hP hD hS 0 rfl (kc_cl k) 5 (by decide) (htg _ tw_124) (fun _ h9 => h9) rfl (by decide +kernel) rfl rfl (Nat.le_of_ble_eq_true rfl) dX5_comeBack_39 (fun H locs hP hD hS => ?_)
    have hP : va_P D hs_cl [(h, tlE k tr kd rt vl (hr + (weF k hr d)) 2 (-1) (-1)), (tr, trE nb (lvs (ckN k) (lvs (weN k) st))), (nb, nbE cN (lvs (ckN k) (lvs (weN k) st)))] H := hP
    have hD : va_D A [(h, tlE k tr kd rt vl (hr + (weF k hr d)) 2 (-1) (-1)), (tr, trE nb (lvs (ckN k) (lvs (weN k) st))), (nb, nbE cN (lvs (ckN k) (lvs (weN k) st)))] := hD
    exact hs_vret hx hb hrt hlocks hK hP hD hS dX5_comeBack_42 (by rw [lvs_app]; first | (rw [if_pos c31]; rfl) | (rw [if_neg c31]; rfl))

theorem cu_due_0 : hs_cU RX5 "HireShed$Tool" ⟨"HireShed$Tool", "due", "(I)I"⟩ yX5_due cX5_due 2 (some .int) 1 := ⟨tw_425, tw_416, tw_417, tw_20, tw_418, tw_416, ⟨_, _, _, tw_425⟩, by decide +kernel⟩

theorem cu_due_1 : hs_cU RX2 "HireShed$Tool" ⟨"HireShed$Tool", "due", "(I)I"⟩ yX5_due cX5_due 2 (some .int) 1 := ⟨tw_425, tw_416, tw_421, tw_20, tw_418, tw_416, ⟨_, _, _, tw_425⟩, by decide +kernel⟩

theorem cu_due_2 : hs_cU RX4 "HireShed$Tool" ⟨"HireShed$Tool", "due", "(I)I"⟩ yX5_due cX5_due 2 (some .int) 1 := ⟨tw_425, tw_416, tw_423, tw_20, tw_418, tw_416, ⟨_, _, _, tw_425⟩, by decide +kernel⟩

theorem cu_due_3 : hs_cU RX0 "HireShed$Tool" ⟨"HireShed$Tool", "due", "(I)I"⟩ yX5_due cX5_due 2 (some .int) 1 := ⟨tw_425, tw_416, tw_419, tw_20, tw_418, tw_416, ⟨_, _, _, tw_425⟩, by decide +kernel⟩

theorem cu_due_4 : hs_cU RX7 "HireShed$Tool" ⟨"HireShed$Tool", "due", "(I)I"⟩ yX5_due cX5_due 2 (some .int) 1 := ⟨tw_425, tw_416, tw_424, tw_20, tw_418, tw_416, ⟨_, _, _, tw_425⟩, by decide +kernel⟩

theorem cu_due_5 : hs_cU RX3 "HireShed$Tool" ⟨"HireShed$Tool", "due", "(I)I"⟩ yX5_due cX5_due 2 (some .int) 1 := ⟨tw_425, tw_416, tw_422, tw_20, tw_418, tw_416, ⟨_, _, _, tw_425⟩, by decide +kernel⟩

theorem cu_due_6 : hs_cU RX1 "HireShed$Tool" ⟨"HireShed$Tool", "due", "(I)I"⟩ yX5_due cX5_due 2 (some .int) 1 := ⟨tw_425, tw_416, tw_420, tw_20, tw_418, tw_416, ⟨_, _, _, tw_425⟩, by decide +kernel⟩

set_option maxHeartbeats 400000 in
set_option maxRecDepth 100000 in
theorem V_due {p : Program} {l : Launch} {e : Env} {R : Room} {s : State} {m : MethodId} {args : Array Value} {below : List Frame} {meth : Method} {c : Code} {H : Heap} {locs : List Loc} {cells slots nL index pc : Nat} {cc0 : ByteArray} {own : String} {ls : Array Slot} {rest : List Value} {D : va_G} {A : Nat → Prop} (cN cT cJ : ClassId) (h tr nb k : Nat) (hk : k < 7) (kd rt vl hr hw cu si : Int32) (st : TS) (hst : okT st) (d : Int32) (SF : CallFix p m c cc0 nL s args hs_gt own) (hlink : Cond.methodLink own index ⟨"HireShed$Tool", "due", "(I)I"⟩ ∈ hs_gt) (hK : va_K D hs_cl (tyS cN cT cJ) s) (hP : va_P D hs_cl [(h, tlE k tr kd rt vl hr hw cu si), (tr, trE nb st), (nb, nbE cN st)] H) (hD : va_D A [(h, tlE k tr kd rt vl hr hw cu si), (tr, trE nb st), (nb, nbE cN st)]) (hR : 4 ≤ R.frames ∧ 84 ≤ R.locals) (hsize : ls.size = nL) (hW : (rest.map fun v => v.category).sum ≤ 8) (hdg : decode cc0 pc = .ok (.invokevirtual index, 3)) (hf : cells ≤ R.cells ∧ slots ≤ R.slots) :
    va_Run p l e R s m args below meth c H locs cells slots 0 0 (F0 m pc ls (.int d :: .ref h :: rest)) rest (hs_QI D (tyS cN cT cJ) (duF k hr d) [(h, tlE k tr kd rt vl hr hw cu si), (tr, trE nb (lvs (duN k) st)), (nb, nbE cN (lvs (duN k) st))] (va_A [(h, tlE k tr kd rt vl hr hw cu si), (tr, trE nb st), (nb, nbE cN st)] H.size) (Value.ref h :: [.int d]).toArray) (va_A [(h, tlE k tr kd rt vl hr hw cu si), (tr, trE nb st), (nb, nbE cN st)] H.size) := by
  match k, hk with

  | 0, hk => exact hs_runU (q0 := 0) (ci := 5) (T := TX5) (N := 8) SF cu_due_0 hlink (c_X5_due l D cN cT cJ h tr nb 0 kd rt vl hr hw cu si st hst hk d) hK hP hD rfl rfl ⟨Nat.le_trans (Nat.le_of_ble_eq_true rfl) hR.1, Nat.le_trans (Nat.le_of_ble_eq_true rfl) hR.2⟩ rfl hsize rfl hW hdg hf

  | 1, hk => exact hs_runU (q0 := 0) (ci := 2) (T := TX5) (N := 8) SF cu_due_1 hlink (c_X5_due l D cN cT cJ h tr nb 1 kd rt vl hr hw cu si st hst hk d) hK hP hD rfl rfl ⟨Nat.le_trans (Nat.le_of_ble_eq_true rfl) hR.1, Nat.le_trans (Nat.le_of_ble_eq_true rfl) hR.2⟩ rfl hsize rfl hW hdg hf

  | 2, hk => exact hs_runU (q0 := 0) (ci := 4) (T := TX5) (N := 8) SF cu_due_2 hlink (c_X5_due l D cN cT cJ h tr nb 2 kd rt vl hr hw cu si st hst hk d) hK hP hD rfl rfl ⟨Nat.le_trans (Nat.le_of_ble_eq_true rfl) hR.1, Nat.le_trans (Nat.le_of_ble_eq_true rfl) hR.2⟩ rfl hsize rfl hW hdg hf

  | 3, hk => exact hs_runU (q0 := 0) (ci := 0) (T := TX5) (N := 8) SF cu_due_3 hlink (c_X5_due l D cN cT cJ h tr nb 3 kd rt vl hr hw cu si st hst hk d) hK hP hD rfl rfl ⟨Nat.le_trans (Nat.le_of_ble_eq_true rfl) hR.1, Nat.le_trans (Nat.le_of_ble_eq_true rfl) hR.2⟩ rfl hsize rfl hW hdg hf

  | 4, hk => exact hs_runU (q0 := 0) (ci := 7) (T := TX5) (N := 8) SF cu_due_4 hlink (c_X5_due l D cN cT cJ h tr nb 4 kd rt vl hr hw cu si st hst hk d) hK hP hD rfl rfl ⟨Nat.le_trans (Nat.le_of_ble_eq_true rfl) hR.1, Nat.le_trans (Nat.le_of_ble_eq_true rfl) hR.2⟩ rfl hsize rfl hW hdg hf

  | 5, hk => exact hs_runU (q0 := 0) (ci := 3) (T := TX5) (N := 8) SF cu_due_5 hlink (c_X5_due l D cN cT cJ h tr nb 5 kd rt vl hr hw cu si st hst hk d) hK hP hD rfl rfl ⟨Nat.le_trans (Nat.le_of_ble_eq_true rfl) hR.1, Nat.le_trans (Nat.le_of_ble_eq_true rfl) hR.2⟩ rfl hsize rfl hW hdg hf

  | 6, hk => exact hs_runU (q0 := 0) (ci := 1) (T := TX5) (N := 8) SF cu_due_6 hlink (c_X5_due l D cN cT cJ h tr nb 6 kd rt vl hr hw cu si st hst hk d) hK hP hD rfl rfl ⟨Nat.le_trans (Nat.le_of_ble_eq_true rfl) hR.1, Nat.le_trans (Nat.le_of_ble_eq_true rfl) hR.2⟩ rfl hsize rfl hW hdg hf

  | k + 7, hk => exact absurd hk (by omega)

theorem cu_goOut_0 : hs_cU RX5 "HireShed$Tool" ⟨"HireShed$Tool", "goOut", "(II)V"⟩ yX5_goOut cX5_goOut 3 none 2 := ⟨tw_461, tw_452, tw_453, tw_20, tw_454, tw_452, ⟨_, _, _, tw_461⟩, by decide +kernel⟩

theorem cu_goOut_1 : hs_cU RX2 "HireShed$Tool" ⟨"HireShed$Tool", "goOut", "(II)V"⟩ yX5_goOut cX5_goOut 3 none 2 := ⟨tw_461, tw_452, tw_457, tw_20, tw_454, tw_452, ⟨_, _, _, tw_461⟩, by decide +kernel⟩

theorem cu_goOut_2 : hs_cU RX4 "HireShed$Tool" ⟨"HireShed$Tool", "goOut", "(II)V"⟩ yX5_goOut cX5_goOut 3 none 2 := ⟨tw_461, tw_452, tw_459, tw_20, tw_454, tw_452, ⟨_, _, _, tw_461⟩, by decide +kernel⟩

theorem cu_goOut_3 : hs_cU RX0 "HireShed$Tool" ⟨"HireShed$Tool", "goOut", "(II)V"⟩ yX5_goOut cX5_goOut 3 none 2 := ⟨tw_461, tw_452, tw_455, tw_20, tw_454, tw_452, ⟨_, _, _, tw_461⟩, by decide +kernel⟩

theorem cu_goOut_4 : hs_cU RX7 "HireShed$Tool" ⟨"HireShed$Tool", "goOut", "(II)V"⟩ yX5_goOut cX5_goOut 3 none 2 := ⟨tw_461, tw_452, tw_460, tw_20, tw_454, tw_452, ⟨_, _, _, tw_461⟩, by decide +kernel⟩

theorem cu_goOut_5 : hs_cU RX3 "HireShed$Tool" ⟨"HireShed$Tool", "goOut", "(II)V"⟩ yX5_goOut cX5_goOut 3 none 2 := ⟨tw_461, tw_452, tw_458, tw_20, tw_454, tw_452, ⟨_, _, _, tw_461⟩, by decide +kernel⟩

theorem cu_goOut_6 : hs_cU RX1 "HireShed$Tool" ⟨"HireShed$Tool", "goOut", "(II)V"⟩ yX5_goOut cX5_goOut 3 none 2 := ⟨tw_461, tw_452, tw_456, tw_20, tw_454, tw_452, ⟨_, _, _, tw_461⟩, by decide +kernel⟩

set_option maxHeartbeats 400000 in
set_option maxRecDepth 100000 in
theorem V_goOut {p : Program} {l : Launch} {e : Env} {R : Room} {s : State} {m : MethodId} {args : Array Value} {below : List Frame} {meth : Method} {c : Code} {H : Heap} {locs : List Loc} {cells slots nL index pc : Nat} {cc0 : ByteArray} {own : String} {ls : Array Slot} {rest : List Value} {D : va_G} {A : Nat → Prop} (cN cT cJ : ClassId) (h tr nb k : Nat) (hk : k < 7) (kd rt vl hr hw cu si : Int32) (st : TS) (hst : okT st) (cc : Int32) (td : Int32) (SF : CallFix p m c cc0 nL s args hs_gt own) (hlink : Cond.methodLink own index ⟨"HireShed$Tool", "goOut", "(II)V"⟩ ∈ hs_gt) (hK : va_K D hs_cl (tyS cN cT cJ) s) (hP : va_P D hs_cl [(h, tlE k tr kd rt vl hr hw cu si), (tr, trE nb st), (nb, nbE cN st)] H) (hD : va_D A [(h, tlE k tr kd rt vl hr hw cu si), (tr, trE nb st), (nb, nbE cN st)]) (hR : 1 ≤ R.frames ∧ 22 ≤ R.locals) (hsize : ls.size = nL) (hW : (rest.map fun v => v.category).sum ≤ 8) (hdg : decode cc0 pc = .ok (.invokevirtual index, 3)) (hf : cells ≤ R.cells ∧ slots ≤ R.slots) :
    va_Run p l e R s m args below meth c H locs cells slots 0 0 (F0 m pc ls (.int td :: .int cc :: .ref h :: rest)) rest (hs_QV D (tyS cN cT cJ) [(h, tlE k tr kd rt vl hr 1 cc td), (tr, trE nb st), (nb, nbE cN st)] (va_A [(h, tlE k tr kd rt vl hr hw cu si), (tr, trE nb st), (nb, nbE cN st)] H.size) (Value.ref h :: [.int cc, .int td]).toArray) (va_A [(h, tlE k tr kd rt vl hr hw cu si), (tr, trE nb st), (nb, nbE cN st)] H.size) := by
  match k, hk with

  | 0, hk => exact hs_runU (q0 := 0) (ci := 5) (T := TX5) (N := 8) SF cu_goOut_0 hlink (c_X5_goOut l D cN cT cJ h tr nb 0 kd rt vl hr hw cu si st hst cc td) hK hP hD rfl rfl ⟨Nat.le_trans (Nat.le_of_ble_eq_true rfl) hR.1, Nat.le_trans (Nat.le_of_ble_eq_true rfl) hR.2⟩ rfl hsize rfl hW hdg hf

  | 1, hk => exact hs_runU (q0 := 0) (ci := 2) (T := TX5) (N := 8) SF cu_goOut_1 hlink (c_X5_goOut l D cN cT cJ h tr nb 1 kd rt vl hr hw cu si st hst cc td) hK hP hD rfl rfl ⟨Nat.le_trans (Nat.le_of_ble_eq_true rfl) hR.1, Nat.le_trans (Nat.le_of_ble_eq_true rfl) hR.2⟩ rfl hsize rfl hW hdg hf

  | 2, hk => exact hs_runU (q0 := 0) (ci := 4) (T := TX5) (N := 8) SF cu_goOut_2 hlink (c_X5_goOut l D cN cT cJ h tr nb 2 kd rt vl hr hw cu si st hst cc td) hK hP hD rfl rfl ⟨Nat.le_trans (Nat.le_of_ble_eq_true rfl) hR.1, Nat.le_trans (Nat.le_of_ble_eq_true rfl) hR.2⟩ rfl hsize rfl hW hdg hf

  | 3, hk => exact hs_runU (q0 := 0) (ci := 0) (T := TX5) (N := 8) SF cu_goOut_3 hlink (c_X5_goOut l D cN cT cJ h tr nb 3 kd rt vl hr hw cu si st hst cc td) hK hP hD rfl rfl ⟨Nat.le_trans (Nat.le_of_ble_eq_true rfl) hR.1, Nat.le_trans (Nat.le_of_ble_eq_true rfl) hR.2⟩ rfl hsize rfl hW hdg hf

  | 4, hk => exact hs_runU (q0 := 0) (ci := 7) (T := TX5) (N := 8) SF cu_goOut_4 hlink (c_X5_goOut l D cN cT cJ h tr nb 4 kd rt vl hr hw cu si st hst cc td) hK hP hD rfl rfl ⟨Nat.le_trans (Nat.le_of_ble_eq_true rfl) hR.1, Nat.le_trans (Nat.le_of_ble_eq_true rfl) hR.2⟩ rfl hsize rfl hW hdg hf

  | 5, hk => exact hs_runU (q0 := 0) (ci := 3) (T := TX5) (N := 8) SF cu_goOut_5 hlink (c_X5_goOut l D cN cT cJ h tr nb 5 kd rt vl hr hw cu si st hst cc td) hK hP hD rfl rfl ⟨Nat.le_trans (Nat.le_of_ble_eq_true rfl) hR.1, Nat.le_trans (Nat.le_of_ble_eq_true rfl) hR.2⟩ rfl hsize rfl hW hdg hf

  | 6, hk => exact hs_runU (q0 := 0) (ci := 1) (T := TX5) (N := 8) SF cu_goOut_6 hlink (c_X5_goOut l D cN cT cJ h tr nb 6 kd rt vl hr hw cu si st hst cc td) hK hP hD rfl rfl ⟨Nat.le_trans (Nat.le_of_ble_eq_true rfl) hR.1, Nat.le_trans (Nat.le_of_ble_eq_true rfl) hR.2⟩ rfl hsize rfl hW hdg hf

  | k + 7, hk => exact absurd hk (by omega)

theorem cu_renew_0 : hs_cU RX5 "HireShed$Tool" ⟨"HireShed$Tool", "renew", "()V"⟩ yX5_renew cX5_renew 1 none 0 := ⟨tw_493, tw_484, tw_485, tw_20, tw_486, tw_484, ⟨_, _, _, tw_493⟩, by decide +kernel⟩

theorem cu_renew_1 : hs_cU RX2 "HireShed$Tool" ⟨"HireShed$Tool", "renew", "()V"⟩ yX5_renew cX5_renew 1 none 0 := ⟨tw_493, tw_484, tw_489, tw_20, tw_486, tw_484, ⟨_, _, _, tw_493⟩, by decide +kernel⟩

theorem cu_renew_2 : hs_cU RX4 "HireShed$Tool" ⟨"HireShed$Tool", "renew", "()V"⟩ yX5_renew cX5_renew 1 none 0 := ⟨tw_493, tw_484, tw_491, tw_20, tw_486, tw_484, ⟨_, _, _, tw_493⟩, by decide +kernel⟩

theorem cu_renew_3 : hs_cU RX0 "HireShed$Tool" ⟨"HireShed$Tool", "renew", "()V"⟩ yX5_renew cX5_renew 1 none 0 := ⟨tw_493, tw_484, tw_487, tw_20, tw_486, tw_484, ⟨_, _, _, tw_493⟩, by decide +kernel⟩

theorem cu_renew_4 : hs_cU RX7 "HireShed$Tool" ⟨"HireShed$Tool", "renew", "()V"⟩ yX5_renew cX5_renew 1 none 0 := ⟨tw_493, tw_484, tw_492, tw_20, tw_486, tw_484, ⟨_, _, _, tw_493⟩, by decide +kernel⟩

theorem cu_renew_5 : hs_cU RX3 "HireShed$Tool" ⟨"HireShed$Tool", "renew", "()V"⟩ yX5_renew cX5_renew 1 none 0 := ⟨tw_493, tw_484, tw_490, tw_20, tw_486, tw_484, ⟨_, _, _, tw_493⟩, by decide +kernel⟩

theorem cu_renew_6 : hs_cU RX1 "HireShed$Tool" ⟨"HireShed$Tool", "renew", "()V"⟩ yX5_renew cX5_renew 1 none 0 := ⟨tw_493, tw_484, tw_488, tw_20, tw_486, tw_484, ⟨_, _, _, tw_493⟩, by decide +kernel⟩

set_option maxHeartbeats 400000 in
set_option maxRecDepth 100000 in
theorem V_renew {p : Program} {l : Launch} {e : Env} {R : Room} {s : State} {m : MethodId} {args : Array Value} {below : List Frame} {meth : Method} {c : Code} {H : Heap} {locs : List Loc} {cells slots nL index pc : Nat} {cc0 : ByteArray} {own : String} {ls : Array Slot} {rest : List Value} {D : va_G} {A : Nat → Prop} (cN cT cJ : ClassId) (h tr nb k : Nat) (hk : k < 7) (kd rt vl hr hw cu si : Int32) (st : TS) (hst : okT st) (SF : CallFix p m c cc0 nL s args hs_gt own) (hlink : Cond.methodLink own index ⟨"HireShed$Tool", "renew", "()V"⟩ ∈ hs_gt) (hK : va_K D hs_cl (tyS cN cT cJ) s) (hP : va_P D hs_cl [(h, tlE k tr kd rt vl hr hw cu si), (tr, trE nb st), (nb, nbE cN st)] H) (hD : va_D A [(h, tlE k tr kd rt vl hr hw cu si), (tr, trE nb st), (nb, nbE cN st)]) (hR : 1 ≤ R.frames ∧ 20 ≤ R.locals) (hsize : ls.size = nL) (hW : (rest.map fun v => v.category).sum ≤ 8) (hdg : decode cc0 pc = .ok (.invokevirtual index, 3)) (hf : cells ≤ R.cells ∧ slots ≤ R.slots) :
    va_Run p l e R s m args below meth c H locs cells slots 0 0 (F0 m pc ls (.ref h :: rest)) rest (hs_QV D (tyS cN cT cJ) [(h, tlE k tr kd rt vl 0 0 cu si), (tr, trE nb st), (nb, nbE cN st)] (va_A [(h, tlE k tr kd rt vl hr hw cu si), (tr, trE nb st), (nb, nbE cN st)] H.size) (Value.ref h :: []).toArray) (va_A [(h, tlE k tr kd rt vl hr hw cu si), (tr, trE nb st), (nb, nbE cN st)] H.size) := by
  match k, hk with

  | 0, hk => exact hs_runU (q0 := 0) (ci := 5) (T := TX5) (N := 8) SF cu_renew_0 hlink (c_X5_renew l D cN cT cJ h tr nb 0 kd rt vl hr hw cu si st hst) hK hP hD rfl rfl ⟨Nat.le_trans (Nat.le_of_ble_eq_true rfl) hR.1, Nat.le_trans (Nat.le_of_ble_eq_true rfl) hR.2⟩ rfl hsize rfl hW hdg hf

  | 1, hk => exact hs_runU (q0 := 0) (ci := 2) (T := TX5) (N := 8) SF cu_renew_1 hlink (c_X5_renew l D cN cT cJ h tr nb 1 kd rt vl hr hw cu si st hst) hK hP hD rfl rfl ⟨Nat.le_trans (Nat.le_of_ble_eq_true rfl) hR.1, Nat.le_trans (Nat.le_of_ble_eq_true rfl) hR.2⟩ rfl hsize rfl hW hdg hf

  | 2, hk => exact hs_runU (q0 := 0) (ci := 4) (T := TX5) (N := 8) SF cu_renew_2 hlink (c_X5_renew l D cN cT cJ h tr nb 2 kd rt vl hr hw cu si st hst) hK hP hD rfl rfl ⟨Nat.le_trans (Nat.le_of_ble_eq_true rfl) hR.1, Nat.le_trans (Nat.le_of_ble_eq_true rfl) hR.2⟩ rfl hsize rfl hW hdg hf

  | 3, hk => exact hs_runU (q0 := 0) (ci := 0) (T := TX5) (N := 8) SF cu_renew_3 hlink (c_X5_renew l D cN cT cJ h tr nb 3 kd rt vl hr hw cu si st hst) hK hP hD rfl rfl ⟨Nat.le_trans (Nat.le_of_ble_eq_true rfl) hR.1, Nat.le_trans (Nat.le_of_ble_eq_true rfl) hR.2⟩ rfl hsize rfl hW hdg hf

  | 4, hk => exact hs_runU (q0 := 0) (ci := 7) (T := TX5) (N := 8) SF cu_renew_4 hlink (c_X5_renew l D cN cT cJ h tr nb 4 kd rt vl hr hw cu si st hst) hK hP hD rfl rfl ⟨Nat.le_trans (Nat.le_of_ble_eq_true rfl) hR.1, Nat.le_trans (Nat.le_of_ble_eq_true rfl) hR.2⟩ rfl hsize rfl hW hdg hf

  | 5, hk => exact hs_runU (q0 := 0) (ci := 3) (T := TX5) (N := 8) SF cu_renew_5 hlink (c_X5_renew l D cN cT cJ h tr nb 5 kd rt vl hr hw cu si st hst) hK hP hD rfl rfl ⟨Nat.le_trans (Nat.le_of_ble_eq_true rfl) hR.1, Nat.le_trans (Nat.le_of_ble_eq_true rfl) hR.2⟩ rfl hsize rfl hW hdg hf

  | 6, hk => exact hs_runU (q0 := 0) (ci := 1) (T := TX5) (N := 8) SF cu_renew_6 hlink (c_X5_renew l D cN cT cJ h tr nb 6 kd rt vl hr hw cu si st hst) hK hP hD rfl rfl ⟨Nat.le_trans (Nat.le_of_ble_eq_true rfl) hR.1, Nat.le_trans (Nat.le_of_ble_eq_true rfl) hR.2⟩ rfl hsize rfl hW hdg hf

  | k + 7, hk => exact absurd hk (by omega)

theorem cu_comeBack_0 : hs_cU RX5 "HireShed$Tool" ⟨"HireShed$Tool", "comeBack", "(I)V"⟩ yX5_comeBack cX5_comeBack 2 none 1 := ⟨tw_477, tw_468, tw_469, tw_20, tw_470, tw_468, ⟨_, _, _, tw_477⟩, by decide +kernel⟩

theorem cu_comeBack_1 : hs_cU RX2 "HireShed$Tool" ⟨"HireShed$Tool", "comeBack", "(I)V"⟩ yX5_comeBack cX5_comeBack 2 none 1 := ⟨tw_477, tw_468, tw_473, tw_20, tw_470, tw_468, ⟨_, _, _, tw_477⟩, by decide +kernel⟩

theorem cu_comeBack_2 : hs_cU RX4 "HireShed$Tool" ⟨"HireShed$Tool", "comeBack", "(I)V"⟩ yX5_comeBack cX5_comeBack 2 none 1 := ⟨tw_477, tw_468, tw_475, tw_20, tw_470, tw_468, ⟨_, _, _, tw_477⟩, by decide +kernel⟩

theorem cu_comeBack_3 : hs_cU RX0 "HireShed$Tool" ⟨"HireShed$Tool", "comeBack", "(I)V"⟩ yX5_comeBack cX5_comeBack 2 none 1 := ⟨tw_477, tw_468, tw_471, tw_20, tw_470, tw_468, ⟨_, _, _, tw_477⟩, by decide +kernel⟩

theorem cu_comeBack_4 : hs_cU RX7 "HireShed$Tool" ⟨"HireShed$Tool", "comeBack", "(I)V"⟩ yX5_comeBack cX5_comeBack 2 none 1 := ⟨tw_477, tw_468, tw_476, tw_20, tw_470, tw_468, ⟨_, _, _, tw_477⟩, by decide +kernel⟩

theorem cu_comeBack_5 : hs_cU RX3 "HireShed$Tool" ⟨"HireShed$Tool", "comeBack", "(I)V"⟩ yX5_comeBack cX5_comeBack 2 none 1 := ⟨tw_477, tw_468, tw_474, tw_20, tw_470, tw_468, ⟨_, _, _, tw_477⟩, by decide +kernel⟩

theorem cu_comeBack_6 : hs_cU RX1 "HireShed$Tool" ⟨"HireShed$Tool", "comeBack", "(I)V"⟩ yX5_comeBack cX5_comeBack 2 none 1 := ⟨tw_477, tw_468, tw_472, tw_20, tw_470, tw_468, ⟨_, _, _, tw_477⟩, by decide +kernel⟩

set_option maxHeartbeats 400000 in
set_option maxRecDepth 100000 in
theorem V_comeBack {p : Program} {l : Launch} {e : Env} {R : Room} {s : State} {m : MethodId} {args : Array Value} {below : List Frame} {meth : Method} {c : Code} {H : Heap} {locs : List Loc} {cells slots nL index pc : Nat} {cc0 : ByteArray} {own : String} {ls : Array Slot} {rest : List Value} {D : va_G} {A : Nat → Prop} (cN cT cJ : ClassId) (h tr nb k : Nat) (hk : k < 7) (kd rt vl hr hw cu si : Int32) (st : TS) (hst : okT st) (d : Int32) (SF : CallFix p m c cc0 nL s args hs_gt own) (hlink : Cond.methodLink own index ⟨"HireShed$Tool", "comeBack", "(I)V"⟩ ∈ hs_gt) (hK : va_K D hs_cl (tyS cN cT cJ) s) (hP : va_P D hs_cl [(h, tlE k tr kd rt vl hr hw cu si), (tr, trE nb st), (nb, nbE cN st)] H) (hD : va_D A [(h, tlE k tr kd rt vl hr hw cu si), (tr, trE nb st), (nb, nbE cN st)]) (hR : 5 ≤ R.frames ∧ 102 ≤ R.locals) (hsize : ls.size = nL) (hW : (rest.map fun v => v.category).sum ≤ 8) (hdg : decode cc0 pc = .ok (.invokevirtual index, 3)) (hf : cells ≤ R.cells ∧ slots ≤ R.slots) :
    va_Run p l e R s m args below meth c H locs cells slots 0 0 (F0 m pc ls (.int d :: .ref h :: rest)) rest (hs_QV D (tyS cN cT cJ) [(h, tlE k tr kd rt vl (hr + weF k hr d) (if ckF k (hr + weF k hr d) ≤ 9 then 0 else 2) (-1) (-1)), (tr, trE nb (lvs (cbN k) st)), (nb, nbE cN (lvs (cbN k) st))] (va_A [(h, tlE k tr kd rt vl hr hw cu si), (tr, trE nb st), (nb, nbE cN st)] H.size) (Value.ref h :: [.int d]).toArray) (va_A [(h, tlE k tr kd rt vl hr hw cu si), (tr, trE nb st), (nb, nbE cN st)] H.size) := by
  match k, hk with

  | 0, hk => exact hs_runU (q0 := 0) (ci := 5) (T := TX5) (N := 8) SF cu_comeBack_0 hlink (c_X5_comeBack l D cN cT cJ h tr nb 0 kd rt vl hr hw cu si st hst hk d) hK hP hD rfl rfl ⟨Nat.le_trans (Nat.le_of_ble_eq_true rfl) hR.1, Nat.le_trans (Nat.le_of_ble_eq_true rfl) hR.2⟩ rfl hsize rfl hW hdg hf

  | 1, hk => exact hs_runU (q0 := 0) (ci := 2) (T := TX5) (N := 8) SF cu_comeBack_1 hlink (c_X5_comeBack l D cN cT cJ h tr nb 1 kd rt vl hr hw cu si st hst hk d) hK hP hD rfl rfl ⟨Nat.le_trans (Nat.le_of_ble_eq_true rfl) hR.1, Nat.le_trans (Nat.le_of_ble_eq_true rfl) hR.2⟩ rfl hsize rfl hW hdg hf

  | 2, hk => exact hs_runU (q0 := 0) (ci := 4) (T := TX5) (N := 8) SF cu_comeBack_2 hlink (c_X5_comeBack l D cN cT cJ h tr nb 2 kd rt vl hr hw cu si st hst hk d) hK hP hD rfl rfl ⟨Nat.le_trans (Nat.le_of_ble_eq_true rfl) hR.1, Nat.le_trans (Nat.le_of_ble_eq_true rfl) hR.2⟩ rfl hsize rfl hW hdg hf

  | 3, hk => exact hs_runU (q0 := 0) (ci := 0) (T := TX5) (N := 8) SF cu_comeBack_3 hlink (c_X5_comeBack l D cN cT cJ h tr nb 3 kd rt vl hr hw cu si st hst hk d) hK hP hD rfl rfl ⟨Nat.le_trans (Nat.le_of_ble_eq_true rfl) hR.1, Nat.le_trans (Nat.le_of_ble_eq_true rfl) hR.2⟩ rfl hsize rfl hW hdg hf

  | 4, hk => exact hs_runU (q0 := 0) (ci := 7) (T := TX5) (N := 8) SF cu_comeBack_4 hlink (c_X5_comeBack l D cN cT cJ h tr nb 4 kd rt vl hr hw cu si st hst hk d) hK hP hD rfl rfl ⟨Nat.le_trans (Nat.le_of_ble_eq_true rfl) hR.1, Nat.le_trans (Nat.le_of_ble_eq_true rfl) hR.2⟩ rfl hsize rfl hW hdg hf

  | 5, hk => exact hs_runU (q0 := 0) (ci := 3) (T := TX5) (N := 8) SF cu_comeBack_5 hlink (c_X5_comeBack l D cN cT cJ h tr nb 5 kd rt vl hr hw cu si st hst hk d) hK hP hD rfl rfl ⟨Nat.le_trans (Nat.le_of_ble_eq_true rfl) hR.1, Nat.le_trans (Nat.le_of_ble_eq_true rfl) hR.2⟩ rfl hsize rfl hW hdg hf

  | 6, hk => exact hs_runU (q0 := 0) (ci := 1) (T := TX5) (N := 8) SF cu_comeBack_6 hlink (c_X5_comeBack l D cN cT cJ h tr nb 6 kd rt vl hr hw cu si st hst hk d) hK hP hD rfl rfl ⟨Nat.le_trans (Nat.le_of_ble_eq_true rfl) hR.1, Nat.le_trans (Nat.le_of_ble_eq_true rfl) hR.2⟩ rfl hsize rfl hW hdg hf

  | k + 7, hk => exact absurd hk (by omega)

