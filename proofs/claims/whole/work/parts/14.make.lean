set_option maxHeartbeats 400000 in
set_option maxRecDepth 100000 in
theorem c_X5_init (l : Launch) (D : va_G) (cN cT cJ : ClassId) (h tr k : Nat) (kd rt vl : Int32) : CM l D yX5_init cX5_init 5 none { frames := 1, cells := 0, slots := 0, locals := 12 } (tyS cN cT cJ) [.ref h, .int kd, .int rt, .int vl, .ref tr] [(h, .inr (kc k, [.null, .int 0, .int 0, .int 0, .int 0, .int 0, .int 0, .int 0]))] (hs_QV D (tyS cN cT cJ) [(h, tlE k tr kd rt vl 0 0 (-1) (-1))]) := by
  refine CM.of (by decide) (Nat.le_of_ble_eq_true rfl) ?_
  intro p e s m below meth c A ls hx hb hrt hml htg hown hlocks hnm hA hK hP hD hS hl
  have hown : s.vm.findClass RX5 = some m.cls := hown
  have hl : lv_has ls 5 [(0, .ref h), (1, .int kd), (2, .int rt), (3, .int vl), (4, .ref tr)] := hl
  have SF : CallFix p m c cX5_init 5 s _ hs_gt RX5 := ⟨hx, hb, hml, hown, htg⟩
  refine lv_aload_n hx hb dX5_init_0 rfl (lv_at hl 0 rfl) ?_
  refine W.objInit hx hb hown (htg _ tw_98) (htg _ tw_34) (htg _ tw_35) rfl (by rw [hml]; exact hl.1) rfl dX5_init_1 (Nat.le_of_ble_eq_true rfl) (Nat.le_of_ble_eq_true rfl) ?_
  refine W.eq (g2 := F0 m 4 ls []) rfl ?_
  refine lv_aload_n hx hb dX5_init_4 rfl (lv_at hl 0 rfl) ?_
  refine lv_iconst (v := 0) hx hb dX5_init_5 (by decide) ?_
  refine va_put (D := D) (ci := (kc k)) (v := .int 0) (ty := .int) (C := (kR k)) (T := TX5) (N := 8) hx hb htg (kc_in k) tyX5 tyX5_ok nmX5 hown hK hP hD hS 0 rfl (kc_cl k) 4 (by decide) (htg _ tw_120) (fun _ h9 => h9) rfl (by decide +kernel) rfl rfl (Nat.le_of_ble_eq_true rfl) dX5_init_6 (fun H locs hP hD hS => ?_)
  have hP : va_P D hs_cl [(h, .inr (kc k, [.null, .int 0, .int 0, .int 0, .int 0, .int 0, .int 0, .int 0]))] H := hP
  have hD : va_D A [(h, .inr (kc k, [.null, .int 0, .int 0, .int 0, .int 0, .int 0, .int 0, .int 0]))] := hD
  refine lv_aload_n hx hb dX5_init_9 rfl (lv_at hl 0 rfl) ?_
  refine lv_iconst (v := 0) hx hb dX5_init_10 (by decide) ?_
  refine va_put (D := D) (ci := (kc k)) (v := .int 0) (ty := .int) (C := (kR k)) (T := TX5) (N := 8) hx hb htg (kc_in k) tyX5 tyX5_ok nmX5 hown hK hP hD hS 0 rfl (kc_cl k) 5 (by decide) (htg _ tw_124) (fun _ h9 => h9) rfl (by decide +kernel) rfl rfl (Nat.le_of_ble_eq_true rfl) dX5_init_11 (fun H locs hP hD hS => ?_)
  have hP : va_P D hs_cl [(h, .inr (kc k, [.null, .int 0, .int 0, .int 0, .int 0, .int 0, .int 0, .int 0]))] H := hP
  have hD : va_D A [(h, .inr (kc k, [.null, .int 0, .int 0, .int 0, .int 0, .int 0, .int 0, .int 0]))] := hD
  refine lv_aload_n hx hb dX5_init_14 rfl (lv_at hl 0 rfl) ?_
  refine lv_iconst (v := (-1)) hx hb dX5_init_15 (by decide) ?_
  refine va_put (D := D) (ci := (kc k)) (v := .int (-1)) (ty := .int) (C := (kR k)) (T := TX5) (N := 8) hx hb htg (kc_in k) tyX5 tyX5_ok nmX5 hown hK hP hD hS 0 rfl (kc_cl k) 6 (by decide) (htg _ tw_126) (fun _ h9 => h9) rfl (by decide +kernel) rfl rfl (Nat.le_of_ble_eq_true rfl) dX5_init_16 (fun H locs hP hD hS => ?_)
  have hP : va_P D hs_cl [(h, .inr (kc k, [.null, .int 0, .int 0, .int 0, .int 0, .int 0, .int (-1), .int 0]))] H := hP
  have hD : va_D A [(h, .inr (kc k, [.null, .int 0, .int 0, .int 0, .int 0, .int 0, .int (-1), .int 0]))] := hD
  refine lv_aload_n hx hb dX5_init_19 rfl (lv_at hl 0 rfl) ?_
  refine lv_iconst (v := (-1)) hx hb dX5_init_20 (by decide) ?_
  refine va_put (D := D) (ci := (kc k)) (v := .int (-1)) (ty := .int) (C := (kR k)) (T := TX5) (N := 8) hx hb htg (kc_in k) tyX5 tyX5_ok nmX5 hown hK hP hD hS 0 rfl (kc_cl k) 7 (by decide) (htg _ tw_128) (fun _ h9 => h9) rfl (by decide +kernel) rfl rfl (Nat.le_of_ble_eq_true rfl) dX5_init_21 (fun H locs hP hD hS => ?_)
  have hP : va_P D hs_cl [(h, .inr (kc k, [.null, .int 0, .int 0, .int 0, .int 0, .int 0, .int (-1), .int (-1)]))] H := hP
  have hD : va_D A [(h, .inr (kc k, [.null, .int 0, .int 0, .int 0, .int 0, .int 0, .int (-1), .int (-1)]))] := hD
  refine lv_aload_n hx hb dX5_init_24 rfl (lv_at hl 0 rfl) ?_
  refine lv_iload_n hx hb dX5_init_25 rfl (lv_at hl 1 rfl) ?_
  refine va_putF (D := D) (ci := (kc k)) (v := .int kd) (ty := .int) (C := (kR k)) (T := TX5) (N := 8) hx hb htg (kc_in k) tyX5 tyX5_ok nmX5 hown hK hP hD hS 0 rfl (kc_cl k) 1 (by decide) (htg _ tw_112) (fun _ h9 => h9) rfl hnm rfl (by decide +kernel) rfl rfl (Nat.le_of_ble_eq_true rfl) dX5_init_26 (fun H locs hP hD hS => ?_)
  have hP : va_P D hs_cl [(h, .inr (kc k, [.null, .int kd, .int 0, .int 0, .int 0, .int 0, .int (-1), .int (-1)]))] H := hP
  have hD : va_D A [(h, .inr (kc k, [.null, .int kd, .int 0, .int 0, .int 0, .int 0, .int (-1), .int (-1)]))] := hD
  refine lv_aload_n hx hb dX5_init_29 rfl (lv_at hl 0 rfl) ?_
  refine lv_iload_n hx hb dX5_init_30 rfl (lv_at hl 2 rfl) ?_
  refine va_putF (D := D) (ci := (kc k)) (v := .int rt) (ty := .int) (C := (kR k)) (T := TX5) (N := 8) hx hb htg (kc_in k) tyX5 tyX5_ok nmX5 hown hK hP hD hS 0 rfl (kc_cl k) 2 (by decide) (htg _ tw_114) (fun _ h9 => h9) rfl hnm rfl (by decide +kernel) rfl rfl (Nat.le_of_ble_eq_true rfl) dX5_init_31 (fun H locs hP hD hS => ?_)
  have hP : va_P D hs_cl [(h, .inr (kc k, [.null, .int kd, .int rt, .int 0, .int 0, .int 0, .int (-1), .int (-1)]))] H := hP
  have hD : va_D A [(h, .inr (kc k, [.null, .int kd, .int rt, .int 0, .int 0, .int 0, .int (-1), .int (-1)]))] := hD
  refine lv_aload_n hx hb dX5_init_34 rfl (lv_at hl 0 rfl) ?_
  refine lv_iload_n hx hb dX5_init_35 rfl (lv_at hl 3 rfl) ?_
  refine va_putF (D := D) (ci := (kc k)) (v := .int vl) (ty := .int) (C := (kR k)) (T := TX5) (N := 8) hx hb htg (kc_in k) tyX5 tyX5_ok nmX5 hown hK hP hD hS 0 rfl (kc_cl k) 3 (by decide) (htg _ tw_115) (fun _ h9 => h9) rfl hnm rfl (by decide +kernel) rfl rfl (Nat.le_of_ble_eq_true rfl) dX5_init_36 (fun H locs hP hD hS => ?_)
  have hP : va_P D hs_cl [(h, .inr (kc k, [.null, .int kd, .int rt, .int vl, .int 0, .int 0, .int (-1), .int (-1)]))] H := hP
  have hD : va_D A [(h, .inr (kc k, [.null, .int kd, .int rt, .int vl, .int 0, .int 0, .int (-1), .int (-1)]))] := hD
  refine lv_aload_n hx hb dX5_init_39 rfl (lv_at hl 0 rfl) ?_
  refine lv_aload hx hb dX5_init_40 (lv_at hl 4 rfl) ?_
  refine va_putF (D := D) (ci := (kc k)) (v := .ref tr) (ty := (.object "HireShed$Trace")) (C := (kR k)) (T := TX5) (N := 8) hx hb htg (kc_in k) tyX5 tyX5_ok nmX5 hown hK hP hD hS 0 rfl (kc_cl k) 0 (by decide) (htg _ tw_99) (fun _ h9 => h9) rfl hnm rfl (by decide +kernel) rfl rfl (Nat.le_of_ble_eq_true rfl) dX5_init_42 (fun H locs hP hD hS => ?_)
  have hP : va_P D hs_cl [(h, .inr (kc k, [.ref tr, .int kd, .int rt, .int vl, .int 0, .int 0, .int (-1), .int (-1)]))] H := hP
  have hD : va_D A [(h, .inr (kc k, [.ref tr, .int kd, .int rt, .int vl, .int 0, .int 0, .int (-1), .int (-1)]))] := hD
  exact hs_vret hx hb hrt hlocks hK hP hD hS dX5_init_45 (rfl)

theorem cal_X5_init : hs_cN yX5_init cX5_init 5 4 := ⟨tw_97, tw_96, tw_20, rfl, by decide +kernel⟩

set_option maxHeartbeats 400000 in
set_option maxRecDepth 100000 in
theorem c_X2_init (l : Launch) (D : va_G) (cN cT cJ : ClassId) (h tr k : Nat) (kd rt vl : Int32) : CM l D yX2_init cX2_init 5 none { frames := 2, cells := 0, slots := 0, locals := 36 } (tyS cN cT cJ) [.ref h, .int kd, .int rt, .int vl, .ref tr] [(h, .inr (kc k, [.null, .int 0, .int 0, .int 0, .int 0, .int 0, .int 0, .int 0]))] (hs_QV D (tyS cN cT cJ) [(h, tlE k tr kd rt vl 0 0 (-1) (-1))]) := by
  refine CM.of (by decide) (Nat.le_of_ble_eq_true rfl) ?_
  intro p e s m below meth c A ls hx hb hrt hml htg hown hlocks hnm hA hK hP hD hS hl
  have hown : s.vm.findClass RX2 = some m.cls := hown
  have hl : lv_has ls 5 [(0, .ref h), (1, .int kd), (2, .int rt), (3, .int vl), (4, .ref tr)] := hl
  have SF : CallFix p m c cX2_init 5 s _ hs_gt RX2 := ⟨hx, hb, hml, hown, htg⟩
  refine lv_aload_n hx hb dX2_init_0 rfl (lv_at hl 0 rfl) ?_
  refine lv_iload_n hx hb dX2_init_1 rfl (lv_at hl 1 rfl) ?_
  refine lv_iload_n hx hb dX2_init_2 rfl (lv_at hl 2 rfl) ?_
  refine lv_iload_n hx hb dX2_init_3 rfl (lv_at hl 3 rfl) ?_
  refine lv_aload hx hb dX2_init_4 (lv_at hl 4 rfl) ?_
  refine hs_callv0 (w1 := [(h, tlE k tr kd rt vl 0 0 (-1) (-1))]) (hs_runI SF cal_X5_init tw_95 (c_X5_init l D cN cT cJ h tr k kd rt vl) hK hP hD ⟨Nat.le_of_ble_eq_true rfl, Nat.le_of_ble_eq_true rfl⟩ rfl hl.1 rfl (Nat.le_of_ble_eq_true rfl) dX2_init_6 ⟨Nat.le_of_ble_eq_true rfl, Nat.le_of_ble_eq_true rfl⟩) hD hS hA (fun H locs hP hD hS => ?_)
  exact hs_vret hx hb hrt hlocks hK hP hD hS dX2_init_9 (rfl)

theorem cal_X2_init : hs_cN yX2_init cX2_init 5 4 := ⟨tw_94, tw_93, tw_21, rfl, by decide +kernel⟩

set_option maxHeartbeats 400000 in
set_option maxRecDepth 100000 in
theorem c_X4_init (l : Launch) (D : va_G) (cN cT cJ : ClassId) (h tr k : Nat) (kd rt vl : Int32) : CM l D yX4_init cX4_init 5 none { frames := 3, cells := 0, slots := 0, locals := 60 } (tyS cN cT cJ) [.ref h, .int kd, .int rt, .int vl, .ref tr] [(h, .inr (kc k, [.null, .int 0, .int 0, .int 0, .int 0, .int 0, .int 0, .int 0]))] (hs_QV D (tyS cN cT cJ) [(h, tlE k tr kd rt vl 0 0 (-1) (-1))]) := by
  refine CM.of (by decide) (Nat.le_of_ble_eq_true rfl) ?_
  intro p e s m below meth c A ls hx hb hrt hml htg hown hlocks hnm hA hK hP hD hS hl
  have hown : s.vm.findClass RX4 = some m.cls := hown
  have hl : lv_has ls 5 [(0, .ref h), (1, .int kd), (2, .int rt), (3, .int vl), (4, .ref tr)] := hl
  have SF : CallFix p m c cX4_init 5 s _ hs_gt RX4 := ⟨hx, hb, hml, hown, htg⟩
  refine lv_aload_n hx hb dX4_init_0 rfl (lv_at hl 0 rfl) ?_
  refine lv_iload_n hx hb dX4_init_1 rfl (lv_at hl 1 rfl) ?_
  refine lv_iload_n hx hb dX4_init_2 rfl (lv_at hl 2 rfl) ?_
  refine lv_iload_n hx hb dX4_init_3 rfl (lv_at hl 3 rfl) ?_
  refine lv_aload hx hb dX4_init_4 (lv_at hl 4 rfl) ?_
  refine hs_callv0 (w1 := [(h, tlE k tr kd rt vl 0 0 (-1) (-1))]) (hs_runI SF cal_X2_init tw_152 (c_X2_init l D cN cT cJ h tr k kd rt vl) hK hP hD ⟨Nat.le_of_ble_eq_true rfl, Nat.le_of_ble_eq_true rfl⟩ rfl hl.1 rfl (Nat.le_of_ble_eq_true rfl) dX4_init_6 ⟨Nat.le_of_ble_eq_true rfl, Nat.le_of_ble_eq_true rfl⟩) hD hS hA (fun H locs hP hD hS => ?_)
  exact hs_vret hx hb hrt hlocks hK hP hD hS dX4_init_9 (rfl)

theorem cal_X4_init : hs_cN yX4_init cX4_init 5 4 := ⟨tw_151, tw_150, tw_22, rfl, by decide +kernel⟩

set_option maxHeartbeats 400000 in
set_option maxRecDepth 100000 in
theorem c_X0_init (l : Launch) (D : va_G) (cN cT cJ : ClassId) (h tr k : Nat) (kd rt vl : Int32) : CM l D yX0_init cX0_init 5 none { frames := 4, cells := 0, slots := 0, locals := 84 } (tyS cN cT cJ) [.ref h, .int kd, .int rt, .int vl, .ref tr] [(h, .inr (kc k, [.null, .int 0, .int 0, .int 0, .int 0, .int 0, .int 0, .int 0]))] (hs_QV D (tyS cN cT cJ) [(h, tlE k tr kd rt vl 0 0 (-1) (-1))]) := by
  refine CM.of (by decide) (Nat.le_of_ble_eq_true rfl) ?_
  intro p e s m below meth c A ls hx hb hrt hml htg hown hlocks hnm hA hK hP hD hS hl
  have hown : s.vm.findClass RX0 = some m.cls := hown
  have hl : lv_has ls 5 [(0, .ref h), (1, .int kd), (2, .int rt), (3, .int vl), (4, .ref tr)] := hl
  have SF : CallFix p m c cX0_init 5 s _ hs_gt RX0 := ⟨hx, hb, hml, hown, htg⟩
  refine lv_aload_n hx hb dX0_init_0 rfl (lv_at hl 0 rfl) ?_
  refine lv_iload_n hx hb dX0_init_1 rfl (lv_at hl 1 rfl) ?_
  refine lv_iload_n hx hb dX0_init_2 rfl (lv_at hl 2 rfl) ?_
  refine lv_iload_n hx hb dX0_init_3 rfl (lv_at hl 3 rfl) ?_
  refine lv_aload hx hb dX0_init_4 (lv_at hl 4 rfl) ?_
  refine hs_callv0 (w1 := [(h, tlE k tr kd rt vl 0 0 (-1) (-1))]) (hs_runI SF cal_X4_init tw_167 (c_X4_init l D cN cT cJ h tr k kd rt vl) hK hP hD ⟨Nat.le_of_ble_eq_true rfl, Nat.le_of_ble_eq_true rfl⟩ rfl hl.1 rfl (Nat.le_of_ble_eq_true rfl) dX0_init_6 ⟨Nat.le_of_ble_eq_true rfl, Nat.le_of_ble_eq_true rfl⟩) hD hS hA (fun H locs hP hD hS => ?_)
  exact hs_vret hx hb hrt hlocks hK hP hD hS dX0_init_9 (rfl)

theorem cal_X0_init : hs_cN yX0_init cX0_init 5 4 := ⟨tw_166, tw_165, tw_23, rfl, by decide +kernel⟩

set_option maxHeartbeats 400000 in
set_option maxRecDepth 100000 in
theorem c_X7_init (l : Launch) (D : va_G) (cN cT cJ : ClassId) (h tr k : Nat) (kd rt vl : Int32) : CM l D yX7_init cX7_init 5 none { frames := 5, cells := 0, slots := 0, locals := 108 } (tyS cN cT cJ) [.ref h, .int kd, .int rt, .int vl, .ref tr] [(h, .inr (kc k, [.null, .int 0, .int 0, .int 0, .int 0, .int 0, .int 0, .int 0]))] (hs_QV D (tyS cN cT cJ) [(h, tlE k tr kd rt vl 0 0 (-1) (-1))]) := by
  refine CM.of (by decide) (Nat.le_of_ble_eq_true rfl) ?_
  intro p e s m below meth c A ls hx hb hrt hml htg hown hlocks hnm hA hK hP hD hS hl
  have hown : s.vm.findClass RX7 = some m.cls := hown
  have hl : lv_has ls 5 [(0, .ref h), (1, .int kd), (2, .int rt), (3, .int vl), (4, .ref tr)] := hl
  have SF : CallFix p m c cX7_init 5 s _ hs_gt RX7 := ⟨hx, hb, hml, hown, htg⟩
  refine lv_aload_n hx hb dX7_init_0 rfl (lv_at hl 0 rfl) ?_
  refine lv_iload_n hx hb dX7_init_1 rfl (lv_at hl 1 rfl) ?_
  refine lv_iload_n hx hb dX7_init_2 rfl (lv_at hl 2 rfl) ?_
  refine lv_iload_n hx hb dX7_init_3 rfl (lv_at hl 3 rfl) ?_
  refine lv_aload hx hb dX7_init_4 (lv_at hl 4 rfl) ?_
  refine hs_callv0 (w1 := [(h, tlE k tr kd rt vl 0 0 (-1) (-1))]) (hs_runI SF cal_X0_init tw_182 (c_X0_init l D cN cT cJ h tr k kd rt vl) hK hP hD ⟨Nat.le_of_ble_eq_true rfl, Nat.le_of_ble_eq_true rfl⟩ rfl hl.1 rfl (Nat.le_of_ble_eq_true rfl) dX7_init_6 ⟨Nat.le_of_ble_eq_true rfl, Nat.le_of_ble_eq_true rfl⟩) hD hS hA (fun H locs hP hD hS => ?_)
  exact hs_vret hx hb hrt hlocks hK hP hD hS dX7_init_9 (rfl)

theorem cal_X7_init : hs_cN yX7_init cX7_init 5 4 := ⟨tw_181, tw_180, tw_24, rfl, by decide +kernel⟩

set_option maxHeartbeats 400000 in
set_option maxRecDepth 100000 in
theorem c_X3_init (l : Launch) (D : va_G) (cN cT cJ : ClassId) (h tr k : Nat) (kd rt vl : Int32) : CM l D yX3_init cX3_init 5 none { frames := 3, cells := 0, slots := 0, locals := 60 } (tyS cN cT cJ) [.ref h, .int kd, .int rt, .int vl, .ref tr] [(h, .inr (kc k, [.null, .int 0, .int 0, .int 0, .int 0, .int 0, .int 0, .int 0]))] (hs_QV D (tyS cN cT cJ) [(h, tlE k tr kd rt vl 0 0 (-1) (-1))]) := by
  refine CM.of (by decide) (Nat.le_of_ble_eq_true rfl) ?_
  intro p e s m below meth c A ls hx hb hrt hml htg hown hlocks hnm hA hK hP hD hS hl
  have hown : s.vm.findClass RX3 = some m.cls := hown
  have hl : lv_has ls 5 [(0, .ref h), (1, .int kd), (2, .int rt), (3, .int vl), (4, .ref tr)] := hl
  have SF : CallFix p m c cX3_init 5 s _ hs_gt RX3 := ⟨hx, hb, hml, hown, htg⟩
  refine lv_aload_n hx hb dX3_init_0 rfl (lv_at hl 0 rfl) ?_
  refine lv_iload_n hx hb dX3_init_1 rfl (lv_at hl 1 rfl) ?_
  refine lv_iload_n hx hb dX3_init_2 rfl (lv_at hl 2 rfl) ?_
  refine lv_iload_n hx hb dX3_init_3 rfl (lv_at hl 3 rfl) ?_
  refine lv_aload hx hb dX3_init_4 (lv_at hl 4 rfl) ?_
  refine hs_callv0 (w1 := [(h, tlE k tr kd rt vl 0 0 (-1) (-1))]) (hs_runI SF cal_X2_init tw_197 (c_X2_init l D cN cT cJ h tr k kd rt vl) hK hP hD ⟨Nat.le_of_ble_eq_true rfl, Nat.le_of_ble_eq_true rfl⟩ rfl hl.1 rfl (Nat.le_of_ble_eq_true rfl) dX3_init_6 ⟨Nat.le_of_ble_eq_true rfl, Nat.le_of_ble_eq_true rfl⟩) hD hS hA (fun H locs hP hD hS => ?_)
  exact hs_vret hx hb hrt hlocks hK hP hD hS dX3_init_9 (rfl)

theorem cal_X3_init : hs_cN yX3_init cX3_init 5 4 := ⟨tw_196, tw_195, tw_25, rfl, by decide +kernel⟩

set_option maxHeartbeats 400000 in
set_option maxRecDepth 100000 in
theorem c_X1_init (l : Launch) (D : va_G) (cN cT cJ : ClassId) (h tr k : Nat) (kd rt vl : Int32) : CM l D yX1_init cX1_init 5 none { frames := 4, cells := 0, slots := 0, locals := 84 } (tyS cN cT cJ) [.ref h, .int kd, .int rt, .int vl, .ref tr] [(h, .inr (kc k, [.null, .int 0, .int 0, .int 0, .int 0, .int 0, .int 0, .int 0]))] (hs_QV D (tyS cN cT cJ) [(h, tlE k tr kd rt vl 0 0 (-1) (-1))]) := by
  refine CM.of (by decide) (Nat.le_of_ble_eq_true rfl) ?_
  intro p e s m below meth c A ls hx hb hrt hml htg hown hlocks hnm hA hK hP hD hS hl
  have hown : s.vm.findClass RX1 = some m.cls := hown
  have hl : lv_has ls 5 [(0, .ref h), (1, .int kd), (2, .int rt), (3, .int vl), (4, .ref tr)] := hl
  have SF : CallFix p m c cX1_init 5 s _ hs_gt RX1 := ⟨hx, hb, hml, hown, htg⟩
  refine lv_aload_n hx hb dX1_init_0 rfl (lv_at hl 0 rfl) ?_
  refine lv_iload_n hx hb dX1_init_1 rfl (lv_at hl 1 rfl) ?_
  refine lv_iload_n hx hb dX1_init_2 rfl (lv_at hl 2 rfl) ?_
  refine lv_iload_n hx hb dX1_init_3 rfl (lv_at hl 3 rfl) ?_
  refine lv_aload hx hb dX1_init_4 (lv_at hl 4 rfl) ?_
  refine hs_callv0 (w1 := [(h, tlE k tr kd rt vl 0 0 (-1) (-1))]) (hs_runI SF cal_X3_init tw_212 (c_X3_init l D cN cT cJ h tr k kd rt vl) hK hP hD ⟨Nat.le_of_ble_eq_true rfl, Nat.le_of_ble_eq_true rfl⟩ rfl hl.1 rfl (Nat.le_of_ble_eq_true rfl) dX1_init_6 ⟨Nat.le_of_ble_eq_true rfl, Nat.le_of_ble_eq_true rfl⟩) hD hS hA (fun H locs hP hD hS => ?_)
  exact hs_vret hx hb hrt hlocks hK hP hD hS dX1_init_9 (rfl)

theorem cal_X1_init : hs_cN yX1_init cX1_init 5 4 := ⟨tw_211, tw_210, tw_26, rfl, by decide +kernel⟩

def hs_QR (D : va_G) (tys : List (ClassId × FieldType)) (wf : Nat → va_W) (A : Nat → Prop) : Array Value → State → Outcome → State → Prop := va_Qr (fun (_ : Unit) => True) (fun _ q t => hs_end D tys A (wf q) t) A

set_option maxHeartbeats 400000 in
set_option maxRecDepth 100000 in
theorem c_X8_newTool_0 (l : Launch) (D : va_G) (cN cT cJ : ClassId) (o ta ac tr : Nat) (tc td cs hi : Int32) (rt vl : Int32) : CM l D yX8_newTool cX8_newTool 4 (some (.object "HireShed$Tool")) { frames := 6, cells := 1, slots := 8, locals := 132 } (tyS cN cT cJ) [.ref o, .int 0, .int rt, .int vl] [(o, shE tr ta ac tc td cs hi)] (hs_QR D (tyS cN cT cJ) (fun q => [(o, shE tr ta ac tc td cs hi), (q, tlE 0 tr 0 rt vl 0 0 (-1) (-1))])) := by
  refine CM.of (by decide) (Nat.le_of_ble_eq_true rfl) ?_
  intro p e s m below meth c A ls hx hb hrt hml htg hown hlocks hnm hA hK hP hD hS hl
  have hown : s.vm.findClass RX8 = some m.cls := hown
  have hl : lv_has ls 4 [(0, .ref o), (1, .int 0), (2, .int rt), (3, .int vl)] := hl
  have SF : CallFix p m c cX8_newTool 4 s _ hs_gt RX8 := ⟨hx, hb, hml, hown, htg⟩
  refine lv_iload_n hx hb dX8_newTool_0 rfl (lv_at hl 1 rfl) ?_
  refine lv_tableOut (tgt := 130) hx hb dX8_newTool_1 (by decide) (by decide) ?_
  refine va_new (ci := 5) (fs := [.null, .int 0, .int 0, .int 0, .int 0, .int 0, .int 0, .int 0]) (C := RX5) (T := TX5) (N := 8) hx hb htg in_X5 tyX5 tyX5_ok hown (htg _ tw_53) (htg _ tw_222) (htg _ tw_20) hK hP hD hS hA rfl (fun j hj => by rcases (show j = 0 ∨ j = 1 ∨ j = 2 ∨ j = 3 ∨ j = 4 ∨ j = 5 ∨ j = 6 ∨ j = 7 by omega) with rfl | rfl | rfl | rfl | rfl | rfl | rfl | rfl <;> rfl) (Nat.le_of_ble_eq_true rfl) (Nat.le_of_ble_eq_true rfl) dX8_newTool_130 (fun q130 H hP hD hS => ?_)
  have hP : va_P D hs_cl [(o, shE tr ta ac tc td cs hi), (q130, .inr (5, [.null, .int 0, .int 0, .int 0, .int 0, .int 0, .int 0, .int 0]))] H := hP
  have hD : va_D A [(o, shE tr ta ac tc td cs hi), (q130, .inr (5, [.null, .int 0, .int 0, .int 0, .int 0, .int 0, .int 0, .int 0]))] := hD
  refine W.widen (k := 1) (n := 8) (Nat.le_of_ble_eq_true rfl) (Nat.le_of_ble_eq_true rfl) ?_
  refine lv_dup hx hb dX8_newTool_133 rfl ?_
  refine lv_iload_n hx hb dX8_newTool_134 rfl (lv_at hl 1 rfl) ?_
  refine lv_iload_n hx hb dX8_newTool_135 rfl (lv_at hl 2 rfl) ?_
  refine lv_iload_n hx hb dX8_newTool_136 rfl (lv_at hl 3 rfl) ?_
  refine lv_aload_n hx hb dX8_newTool_137 rfl (lv_at hl 0 rfl) ?_
  refine va_get (D := D) (ci := 8) (v := .ref tr) (C := RX8) (T := TX8) (N := 7) hx hb htg in_X8 hown hK hP 0 rfl rfl 0 (by decide) (htg _ tw_55) (fun _ h9 => h9) rfl dX8_newTool_138 ?_
  refine hs_callv (wc := [(q130, .inr (5, [.null, .int 0, .int 0, .int 0, .int 0, .int 0, .int 0, .int 0]))]) (w1 := [(q130, tlE 0 tr 0 rt vl 0 0 (-1) (-1))]) (wr := [(o, shE tr ta ac tc td cs hi)]) (ws2 := [(o, shE tr ta ac tc td cs hi), (q130, tlE 0 tr 0 rt vl 0 0 (-1) (-1))]) (hs_runI SF cal_X5_init tw_223 (c_X5_init l D cN cT cJ q130 tr 0 0 rt vl) hK (hP.sub (ws' := [(q130, .inr (5, [.null, .int 0, .int 0, .int 0, .int 0, .int 0, .int 0, .int 0]))]) [1] rfl) (hD.sub (ws' := [(q130, .inr (5, [.null, .int 0, .int 0, .int 0, .int 0, .int 0, .int 0, .int 0]))]) [1] (by decide) rfl) ⟨Nat.le_of_ble_eq_true rfl, Nat.le_of_ble_eq_true rfl⟩ rfl hl.1 rfl (Nat.le_of_ble_eq_true rfl) dX8_newTool_141 ⟨Nat.le_of_ble_eq_true rfl, Nat.le_of_ble_eq_true rfl⟩) hP hD hS hA [1] [0] [0, 1] rfl rfl (by decide) (by decide) rfl (by decide) (fun H locs hP hD hS => ?_)
  exact W.aret hx hb hrt (Or.inl ⟨_, rfl⟩) (Or.inr ⟨_, rfl⟩) (fun t ht hW => ⟨⟨(), q130, rfl, trivial, by rw [ht]; exact hP, va_K.moved hW.alike hK, hD⟩, hS.F ht⟩) hS.2.2 dX8_newTool_144 hlocks

set_option maxHeartbeats 400000 in
set_option maxRecDepth 100000 in
theorem c_X8_newTool_1 (l : Launch) (D : va_G) (cN cT cJ : ClassId) (o ta ac tr : Nat) (tc td cs hi : Int32) (rt vl : Int32) : CM l D yX8_newTool cX8_newTool 4 (some (.object "HireShed$Tool")) { frames := 6, cells := 1, slots := 8, locals := 132 } (tyS cN cT cJ) [.ref o, .int 1, .int rt, .int vl] [(o, shE tr ta ac tc td cs hi)] (hs_QR D (tyS cN cT cJ) (fun q => [(o, shE tr ta ac tc td cs hi), (q, tlE 1 tr 1 rt vl 0 0 (-1) (-1))])) := by
  refine CM.of (by decide) (Nat.le_of_ble_eq_true rfl) ?_
  intro p e s m below meth c A ls hx hb hrt hml htg hown hlocks hnm hA hK hP hD hS hl
  have hown : s.vm.findClass RX8 = some m.cls := hown
  have hl : lv_has ls 4 [(0, .ref o), (1, .int 1), (2, .int rt), (3, .int vl)] := hl
  have SF : CallFix p m c cX8_newTool 4 s _ hs_gt RX8 := ⟨hx, hb, hml, hown, htg⟩
  refine lv_iload_n hx hb dX8_newTool_0 rfl (lv_at hl 1 rfl) ?_
  refine lv_tableIn (off := 39) (tgt := 40) hx hb dX8_newTool_1 (by decide) (by decide) (by decide) (by decide) ?_
  refine va_new (ci := 2) (fs := [.null, .int 0, .int 0, .int 0, .int 0, .int 0, .int 0, .int 0]) (C := RX2) (T := TX5) (N := 8) hx hb htg in_X2 tyX5 tyX5_ok hown (htg _ tw_90) (htg _ tw_91) (htg _ tw_21) hK hP hD hS hA rfl (fun j hj => by rcases (show j = 0 ∨ j = 1 ∨ j = 2 ∨ j = 3 ∨ j = 4 ∨ j = 5 ∨ j = 6 ∨ j = 7 by omega) with rfl | rfl | rfl | rfl | rfl | rfl | rfl | rfl <;> rfl) (Nat.le_of_ble_eq_true rfl) (Nat.le_of_ble_eq_true rfl) dX8_newTool_40 (fun q40 H hP hD hS => ?_)
  have hP : va_P D hs_cl [(o, shE tr ta ac tc td cs hi), (q40, .inr (2, [.null, .int 0, .int 0, .int 0, .int 0, .int 0, .int 0, .int 0]))] H := hP
  have hD : va_D A [(o, shE tr ta ac tc td cs hi), (q40, .inr (2, [.null, .int 0, .int 0, .int 0, .int 0, .int 0, .int 0, .int 0]))] := hD
  refine W.widen (k := 1) (n := 8) (Nat.le_of_ble_eq_true rfl) (Nat.le_of_ble_eq_true rfl) ?_
  refine lv_dup hx hb dX8_newTool_43 rfl ?_
  refine lv_iload_n hx hb dX8_newTool_44 rfl (lv_at hl 1 rfl) ?_
  refine lv_iload_n hx hb dX8_newTool_45 rfl (lv_at hl 2 rfl) ?_
  refine lv_iload_n hx hb dX8_newTool_46 rfl (lv_at hl 3 rfl) ?_
  refine lv_aload_n hx hb dX8_newTool_47 rfl (lv_at hl 0 rfl) ?_
  refine va_get (D := D) (ci := 8) (v := .ref tr) (C := RX8) (T := TX8) (N := 7) hx hb htg in_X8 hown hK hP 0 rfl rfl 0 (by decide) (htg _ tw_55) (fun _ h9 => h9) rfl dX8_newTool_48 ?_
  refine hs_callv (wc := [(q40, .inr (2, [.null, .int 0, .int 0, .int 0, .int 0, .int 0, .int 0, .int 0]))]) (w1 := [(q40, tlE 1 tr 1 rt vl 0 0 (-1) (-1))]) (wr := [(o, shE tr ta ac tc td cs hi)]) (ws2 := [(o, shE tr ta ac tc td cs hi), (q40, tlE 1 tr 1 rt vl 0 0 (-1) (-1))]) (hs_runI SF cal_X2_init tw_92 (c_X2_init l D cN cT cJ q40 tr 1 1 rt vl) hK (hP.sub (ws' := [(q40, .inr (2, [.null, .int 0, .int 0, .int 0, .int 0, .int 0, .int 0, .int 0]))]) [1] rfl) (hD.sub (ws' := [(q40, .inr (2, [.null, .int 0, .int 0, .int 0, .int 0, .int 0, .int 0, .int 0]))]) [1] (by decide) rfl) ⟨Nat.le_of_ble_eq_true rfl, Nat.le_of_ble_eq_true rfl⟩ rfl hl.1 rfl (Nat.le_of_ble_eq_true rfl) dX8_newTool_51 ⟨Nat.le_of_ble_eq_true rfl, Nat.le_of_ble_eq_true rfl⟩) hP hD hS hA [1] [0] [0, 1] rfl rfl (by decide) (by decide) rfl (by decide) (fun H locs hP hD hS => ?_)
  exact W.aret hx hb hrt (Or.inl ⟨_, rfl⟩) (Or.inr ⟨_, rfl⟩) (fun t ht hW => ⟨⟨(), q40, rfl, trivial, by rw [ht]; exact hP, va_K.moved hW.alike hK, hD⟩, hS.F ht⟩) hS.2.2 dX8_newTool_54 hlocks

set_option maxHeartbeats 400000 in
set_option maxRecDepth 100000 in
theorem c_X8_newTool_2 (l : Launch) (D : va_G) (cN cT cJ : ClassId) (o ta ac tr : Nat) (tc td cs hi : Int32) (rt vl : Int32) : CM l D yX8_newTool cX8_newTool 4 (some (.object "HireShed$Tool")) { frames := 6, cells := 1, slots := 8, locals := 132 } (tyS cN cT cJ) [.ref o, .int 2, .int rt, .int vl] [(o, shE tr ta ac tc td cs hi)] (hs_QR D (tyS cN cT cJ) (fun q => [(o, shE tr ta ac tc td cs hi), (q, tlE 2 tr 2 rt vl 0 0 (-1) (-1))])) := by
  refine CM.of (by decide) (Nat.le_of_ble_eq_true rfl) ?_
  intro p e s m below meth c A ls hx hb hrt hml htg hown hlocks hnm hA hK hP hD hS hl
  have hown : s.vm.findClass RX8 = some m.cls := hown
  have hl : lv_has ls 4 [(0, .ref o), (1, .int 2), (2, .int rt), (3, .int vl)] := hl
  have SF : CallFix p m c cX8_newTool 4 s _ hs_gt RX8 := ⟨hx, hb, hml, hown, htg⟩
  refine lv_iload_n hx hb dX8_newTool_0 rfl (lv_at hl 1 rfl) ?_
  refine lv_tableIn (off := 54) (tgt := 55) hx hb dX8_newTool_1 (by decide) (by decide) (by decide) (by decide) ?_
  refine va_new (ci := 4) (fs := [.null, .int 0, .int 0, .int 0, .int 0, .int 0, .int 0, .int 0]) (C := RX4) (T := TX5) (N := 8) hx hb htg in_X4 tyX5 tyX5_ok hown (htg _ tw_147) (htg _ tw_148) (htg _ tw_22) hK hP hD hS hA rfl (fun j hj => by rcases (show j = 0 ∨ j = 1 ∨ j = 2 ∨ j = 3 ∨ j = 4 ∨ j = 5 ∨ j = 6 ∨ j = 7 by omega) with rfl | rfl | rfl | rfl | rfl | rfl | rfl | rfl <;> rfl) (Nat.le_of_ble_eq_true rfl) (Nat.le_of_ble_eq_true rfl) dX8_newTool_55 (fun q55 H hP hD hS => ?_)
  have hP : va_P D hs_cl [(o, shE tr ta ac tc td cs hi), (q55, .inr (4, [.null, .int 0, .int 0, .int 0, .int 0, .int 0, .int 0, .int 0]))] H := hP
  have hD : va_D A [(o, shE tr ta ac tc td cs hi), (q55, .inr (4, [.null, .int 0, .int 0, .int 0, .int 0, .int 0, .int 0, .int 0]))] := hD
  refine W.widen (k := 1) (n := 8) (Nat.le_of_ble_eq_true rfl) (Nat.le_of_ble_eq_true rfl) ?_
  refine lv_dup hx hb dX8_newTool_58 rfl ?_
  refine lv_iload_n hx hb dX8_newTool_59 rfl (lv_at hl 1 rfl) ?_
  refine lv_iload_n hx hb dX8_newTool_60 rfl (lv_at hl 2 rfl) ?_
  refine lv_iload_n hx hb dX8_newTool_61 rfl (lv_at hl 3 rfl) ?_
  refine lv_aload_n hx hb dX8_newTool_62 rfl (lv_at hl 0 rfl) ?_
  refine va_get (D := D) (ci := 8) (v := .ref tr) (C := RX8) (T := TX8) (N := 7) hx hb htg in_X8 hown hK hP 0 rfl rfl 0 (by decide) (htg _ tw_55) (fun _ h9 => h9) rfl dX8_newTool_63 ?_
  refine hs_callv (wc := [(q55, .inr (4, [.null, .int 0, .int 0, .int 0, .int 0, .int 0, .int 0, .int 0]))]) (w1 := [(q55, tlE 2 tr 2 rt vl 0 0 (-1) (-1))]) (wr := [(o, shE tr ta ac tc td cs hi)]) (ws2 := [(o, shE tr ta ac tc td cs hi), (q55, tlE 2 tr 2 rt vl 0 0 (-1) (-1))]) (hs_runI SF cal_X4_init tw_149 (c_X4_init l D cN cT cJ q55 tr 2 2 rt vl) hK (hP.sub (ws' := [(q55, .inr (4, [.null, .int 0, .int 0, .int 0, .int 0, .int 0, .int 0, .int 0]))]) [1] rfl) (hD.sub (ws' := [(q55, .inr (4, [.null, .int 0, .int 0, .int 0, .int 0, .int 0, .int 0, .int 0]))]) [1] (by decide) rfl) ⟨Nat.le_of_ble_eq_true rfl, Nat.le_of_ble_eq_true rfl⟩ rfl hl.1 rfl (Nat.le_of_ble_eq_true rfl) dX8_newTool_66 ⟨Nat.le_of_ble_eq_true rfl, Nat.le_of_ble_eq_true rfl⟩) hP hD hS hA [1] [0] [0, 1] rfl rfl (by decide) (by decide) rfl (by decide) (fun H locs hP hD hS => ?_)
  exact W.aret hx hb hrt (Or.inl ⟨_, rfl⟩) (Or.inr ⟨_, rfl⟩) (fun t ht hW => ⟨⟨(), q55, rfl, trivial, by rw [ht]; exact hP, va_K.moved hW.alike hK, hD⟩, hS.F ht⟩) hS.2.2 dX8_newTool_69 hlocks

set_option maxHeartbeats 400000 in
set_option maxRecDepth 100000 in
theorem c_X8_newTool_3 (l : Launch) (D : va_G) (cN cT cJ : ClassId) (o ta ac tr : Nat) (tc td cs hi : Int32) (rt vl : Int32) : CM l D yX8_newTool cX8_newTool 4 (some (.object "HireShed$Tool")) { frames := 6, cells := 1, slots := 8, locals := 132 } (tyS cN cT cJ) [.ref o, .int 3, .int rt, .int vl] [(o, shE tr ta ac tc td cs hi)] (hs_QR D (tyS cN cT cJ) (fun q => [(o, shE tr ta ac tc td cs hi), (q, tlE 3 tr 3 rt vl 0 0 (-1) (-1))])) := by
  refine CM.of (by decide) (Nat.le_of_ble_eq_true rfl) ?_
  intro p e s m below meth c A ls hx hb hrt hml htg hown hlocks hnm hA hK hP hD hS hl
  have hown : s.vm.findClass RX8 = some m.cls := hown
  have hl : lv_has ls 4 [(0, .ref o), (1, .int 3), (2, .int rt), (3, .int vl)] := hl
  have SF : CallFix p m c cX8_newTool 4 s _ hs_gt RX8 := ⟨hx, hb, hml, hown, htg⟩
  refine lv_iload_n hx hb dX8_newTool_0 rfl (lv_at hl 1 rfl) ?_
  refine lv_tableIn (off := 69) (tgt := 70) hx hb dX8_newTool_1 (by decide) (by decide) (by decide) (by decide) ?_
  refine va_new (ci := 0) (fs := [.null, .int 0, .int 0, .int 0, .int 0, .int 0, .int 0, .int 0]) (C := RX0) (T := TX5) (N := 8) hx hb htg in_X0 tyX5 tyX5_ok hown (htg _ tw_162) (htg _ tw_163) (htg _ tw_23) hK hP hD hS hA rfl (fun j hj => by rcases (show j = 0 ∨ j = 1 ∨ j = 2 ∨ j = 3 ∨ j = 4 ∨ j = 5 ∨ j = 6 ∨ j = 7 by omega) with rfl | rfl | rfl | rfl | rfl | rfl | rfl | rfl <;> rfl) (Nat.le_of_ble_eq_true rfl) (Nat.le_of_ble_eq_true rfl) dX8_newTool_70 (fun q70 H hP hD hS => ?_)
  have hP : va_P D hs_cl [(o, shE tr ta ac tc td cs hi), (q70, .inr (0, [.null, .int 0, .int 0, .int 0, .int 0, .int 0, .int 0, .int 0]))] H := hP
  have hD : va_D A [(o, shE tr ta ac tc td cs hi), (q70, .inr (0, [.null, .int 0, .int 0, .int 0, .int 0, .int 0, .int 0, .int 0]))] := hD
  refine W.widen (k := 1) (n := 8) (Nat.le_of_ble_eq_true rfl) (Nat.le_of_ble_eq_true rfl) ?_
  refine lv_dup hx hb dX8_newTool_73 rfl ?_
  refine lv_iload_n hx hb dX8_newTool_74 rfl (lv_at hl 1 rfl) ?_
  refine lv_iload_n hx hb dX8_newTool_75 rfl (lv_at hl 2 rfl) ?_
  refine lv_iload_n hx hb dX8_newTool_76 rfl (lv_at hl 3 rfl) ?_
  refine lv_aload_n hx hb dX8_newTool_77 rfl (lv_at hl 0 rfl) ?_
  refine va_get (D := D) (ci := 8) (v := .ref tr) (C := RX8) (T := TX8) (N := 7) hx hb htg in_X8 hown hK hP 0 rfl rfl 0 (by decide) (htg _ tw_55) (fun _ h9 => h9) rfl dX8_newTool_78 ?_
  refine hs_callv (wc := [(q70, .inr (0, [.null, .int 0, .int 0, .int 0, .int 0, .int 0, .int 0, .int 0]))]) (w1 := [(q70, tlE 3 tr 3 rt vl 0 0 (-1) (-1))]) (wr := [(o, shE tr ta ac tc td cs hi)]) (ws2 := [(o, shE tr ta ac tc td cs hi), (q70, tlE 3 tr 3 rt vl 0 0 (-1) (-1))]) (hs_runI SF cal_X0_init tw_164 (c_X0_init l D cN cT cJ q70 tr 3 3 rt vl) hK (hP.sub (ws' := [(q70, .inr (0, [.null, .int 0, .int 0, .int 0, .int 0, .int 0, .int 0, .int 0]))]) [1] rfl) (hD.sub (ws' := [(q70, .inr (0, [.null, .int 0, .int 0, .int 0, .int 0, .int 0, .int 0, .int 0]))]) [1] (by decide) rfl) ⟨Nat.le_of_ble_eq_true rfl, Nat.le_of_ble_eq_true rfl⟩ rfl hl.1 rfl (Nat.le_of_ble_eq_true rfl) dX8_newTool_81 ⟨Nat.le_of_ble_eq_true rfl, Nat.le_of_ble_eq_true rfl⟩) hP hD hS hA [1] [0] [0, 1] rfl rfl (by decide) (by decide) rfl (by decide) (fun H locs hP hD hS => ?_)
  exact W.aret hx hb hrt (Or.inl ⟨_, rfl⟩) (Or.inr ⟨_, rfl⟩) (fun t ht hW => ⟨⟨(), q70, rfl, trivial, by rw [ht]; exact hP, va_K.moved hW.alike hK, hD⟩, hS.F ht⟩) hS.2.2 dX8_newTool_84 hlocks

set_option maxHeartbeats 400000 in
set_option maxRecDepth 100000 in
theorem c_X8_newTool_4 (l : Launch) (D : va_G) (cN cT cJ : ClassId) (o ta ac tr : Nat) (tc td cs hi : Int32) (rt vl : Int32) : CM l D yX8_newTool cX8_newTool 4 (some (.object "HireShed$Tool")) { frames := 6, cells := 1, slots := 8, locals := 132 } (tyS cN cT cJ) [.ref o, .int 4, .int rt, .int vl] [(o, shE tr ta ac tc td cs hi)] (hs_QR D (tyS cN cT cJ) (fun q => [(o, shE tr ta ac tc td cs hi), (q, tlE 4 tr 4 rt vl 0 0 (-1) (-1))])) := by
  refine CM.of (by decide) (Nat.le_of_ble_eq_true rfl) ?_
  intro p e s m below meth c A ls hx hb hrt hml htg hown hlocks hnm hA hK hP hD hS hl
  have hown : s.vm.findClass RX8 = some m.cls := hown
  have hl : lv_has ls 4 [(0, .ref o), (1, .int 4), (2, .int rt), (3, .int vl)] := hl
  have SF : CallFix p m c cX8_newTool 4 s _ hs_gt RX8 := ⟨hx, hb, hml, hown, htg⟩
  refine lv_iload_n hx hb dX8_newTool_0 rfl (lv_at hl 1 rfl) ?_
  refine lv_tableIn (off := 84) (tgt := 85) hx hb dX8_newTool_1 (by decide) (by decide) (by decide) (by decide) ?_
  refine va_new (ci := 7) (fs := [.null, .int 0, .int 0, .int 0, .int 0, .int 0, .int 0, .int 0]) (C := RX7) (T := TX5) (N := 8) hx hb htg in_X7 tyX5 tyX5_ok hown (htg _ tw_177) (htg _ tw_178) (htg _ tw_24) hK hP hD hS hA rfl (fun j hj => by rcases (show j = 0 ∨ j = 1 ∨ j = 2 ∨ j = 3 ∨ j = 4 ∨ j = 5 ∨ j = 6 ∨ j = 7 by omega) with rfl | rfl | rfl | rfl | rfl | rfl | rfl | rfl <;> rfl) (Nat.le_of_ble_eq_true rfl) (Nat.le_of_ble_eq_true rfl) dX8_newTool_85 (fun q85 H hP hD hS => ?_)
  have hP : va_P D hs_cl [(o, shE tr ta ac tc td cs hi), (q85, .inr (7, [.null, .int 0, .int 0, .int 0, .int 0, .int 0, .int 0, .int 0]))] H := hP
  have hD : va_D A [(o, shE tr ta ac tc td cs hi), (q85, .inr (7, [.null, .int 0, .int 0, .int 0, .int 0, .int 0, .int 0, .int 0]))] := hD
  refine W.widen (k := 1) (n := 8) (Nat.le_of_ble_eq_true rfl) (Nat.le_of_ble_eq_true rfl) ?_
  refine lv_dup hx hb dX8_newTool_88 rfl ?_
  refine lv_iload_n hx hb dX8_newTool_89 rfl (lv_at hl 1 rfl) ?_
  refine lv_iload_n hx hb dX8_newTool_90 rfl (lv_at hl 2 rfl) ?_
  refine lv_iload_n hx hb dX8_newTool_91 rfl (lv_at hl 3 rfl) ?_
  refine lv_aload_n hx hb dX8_newTool_92 rfl (lv_at hl 0 rfl) ?_
  refine va_get (D := D) (ci := 8) (v := .ref tr) (C := RX8) (T := TX8) (N := 7) hx hb htg in_X8 hown hK hP 0 rfl rfl 0 (by decide) (htg _ tw_55) (fun _ h9 => h9) rfl dX8_newTool_93 ?_
  refine hs_callv (wc := [(q85, .inr (7, [.null, .int 0, .int 0, .int 0, .int 0, .int 0, .int 0, .int 0]))]) (w1 := [(q85, tlE 4 tr 4 rt vl 0 0 (-1) (-1))]) (wr := [(o, shE tr ta ac tc td cs hi)]) (ws2 := [(o, shE tr ta ac tc td cs hi), (q85, tlE 4 tr 4 rt vl 0 0 (-1) (-1))]) (hs_runI SF cal_X7_init tw_179 (c_X7_init l D cN cT cJ q85 tr 4 4 rt vl) hK (hP.sub (ws' := [(q85, .inr (7, [.null, .int 0, .int 0, .int 0, .int 0, .int 0, .int 0, .int 0]))]) [1] rfl) (hD.sub (ws' := [(q85, .inr (7, [.null, .int 0, .int 0, .int 0, .int 0, .int 0, .int 0, .int 0]))]) [1] (by decide) rfl) ⟨Nat.le_of_ble_eq_true rfl, Nat.le_of_ble_eq_true rfl⟩ rfl hl.1 rfl (Nat.le_of_ble_eq_true rfl) dX8_newTool_96 ⟨Nat.le_of_ble_eq_true rfl, Nat.le_of_ble_eq_true rfl⟩) hP hD hS hA [1] [0] [0, 1] rfl rfl (by decide) (by decide) rfl (by decide) (fun H locs hP hD hS => ?_)
  exact W.aret hx hb hrt (Or.inl ⟨_, rfl⟩) (Or.inr ⟨_, rfl⟩) (fun t ht hW => ⟨⟨(), q85, rfl, trivial, by rw [ht]; exact hP, va_K.moved hW.alike hK, hD⟩, hS.F ht⟩) hS.2.2 dX8_newTool_99 hlocks

set_option maxHeartbeats 400000 in
set_option maxRecDepth 100000 in
theorem c_X8_newTool_5 (l : Launch) (D : va_G) (cN cT cJ : ClassId) (o ta ac tr : Nat) (tc td cs hi : Int32) (rt vl : Int32) : CM l D yX8_newTool cX8_newTool 4 (some (.object "HireShed$Tool")) { frames := 6, cells := 1, slots := 8, locals := 132 } (tyS cN cT cJ) [.ref o, .int 5, .int rt, .int vl] [(o, shE tr ta ac tc td cs hi)] (hs_QR D (tyS cN cT cJ) (fun q => [(o, shE tr ta ac tc td cs hi), (q, tlE 5 tr 5 rt vl 0 0 (-1) (-1))])) := by
  refine CM.of (by decide) (Nat.le_of_ble_eq_true rfl) ?_
  intro p e s m below meth c A ls hx hb hrt hml htg hown hlocks hnm hA hK hP hD hS hl
  have hown : s.vm.findClass RX8 = some m.cls := hown
  have hl : lv_has ls 4 [(0, .ref o), (1, .int 5), (2, .int rt), (3, .int vl)] := hl
  have SF : CallFix p m c cX8_newTool 4 s _ hs_gt RX8 := ⟨hx, hb, hml, hown, htg⟩
  refine lv_iload_n hx hb dX8_newTool_0 rfl (lv_at hl 1 rfl) ?_
  refine lv_tableIn (off := 99) (tgt := 100) hx hb dX8_newTool_1 (by decide) (by decide) (by decide) (by decide) ?_
  refine va_new (ci := 3) (fs := [.null, .int 0, .int 0, .int 0, .int 0, .int 0, .int 0, .int 0]) (C := RX3) (T := TX5) (N := 8) hx hb htg in_X3 tyX5 tyX5_ok hown (htg _ tw_192) (htg _ tw_193) (htg _ tw_25) hK hP hD hS hA rfl (fun j hj => by rcases (show j = 0 ∨ j = 1 ∨ j = 2 ∨ j = 3 ∨ j = 4 ∨ j = 5 ∨ j = 6 ∨ j = 7 by omega) with rfl | rfl | rfl | rfl | rfl | rfl | rfl | rfl <;> rfl) (Nat.le_of_ble_eq_true rfl) (Nat.le_of_ble_eq_true rfl) dX8_newTool_100 (fun q100 H hP hD hS => ?_)
  have hP : va_P D hs_cl [(o, shE tr ta ac tc td cs hi), (q100, .inr (3, [.null, .int 0, .int 0, .int 0, .int 0, .int 0, .int 0, .int 0]))] H := hP
  have hD : va_D A [(o, shE tr ta ac tc td cs hi), (q100, .inr (3, [.null, .int 0, .int 0, .int 0, .int 0, .int 0, .int 0, .int 0]))] := hD
  refine W.widen (k := 1) (n := 8) (Nat.le_of_ble_eq_true rfl) (Nat.le_of_ble_eq_true rfl) ?_
  refine lv_dup hx hb dX8_newTool_103 rfl ?_
  refine lv_iload_n hx hb dX8_newTool_104 rfl (lv_at hl 1 rfl) ?_
  refine lv_iload_n hx hb dX8_newTool_105 rfl (lv_at hl 2 rfl) ?_
  refine lv_iload_n hx hb dX8_newTool_106 rfl (lv_at hl 3 rfl) ?_
  refine lv_aload_n hx hb dX8_newTool_107 rfl (lv_at hl 0 rfl) ?_
  refine va_get (D := D) (ci := 8) (v := .ref tr) (C := RX8) (T := TX8) (N := 7) hx hb htg in_X8 hown hK hP 0 rfl rfl 0 (by decide) (htg _ tw_55) (fun _ h9 => h9) rfl dX8_newTool_108 ?_
  refine hs_callv (wc := [(q100, .inr (3, [.null, .int 0, .int 0, .int 0, .int 0, .int 0, .int 0, .int 0]))]) (w1 := [(q100, tlE 5 tr 5 rt vl 0 0 (-1) (-1))]) (wr := [(o, shE tr ta ac tc td cs hi)]) (ws2 := [(o, shE tr ta ac tc td cs hi), (q100, tlE 5 tr 5 rt vl 0 0 (-1) (-1))]) (hs_runI SF cal_X3_init tw_194 (c_X3_init l D cN cT cJ q100 tr 5 5 rt vl) hK (hP.sub (ws' := [(q100, .inr (3, [.null, .int 0, .int 0, .int 0, .int 0, .int 0, .int 0, .int 0]))]) [1] rfl) (hD.sub (ws' := [(q100, .inr (3, [.null, .int 0, .int 0, .int 0, .int 0, .int 0, .int 0, .int 0]))]) [1] (by decide) rfl) ⟨Nat.le_of_ble_eq_true rfl, Nat.le_of_ble_eq_true rfl⟩ rfl hl.1 rfl (Nat.le_of_ble_eq_true rfl) dX8_newTool_111 ⟨Nat.le_of_ble_eq_true rfl, Nat.le_of_ble_eq_true rfl⟩) hP hD hS hA [1] [0] [0, 1] rfl rfl (by decide) (by decide) rfl (by decide) (fun H locs hP hD hS => ?_)
  exact W.aret hx hb hrt (Or.inl ⟨_, rfl⟩) (Or.inr ⟨_, rfl⟩) (fun t ht hW => ⟨⟨(), q100, rfl, trivial, by rw [ht]; exact hP, va_K.moved hW.alike hK, hD⟩, hS.F ht⟩) hS.2.2 dX8_newTool_114 hlocks

set_option maxHeartbeats 400000 in
set_option maxRecDepth 100000 in
theorem c_X8_newTool_6 (l : Launch) (D : va_G) (cN cT cJ : ClassId) (o ta ac tr : Nat) (tc td cs hi : Int32) (rt vl : Int32) : CM l D yX8_newTool cX8_newTool 4 (some (.object "HireShed$Tool")) { frames := 6, cells := 1, slots := 8, locals := 132 } (tyS cN cT cJ) [.ref o, .int 6, .int rt, .int vl] [(o, shE tr ta ac tc td cs hi)] (hs_QR D (tyS cN cT cJ) (fun q => [(o, shE tr ta ac tc td cs hi), (q, tlE 6 tr 6 rt vl 0 0 (-1) (-1))])) := by
  refine CM.of (by decide) (Nat.le_of_ble_eq_true rfl) ?_
  intro p e s m below meth c A ls hx hb hrt hml htg hown hlocks hnm hA hK hP hD hS hl
  have hown : s.vm.findClass RX8 = some m.cls := hown
  have hl : lv_has ls 4 [(0, .ref o), (1, .int 6), (2, .int rt), (3, .int vl)] := hl
  have SF : CallFix p m c cX8_newTool 4 s _ hs_gt RX8 := ⟨hx, hb, hml, hown, htg⟩
  refine lv_iload_n hx hb dX8_newTool_0 rfl (lv_at hl 1 rfl) ?_
  refine lv_tableIn (off := 114) (tgt := 115) hx hb dX8_newTool_1 (by decide) (by decide) (by decide) (by decide) ?_
  refine va_new (ci := 1) (fs := [.null, .int 0, .int 0, .int 0, .int 0, .int 0, .int 0, .int 0]) (C := RX1) (T := TX5) (N := 8) hx hb htg in_X1 tyX5 tyX5_ok hown (htg _ tw_207) (htg _ tw_208) (htg _ tw_26) hK hP hD hS hA rfl (fun j hj => by rcases (show j = 0 ∨ j = 1 ∨ j = 2 ∨ j = 3 ∨ j = 4 ∨ j = 5 ∨ j = 6 ∨ j = 7 by omega) with rfl | rfl | rfl | rfl | rfl | rfl | rfl | rfl <;> rfl) (Nat.le_of_ble_eq_true rfl) (Nat.le_of_ble_eq_true rfl) dX8_newTool_115 (fun q115 H hP hD hS => ?_)
  have hP : va_P D hs_cl [(o, shE tr ta ac tc td cs hi), (q115, .inr (1, [.null, .int 0, .int 0, .int 0, .int 0, .int 0, .int 0, .int 0]))] H := hP
  have hD : va_D A [(o, shE tr ta ac tc td cs hi), (q115, .inr (1, [.null, .int 0, .int 0, .int 0, .int 0, .int 0, .int 0, .int 0]))] := hD
  refine W.widen (k := 1) (n := 8) (Nat.le_of_ble_eq_true rfl) (Nat.le_of_ble_eq_true rfl) ?_
  refine lv_dup hx hb dX8_newTool_118 rfl ?_
  refine lv_iload_n hx hb dX8_newTool_119 rfl (lv_at hl 1 rfl) ?_
  refine lv_iload_n hx hb dX8_newTool_120 rfl (lv_at hl 2 rfl) ?_
  refine lv_iload_n hx hb dX8_newTool_121 rfl (lv_at hl 3 rfl) ?_
  refine lv_aload_n hx hb dX8_newTool_122 rfl (lv_at hl 0 rfl) ?_
  refine va_get (D := D) (ci := 8) (v := .ref tr) (C := RX8) (T := TX8) (N := 7) hx hb htg in_X8 hown hK hP 0 rfl rfl 0 (by decide) (htg _ tw_55) (fun _ h9 => h9) rfl dX8_newTool_123 ?_
  refine hs_callv (wc := [(q115, .inr (1, [.null, .int 0, .int 0, .int 0, .int 0, .int 0, .int 0, .int 0]))]) (w1 := [(q115, tlE 6 tr 6 rt vl 0 0 (-1) (-1))]) (wr := [(o, shE tr ta ac tc td cs hi)]) (ws2 := [(o, shE tr ta ac tc td cs hi), (q115, tlE 6 tr 6 rt vl 0 0 (-1) (-1))]) (hs_runI SF cal_X1_init tw_209 (c_X1_init l D cN cT cJ q115 tr 6 6 rt vl) hK (hP.sub (ws' := [(q115, .inr (1, [.null, .int 0, .int 0, .int 0, .int 0, .int 0, .int 0, .int 0]))]) [1] rfl) (hD.sub (ws' := [(q115, .inr (1, [.null, .int 0, .int 0, .int 0, .int 0, .int 0, .int 0, .int 0]))]) [1] (by decide) rfl) ⟨Nat.le_of_ble_eq_true rfl, Nat.le_of_ble_eq_true rfl⟩ rfl hl.1 rfl (Nat.le_of_ble_eq_true rfl) dX8_newTool_126 ⟨Nat.le_of_ble_eq_true rfl, Nat.le_of_ble_eq_true rfl⟩) hP hD hS hA [1] [0] [0, 1] rfl rfl (by decide) (by decide) rfl (by decide) (fun H locs hP hD hS => ?_)
  exact W.aret hx hb hrt (Or.inl ⟨_, rfl⟩) (Or.inr ⟨_, rfl⟩) (fun t ht hW => ⟨⟨(), q115, rfl, trivial, by rw [ht]; exact hP, va_K.moved hW.alike hK, hD⟩, hS.F ht⟩) hS.2.2 dX8_newTool_129 hlocks

theorem c_X8_newTool (l : Launch) (D : va_G) (cN cT cJ : ClassId) (o ta ac tr : Nat) (tc td cs hi : Int32) (rt vl : Int32) (k : Nat) (hk : k < 7) : CM l D yX8_newTool cX8_newTool 4 (some (.object "HireShed$Tool")) { frames := 6, cells := 1, slots := 8, locals := 132 } (tyS cN cT cJ) [.ref o, .int (nI k), .int rt, .int vl] [(o, shE tr ta ac tc td cs hi)] (hs_QR D (tyS cN cT cJ) (fun q => [(o, shE tr ta ac tc td cs hi), (q, tlE k tr (nI k) rt vl 0 0 (-1) (-1))])) := by
  match k, hk with
  | 0, _ => exact c_X8_newTool_0 l D cN cT cJ o ta ac tr tc td cs hi rt vl
  | 1, _ => exact c_X8_newTool_1 l D cN cT cJ o ta ac tr tc td cs hi rt vl
  | 2, _ => exact c_X8_newTool_2 l D cN cT cJ o ta ac tr tc td cs hi rt vl
  | 3, _ => exact c_X8_newTool_3 l D cN cT cJ o ta ac tr tc td cs hi rt vl
  | 4, _ => exact c_X8_newTool_4 l D cN cT cJ o ta ac tr tc td cs hi rt vl
  | 5, _ => exact c_X8_newTool_5 l D cN cT cJ o ta ac tr tc td cs hi rt vl
  | 6, _ => exact c_X8_newTool_6 l D cN cT cJ o ta ac tr tc td cs hi rt vl
  | k + 7, hk => exact absurd hk (by omega)

theorem cal_X8_newTool : hs_cV yX8_newTool cX8_newTool 4 (some (.object "HireShed$Tool")) 3 := ⟨tw_89, tw_88, tw_0, tw_17, by decide +kernel⟩

