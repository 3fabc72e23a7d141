theorem lvT_b {n : Int32} {st : TS} (h : ¬ st.2.1 = 0) (h2 : 8 ≤ st.1) : lvT n st = st := by unfold lvT; rw [if_neg h, if_pos h2]
theorem lvT_c {n : Int32} {st : TS} (h : ¬ st.2.1 = 0) (h2 : ¬ 8 ≤ st.1) : lvT n st = (st.1 + 1, st.2.1, upd st.2.2 st.1.toNatClampNeg n) := by unfold lvT; rw [if_neg h, if_neg h2]
def nAt (st : TS) (i : Int32) : Int32 := if i < 0 then -1 else if st.1 ≤ i then -1 else if 8 ≤ i then -1 else st.2.2 i.toNatClampNeg
theorem hs_in8 {t : Int32} (h1 : ¬ t < 0) (h2 : ¬ 8 ≤ t) : vp_in t 8 := okT_in (st := (t, 0, fun _ => 0)) h1 h2

set_option maxHeartbeats 400000 in
set_option maxRecDepth 100000 in
theorem c_X6_leave (l : Launch) (D : va_G) (cN cT cJ : ClassId) (tr nb : Nat) (st : TS) (hst : okT st) (n : Int32) : CM l D yX6_leave cX6_leave 2 none { frames := 0, cells := 0, slots := 0, locals := 0 } (tyS cN cT cJ) [.ref tr, .int n] [(tr, trE nb st), (nb, nbE cN st)] (hs_QV D (tyS cN cT cJ) [(tr, trE nb (lvT n st)), (nb, nbE cN (lvT n st))]) := by
  refine CM.of (by decide) (Nat.le_of_ble_eq_true rfl) ?_
  intro p e s m below meth c A ls hx hb hrt hml htg hown hlocks hnm hA hK hP hD hS hl
  have hown : s.vm.findClass RX6 = some m.cls := hown
  have hl : lv_has ls 2 [(0, .ref tr), (1, .int n)] := hl
  have SF : CallFix p m c cX6_leave 2 s _ hs_gt RX6 := ⟨hx, hb, hml, hown, htg⟩
  refine lv_aload_n hx hb dX6_leave_0 rfl (lv_at hl 0 rfl) ?_
  refine va_get (D := D) (ci := 6) (v := .int st.2.1) (C := RX6) (T := TX6) (N := 3) hx hb htg in_X6 hown hK hP 0 rfl rfl 2 (by decide) (htg _ tw_44) (fun _ h9 => h9) rfl dX6_leave_1 ?_
  refine lv_if_eq (tgt := 39) hx hb dX6_leave_4 (by decide) (fun c4 => ?_) (fun c4 => ?_)
  · exact hs_vret hx hb hrt hlocks hK hP hD hS dX6_leave_39 (by first | rw [lvT_off c4] | rw [lvT_b c4 c16] | (rw [lvT_c c4 c16]; rfl))
  · refine lv_aload_n hx hb dX6_leave_7 rfl (lv_at hl 0 rfl) ?_
    refine va_get (D := D) (ci := 6) (v := .int st.1) (C := RX6) (T := TX6) (N := 3) hx hb htg in_X6 hown hK hP 0 rfl rfl 1 (by decide) (htg _ tw_43) (fun _ h9 => h9) rfl dX6_leave_8 ?_
    refine lv_aload_n hx hb dX6_leave_11 rfl (lv_at hl 0 rfl) ?_
    refine va_get (D := D) (ci := 6) (v := .ref nb) (C := RX6) (T := TX6) (N := 3) hx hb htg in_X6 hown hK hP 0 rfl rfl 0 (by decide) (htg _ tw_42) (fun _ h9 => h9) rfl dX6_leave_12 ?_
    refine va_alen (v := 8) hx hb hK hP 1 0 rfl rfl rfl dX6_leave_15 ?_
    refine lv_icmp_ge (tgt := 39) hx hb dX6_leave_16 (by decide) (fun c16 => ?_) (fun c16 => ?_)
    · exact hs_vret hx hb hrt hlocks hK hP hD hS dX6_leave_39 (by first | rw [lvT_off c4] | rw [lvT_b c4 c16] | (rw [lvT_c c4 c16]; rfl))
    · refine lv_aload_n hx hb dX6_leave_19 rfl (lv_at hl 0 rfl) ?_
      refine va_get (D := D) (ci := 6) (v := .ref nb) (C := RX6) (T := TX6) (N := 3) hx hb htg in_X6 hown hK hP 0 rfl rfl 0 (by decide) (htg _ tw_42) (fun _ h9 => h9) rfl dX6_leave_20 ?_
      refine lv_aload_n hx hb dX6_leave_23 rfl (lv_at hl 0 rfl) ?_
      refine va_get (D := D) (ci := 6) (v := .int st.1) (C := RX6) (T := TX6) (N := 3) hx hb htg in_X6 hown hK hP 0 rfl rfl 1 (by decide) (htg _ tw_43) (fun _ h9 => h9) rfl dX6_leave_24 ?_
      refine lv_iload_n hx hb dX6_leave_27 rfl (lv_at hl 1 rfl) ?_
      refine va_iast hx hb hK hP hD hS 1 0 rfl rfl (okT_in hst c16) dX6_leave_28 (fun H locs hP hD hS => ?_)
      have hP : va_P D hs_cl [(tr, trE nb st), (nb, .inl (cN, 8, .inl (upd st.2.2 st.1.toNatClampNeg n)))] H := hP
      have hD : va_D A [(tr, trE nb st), (nb, .inl (cN, 8, .inl (upd st.2.2 st.1.toNatClampNeg n)))] := hD
      refine lv_aload_n hx hb dX6_leave_29 rfl (lv_at hl 0 rfl) ?_
      refine lv_dup hx hb dX6_leave_30 rfl ?_
      refine va_get (D := D) (ci := 6) (v := .int st.1) (C := RX6) (T := TX6) (N := 3) hx hb htg in_X6 hown hK hP 0 rfl rfl 1 (by decide) (htg _ tw_43) (fun _ h9 => h9) rfl dX6_leave_31 ?_
      refine lv_iconst (v := 1) hx hb dX6_leave_34 (by decide) ?_
      refine lv_iadd hx hb dX6_leave_35 ?_
      refine va_put (D := D) (ci := 6) (v := .int (st.1 + 1)) (ty := .int) (C := RX6) (T := TX6) (N := 3) hx hb htg in_X6 tyX6 tyX6_ok nmX6 hown hK hP hD hS 0 rfl rfl 1 (by decide) (htg _ tw_43) (fun _ h9 => h9) rfl (by decide +kernel) rfl rfl (Nat.le_of_ble_eq_true rfl) dX6_leave_36 (fun H locs hP hD hS => ?_)
      have hP : va_P D hs_cl [(tr, .inr (6, [.ref nb, .int (st.1 + 1), .int st.2.1])), (nb, .inl (cN, 8, .inl (upd st.2.2 st.1.toNatClampNeg n)))] H := hP
      have hD : va_D A [(tr, .inr (6, [.ref nb, .int (st.1 + 1), .int st.2.1])), (nb, .inl (cN, 8, .inl (upd st.2.2 st.1.toNatClampNeg n)))] := hD
      exact hs_vret hx hb hrt hlocks hK hP hD hS dX6_leave_39 (by first | rw [lvT_off c4] | rw [lvT_b c4 c16] | (rw [lvT_c c4 c16]; rfl))

set_option maxHeartbeats 400000 in
set_option maxRecDepth 100000 in
theorem c_X6_begin (l : Launch) (D : va_G) (cN cT cJ : ClassId) (tr nb : Nat) (st : TS) : CM l D yX6_begin cX6_begin 1 none { frames := 0, cells := 0, slots := 0, locals := 0 } (tyS cN cT cJ) [.ref tr] [(tr, trE nb st), (nb, nbE cN st)] (hs_QV D (tyS cN cT cJ) [(tr, trE nb (0, 1, st.2.2)), (nb, nbE cN (0, 1, st.2.2))]) := by
  refine CM.of (by decide) (Nat.le_of_ble_eq_true rfl) ?_
  intro p e s m below meth c A ls hx hb hrt hml htg hown hlocks hnm hA hK hP hD hS hl
  have hown : s.vm.findClass RX6 = some m.cls := hown
  have hl : lv_has ls 1 [(0, .ref tr)] := hl
  have SF : CallFix p m c cX6_begin 1 s _ hs_gt RX6 := ⟨hx, hb, hml, hown, htg⟩
  refine lv_aload_n hx hb dX6_begin_0 rfl (lv_at hl 0 rfl) ?_
  refine lv_iconst (v := 0) hx hb dX6_begin_1 (by decide) ?_
  refine va_put (D := D) (ci := 6) (v := .int 0) (ty := .int) (C := RX6) (T := TX6) (N := 3) hx hb htg in_X6 tyX6 tyX6_ok nmX6 hown hK hP hD hS 0 rfl rfl 1 (by decide) (htg _ tw_43) (fun _ h9 => h9) rfl (by decide +kernel) rfl rfl (Nat.le_of_ble_eq_true rfl) dX6_begin_2 (fun H locs hP hD hS => ?_)
  have hP : va_P D hs_cl [(tr, .inr (6, [.ref nb, .int 0, .int st.2.1])), (nb, nbE cN st)] H := hP
  have hD : va_D A [(tr, .inr (6, [.ref nb, .int 0, .int st.2.1])), (nb, nbE cN st)] := hD
  refine lv_aload_n hx hb dX6_begin_5 rfl (lv_at hl 0 rfl) ?_
  refine lv_iconst (v := 1) hx hb dX6_begin_6 (by decide) ?_
  refine va_put (D := D) (ci := 6) (v := .int 1) (ty := .boolean) (C := RX6) (T := TX6) (N := 3) hx hb htg in_X6 tyX6 tyX6_ok nmX6 hown hK hP hD hS 0 rfl rfl 2 (by decide) (htg _ tw_44) (fun _ h9 => h9) rfl (by decide +kernel) rfl rfl (Nat.le_of_ble_eq_true rfl) dX6_begin_7 (fun H locs hP hD hS => ?_)
  have hP : va_P D hs_cl [(tr, .inr (6, [.ref nb, .int 0, .int 1])), (nb, nbE cN st)] H := hP
  have hD : va_D A [(tr, .inr (6, [.ref nb, .int 0, .int 1])), (nb, nbE cN st)] := hD
  exact hs_vret hx hb hrt hlocks hK hP hD hS dX6_begin_10 (rfl)

set_option maxHeartbeats 400000 in
set_option maxRecDepth 100000 in
theorem c_X6_end (l : Launch) (D : va_G) (cN cT cJ : ClassId) (tr nb : Nat) (st : TS) : CM l D yX6_end cX6_end 1 none { frames := 0, cells := 0, slots := 0, locals := 0 } (tyS cN cT cJ) [.ref tr] [(tr, trE nb st), (nb, nbE cN st)] (hs_QV D (tyS cN cT cJ) [(tr, trE nb (st.1, 0, st.2.2)), (nb, nbE cN (st.1, 0, st.2.2))]) := by
  refine CM.of (by decide) (Nat.le_of_ble_eq_true rfl) ?_
  intro p e s m below meth c A ls hx hb hrt hml htg hown hlocks hnm hA hK hP hD hS hl
  have hown : s.vm.findClass RX6 = some m.cls := hown
  have hl : lv_has ls 1 [(0, .ref tr)] := hl
  have SF : CallFix p m c cX6_end 1 s _ hs_gt RX6 := ⟨hx, hb, hml, hown, htg⟩
  refine lv_aload_n hx hb dX6_end_0 rfl (lv_at hl 0 rfl) ?_
  refine lv_iconst (v := 0) hx hb dX6_end_1 (by decide) ?_
  refine va_put (D := D) (ci := 6) (v := .int 0) (ty := .boolean) (C := RX6) (T := TX6) (N := 3) hx hb htg in_X6 tyX6 tyX6_ok nmX6 hown hK hP hD hS 0 rfl rfl 2 (by decide) (htg _ tw_44) (fun _ h9 => h9) rfl (by decide +kernel) rfl rfl (Nat.le_of_ble_eq_true rfl) dX6_end_2 (fun H locs hP hD hS => ?_)
  have hP : va_P D hs_cl [(tr, .inr (6, [.ref nb, .int st.1, .int 0])), (nb, nbE cN st)] H := hP
  have hD : va_D A [(tr, .inr (6, [.ref nb, .int st.1, .int 0])), (nb, nbE cN st)] := hD
  exact hs_vret hx hb hrt hlocks hK hP hD hS dX6_end_5 (rfl)

set_option maxHeartbeats 400000 in
set_option maxRecDepth 100000 in
theorem c_X6_numberAt (l : Launch) (D : va_G) (cN cT cJ : ClassId) (tr nb : Nat) (st : TS) (i : Int32) : CM l D yX6_numberAt cX6_numberAt 2 (some .int) { frames := 0, cells := 0, slots := 0, locals := 0 } (tyS cN cT cJ) [.ref tr, .int i] [(tr, trE nb st), (nb, nbE cN st)] (hs_QI D (tyS cN cT cJ) (nAt st i) [(tr, trE nb st), (nb, nbE cN st)]) := by
  refine CM.of (by decide) (Nat.le_of_ble_eq_true rfl) ?_
  intro p e s m below meth c A ls hx hb hrt hml htg hown hlocks hnm hA hK hP hD hS hl
  have hown : s.vm.findClass RX6 = some m.cls := hown
  have hl : lv_has ls 2 [(0, .ref tr), (1, .int i)] := hl
  have SF : CallFix p m c cX6_numberAt 2 s _ hs_gt RX6 := ⟨hx, hb, hml, hown, htg⟩
  refine lv_iload_n hx hb dX6_numberAt_0 rfl (lv_at hl 1 rfl) ?_
  refine lv_if_lt (tgt := 30) hx hb dX6_numberAt_1 (by decide) (fun c1 => ?_) (fun c1 => ?_)
  · refine lv_iconst (v := (-1)) hx hb dX6_numberAt_30 (by decide) ?_
    exact hs_iret hx hb hrt hlocks hK hP hD hS dX6_numberAt_31 (by unfold nAt; first | rw [if_pos c1] | rw [if_neg c1, if_pos c9] | rw [if_neg c1, if_neg c9, if_pos c18] | rw [if_neg c1, if_neg c9, if_neg c18]) (rfl)
  · refine lv_iload_n hx hb dX6_numberAt_4 rfl (lv_at hl 1 rfl) ?_
    refine lv_aload_n hx hb dX6_numberAt_5 rfl (lv_at hl 0 rfl) ?_
    refine va_get (D := D) (ci := 6) (v := .int st.1) (C := RX6) (T := TX6) (N := 3) hx hb htg in_X6 hown hK hP 0 rfl rfl 1 (by decide) (htg _ tw_43) (fun _ h9 => h9) rfl dX6_numberAt_6 ?_
    refine lv_icmp_ge (tgt := 30) hx hb dX6_numberAt_9 (by decide) (fun c9 => ?_) (fun c9 => ?_)
    · refine lv_iconst (v := (-1)) hx hb dX6_numberAt_30 (by decide) ?_
      exact hs_iret hx hb hrt hlocks hK hP hD hS dX6_numberAt_31 (by unfold nAt; first | rw [if_pos c1] | rw [if_neg c1, if_pos c9] | rw [if_neg c1, if_neg c9, if_pos c18] | rw [if_neg c1, if_neg c9, if_neg c18]) (rfl)
    · refine lv_iload_n hx hb dX6_numberAt_12 rfl (lv_at hl 1 rfl) ?_
      refine lv_aload_n hx hb dX6_numberAt_13 rfl (lv_at hl 0 rfl) ?_
      refine va_get (D := D) (ci := 6) (v := .ref nb) (C := RX6) (T := TX6) (N := 3) hx hb htg in_X6 hown hK hP 0 rfl rfl 0 (by decide) (htg _ tw_42) (fun _ h9 => h9) rfl dX6_numberAt_14 ?_
      refine va_alen (v := 8) hx hb hK hP 1 0 rfl rfl rfl dX6_numberAt_17 ?_
      refine lv_icmp_ge (tgt := 30) hx hb dX6_numberAt_18 (by decide) (fun c18 => ?_) (fun c18 => ?_)
      · refine lv_iconst (v := (-1)) hx hb dX6_numberAt_30 (by decide) ?_
        exact hs_iret hx hb hrt hlocks hK hP hD hS dX6_numberAt_31 (by unfold nAt; first | rw [if_pos c1] | rw [if_neg c1, if_pos c9] | rw [if_neg c1, if_neg c9, if_pos c18] | rw [if_neg c1, if_neg c9, if_neg c18]) (rfl)
      · refine lv_aload_n hx hb dX6_numberAt_21 rfl (lv_at hl 0 rfl) ?_
        refine va_get (D := D) (ci := 6) (v := .ref nb) (C := RX6) (T := TX6) (N := 3) hx hb htg in_X6 hown hK hP 0 rfl rfl 0 (by decide) (htg _ tw_42) (fun _ h9 => h9) rfl dX6_numberAt_22 ?_
        refine lv_iload_n hx hb dX6_numberAt_25 rfl (lv_at hl 1 rfl) ?_
        refine va_iald hx hb hK hP 1 0 rfl rfl (hs_in8 c1 c18) dX6_numberAt_26 ?_
        refine lv_goto (tgt := 31) hx hb dX6_numberAt_27 (by decide) ?_
        exact hs_iret hx hb hrt hlocks hK hP hD hS dX6_numberAt_31 (by unfold nAt; first | rw [if_pos c1] | rw [if_neg c1, if_pos c9] | rw [if_neg c1, if_neg c9, if_pos c18] | rw [if_neg c1, if_neg c9, if_neg c18]) (rfl)

theorem cal_X6_leave : hs_cV yX6_leave cX6_leave 2 none 1 := ⟨tw_302, tw_300, tw_301, tw_18, by decide +kernel⟩

theorem cal_X6_begin : hs_cV yX6_begin cX6_begin 1 none 0 := ⟨tw_244, tw_242, tw_243, tw_18, by decide +kernel⟩

theorem cal_X6_end : hs_cV yX6_end cX6_end 1 none 0 := ⟨tw_431, tw_429, tw_430, tw_18, by decide +kernel⟩

theorem cal_X6_numberAt : hs_cV yX6_numberAt cX6_numberAt 2 (some .int) 1 := ⟨tw_439, tw_437, tw_438, tw_18, by decide +kernel⟩

