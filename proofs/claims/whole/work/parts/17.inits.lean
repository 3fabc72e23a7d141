set_option maxHeartbeats 400000 in
set_option maxRecDepth 100000 in
theorem c_X6_init (l : Launch) (D : va_G) (tr : Nat) : CM l D yX6_init cX6_init 1 none { frames := 1, cells := 1, slots := 8, locals := 12 } ([] : List (ClassId × FieldType)) [.ref tr] [(tr, .inr (6, [.null, .int 0, .int 0]))] (hs_QVx (fun A t => ∃ (nb : Nat) (cN : ClassId), hs_end D [(cN, .int)] A [(tr, trE nb (0, 0, fun _ => 0)), (nb, nbE cN (0, 0, fun _ => 0))] t)) := by
  refine CM.of (by decide) (Nat.le_of_ble_eq_true rfl) ?_
  intro p e s m below meth c A ls hx hb hrt hml htg hown hlocks hnm hA hK hP hD hS hl
  have hown : s.vm.findClass RX6 = some m.cls := hown
  have hl : lv_has ls 1 [(0, .ref tr)] := hl
  have SF : CallFix p m c cX6_init 1 s _ hs_gt RX6 := ⟨hx, hb, hml, hown, htg⟩
  refine lv_aload_n hx hb dX6_init_0 rfl (lv_at hl 0 rfl) ?_
  refine W.objInit hx hb hown (htg _ tw_41) (htg _ tw_34) (htg _ tw_35) rfl (by rw [hml]; exact hl.1) rfl dX6_init_1 (Nat.le_of_ble_eq_true rfl) (Nat.le_of_ble_eq_true rfl) ?_
  refine W.eq (g2 := F0 m 4 ls []) rfl ?_
  refine lv_aload_n hx hb dX6_init_4 rfl (lv_at hl 0 rfl) ?_
  refine lv_bipush (v := 8) hx hb dX6_init_5 (by decide) ?_
  refine va_newa (atype := .int) (ty := .int) (a0 := (8, .inl (fun _ => 0))) (N' := 8) hx hb (htg _ tw_52) rfl hK hP hD hS hA (fun cA => rfl) (by decide) (by decide) (by decide) (Nat.le_of_ble_eq_true rfl) (Nat.le_of_ble_eq_true rfl) dX6_init_7 (fun q7 cA7 H hK hP hD hS => ?_)
  have hP : va_P D hs_cl [(tr, .inr (6, [.null, .int 0, .int 0])), (q7, .inl (cA7, 8, .inl (fun _ => 0)))] H := hP
  have hD : va_D A [(tr, .inr (6, [.null, .int 0, .int 0])), (q7, .inl (cA7, 8, .inl (fun _ => 0)))] := hD
  have hK : va_K D hs_cl [(cA7, .int)] s := hK
  refine W.widen (k := 1) (n := 8) (Nat.le_of_ble_eq_true rfl) (Nat.le_of_ble_eq_true rfl) ?_
  refine va_putF (D := D) (ci := 6) (v := .ref q7) (ty := (.array .int)) (C := RX6) (T := TX6) (N := 3) hx hb htg in_X6 tyX6 tyX6_ok nmX6 hown hK hP hD hS 0 rfl rfl 0 (by decide) (htg _ tw_42) (fun _ h9 => h9) rfl hnm rfl (by decide +kernel) rfl rfl (Nat.le_of_ble_eq_true rfl) dX6_init_9 (fun H locs hP hD hS => ?_)
  have hP : va_P D hs_cl [(tr, .inr (6, [.ref q7, .int 0, .int 0])), (q7, .inl (cA7, 8, .inl (fun _ => 0)))] H := hP
  have hD : va_D A [(tr, .inr (6, [.ref q7, .int 0, .int 0])), (q7, .inl (cA7, 8, .inl (fun _ => 0)))] := hD
  refine lv_aload_n hx hb dX6_init_12 rfl (lv_at hl 0 rfl) ?_
  refine lv_iconst (v := 0) hx hb dX6_init_13 (by decide) ?_
  refine va_put (D := D) (ci := 6) (v := .int 0) (ty := .int) (C := RX6) (T := TX6) (N := 3) hx hb htg in_X6 tyX6 tyX6_ok nmX6 hown hK hP hD hS 0 rfl rfl 1 (by decide) (htg _ tw_43) (fun _ h9 => h9) rfl (by decide +kernel) rfl rfl (Nat.le_of_ble_eq_true rfl) dX6_init_14 (fun H locs hP hD hS => ?_)
  have hP : va_P D hs_cl [(tr, .inr (6, [.ref q7, .int 0, .int 0])), (q7, .inl (cA7, 8, .inl (fun _ => 0)))] H := hP
  have hD : va_D A [(tr, .inr (6, [.ref q7, .int 0, .int 0])), (q7, .inl (cA7, 8, .inl (fun _ => 0)))] := hD
  refine lv_aload_n hx hb dX6_init_17 rfl (lv_at hl 0 rfl) ?_
  refine lv_iconst (v := 0) hx hb dX6_init_18 (by decide) ?_
  refine va_put (D := D) (ci := 6) (v := .int 0) (ty := .boolean) (C := RX6) (T := TX6) (N := 3) hx hb htg in_X6 tyX6 tyX6_ok nmX6 hown hK hP hD hS 0 rfl rfl 2 (by decide) (htg _ tw_44) (fun _ h9 => h9) rfl (by decide +kernel) rfl rfl (Nat.le_of_ble_eq_true rfl) dX6_init_19 (fun H locs hP hD hS => ?_)
  have hP : va_P D hs_cl [(tr, .inr (6, [.ref q7, .int 0, .int 0])), (q7, .inl (cA7, 8, .inl (fun _ => 0)))] H := hP
  have hD : va_D A [(tr, .inr (6, [.ref q7, .int 0, .int 0])), (q7, .inl (cA7, 8, .inl (fun _ => 0)))] := hD
  exact W.vret hx hb hrt (fun t ht hW => ⟨⟨(), rfl, trivial, q7, cA7, by rw [ht]; exact hP, va_K.moved hW.alike hK, hD⟩, hS.F ht⟩) hS.2.2 dX6_init_22 hlocks

theorem cal_X6_init : hs_cN yX6_init cX6_init 1 0 := ⟨tw_40, tw_39, tw_18, rfl, by decide +kernel⟩

set_option maxHeartbeats 400000 in
set_option maxRecDepth 100000 in
theorem c_X8_init (l : Launch) (D : va_G) (o : Nat) : CME l D yX8_init cX8_init 1 none { frames := 2, cells := 4, slots := 41, locals := 32 } ([] : List (ClassId × FieldType)) [.ref o] [(o, .inr (8, [.null, .null, .null, .int 0, .int 0, .int 0, .int 0]))] (fun U => va_Nw (.methodLinkNest RX8 9 yX6_init RX8) U ∧ va_AO RX5 U) (hs_QVx (fun A t => ∃ (ta ac tr nb : Nat) (cN cT cJ : ClassId), hs_end D (tyS cN cT cJ) A [(o, shE tr ta ac 0 0 0 0), (ta, taE cT (fun _ => none)), (ac, acE cJ (fun _ => 0)), (tr, trE nb (0, 0, fun _ => 0)), (nb, nbE cN (0, 0, fun _ => 0))] t)) := by
  refine CME.of (by decide) (Nat.le_of_ble_eq_true rfl) ?_
  intro p e s m below meth c A ls hx hb hrt hml htg hown hlocks hnm hA hK hP hD hS hl hE
  have hown : s.vm.findClass RX8 = some m.cls := hown
  have hl : lv_has ls 1 [(0, .ref o)] := hl
  have SF : CallFix p m c cX8_init 1 s _ hs_gt RX8 := ⟨hx, hb, hml, hown, htg⟩
  have hAO : va_AO RX5 s := hE.2
  refine lv_aload_n hx hb dX8_init_0 rfl (lv_at hl 0 rfl) ?_
  refine W.objInit hx hb hown (htg _ tw_33) (htg _ tw_34) (htg _ tw_35) rfl (by rw [hml]; exact hl.1) rfl dX8_init_1 (Nat.le_of_ble_eq_true rfl) (Nat.le_of_ble_eq_true rfl) ?_
  refine W.eq (g2 := F0 m 4 ls []) rfl ?_
  refine lv_aload_n hx hb dX8_init_4 rfl (lv_at hl 0 rfl) ?_
  refine va_new (ci := 6) (fs := [.null, .int 0, .int 0]) (C := RX6) (T := TX6) (N := 3) hx hb htg in_X6 tyX6 tyX6_ok hown (htg _ tw_36) (htg _ tw_37) (htg _ tw_18) hK hP hD hS hA rfl (fun j hj => by rcases (show j = 0 ∨ j = 1 ∨ j = 2 by omega) with rfl | rfl | rfl <;> rfl) (Nat.le_of_ble_eq_true rfl) (Nat.le_of_ble_eq_true rfl) dX8_init_5 (fun q5 H hP hD hS => ?_)
  have hP : va_P D hs_cl [(o, .inr (8, [.null, .null, .null, .int 0, .int 0, .int 0, .int 0])), (q5, .inr (6, [.null, .int 0, .int 0]))] H := hP
  have hD : va_D A [(o, .inr (8, [.null, .null, .null, .int 0, .int 0, .int 0, .int 0])), (q5, .inr (6, [.null, .int 0, .int 0]))] := hD
  refine W.widen (k := 1) (n := 3) (Nat.le_of_ble_eq_true rfl) (Nat.le_of_ble_eq_true rfl) ?_
  refine lv_dup hx hb dX8_init_8 rfl ?_
  have hF := va_free (wc := [(q5, .inr (6, [.null, .int 0, .int 0]))]) hD hS hA [1] rfl
  refine va_callv (hs_runIN (Qf := hs_QVx (fun A t => ∃ (nb : Nat) (cN : ClassId), hs_end D [(cN, .int)] A [(q5, trE nb (0, 0, fun _ => 0)), (nb, nbE cN (0, 0, fun _ => 0))] t)) (As := []) (rest := [.ref q5, .ref o]) (rm := { frames := 1, cells := 1, slots := 8, locals := 12 }) SF cal_X6_init hE.1 (c_X6_init l D q5) hK (hP.sub (ws' := [(q5, .inr (6, [.null, .int 0, .int 0]))]) [1] rfl) (hD.sub (ws' := [(q5, .inr (6, [.null, .int 0, .int 0]))]) [1] (by decide) rfl) ⟨Nat.le_of_ble_eq_true rfl, Nat.le_of_ble_eq_true rfl⟩ rfl hl.1 rfl (Nat.le_of_ble_eq_true rfl) dX8_init_9 ⟨Nat.le_of_ble_eq_true rfl, Nat.le_of_ble_eq_true rfl⟩) hS (fun q _ h => hF q h) hF (fun u t H1 locs ht hvm hw hB hz1 hk1 hS => ?_)
  obtain ⟨nb, cN, hP1, hK1, hD1⟩ := hB
  rw [ht] at hP1
  have hK := va_K.moved hvm.symm hK1
  obtain ⟨hP, hD⟩ := hs_back (wr := [(o, .inr (8, [.null, .null, .null, .int 0, .int 0, .int 0, .int 0]))]) (ws2 := [(o, .inr (8, [.null, .null, .null, .int 0, .int 0, .int 0, .int 0])), (q5, trE nb (0, 0, fun _ => 0)), (nb, nbE cN (0, 0, fun _ => 0))]) hP hD hF [1] [0] [0, 1, 2] rfl rfl (by decide) (by decide) rfl (by decide) hk1 hP1 hD1
  have hK : va_K D hs_cl [(cN, .int)] s := hK
  refine W.widen (k := 2) (n := 11) (Nat.le_of_ble_eq_true rfl) (Nat.le_of_ble_eq_true rfl) ?_
  refine va_putF (D := D) (ci := 8) (v := .ref q5) (ty := (.object "HireShed$Trace")) (C := RX8) (T := TX8) (N := 7) hx hb htg in_X8 tyX8 tyX8_ok nmX8 hown hK hP hD hS 0 rfl rfl 0 (by decide) (htg _ tw_55) (fun _ h9 => h9) rfl hnm rfl (by decide +kernel) rfl rfl (Nat.le_of_ble_eq_true rfl) dX8_init_12 (fun H locs hP hD hS => ?_)
  have hP : va_P D hs_cl [(o, .inr (8, [.ref q5, .null, .null, .int 0, .int 0, .int 0, .int 0])), (q5, trE nb (0, 0, fun _ => 0)), (nb, nbE cN (0, 0, fun _ => 0))] H := hP
  have hD : va_D A [(o, .inr (8, [.ref q5, .null, .null, .int 0, .int 0, .int 0, .int 0])), (q5, trE nb (0, 0, fun _ => 0)), (nb, nbE cN (0, 0, fun _ => 0))] := hD
  refine lv_aload_n hx hb dX8_init_15 rfl (lv_at hl 0 rfl) ?_
  refine lv_bipush (v := 24) hx hb dX8_init_16 (by decide) ?_
  refine va_newq (C := RX5) (N' := 24) hx hb hown (htg _ tw_53) hAO hK hP hD hS hA (by decide) (by decide) (by decide) (Nat.le_of_ble_eq_true rfl) (Nat.le_of_ble_eq_true rfl) dX8_init_18 (fun q18 cA18 H hK hP hD hS => ?_)
  have hP : va_P D hs_cl [(o, .inr (8, [.ref q5, .null, .null, .int 0, .int 0, .int 0, .int 0])), (q5, trE nb (0, 0, fun _ => 0)), (nb, nbE cN (0, 0, fun _ => 0)), (q18, .inl (cA18, 24, .inr (.inr (.inr (.inr (fun _ => none))))))] H := hP
  have hD : va_D A [(o, .inr (8, [.ref q5, .null, .null, .int 0, .int 0, .int 0, .int 0])), (q5, trE nb (0, 0, fun _ => 0)), (nb, nbE cN (0, 0, fun _ => 0)), (q18, .inl (cA18, 24, .inr (.inr (.inr (.inr (fun _ => none))))))] := hD
  have hK : va_K D hs_cl [(cN, .int), (cA18, .object RX5)] s := hK
  refine W.widen (k := 3) (n := 35) (Nat.le_of_ble_eq_true rfl) (Nat.le_of_ble_eq_true rfl) ?_
  refine va_putF (D := D) (ci := 8) (v := .ref q18) (ty := (.array (.object "HireShed$Tool"))) (C := RX8) (T := TX8) (N := 7) hx hb htg in_X8 tyX8 tyX8_ok nmX8 hown hK hP hD hS 0 rfl rfl 1 (by decide) (htg _ tw_56) (fun _ h9 => h9) rfl hnm rfl (by decide +kernel) rfl rfl (Nat.le_of_ble_eq_true rfl) dX8_init_21 (fun H locs hP hD hS => ?_)
  have hP : va_P D hs_cl [(o, .inr (8, [.ref q5, .ref q18, .null, .int 0, .int 0, .int 0, .int 0])), (q5, trE nb (0, 0, fun _ => 0)), (nb, nbE cN (0, 0, fun _ => 0)), (q18, .inl (cA18, 24, .inr (.inr (.inr (.inr (fun _ => none))))))] H := hP
  have hD : va_D A [(o, .inr (8, [.ref q5, .ref q18, .null, .int 0, .int 0, .int 0, .int 0])), (q5, trE nb (0, 0, fun _ => 0)), (nb, nbE cN (0, 0, fun _ => 0)), (q18, .inl (cA18, 24, .inr (.inr (.inr (.inr (fun _ => none))))))] := hD
  refine lv_aload_n hx hb dX8_init_24 rfl (lv_at hl 0 rfl) ?_
  refine lv_bipush (v := 6) hx hb dX8_init_25 (by decide) ?_
  refine va_newa (atype := .long) (ty := .long) (a0 := (6, .inr (.inl (fun _ => 0)))) (N' := 6) hx hb (htg _ tw_77) rfl hK hP hD hS hA (fun cA => rfl) (by decide) (by decide) (by decide) (Nat.le_of_ble_eq_true rfl) (Nat.le_of_ble_eq_true rfl) dX8_init_27 (fun q27 cA27 H hK hP hD hS => ?_)
  have hP : va_P D hs_cl [(o, .inr (8, [.ref q5, .ref q18, .null, .int 0, .int 0, .int 0, .int 0])), (q5, trE nb (0, 0, fun _ => 0)), (nb, nbE cN (0, 0, fun _ => 0)), (q18, .inl (cA18, 24, .inr (.inr (.inr (.inr (fun _ => none)))))), (q27, .inl (cA27, 6, .inr (.inl (fun _ => 0))))] H := hP
  have hD : va_D A [(o, .inr (8, [.ref q5, .ref q18, .null, .int 0, .int 0, .int 0, .int 0])), (q5, trE nb (0, 0, fun _ => 0)), (nb, nbE cN (0, 0, fun _ => 0)), (q18, .inl (cA18, 24, .inr (.inr (.inr (.inr (fun _ => none)))))), (q27, .inl (cA27, 6, .inr (.inl (fun _ => 0))))] := hD
  have hK : va_K D hs_cl [(cN, .int), (cA18, .object RX5), (cA27, .long)] s := hK
  refine W.widen (k := 4) (n := 41) (Nat.le_of_ble_eq_true rfl) (Nat.le_of_ble_eq_true rfl) ?_
  refine va_putF (D := D) (ci := 8) (v := .ref q27) (ty := (.array .long)) (C := RX8) (T := TX8) (N := 7) hx hb htg in_X8 tyX8 tyX8_ok nmX8 hown hK hP hD hS 0 rfl rfl 2 (by decide) (htg _ tw_57) (fun _ h9 => h9) rfl hnm rfl (by decide +kernel) rfl rfl (Nat.le_of_ble_eq_true rfl) dX8_init_29 (fun H locs hP hD hS => ?_)
  have hP : va_P D hs_cl [(o, .inr (8, [.ref q5, .ref q18, .ref q27, .int 0, .int 0, .int 0, .int 0])), (q5, trE nb (0, 0, fun _ => 0)), (nb, nbE cN (0, 0, fun _ => 0)), (q18, .inl (cA18, 24, .inr (.inr (.inr (.inr (fun _ => none)))))), (q27, .inl (cA27, 6, .inr (.inl (fun _ => 0))))] H := hP
  have hD : va_D A [(o, .inr (8, [.ref q5, .ref q18, .ref q27, .int 0, .int 0, .int 0, .int 0])), (q5, trE nb (0, 0, fun _ => 0)), (nb, nbE cN (0, 0, fun _ => 0)), (q18, .inl (cA18, 24, .inr (.inr (.inr (.inr (fun _ => none)))))), (q27, .inl (cA27, 6, .inr (.inl (fun _ => 0))))] := hD
  refine lv_aload_n hx hb dX8_init_32 rfl (lv_at hl 0 rfl) ?_
  refine lv_iconst (v := 0) hx hb dX8_init_33 (by decide) ?_
  refine va_put (D := D) (ci := 8) (v := .int 0) (ty := .int) (C := RX8) (T := TX8) (N := 7) hx hb htg in_X8 tyX8 tyX8_ok nmX8 hown hK hP hD hS 0 rfl rfl 3 (by decide) (htg _ tw_58) (fun _ h9 => h9) rfl (by decide +kernel) rfl rfl (Nat.le_of_ble_eq_true rfl) dX8_init_34 (fun H locs hP hD hS => ?_)
  have hP : va_P D hs_cl [(o, .inr (8, [.ref q5, .ref q18, .ref q27, .int 0, .int 0, .int 0, .int 0])), (q5, trE nb (0, 0, fun _ => 0)), (nb, nbE cN (0, 0, fun _ => 0)), (q18, .inl (cA18, 24, .inr (.inr (.inr (.inr (fun _ => none)))))), (q27, .inl (cA27, 6, .inr (.inl (fun _ => 0))))] H := hP
  have hD : va_D A [(o, .inr (8, [.ref q5, .ref q18, .ref q27, .int 0, .int 0, .int 0, .int 0])), (q5, trE nb (0, 0, fun _ => 0)), (nb, nbE cN (0, 0, fun _ => 0)), (q18, .inl (cA18, 24, .inr (.inr (.inr (.inr (fun _ => none)))))), (q27, .inl (cA27, 6, .inr (.inl (fun _ => 0))))] := hD
  refine lv_aload_n hx hb dX8_init_37 rfl (lv_at hl 0 rfl) ?_
  refine lv_iconst (v := 0) hx hb dX8_init_38 (by decide) ?_
  refine va_put (D := D) (ci := 8) (v := .int 0) (ty := .int) (C := RX8) (T := TX8) (N := 7) hx hb htg in_X8 tyX8 tyX8_ok nmX8 hown hK hP hD hS 0 rfl rfl 4 (by decide) (htg _ tw_59) (fun _ h9 => h9) rfl (by decide +kernel) rfl rfl (Nat.le_of_ble_eq_true rfl) dX8_init_39 (fun H locs hP hD hS => ?_)
  have hP : va_P D hs_cl [(o, .inr (8, [.ref q5, .ref q18, .ref q27, .int 0, .int 0, .int 0, .int 0])), (q5, trE nb (0, 0, fun _ => 0)), (nb, nbE cN (0, 0, fun _ => 0)), (q18, .inl (cA18, 24, .inr (.inr (.inr (.inr (fun _ => none)))))), (q27, .inl (cA27, 6, .inr (.inl (fun _ => 0))))] H := hP
  have hD : va_D A [(o, .inr (8, [.ref q5, .ref q18, .ref q27, .int 0, .int 0, .int 0, .int 0])), (q5, trE nb (0, 0, fun _ => 0)), (nb, nbE cN (0, 0, fun _ => 0)), (q18, .inl (cA18, 24, .inr (.inr (.inr (.inr (fun _ => none)))))), (q27, .inl (cA27, 6, .inr (.inl (fun _ => 0))))] := hD
  refine lv_aload_n hx hb dX8_init_42 rfl (lv_at hl 0 rfl) ?_
  refine lv_iconst (v := 0) hx hb dX8_init_43 (by decide) ?_
  refine va_put (D := D) (ci := 8) (v := .int 0) (ty := .int) (C := RX8) (T := TX8) (N := 7) hx hb htg in_X8 tyX8 tyX8_ok nmX8 hown hK hP hD hS 0 rfl rfl 5 (by decide) (htg _ tw_60) (fun _ h9 => h9) rfl (by decide +kernel) rfl rfl (Nat.le_of_ble_eq_true rfl) dX8_init_44 (fun H locs hP hD hS => ?_)
  have hP : va_P D hs_cl [(o, .inr (8, [.ref q5, .ref q18, .ref q27, .int 0, .int 0, .int 0, .int 0])), (q5, trE nb (0, 0, fun _ => 0)), (nb, nbE cN (0, 0, fun _ => 0)), (q18, .inl (cA18, 24, .inr (.inr (.inr (.inr (fun _ => none)))))), (q27, .inl (cA27, 6, .inr (.inl (fun _ => 0))))] H := hP
  have hD : va_D A [(o, .inr (8, [.ref q5, .ref q18, .ref q27, .int 0, .int 0, .int 0, .int 0])), (q5, trE nb (0, 0, fun _ => 0)), (nb, nbE cN (0, 0, fun _ => 0)), (q18, .inl (cA18, 24, .inr (.inr (.inr (.inr (fun _ => none)))))), (q27, .inl (cA27, 6, .inr (.inl (fun _ => 0))))] := hD
  refine lv_aload_n hx hb dX8_init_47 rfl (lv_at hl 0 rfl) ?_
  refine lv_iconst (v := 0) hx hb dX8_init_48 (by decide) ?_
  refine va_put (D := D) (ci := 8) (v := .int 0) (ty := .int) (C := RX8) (T := TX8) (N := 7) hx hb htg in_X8 tyX8 tyX8_ok nmX8 hown hK hP hD hS 0 rfl rfl 6 (by decide) (htg _ tw_61) (fun _ h9 => h9) rfl (by decide +kernel) rfl rfl (Nat.le_of_ble_eq_true rfl) dX8_init_49 (fun H locs hP hD hS => ?_)
  have hP : va_P D hs_cl [(o, .inr (8, [.ref q5, .ref q18, .ref q27, .int 0, .int 0, .int 0, .int 0])), (q5, trE nb (0, 0, fun _ => 0)), (nb, nbE cN (0, 0, fun _ => 0)), (q18, .inl (cA18, 24, .inr (.inr (.inr (.inr (fun _ => none)))))), (q27, .inl (cA27, 6, .inr (.inl (fun _ => 0))))] H := hP
  have hD : va_D A [(o, .inr (8, [.ref q5, .ref q18, .ref q27, .int 0, .int 0, .int 0, .int 0])), (q5, trE nb (0, 0, fun _ => 0)), (nb, nbE cN (0, 0, fun _ => 0)), (q18, .inl (cA18, 24, .inr (.inr (.inr (.inr (fun _ => none)))))), (q27, .inl (cA27, 6, .inr (.inl (fun _ => 0))))] := hD
  exact W.vret hx hb hrt (fun t ht hW => ⟨⟨(), rfl, trivial, q18, q27, q5, nb, cN, cA18, cA27, by rw [ht]; exact (hP.sub [0, 3, 4, 1, 2] rfl), va_K.moved hW.alike hK, hD.sub [0, 3, 4, 1, 2] (by decide) rfl⟩, hS.F ht⟩) hS.2.2 dX8_init_52 hlocks

theorem cal_X8_init : hs_cN yX8_init cX8_init 1 0 := ⟨tw_32, tw_31, tw_17, rfl, by decide +kernel⟩

set_option maxHeartbeats 400000 in
set_option maxRecDepth 100000 in
theorem c_X9_init (l : Launch) (D : va_G) (o : Nat) : CM l D yX9_init cX9_init 1 none { frames := 1, cells := 9, slots := 190, locals := 12 } ([] : List (ClassId × FieldType)) [.ref o] [(o, .inr (9, [.int 0, .null, .null, .null, .null, .null, .null, .null, .null, .int 0, .int 0, .int 0, .null, .int 0, .int 0]))] (hs_QVx (fun A t => ∃ (ad : Nat → Nat) (cd : Nat → ClassId), hs_end D (tyM cd) A (mW o ad cd 0 0 0 0 (fun _ => 0) (fun _ => 0) (fun _ => 0) (fun _ => 0) (fun _ => 0) (fun _ => 0) (fun _ => 0) (fun _ => 0) (0, 0, (fun _ => 0))) t)) := by
  refine CM.of (by decide) (Nat.le_of_ble_eq_true rfl) ?_
  intro p e s m below meth c A ls hx hb hrt hml htg hown hlocks hnm hA hK hP hD hS hl
  have hown : s.vm.findClass RX9 = some m.cls := hown
  have hl : lv_has ls 1 [(0, .ref o)] := hl
  have SF : CallFix p m c cX9_init 1 s _ hs_gt RX9 := ⟨hx, hb, hml, hown, htg⟩
  refine lv_aload_n hx hb dX9_init_0 rfl (lv_at hl 0 rfl) ?_
  refine W.objInit hx hb hown (htg _ tw_519) (htg _ tw_34) (htg _ tw_35) rfl (by rw [hml]; exact hl.1) rfl dX9_init_1 (Nat.le_of_ble_eq_true rfl) (Nat.le_of_ble_eq_true rfl) ?_
  refine W.eq (g2 := F0 m 4 ls []) rfl ?_
  refine lv_aload_n hx hb dX9_init_4 rfl (lv_at hl 0 rfl) ?_
  refine lv_bipush (v := 24) hx hb dX9_init_5 (by decide) ?_
  refine va_newa (atype := .int) (ty := .int) (a0 := (24, .inl (fun _ => 0))) (N' := 24) hx hb (htg _ tw_52) rfl hK hP hD hS hA (fun cA => rfl) (by decide) (by decide) (by decide) (Nat.le_of_ble_eq_true rfl) (Nat.le_of_ble_eq_true rfl) dX9_init_7 (fun q7 cA7 H hK hP hD hS => ?_)
  have hP : va_P D hs_cl [(o, .inr (9, [.int 0, .null, .null, .null, .null, .null, .null, .null, .null, .int 0, .int 0, .int 0, .null, .int 0, .int 0])), (q7, .inl (cA7, 24, .inl (fun _ => 0)))] H := hP
  have hD : va_D A [(o, .inr (9, [.int 0, .null, .null, .null, .null, .null, .null, .null, .null, .int 0, .int 0, .int 0, .null, .int 0, .int 0])), (q7, .inl (cA7, 24, .inl (fun _ => 0)))] := hD
  have hK : va_K D hs_cl [(cA7, .int)] s := hK
  refine W.widen (k := 1) (n := 24) (Nat.le_of_ble_eq_true rfl) (Nat.le_of_ble_eq_true rfl) ?_
  refine va_putF (D := D) (ci := 9) (v := .ref q7) (ty := (.array .int)) (C := RX9) (T := TX9) (N := 15) hx hb htg in_X9 tyX9 tyX9_ok nmX9 hown hK hP hD hS 0 rfl rfl 1 (by decide) (htg _ tw_521) (fun _ h9 => h9) rfl hnm rfl (by decide +kernel) rfl rfl (Nat.le_of_ble_eq_true rfl) dX9_init_9 (fun H locs hP hD hS => ?_)
  have hP : va_P D hs_cl [(o, .inr (9, [.int 0, .ref q7, .null, .null, .null, .null, .null, .null, .null, .int 0, .int 0, .int 0, .null, .int 0, .int 0])), (q7, .inl (cA7, 24, .inl (fun _ => 0)))] H := hP
  have hD : va_D A [(o, .inr (9, [.int 0, .ref q7, .null, .null, .null, .null, .null, .null, .null, .int 0, .int 0, .int 0, .null, .int 0, .int 0])), (q7, .inl (cA7, 24, .inl (fun _ => 0)))] := hD
  refine lv_aload_n hx hb dX9_init_12 rfl (lv_at hl 0 rfl) ?_
  refine lv_bipush (v := 24) hx hb dX9_init_13 (by decide) ?_
  refine va_newa (atype := .int) (ty := .int) (a0 := (24, .inl (fun _ => 0))) (N' := 24) hx hb (htg _ tw_52) rfl hK hP hD hS hA (fun cA => rfl) (by decide) (by decide) (by decide) (Nat.le_of_ble_eq_true rfl) (Nat.le_of_ble_eq_true rfl) dX9_init_15 (fun q15 cA15 H hK hP hD hS => ?_)
  have hP : va_P D hs_cl [(o, .inr (9, [.int 0, .ref q7, .null, .null, .null, .null, .null, .null, .null, .int 0, .int 0, .int 0, .null, .int 0, .int 0])), (q7, .inl (cA7, 24, .inl (fun _ => 0))), (q15, .inl (cA15, 24, .inl (fun _ => 0)))] H := hP
  have hD : va_D A [(o, .inr (9, [.int 0, .ref q7, .null, .null, .null, .null, .null, .null, .null, .int 0, .int 0, .int 0, .null, .int 0, .int 0])), (q7, .inl (cA7, 24, .inl (fun _ => 0))), (q15, .inl (cA15, 24, .inl (fun _ => 0)))] := hD
  have hK : va_K D hs_cl [(cA7, .int), (cA15, .int)] s := hK
  refine W.widen (k := 2) (n := 48) (Nat.le_of_ble_eq_true rfl) (Nat.le_of_ble_eq_true rfl) ?_
  refine va_putF (D := D) (ci := 9) (v := .ref q15) (ty := (.array .int)) (C := RX9) (T := TX9) (N := 15) hx hb htg in_X9 tyX9 tyX9_ok nmX9 hown hK hP hD hS 0 rfl rfl 2 (by decide) (htg _ tw_522) (fun _ h9 => h9) rfl hnm rfl (by decide +kernel) rfl rfl (Nat.le_of_ble_eq_true rfl) dX9_init_17 (fun H locs hP hD hS => ?_)
  have hP : va_P D hs_cl [(o, .inr (9, [.int 0, .ref q7, .ref q15, .null, .null, .null, .null, .null, .null, .int 0, .int 0, .int 0, .null, .int 0, .int 0])), (q7, .inl (cA7, 24, .inl (fun _ => 0))), (q15, .inl (cA15, 24, .inl (fun _ => 0)))] H := hP
  have hD : va_D A [(o, .inr (9, [.int 0, .ref q7, .ref q15, .null, .null, .null, .null, .null, .null, .int 0, .int 0, .int 0, .null, .int 0, .int 0])), (q7, .inl (cA7, 24, .inl (fun _ => 0))), (q15, .inl (cA15, 24, .inl (fun _ => 0)))] := hD
  refine lv_aload_n hx hb dX9_init_20 rfl (lv_at hl 0 rfl) ?_
  refine lv_bipush (v := 24) hx hb dX9_init_21 (by decide) ?_
  refine va_newa (atype := .int) (ty := .int) (a0 := (24, .inl (fun _ => 0))) (N' := 24) hx hb (htg _ tw_52) rfl hK hP hD hS hA (fun cA => rfl) (by decide) (by decide) (by decide) (Nat.le_of_ble_eq_true rfl) (Nat.le_of_ble_eq_true rfl) dX9_init_23 (fun q23 cA23 H hK hP hD hS => ?_)
  have hP : va_P D hs_cl [(o, .inr (9, [.int 0, .ref q7, .ref q15, .null, .null, .null, .null, .null, .null, .int 0, .int 0, .int 0, .null, .int 0, .int 0])), (q7, .inl (cA7, 24, .inl (fun _ => 0))), (q15, .inl (cA15, 24, .inl (fun _ => 0))), (q23, .inl (cA23, 24, .inl (fun _ => 0)))] H := hP
  have hD : va_D A [(o, .inr (9, [.int 0, .ref q7, .ref q15, .null, .null, .null, .null, .null, .null, .int 0, .int 0, .int 0, .null, .int 0, .int 0])), (q7, .inl (cA7, 24, .inl (fun _ => 0))), (q15, .inl (cA15, 24, .inl (fun _ => 0))), (q23, .inl (cA23, 24, .inl (fun _ => 0)))] := hD
  have hK : va_K D hs_cl [(cA7, .int), (cA15, .int), (cA23, .int)] s := hK
  refine W.widen (k := 3) (n := 72) (Nat.le_of_ble_eq_true rfl) (Nat.le_of_ble_eq_true rfl) ?_
  refine va_putF (D := D) (ci := 9) (v := .ref q23) (ty := (.array .int)) (C := RX9) (T := TX9) (N := 15) hx hb htg in_X9 tyX9 tyX9_ok nmX9 hown hK hP hD hS 0 rfl rfl 3 (by decide) (htg _ tw_523) (fun _ h9 => h9) rfl hnm rfl (by decide +kernel) rfl rfl (Nat.le_of_ble_eq_true rfl) dX9_init_25 (fun H locs hP hD hS => ?_)
  have hP : va_P D hs_cl [(o, .inr (9, [.int 0, .ref q7, .ref q15, .ref q23, .null, .null, .null, .null, .null, .int 0, .int 0, .int 0, .null, .int 0, .int 0])), (q7, .inl (cA7, 24, .inl (fun _ => 0))), (q15, .inl (cA15, 24, .inl (fun _ => 0))), (q23, .inl (cA23, 24, .inl (fun _ => 0)))] H := hP
  have hD : va_D A [(o, .inr (9, [.int 0, .ref q7, .ref q15, .ref q23, .null, .null, .null, .null, .null, .int 0, .int 0, .int 0, .null, .int 0, .int 0])), (q7, .inl (cA7, 24, .inl (fun _ => 0))), (q15, .inl (cA15, 24, .inl (fun _ => 0))), (q23, .inl (cA23, 24, .inl (fun _ => 0)))] := hD
  refine lv_aload_n hx hb dX9_init_28 rfl (lv_at hl 0 rfl) ?_
  refine lv_bipush (v := 24) hx hb dX9_init_29 (by decide) ?_
  refine va_newa (atype := .int) (ty := .int) (a0 := (24, .inl (fun _ => 0))) (N' := 24) hx hb (htg _ tw_52) rfl hK hP hD hS hA (fun cA => rfl) (by decide) (by decide) (by decide) (Nat.le_of_ble_eq_true rfl) (Nat.le_of_ble_eq_true rfl) dX9_init_31 (fun q31 cA31 H hK hP hD hS => ?_)
  have hP : va_P D hs_cl [(o, .inr (9, [.int 0, .ref q7, .ref q15, .ref q23, .null, .null, .null, .null, .null, .int 0, .int 0, .int 0, .null, .int 0, .int 0])), (q7, .inl (cA7, 24, .inl (fun _ => 0))), (q15, .inl (cA15, 24, .inl (fun _ => 0))), (q23, .inl (cA23, 24, .inl (fun _ => 0))), (q31, .inl (cA31, 24, .inl (fun _ => 0)))] H := hP
  have hD : va_D A [(o, .inr (9, [.int 0, .ref q7, .ref q15, .ref q23, .null, .null, .null, .null, .null, .int 0, .int 0, .int 0, .null, .int 0, .int 0])), (q7, .inl (cA7, 24, .inl (fun _ => 0))), (q15, .inl (cA15, 24, .inl (fun _ => 0))), (q23, .inl (cA23, 24, .inl (fun _ => 0))), (q31, .inl (cA31, 24, .inl (fun _ => 0)))] := hD
  have hK : va_K D hs_cl [(cA7, .int), (cA15, .int), (cA23, .int), (cA31, .int)] s := hK
  refine W.widen (k := 4) (n := 96) (Nat.le_of_ble_eq_true rfl) (Nat.le_of_ble_eq_true rfl) ?_
  refine va_putF (D := D) (ci := 9) (v := .ref q31) (ty := (.array .int)) (C := RX9) (T := TX9) (N := 15) hx hb htg in_X9 tyX9 tyX9_ok nmX9 hown hK hP hD hS 0 rfl rfl 4 (by decide) (htg _ tw_524) (fun _ h9 => h9) rfl hnm rfl (by decide +kernel) rfl rfl (Nat.le_of_ble_eq_true rfl) dX9_init_33 (fun H locs hP hD hS => ?_)
  have hP : va_P D hs_cl [(o, .inr (9, [.int 0, .ref q7, .ref q15, .ref q23, .ref q31, .null, .null, .null, .null, .int 0, .int 0, .int 0, .null, .int 0, .int 0])), (q7, .inl (cA7, 24, .inl (fun _ => 0))), (q15, .inl (cA15, 24, .inl (fun _ => 0))), (q23, .inl (cA23, 24, .inl (fun _ => 0))), (q31, .inl (cA31, 24, .inl (fun _ => 0)))] H := hP
  have hD : va_D A [(o, .inr (9, [.int 0, .ref q7, .ref q15, .ref q23, .ref q31, .null, .null, .null, .null, .int 0, .int 0, .int 0, .null, .int 0, .int 0])), (q7, .inl (cA7, 24, .inl (fun _ => 0))), (q15, .inl (cA15, 24, .inl (fun _ => 0))), (q23, .inl (cA23, 24, .inl (fun _ => 0))), (q31, .inl (cA31, 24, .inl (fun _ => 0)))] := hD
  refine lv_aload_n hx hb dX9_init_36 rfl (lv_at hl 0 rfl) ?_
  refine lv_bipush (v := 24) hx hb dX9_init_37 (by decide) ?_
  refine va_newa (atype := .int) (ty := .int) (a0 := (24, .inl (fun _ => 0))) (N' := 24) hx hb (htg _ tw_52) rfl hK hP hD hS hA (fun cA => rfl) (by decide) (by decide) (by decide) (Nat.le_of_ble_eq_true rfl) (Nat.le_of_ble_eq_true rfl) dX9_init_39 (fun q39 cA39 H hK hP hD hS => ?_)
  have hP : va_P D hs_cl [(o, .inr (9, [.int 0, .ref q7, .ref q15, .ref q23, .ref q31, .null, .null, .null, .null, .int 0, .int 0, .int 0, .null, .int 0, .int 0])), (q7, .inl (cA7, 24, .inl (fun _ => 0))), (q15, .inl (cA15, 24, .inl (fun _ => 0))), (q23, .inl (cA23, 24, .inl (fun _ => 0))), (q31, .inl (cA31, 24, .inl (fun _ => 0))), (q39, .inl (cA39, 24, .inl (fun _ => 0)))] H := hP
  have hD : va_D A [(o, .inr (9, [.int 0, .ref q7, .ref q15, .ref q23, .ref q31, .null, .null, .null, .null, .int 0, .int 0, .int 0, .null, .int 0, .int 0])), (q7, .inl (cA7, 24, .inl (fun _ => 0))), (q15, .inl (cA15, 24, .inl (fun _ => 0))), (q23, .inl (cA23, 24, .inl (fun _ => 0))), (q31, .inl (cA31, 24, .inl (fun _ => 0))), (q39, .inl (cA39, 24, .inl (fun _ => 0)))] := hD
  have hK : va_K D hs_cl [(cA7, .int), (cA15, .int), (cA23, .int), (cA31, .int), (cA39, .int)] s := hK
  refine W.widen (k := 5) (n := 120) (Nat.le_of_ble_eq_true rfl) (Nat.le_of_ble_eq_true rfl) ?_
  refine va_putF (D := D) (ci := 9) (v := .ref q39) (ty := (.array .int)) (C := RX9) (T := TX9) (N := 15) hx hb htg in_X9 tyX9 tyX9_ok nmX9 hown hK hP hD hS 0 rfl rfl 5 (by decide) (htg _ tw_525) (fun _ h9 => h9) rfl hnm rfl (by decide +kernel) rfl rfl (Nat.le_of_ble_eq_true rfl) dX9_init_41 (fun H locs hP hD hS => ?_)
  have hP : va_P D hs_cl [(o, .inr (9, [.int 0, .ref q7, .ref q15, .ref q23, .ref q31, .ref q39, .null, .null, .null, .int 0, .int 0, .int 0, .null, .int 0, .int 0])), (q7, .inl (cA7, 24, .inl (fun _ => 0))), (q15, .inl (cA15, 24, .inl (fun _ => 0))), (q23, .inl (cA23, 24, .inl (fun _ => 0))), (q31, .inl (cA31, 24, .inl (fun _ => 0))), (q39, .inl (cA39, 24, .inl (fun _ => 0)))] H := hP
  have hD : va_D A [(o, .inr (9, [.int 0, .ref q7, .ref q15, .ref q23, .ref q31, .ref q39, .null, .null, .null, .int 0, .int 0, .int 0, .null, .int 0, .int 0])), (q7, .inl (cA7, 24, .inl (fun _ => 0))), (q15, .inl (cA15, 24, .inl (fun _ => 0))), (q23, .inl (cA23, 24, .inl (fun _ => 0))), (q31, .inl (cA31, 24, .inl (fun _ => 0))), (q39, .inl (cA39, 24, .inl (fun _ => 0)))] := hD
  refine lv_aload_n hx hb dX9_init_44 rfl (lv_at hl 0 rfl) ?_
  refine lv_bipush (v := 24) hx hb dX9_init_45 (by decide) ?_
  refine va_newa (atype := .int) (ty := .int) (a0 := (24, .inl (fun _ => 0))) (N' := 24) hx hb (htg _ tw_52) rfl hK hP hD hS hA (fun cA => rfl) (by decide) (by decide) (by decide) (Nat.le_of_ble_eq_true rfl) (Nat.le_of_ble_eq_true rfl) dX9_init_47 (fun q47 cA47 H hK hP hD hS => ?_)
  have hP : va_P D hs_cl [(o, .inr (9, [.int 0, .ref q7, .ref q15, .ref q23, .ref q31, .ref q39, .null, .null, .null, .int 0, .int 0, .int 0, .null, .int 0, .int 0])), (q7, .inl (cA7, 24, .inl (fun _ => 0))), (q15, .inl (cA15, 24, .inl (fun _ => 0))), (q23, .inl (cA23, 24, .inl (fun _ => 0))), (q31, .inl (cA31, 24, .inl (fun _ => 0))), (q39, .inl (cA39, 24, .inl (fun _ => 0))), (q47, .inl (cA47, 24, .inl (fun _ => 0)))] H := hP
  have hD : va_D A [(o, .inr (9, [.int 0, .ref q7, .ref q15, .ref q23, .ref q31, .ref q39, .null, .null, .null, .int 0, .int 0, .int 0, .null, .int 0, .int 0])), (q7, .inl (cA7, 24, .inl (fun _ => 0))), (q15, .inl (cA15, 24, .inl (fun _ => 0))), (q23, .inl (cA23, 24, .inl (fun _ => 0))), (q31, .inl (cA31, 24, .inl (fun _ => 0))), (q39, .inl (cA39, 24, .inl (fun _ => 0))), (q47, .inl (cA47, 24, .inl (fun _ => 0)))] := hD
  have hK : va_K D hs_cl [(cA7, .int), (cA15, .int), (cA23, .int), (cA31, .int), (cA39, .int), (cA47, .int)] s := hK
  refine W.widen (k := 6) (n := 144) (Nat.le_of_ble_eq_true rfl) (Nat.le_of_ble_eq_true rfl) ?_
  refine va_putF (D := D) (ci := 9) (v := .ref q47) (ty := (.array .int)) (C := RX9) (T := TX9) (N := 15) hx hb htg in_X9 tyX9 tyX9_ok nmX9 hown hK hP hD hS 0 rfl rfl 6 (by decide) (htg _ tw_526) (fun _ h9 => h9) rfl hnm rfl (by decide +kernel) rfl rfl (Nat.le_of_ble_eq_true rfl) dX9_init_49 (fun H locs hP hD hS => ?_)
  have hP : va_P D hs_cl [(o, .inr (9, [.int 0, .ref q7, .ref q15, .ref q23, .ref q31, .ref q39, .ref q47, .null, .null, .int 0, .int 0, .int 0, .null, .int 0, .int 0])), (q7, .inl (cA7, 24, .inl (fun _ => 0))), (q15, .inl (cA15, 24, .inl (fun _ => 0))), (q23, .inl (cA23, 24, .inl (fun _ => 0))), (q31, .inl (cA31, 24, .inl (fun _ => 0))), (q39, .inl (cA39, 24, .inl (fun _ => 0))), (q47, .inl (cA47, 24, .inl (fun _ => 0)))] H := hP
  have hD : va_D A [(o, .inr (9, [.int 0, .ref q7, .ref q15, .ref q23, .ref q31, .ref q39, .ref q47, .null, .null, .int 0, .int 0, .int 0, .null, .int 0, .int 0])), (q7, .inl (cA7, 24, .inl (fun _ => 0))), (q15, .inl (cA15, 24, .inl (fun _ => 0))), (q23, .inl (cA23, 24, .inl (fun _ => 0))), (q31, .inl (cA31, 24, .inl (fun _ => 0))), (q39, .inl (cA39, 24, .inl (fun _ => 0))), (q47, .inl (cA47, 24, .inl (fun _ => 0)))] := hD
  refine lv_aload_n hx hb dX9_init_52 rfl (lv_at hl 0 rfl) ?_
  refine lv_bipush (v := 24) hx hb dX9_init_53 (by decide) ?_
  refine va_newa (atype := .int) (ty := .int) (a0 := (24, .inl (fun _ => 0))) (N' := 24) hx hb (htg _ tw_52) rfl hK hP hD hS hA (fun cA => rfl) (by decide) (by decide) (by decide) (Nat.le_of_ble_eq_true rfl) (Nat.le_of_ble_eq_true rfl) dX9_init_55 (fun q55 cA55 H hK hP hD hS => ?_)
  have hP : va_P D hs_cl [(o, .inr (9, [.int 0, .ref q7, .ref q15, .ref q23, .ref q31, .ref q39, .ref q47, .null, .null, .int 0, .int 0, .int 0, .null, .int 0, .int 0])), (q7, .inl (cA7, 24, .inl (fun _ => 0))), (q15, .inl (cA15, 24, .inl (fun _ => 0))), (q23, .inl (cA23, 24, .inl (fun _ => 0))), (q31, .inl (cA31, 24, .inl (fun _ => 0))), (q39, .inl (cA39, 24, .inl (fun _ => 0))), (q47, .inl (cA47, 24, .inl (fun _ => 0))), (q55, .inl (cA55, 24, .inl (fun _ => 0)))] H := hP
  have hD : va_D A [(o, .inr (9, [.int 0, .ref q7, .ref q15, .ref q23, .ref q31, .ref q39, .ref q47, .null, .null, .int 0, .int 0, .int 0, .null, .int 0, .int 0])), (q7, .inl (cA7, 24, .inl (fun _ => 0))), (q15, .inl (cA15, 24, .inl (fun _ => 0))), (q23, .inl (cA23, 24, .inl (fun _ => 0))), (q31, .inl (cA31, 24, .inl (fun _ => 0))), (q39, .inl (cA39, 24, .inl (fun _ => 0))), (q47, .inl (cA47, 24, .inl (fun _ => 0))), (q55, .inl (cA55, 24, .inl (fun _ => 0)))] := hD
  have hK : va_K D hs_cl [(cA7, .int), (cA15, .int), (cA23, .int), (cA31, .int), (cA39, .int), (cA47, .int), (cA55, .int)] s := hK
  refine W.widen (k := 7) (n := 168) (Nat.le_of_ble_eq_true rfl) (Nat.le_of_ble_eq_true rfl) ?_
  refine va_putF (D := D) (ci := 9) (v := .ref q55) (ty := (.array .int)) (C := RX9) (T := TX9) (N := 15) hx hb htg in_X9 tyX9 tyX9_ok nmX9 hown hK hP hD hS 0 rfl rfl 7 (by decide) (htg _ tw_527) (fun _ h9 => h9) rfl hnm rfl (by decide +kernel) rfl rfl (Nat.le_of_ble_eq_true rfl) dX9_init_57 (fun H locs hP hD hS => ?_)
  have hP : va_P D hs_cl [(o, .inr (9, [.int 0, .ref q7, .ref q15, .ref q23, .ref q31, .ref q39, .ref q47, .ref q55, .null, .int 0, .int 0, .int 0, .null, .int 0, .int 0])), (q7, .inl (cA7, 24, .inl (fun _ => 0))), (q15, .inl (cA15, 24, .inl (fun _ => 0))), (q23, .inl (cA23, 24, .inl (fun _ => 0))), (q31, .inl (cA31, 24, .inl (fun _ => 0))), (q39, .inl (cA39, 24, .inl (fun _ => 0))), (q47, .inl (cA47, 24, .inl (fun _ => 0))), (q55, .inl (cA55, 24, .inl (fun _ => 0)))] H := hP
  have hD : va_D A [(o, .inr (9, [.int 0, .ref q7, .ref q15, .ref q23, .ref q31, .ref q39, .ref q47, .ref q55, .null, .int 0, .int 0, .int 0, .null, .int 0, .int 0])), (q7, .inl (cA7, 24, .inl (fun _ => 0))), (q15, .inl (cA15, 24, .inl (fun _ => 0))), (q23, .inl (cA23, 24, .inl (fun _ => 0))), (q31, .inl (cA31, 24, .inl (fun _ => 0))), (q39, .inl (cA39, 24, .inl (fun _ => 0))), (q47, .inl (cA47, 24, .inl (fun _ => 0))), (q55, .inl (cA55, 24, .inl (fun _ => 0)))] := hD
  refine lv_aload_n hx hb dX9_init_60 rfl (lv_at hl 0 rfl) ?_
  refine lv_bipush (v := 6) hx hb dX9_init_61 (by decide) ?_
  refine va_newa (atype := .long) (ty := .long) (a0 := (6, .inr (.inl (fun _ => 0)))) (N' := 6) hx hb (htg _ tw_77) rfl hK hP hD hS hA (fun cA => rfl) (by decide) (by decide) (by decide) (Nat.le_of_ble_eq_true rfl) (Nat.le_of_ble_eq_true rfl) dX9_init_63 (fun q63 cA63 H hK hP hD hS => ?_)
  have hP : va_P D hs_cl [(o, .inr (9, [.int 0, .ref q7, .ref q15, .ref q23, .ref q31, .ref q39, .ref q47, .ref q55, .null, .int 0, .int 0, .int 0, .null, .int 0, .int 0])), (q7, .inl (cA7, 24, .inl (fun _ => 0))), (q15, .inl (cA15, 24, .inl (fun _ => 0))), (q23, .inl (cA23, 24, .inl (fun _ => 0))), (q31, .inl (cA31, 24, .inl (fun _ => 0))), (q39, .inl (cA39, 24, .inl (fun _ => 0))), (q47, .inl (cA47, 24, .inl (fun _ => 0))), (q55, .inl (cA55, 24, .inl (fun _ => 0))), (q63, .inl (cA63, 6, .inr (.inl (fun _ => 0))))] H := hP
  have hD : va_D A [(o, .inr (9, [.int 0, .ref q7, .ref q15, .ref q23, .ref q31, .ref q39, .ref q47, .ref q55, .null, .int 0, .int 0, .int 0, .null, .int 0, .int 0])), (q7, .inl (cA7, 24, .inl (fun _ => 0))), (q15, .inl (cA15, 24, .inl (fun _ => 0))), (q23, .inl (cA23, 24, .inl (fun _ => 0))), (q31, .inl (cA31, 24, .inl (fun _ => 0))), (q39, .inl (cA39, 24, .inl (fun _ => 0))), (q47, .inl (cA47, 24, .inl (fun _ => 0))), (q55, .inl (cA55, 24, .inl (fun _ => 0))), (q63, .inl (cA63, 6, .inr (.inl (fun _ => 0))))] := hD
  have hK : va_K D hs_cl [(cA7, .int), (cA15, .int), (cA23, .int), (cA31, .int), (cA39, .int), (cA47, .int), (cA55, .int), (cA63, .long)] s := hK
  refine W.widen (k := 8) (n := 174) (Nat.le_of_ble_eq_true rfl) (Nat.le_of_ble_eq_true rfl) ?_
  refine va_putF (D := D) (ci := 9) (v := .ref q63) (ty := (.array .long)) (C := RX9) (T := TX9) (N := 15) hx hb htg in_X9 tyX9 tyX9_ok nmX9 hown hK hP hD hS 0 rfl rfl 8 (by decide) (htg _ tw_528) (fun _ h9 => h9) rfl hnm rfl (by decide +kernel) rfl rfl (Nat.le_of_ble_eq_true rfl) dX9_init_65 (fun H locs hP hD hS => ?_)
  have hP : va_P D hs_cl [(o, .inr (9, [.int 0, .ref q7, .ref q15, .ref q23, .ref q31, .ref q39, .ref q47, .ref q55, .ref q63, .int 0, .int 0, .int 0, .null, .int 0, .int 0])), (q7, .inl (cA7, 24, .inl (fun _ => 0))), (q15, .inl (cA15, 24, .inl (fun _ => 0))), (q23, .inl (cA23, 24, .inl (fun _ => 0))), (q31, .inl (cA31, 24, .inl (fun _ => 0))), (q39, .inl (cA39, 24, .inl (fun _ => 0))), (q47, .inl (cA47, 24, .inl (fun _ => 0))), (q55, .inl (cA55, 24, .inl (fun _ => 0))), (q63, .inl (cA63, 6, .inr (.inl (fun _ => 0))))] H := hP
  have hD : va_D A [(o, .inr (9, [.int 0, .ref q7, .ref q15, .ref q23, .ref q31, .ref q39, .ref q47, .ref q55, .ref q63, .int 0, .int 0, .int 0, .null, .int 0, .int 0])), (q7, .inl (cA7, 24, .inl (fun _ => 0))), (q15, .inl (cA15, 24, .inl (fun _ => 0))), (q23, .inl (cA23, 24, .inl (fun _ => 0))), (q31, .inl (cA31, 24, .inl (fun _ => 0))), (q39, .inl (cA39, 24, .inl (fun _ => 0))), (q47, .inl (cA47, 24, .inl (fun _ => 0))), (q55, .inl (cA55, 24, .inl (fun _ => 0))), (q63, .inl (cA63, 6, .inr (.inl (fun _ => 0))))] := hD
  refine lv_aload_n hx hb dX9_init_68 rfl (lv_at hl 0 rfl) ?_
  refine lv_bipush (v := 16) hx hb dX9_init_69 (by decide) ?_
  refine va_newa (atype := .int) (ty := .int) (a0 := (16, .inl (fun _ => 0))) (N' := 16) hx hb (htg _ tw_52) rfl hK hP hD hS hA (fun cA => rfl) (by decide) (by decide) (by decide) (Nat.le_of_ble_eq_true rfl) (Nat.le_of_ble_eq_true rfl) dX9_init_71 (fun q71 cA71 H hK hP hD hS => ?_)
  have hP : va_P D hs_cl [(o, .inr (9, [.int 0, .ref q7, .ref q15, .ref q23, .ref q31, .ref q39, .ref q47, .ref q55, .ref q63, .int 0, .int 0, .int 0, .null, .int 0, .int 0])), (q7, .inl (cA7, 24, .inl (fun _ => 0))), (q15, .inl (cA15, 24, .inl (fun _ => 0))), (q23, .inl (cA23, 24, .inl (fun _ => 0))), (q31, .inl (cA31, 24, .inl (fun _ => 0))), (q39, .inl (cA39, 24, .inl (fun _ => 0))), (q47, .inl (cA47, 24, .inl (fun _ => 0))), (q55, .inl (cA55, 24, .inl (fun _ => 0))), (q63, .inl (cA63, 6, .inr (.inl (fun _ => 0)))), (q71, .inl (cA71, 16, .inl (fun _ => 0)))] H := hP
  have hD : va_D A [(o, .inr (9, [.int 0, .ref q7, .ref q15, .ref q23, .ref q31, .ref q39, .ref q47, .ref q55, .ref q63, .int 0, .int 0, .int 0, .null, .int 0, .int 0])), (q7, .inl (cA7, 24, .inl (fun _ => 0))), (q15, .inl (cA15, 24, .inl (fun _ => 0))), (q23, .inl (cA23, 24, .inl (fun _ => 0))), (q31, .inl (cA31, 24, .inl (fun _ => 0))), (q39, .inl (cA39, 24, .inl (fun _ => 0))), (q47, .inl (cA47, 24, .inl (fun _ => 0))), (q55, .inl (cA55, 24, .inl (fun _ => 0))), (q63, .inl (cA63, 6, .inr (.inl (fun _ => 0)))), (q71, .inl (cA71, 16, .inl (fun _ => 0)))] := hD
  have hK : va_K D hs_cl [(cA7, .int), (cA15, .int), (cA23, .int), (cA31, .int), (cA39, .int), (cA47, .int), (cA55, .int), (cA63, .long), (cA71, .int)] s := hK
  refine W.widen (k := 9) (n := 190) (Nat.le_of_ble_eq_true rfl) (Nat.le_of_ble_eq_true rfl) ?_
  refine va_putF (D := D) (ci := 9) (v := .ref q71) (ty := (.array .int)) (C := RX9) (T := TX9) (N := 15) hx hb htg in_X9 tyX9 tyX9_ok nmX9 hown hK hP hD hS 0 rfl rfl 12 (by decide) (htg _ tw_532) (fun _ h9 => h9) rfl hnm rfl (by decide +kernel) rfl rfl (Nat.le_of_ble_eq_true rfl) dX9_init_73 (fun H locs hP hD hS => ?_)
  have hP : va_P D hs_cl [(o, .inr (9, [.int 0, .ref q7, .ref q15, .ref q23, .ref q31, .ref q39, .ref q47, .ref q55, .ref q63, .int 0, .int 0, .int 0, .ref q71, .int 0, .int 0])), (q7, .inl (cA7, 24, .inl (fun _ => 0))), (q15, .inl (cA15, 24, .inl (fun _ => 0))), (q23, .inl (cA23, 24, .inl (fun _ => 0))), (q31, .inl (cA31, 24, .inl (fun _ => 0))), (q39, .inl (cA39, 24, .inl (fun _ => 0))), (q47, .inl (cA47, 24, .inl (fun _ => 0))), (q55, .inl (cA55, 24, .inl (fun _ => 0))), (q63, .inl (cA63, 6, .inr (.inl (fun _ => 0)))), (q71, .inl (cA71, 16, .inl (fun _ => 0)))] H := hP
  have hD : va_D A [(o, .inr (9, [.int 0, .ref q7, .ref q15, .ref q23, .ref q31, .ref q39, .ref q47, .ref q55, .ref q63, .int 0, .int 0, .int 0, .ref q71, .int 0, .int 0])), (q7, .inl (cA7, 24, .inl (fun _ => 0))), (q15, .inl (cA15, 24, .inl (fun _ => 0))), (q23, .inl (cA23, 24, .inl (fun _ => 0))), (q31, .inl (cA31, 24, .inl (fun _ => 0))), (q39, .inl (cA39, 24, .inl (fun _ => 0))), (q47, .inl (cA47, 24, .inl (fun _ => 0))), (q55, .inl (cA55, 24, .inl (fun _ => 0))), (q63, .inl (cA63, 6, .inr (.inl (fun _ => 0)))), (q71, .inl (cA71, 16, .inl (fun _ => 0)))] := hD
  refine lv_aload_n hx hb dX9_init_76 rfl (lv_at hl 0 rfl) ?_
  refine lv_iconst (v := 0) hx hb dX9_init_77 (by decide) ?_
  refine va_put (D := D) (ci := 9) (v := .int 0) (ty := .int) (C := RX9) (T := TX9) (N := 15) hx hb htg in_X9 tyX9 tyX9_ok nmX9 hown hK hP hD hS 0 rfl rfl 9 (by decide) (htg _ tw_529) (fun _ h9 => h9) rfl (by decide +kernel) rfl rfl (Nat.le_of_ble_eq_true rfl) dX9_init_78 (fun H locs hP hD hS => ?_)
  have hP : va_P D hs_cl [(o, .inr (9, [.int 0, .ref q7, .ref q15, .ref q23, .ref q31, .ref q39, .ref q47, .ref q55, .ref q63, .int 0, .int 0, .int 0, .ref q71, .int 0, .int 0])), (q7, .inl (cA7, 24, .inl (fun _ => 0))), (q15, .inl (cA15, 24, .inl (fun _ => 0))), (q23, .inl (cA23, 24, .inl (fun _ => 0))), (q31, .inl (cA31, 24, .inl (fun _ => 0))), (q39, .inl (cA39, 24, .inl (fun _ => 0))), (q47, .inl (cA47, 24, .inl (fun _ => 0))), (q55, .inl (cA55, 24, .inl (fun _ => 0))), (q63, .inl (cA63, 6, .inr (.inl (fun _ => 0)))), (q71, .inl (cA71, 16, .inl (fun _ => 0)))] H := hP
  have hD : va_D A [(o, .inr (9, [.int 0, .ref q7, .ref q15, .ref q23, .ref q31, .ref q39, .ref q47, .ref q55, .ref q63, .int 0, .int 0, .int 0, .ref q71, .int 0, .int 0])), (q7, .inl (cA7, 24, .inl (fun _ => 0))), (q15, .inl (cA15, 24, .inl (fun _ => 0))), (q23, .inl (cA23, 24, .inl (fun _ => 0))), (q31, .inl (cA31, 24, .inl (fun _ => 0))), (q39, .inl (cA39, 24, .inl (fun _ => 0))), (q47, .inl (cA47, 24, .inl (fun _ => 0))), (q55, .inl (cA55, 24, .inl (fun _ => 0))), (q63, .inl (cA63, 6, .inr (.inl (fun _ => 0)))), (q71, .inl (cA71, 16, .inl (fun _ => 0)))] := hD
  exact W.vret hx hb hrt (fun t ht hW => ⟨⟨(), rfl, trivial, (fun i => match i with | 1 => q7 | 2 => q15 | 3 => q23 | 4 => q31 | 5 => q39 | 6 => q47 | 7 => q55 | 8 => q63 | 9 => q71 | _ => 0), (fun i => match i with | 1 => cA7 | 2 => cA15 | 3 => cA23 | 4 => cA31 | 5 => cA39 | 6 => cA47 | 7 => cA55 | 8 => cA63 | 9 => cA71 | _ => cA7), by rw [ht]; exact hP, va_K.moved hW.alike hK, hD⟩, hS.F ht⟩) hS.2.2 dX9_init_81 hlocks

theorem cal_X9_init : hs_cN yX9_init cX9_init 1 0 := ⟨tw_518, tw_517, tw_19, rfl, by decide +kernel⟩

