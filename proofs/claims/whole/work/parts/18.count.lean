def poolOk (a : Nat → Option Nat) (hw : Nat → Int32) (tr : Nat) (tl : va_W) : Prop := ∀ j, j < 24 → ∀ q, a j = some q → ∃ (k : Nat) (kd rt vl hr cu si : Int32), (q, tlE k tr kd rt vl hr (hw j) cu si) ∈ tl

set_option maxHeartbeats 400000 in
set_option maxRecDepth 100000 in
theorem c_X8_toolsThatAre (l : Launch) (D : va_G) (cN cT cJ : ClassId) (o ta ac tr : Nat) (tc td cs hi : Int32) (a : Nat → Option Nat) (hw : Nat → Int32) (tl : va_W) (hf : poolOk a hw tr tl) (x : Int32) : CM l D yX8_toolsThatAre cX8_toolsThatAre 7 (some .int) { frames := 0, cells := 0, slots := 0, locals := 0 } (tyS cN cT cJ) [.ref o, .int x] ([(o, shE tr ta ac tc td cs hi), (ta, taE cT a)] ++ tl) (hs_QI D (tyS cN cT cJ) (cntF a hw x 24) ([(o, shE tr ta ac tc td cs hi), (ta, taE cT a)] ++ tl)) := by
  refine CM.of (by decide) (Nat.le_of_ble_eq_true rfl) ?_
  intro p e s m below meth c A ls hx hb hrt hml htg hown hlocks hnm hA hK hP hD hS hl
  have hown : s.vm.findClass RX8 = some m.cls := hown
  have hl : lv_has ls 7 [(0, .ref o), (1, .int x)] := hl
  have SF : CallFix p m c cX8_toolsThatAre 7 s _ hs_gt RX8 := ⟨hx, hb, hml, hown, htg⟩
  refine lv_iconst (v := 0) hx hb dX8_toolsThatAre_0 (by decide) ?_
  refine lv_istore_n (lv' := [(2, .int 0), (0, .ref o), (1, .int x)]) hx hb dX8_toolsThatAre_1 rfl hl (by decide) rfl (fun ls hl => ?_)
  refine lv_aload_n hx hb dX8_toolsThatAre_2 rfl (lv_at hl 1 rfl) ?_
  refine va_get (D := D) (ci := 8) (v := .ref ta) (C := RX8) (T := TX8) (N := 7) hx hb htg in_X8 hown hK hP 0 rfl rfl 1 (by decide) (htg _ tw_56) (fun _ h9 => h9) rfl dX8_toolsThatAre_3 ?_
  refine lv_astore_n (lv' := [(3, .ref ta), (2, .int 0), (0, .ref o), (1, .int x)]) hx hb dX8_toolsThatAre_6 rfl hl (by decide) rfl (fun ls hl => ?_)
  refine lv_aload_n hx hb dX8_toolsThatAre_7 rfl (lv_at hl 0 rfl) ?_
  refine va_alen (v := 24) hx hb hK hP 1 1 rfl rfl rfl dX8_toolsThatAre_8 ?_
  refine lv_istore (lv' := [(4, .int 24), (3, .ref ta), (2, .int 0), (0, .ref o), (1, .int x)]) hx hb dX8_toolsThatAre_9 hl (by decide) rfl (fun ls hl => ?_)
  refine lv_iconst (v := 0) hx hb dX8_toolsThatAre_11 (by decide) ?_
  refine lv_istore (lv' := [(5, .int 0), (4, .int 24), (3, .ref ta), (2, .int 0), (0, .ref o), (1, .int x)]) hx hb dX8_toolsThatAre_12 hl (by decide) rfl (fun ls hl => ?_)
  have loop : ∀ (n j : Nat) (fo : Int32) (ls : Array Slot), j ≤ 24 → 25 ≤ j + n → fo = cntF a hw x j → lv_has ls 7 [(5, .int (nI j)), (4, .int 24), (3, .ref ta), (2, .int fo), (0, .ref o), (1, .int x)] → W p l e { frames := 0, cells := 0, slots := 0, locals := 0 } s m [Value.ref o, Value.int x].toArray below meth c s.heap [] 0 0 (MQ below (hs_QI D (tyS cN cT cJ) (cntF a hw x 24) ([(o, shE tr ta ac tc td cs hi), (ta, taE cT a)] ++ tl) A) [Value.ref o, Value.int x].toArray s 0 0 A) (F0 m 14 ls []) := by
    intro n
    induction n with
    | zero =>
      intro j fo ls h1 h2
      exact absurd h2 (by omega)
    | succ n ih =>
      intro j fo ls hj hn hfo hl
      refine lv_iload hx hb dX8_toolsThatAre_14 (lv_at hl 0 rfl) ?_
      refine lv_iload hx hb dX8_toolsThatAre_16 (lv_at hl 1 rfl) ?_
      refine lv_icmp_ge (tgt := 50) hx hb dX8_toolsThatAre_18 (by decide) (fun c18 => ?_) (fun c18 => ?_)
      · have hj24 : j = 24 := by have := (nI_leI (a := 24) (b := j) (by omega) (by omega)).mp c18; omega
        refine lv_iload_n hx hb dX8_toolsThatAre_50 rfl (lv_at hl 3 rfl) ?_
        exact hs_iret hx hb hrt hlocks hK hP hD hS dX8_toolsThatAre_51 (by rw [hfo, hj24]) (rfl)
      · have hjlt : j < 24 := by
          rcases Nat.lt_or_ge j 24 with h | h
          · exact h
          · exact absurd ((nI_leI (a := 24) (b := j) (by omega) (by omega)).mpr h) c18
        refine lv_aload_n hx hb dX8_toolsThatAre_21 rfl (lv_at hl 2 rfl) ?_
        refine lv_iload hx hb dX8_toolsThatAre_22 (lv_at hl 0 rfl) ?_
        refine va_aldq hx hb hK hP 1 1 rfl rfl (vp_in_nI hjlt (by omega)) dX8_toolsThatAre_24 ?_
        rw [nI_clamp (show j < 2 ^ 31 by omega)]
        rcases hq : a j with _ | q
        · refine lv_astoreN (lv' := [(6, .null), (5, .int (nI j)), (4, .int 24), (3, .ref ta), (2, .int fo), (0, .ref o), (1, .int x)]) hx hb dX8_toolsThatAre_25 hl (by decide) rfl (fun ls hl => ?_)
          refine lv_aloadN hx hb dX8_toolsThatAre_27 (lv_at hl 0 rfl) ?_
          refine lv_ifnullN (tgt := 44) hx hb dX8_toolsThatAre_29 (by decide) ?_
          refine lv_iinc (v := ((nI j) + 1)) (lv' := [(5, .int ((nI j) + 1)), (6, .null), (4, .int 24), (3, .ref ta), (2, .int fo), (0, .ref o), (1, .int x)]) hx hb dX8_toolsThatAre_44 hl (k := 1) rfl rfl (by decide) rfl (fun ls hl => ?_)
          rw [nI_1] at hl
          refine lv_goto (tgt := 14) hx hb dX8_toolsThatAre_47 (by decide) ?_
          exact ih (j + 1) fo ls (by omega) (by omega) (by rw [hfo, cntF_none hq]) (lv_sub hl [0, 2, 3, 4, 5, 6] rfl)
        · refine lv_astore (lv' := [(6, .ref q), (5, .int (nI j)), (4, .int 24), (3, .ref ta), (2, .int fo), (0, .ref o), (1, .int x)]) hx hb dX8_toolsThatAre_25 hl (by decide) rfl (fun ls hl => ?_)
          refine lv_aload hx hb dX8_toolsThatAre_27 (lv_at hl 0 rfl) ?_
          refine lv_ifnull hx hb dX8_toolsThatAre_29 ?_
          refine lv_aload hx hb dX8_toolsThatAre_32 (lv_at hl 0 rfl) ?_
          obtain ⟨k, kd, rt, vl, hr, cu, si, hfq⟩ := hf j hjlt q hq
          obtain ⟨ix, hix⟩ := List.getElem?_of_mem (List.mem_append_right [(o, shE tr ta ac tc td cs hi), (ta, taE cT a)] hfq)
          refine va_get (D := D) (ci := kc k) (v := .int (hw j)) (C := kR k) (T := TX5) (N := 8) hx hb htg (kc_in k) hown hK hP ix hix (kc_cl k) 5 (by decide) (htg _ tw_125) (fun _ h9 => h9) rfl dX8_toolsThatAre_34 ?_
          refine lv_iload_n hx hb dX8_toolsThatAre_37 rfl (lv_at hl 6 rfl) ?_
          refine lv_icmp_ne (tgt := 44) hx hb dX8_toolsThatAre_38 (by decide) (fun c38 => ?_) (fun c38 => ?_)
          · refine lv_iinc (v := ((nI j) + 1)) (lv' := [(5, .int ((nI j) + 1)), (6, .ref q), (4, .int 24), (3, .ref ta), (2, .int fo), (0, .ref o), (1, .int x)]) hx hb dX8_toolsThatAre_44 hl (k := 1) rfl rfl (by decide) rfl (fun ls hl => ?_)
            rw [nI_1] at hl
            refine lv_goto (tgt := 14) hx hb dX8_toolsThatAre_47 (by decide) ?_
            exact ih (j + 1) fo ls (by omega) (by omega) (by rw [hfo, cntF_no hq c38]) (lv_sub hl [0, 2, 3, 4, 5, 6] rfl)
          · refine lv_iinc (v := (fo + 1)) (lv' := [(2, .int (fo + 1)), (6, .ref q), (5, .int (nI j)), (4, .int 24), (3, .ref ta), (0, .ref o), (1, .int x)]) hx hb dX8_toolsThatAre_41 hl (k := 4) rfl rfl (by decide) rfl (fun ls hl => ?_)
            refine lv_iinc (v := ((nI j) + 1)) (lv' := [(5, .int ((nI j) + 1)), (2, .int (fo + 1)), (6, .ref q), (4, .int 24), (3, .ref ta), (0, .ref o), (1, .int x)]) hx hb dX8_toolsThatAre_44 hl (k := 2) rfl rfl (by decide) rfl (fun ls hl => ?_)
            rw [nI_1] at hl
            refine lv_goto (tgt := 14) hx hb dX8_toolsThatAre_47 (by decide) ?_
            exact ih (j + 1) (fo + 1) ls (by omega) (by omega) (by rw [hfo, cntF_yes hq c38]) (lv_sub hl [0, 3, 4, 1, 5, 6] rfl)
  exact loop 25 0 0 ls (by omega) (by omega) rfl (lv_sub hl [0, 1, 2, 3, 4, 5] rfl)

theorem cal_X8_toolsThatAre : hs_cV yX8_toolsThatAre cX8_toolsThatAre 7 (some .int) 1 := ⟨tw_513, tw_512, tw_3, tw_17, by decide +kernel⟩

set_option maxHeartbeats 400000 in
set_option maxRecDepth 100000 in
theorem c_X8_count (l : Launch) (D : va_G) (cN cT cJ : ClassId) (o ta ac tr : Nat) (tc td cs hi : Int32) (a : Nat → Option Nat) (hw : Nat → Int32) (tl : va_W) (hf : poolOk a hw tr tl) (w : Int32) : CM l D yX8_count cX8_count 2 (some .int) { frames := 1, cells := 0, slots := 0, locals := 26 } (tyS cN cT cJ) [.ref o, .int w] ([(o, shE tr ta ac tc td cs hi), (ta, taE cT a)] ++ tl) (hs_QI D (tyS cN cT cJ) (countF (fun x => cntF a hw x 24) td cs hi w) ([(o, shE tr ta ac tc td cs hi), (ta, taE cT a)] ++ tl)) := by
  refine CM.of (by decide) (Nat.le_of_ble_eq_true rfl) ?_
  intro p e s m below meth c A ls hx hb hrt hml htg hown hlocks hnm hA hK hP hD hS hl
  have hown : s.vm.findClass RX8 = some m.cls := hown
  have hl : lv_has ls 2 [(0, .ref o), (1, .int w)] := hl
  have SF : CallFix p m c cX8_count 2 s _ hs_gt RX8 := ⟨hx, hb, hml, hown, htg⟩
  refine lv_iload_n hx hb dX8_count_0 rfl (lv_at hl 1 rfl) ?_
  by_cases w0 : w = 0
  · subst w0
    refine lv_tableIn (off := 39) (tgt := 40) hx hb dX8_count_1 (by decide) (by decide) (by decide) (by decide) ?_
    refine lv_aload_n hx hb dX8_count_40 rfl (lv_at hl 0 rfl) ?_
    refine lv_iconst (v := 0) hx hb dX8_count_41 (by decide) ?_
    refine hs_calli0 (w1 := ([(o, shE tr ta ac tc td cs hi), (ta, taE cT a)] ++ tl)) (hs_runV (q0 := 0) SF cal_X8_toolsThatAre tw_510 (c_X8_toolsThatAre l D cN cT cJ o ta ac tr tc td cs hi a hw tl hf 0) hK hP hD rfl rfl ⟨Nat.le_of_ble_eq_true rfl, Nat.le_of_ble_eq_true rfl⟩ rfl hl.1 rfl (Nat.le_of_ble_eq_true rfl) dX8_count_42 ⟨Nat.le_of_ble_eq_true rfl, Nat.le_of_ble_eq_true rfl⟩) hD hS hA (fun H locs hP hD hS => ?_)
    exact hs_iret hx hb hrt hlocks hK hP hD hS dX8_count_45 (by simp [countF]) (rfl)
  by_cases w1 : w = 1
  · subst w1
    refine lv_tableIn (off := 45) (tgt := 46) hx hb dX8_count_1 (by decide) (by decide) (by decide) (by decide) ?_
    refine lv_aload_n hx hb dX8_count_46 rfl (lv_at hl 0 rfl) ?_
    refine lv_iconst (v := 1) hx hb dX8_count_47 (by decide) ?_
    refine hs_calli0 (w1 := ([(o, shE tr ta ac tc td cs hi), (ta, taE cT a)] ++ tl)) (hs_runV (q0 := 0) SF cal_X8_toolsThatAre tw_510 (c_X8_toolsThatAre l D cN cT cJ o ta ac tr tc td cs hi a hw tl hf 1) hK hP hD rfl rfl ⟨Nat.le_of_ble_eq_true rfl, Nat.le_of_ble_eq_true rfl⟩ rfl hl.1 rfl (Nat.le_of_ble_eq_true rfl) dX8_count_48 ⟨Nat.le_of_ble_eq_true rfl, Nat.le_of_ble_eq_true rfl⟩) hD hS hA (fun H locs hP hD hS => ?_)
    exact hs_iret hx hb hrt hlocks hK hP hD hS dX8_count_51 (by simp [countF]) (rfl)
  by_cases w2 : w = 2
  · subst w2
    refine lv_tableIn (off := 51) (tgt := 52) hx hb dX8_count_1 (by decide) (by decide) (by decide) (by decide) ?_
    refine lv_aload_n hx hb dX8_count_52 rfl (lv_at hl 0 rfl) ?_
    refine lv_iconst (v := 2) hx hb dX8_count_53 (by decide) ?_
    refine hs_calli0 (w1 := ([(o, shE tr ta ac tc td cs hi), (ta, taE cT a)] ++ tl)) (hs_runV (q0 := 0) SF cal_X8_toolsThatAre tw_510 (c_X8_toolsThatAre l D cN cT cJ o ta ac tr tc td cs hi a hw tl hf 2) hK hP hD rfl rfl ⟨Nat.le_of_ble_eq_true rfl, Nat.le_of_ble_eq_true rfl⟩ rfl hl.1 rfl (Nat.le_of_ble_eq_true rfl) dX8_count_54 ⟨Nat.le_of_ble_eq_true rfl, Nat.le_of_ble_eq_true rfl⟩) hD hS hA (fun H locs hP hD hS => ?_)
    exact hs_iret hx hb hrt hlocks hK hP hD hS dX8_count_57 (by simp [countF]) (rfl)
  by_cases w3 : w = 3
  · subst w3
    refine lv_tableIn (off := 57) (tgt := 58) hx hb dX8_count_1 (by decide) (by decide) (by decide) (by decide) ?_
    refine lv_aload_n hx hb dX8_count_58 rfl (lv_at hl 0 rfl) ?_
    refine va_get (D := D) (ci := 8) (v := .int td) (C := RX8) (T := TX8) (N := 7) hx hb htg in_X8 hown hK hP 0 rfl rfl 4 (by decide) (htg _ tw_59) (fun _ h9 => h9) rfl dX8_count_59 ?_
    exact hs_iret hx hb hrt hlocks hK hP hD hS dX8_count_62 (by simp [countF]) (rfl)
  by_cases w4 : w = 4
  · subst w4
    refine lv_tableIn (off := 62) (tgt := 63) hx hb dX8_count_1 (by decide) (by decide) (by decide) (by decide) ?_
    refine lv_aload_n hx hb dX8_count_63 rfl (lv_at hl 0 rfl) ?_
    refine va_get (D := D) (ci := 8) (v := .int cs) (C := RX8) (T := TX8) (N := 7) hx hb htg in_X8 hown hK hP 0 rfl rfl 5 (by decide) (htg _ tw_60) (fun _ h9 => h9) rfl dX8_count_64 ?_
    exact hs_iret hx hb hrt hlocks hK hP hD hS dX8_count_67 (by simp [countF]) (rfl)
  by_cases w5 : w = 5
  · subst w5
    refine lv_tableIn (off := 67) (tgt := 68) hx hb dX8_count_1 (by decide) (by decide) (by decide) (by decide) ?_
    refine lv_aload_n hx hb dX8_count_68 rfl (lv_at hl 0 rfl) ?_
    refine va_get (D := D) (ci := 8) (v := .int hi) (C := RX8) (T := TX8) (N := 7) hx hb htg in_X8 hown hK hP 0 rfl rfl 6 (by decide) (htg _ tw_61) (fun _ h9 => h9) rfl dX8_count_69 ?_
    exact hs_iret hx hb hrt hlocks hK hP hD hS dX8_count_72 (by simp [countF]) (rfl)
  refine lv_tableOut (tgt := 73) hx hb dX8_count_1 (by have := lv_neT w0 (a := 0) (by decide); have := lv_neT w1 (a := 1) (by decide); have := lv_neT w2 (a := 2) (by decide); have := lv_neT w3 (a := 3) (by decide); have := lv_neT w4 (a := 4) (by decide); have := lv_neT w5 (a := 5) (by decide); omega) (by decide) ?_
  refine lv_bipush (v := (-2)) hx hb dX8_count_73 (by decide) ?_
  exact hs_iret hx hb hrt hlocks hK hP hD hS dX8_count_75 (by simp [countF, w0, w1, w2, w3, w4, w5]) (rfl)

theorem cal_X8_count : hs_cV yX8_count cX8_count 2 (some .int) 1 := ⟨tw_509, tw_507, tw_508, tw_17, by decide +kernel⟩

theorem cntM_s (hw : Nat → Int32) (x : Int32) (j : Nat) : cntM hw x (j + 1) = cntM hw x j + (if hw j = x then 1 else 0) := rfl
theorem countF_lt3 {cnt : Int32 → Int32} {td cs hi w : Int32} (h : ¬ wi w 0 5 = 0) (h3 : ¬ 3 ≤ w) : countF cnt td cs hi w = cnt w := by
  obtain ⟨b0, b1⟩ := wi_bounds h
  rw [Int32.le_iff_toInt_le] at h3
  have e0 : (0 : Int32).toInt = 0 := by decide
  have e3 : (3 : Int32).toInt = 3 := by decide
  rw [e0] at b0
  rw [e3] at h3
  rcases (show w.toInt = 0 ∨ w.toInt = 1 ∨ w.toInt = 2 by omega) with e | e | e
  · have e' : w = 0 := Int32.toInt_inj.mp (by rw [e]; decide)
    subst e'; rfl
  · have e' : w = 1 := Int32.toInt_inj.mp (by rw [e]; decide)
    subst e'; rfl
  · have e' : w = 2 := Int32.toInt_inj.mp (by rw [e]; decide)
    subst e'; rfl
theorem w_5b {w : Int32} (h : ¬ wi w 0 5 = 0) (h3 : 3 ≤ w) (n3 : ¬ w = 3) (n4 : ¬ w = 4) : w = 5 := by
  obtain ⟨b0, b1⟩ := wi_bounds h
  rw [Int32.le_iff_toInt_le] at h3
  have e3 : (3 : Int32).toInt = 3 := by decide
  have e5 : (5 : Int32).toInt = 5 := by decide
  rw [e3] at h3
  rw [e5] at b1
  have := lv_neT n3 (a := 3) (by decide)
  have := lv_neT n4 (a := 4) (by decide)
  exact Int32.toInt_inj.mp (by rw [e5]; omega)

theorem countF_bad {cnt : Int32 → Int32} {td cs hi w : Int32} (h : wi w 0 5 = 0) : countF cnt td cs hi w = -2 := by
  have hn : ∀ x : Int32, ¬ wi x 0 5 = 0 → ¬ w = x := fun x hx e => hx (by rw [← e]; exact h)
  unfold countF
  rw [if_neg (hn 0 (by decide)), if_neg (hn 1 (by decide)), if_neg (hn 2 (by decide)), if_neg (hn 3 (by decide)), if_neg (hn 4 (by decide)), if_neg (hn 5 (by decide))]

set_option maxHeartbeats 400000 in
set_option maxRecDepth 100000 in
theorem c_X9_count (l : Launch) (D : va_G) (o : Nat) (ad : Nat → Nat) (cd : Nat → ClassId) (tn td cs hd : Int32) (kd rt vl hr hw cu si : Nat → Int32) (acc : Nat → Int64) (st : TS) (N : Nat) (hN : N ≤ 24) (etn : tn = nI N) (w : Int32) : CM l D yX9_count cX9_count 4 (some .int) { frames := 1, cells := 0, slots := 0, locals := 22 } (tyM cd) [.ref o, .int w] (mW o ad cd tn td cs hd kd rt vl hr hw cu si acc st) (hs_QI D (tyM cd) (countF (fun x => cntM hw x N) td cs hd w) (mW o ad cd tn td cs hd kd rt vl hr hw cu si acc st)) := by
  refine CM.of (by decide) (Nat.le_of_ble_eq_true rfl) ?_
  intro p e s m below meth c A ls hx hb hrt hml htg hown hlocks hnm hA hK hP hD hS hl
  have hown : s.vm.findClass RX9 = some m.cls := hown
  have hl : lv_has ls 4 [(0, .ref o), (1, .int w)] := hl
  have SF : CallFix p m c cX9_count 4 s _ hs_gt RX9 := ⟨hx, hb, hml, hown, htg⟩
  refine lv_iload_n hx hb dX9_count_0 rfl (lv_at hl 1 rfl) ?_
  refine lv_iconst (v := 0) hx hb dX9_count_1 (by decide) ?_
  refine lv_iconst (v := 5) hx hb dX9_count_2 (by decide) ?_
  refine hs_calli0 (w1 := (mW o ad cd tn td cs hd kd rt vl hr hw cu si acc st)) (hs_runS SF cal_X9_in tw_570 (c_X9_in l D o ad cd tn td cs hd kd rt vl hr hw cu si acc st w 0 5) hK hP hD ⟨Nat.le_of_ble_eq_true rfl, Nat.le_of_ble_eq_true rfl⟩ rfl hl.1 rfl (Nat.le_of_ble_eq_true rfl) dX9_count_3 ⟨Nat.le_of_ble_eq_true rfl, Nat.le_of_ble_eq_true rfl⟩) hD hS hA (fun H locs hP hD hS => ?_)
  refine lv_if_ne (tgt := 12) hx hb dX9_count_6 (by decide) (fun c6 => ?_) (fun c6 => ?_)
  · refine lv_iconst (v := 0) hx hb dX9_count_12 (by decide) ?_
    refine lv_istore_n (lv' := [(2, .int 0), (0, .ref o), (1, .int w)]) hx hb dX9_count_13 rfl hl (by decide) rfl (fun ls hl => ?_)
    refine lv_iconst (v := 0) hx hb dX9_count_14 (by decide) ?_
    refine lv_istore_n (lv' := [(3, .int 0), (2, .int 0), (0, .ref o), (1, .int w)]) hx hb dX9_count_15 rfl hl (by decide) rfl (fun ls hl => ?_)
    have loop : ∀ (n j : Nat) (n0 : Int32) (ls : Array Slot), j ≤ N → N + 1 ≤ j + n → n0 = cntM hw w j → lv_has ls 4 [(3, .int (nI j)), (2, .int n0), (0, .ref o), (1, .int w)] → ∀ (H : Heap) (locs : List Loc), va_P D hs_cl (mW o ad cd tn td cs hd kd rt vl hr hw cu si acc st) H → va_D A (mW o ad cd tn td cs hd kd rt vl hr hw cu si acc st) → va_S A s.heap H locs → W p l e { frames := 1, cells := 0, slots := 0, locals := 22 } s m [Value.ref o, Value.int w].toArray below meth c H locs 0 0 (MQ below (hs_QI D (tyM cd) (countF (fun x => cntM hw x N) td cs hd w) (mW o ad cd tn td cs hd kd rt vl hr hw cu si acc st) A) [Value.ref o, Value.int w].toArray s 0 0 A) (F0 m 16 ls []) := by
      intro n
      induction n with
      | zero =>
        intro j n0 ls h1 h2
        exact absurd h2 (by omega)
      | succ n ih =>
        intro j n0 ls hj hn hn0 hl H locs hP hD hS
        refine lv_iload_n hx hb dX9_count_16 rfl (lv_at hl 0 rfl) ?_
        refine lv_aload_n hx hb dX9_count_17 rfl (lv_at hl 2 rfl) ?_
        refine va_get (D := D) (ci := 9) (v := .int tn) (C := RX9) (T := TX9) (N := 15) hx hb htg in_X9 hown hK hP 0 rfl rfl 0 (by decide) (htg _ tw_520) (fun _ h9 => h9) rfl dX9_count_18 ?_
        refine lv_icmp_ge (tgt := 48) hx hb dX9_count_21 (by decide) (fun c21 => ?_) (fun c21 => ?_)
        · have hjN : j = N := by have := (nI_leI (a := N) (b := j) (by omega) (by omega)).mp (etn ▸ c21); omega
          refine lv_iload_n hx hb dX9_count_48 rfl (lv_at hl 3 rfl) ?_
          refine lv_iconst (v := 3) hx hb dX9_count_49 (by decide) ?_
          refine lv_icmp_ge (tgt := 57) hx hb dX9_count_50 (by decide) (fun c50 => ?_) (fun c50 => ?_)
          · refine lv_iload_n hx hb dX9_count_57 rfl (lv_at hl 3 rfl) ?_
            refine lv_iconst (v := 3) hx hb dX9_count_58 (by decide) ?_
            refine lv_icmp_ne (tgt := 69) hx hb dX9_count_59 (by decide) (fun c59 => ?_) (fun c59 => ?_)
            · refine lv_iload_n hx hb dX9_count_69 rfl (lv_at hl 3 rfl) ?_
              refine lv_iconst (v := 4) hx hb dX9_count_70 (by decide) ?_
              refine lv_icmp_ne (tgt := 81) hx hb dX9_count_71 (by decide) (fun c71 => ?_) (fun c71 => ?_)
              · refine lv_aload_n hx hb dX9_count_81 rfl (lv_at hl 2 rfl) ?_
                refine va_get (D := D) (ci := 9) (v := .int hd) (C := RX9) (T := TX9) (N := 15) hx hb htg in_X9 hown hK hP 0 rfl rfl 11 (by decide) (htg _ tw_531) (fun _ h9 => h9) rfl dX9_count_82 ?_
                exact hs_iret hx hb hrt hlocks hK hP hD hS dX9_count_85 (by first | (rw [countF_lt3 c6 c50, hn0, hjN]; done) | (rw [c59]; rfl) | (rw [c71]; rfl) | (rw [w_5b c6 c50 c59 c71]; rfl) | (exact (countF_bad c6).symm)) (rfl)
              · refine lv_aload_n hx hb dX9_count_74 rfl (lv_at hl 2 rfl) ?_
                refine va_get (D := D) (ci := 9) (v := .int cs) (C := RX9) (T := TX9) (N := 15) hx hb htg in_X9 hown hK hP 0 rfl rfl 10 (by decide) (htg _ tw_530) (fun _ h9 => h9) rfl dX9_count_75 ?_
                refine lv_goto (tgt := 85) hx hb dX9_count_78 (by decide) ?_
                exact hs_iret hx hb hrt hlocks hK hP hD hS dX9_count_85 (by first | (rw [countF_lt3 c6 c50, hn0, hjN]; done) | (rw [c59]; rfl) | (rw [c71]; rfl) | (rw [w_5b c6 c50 c59 c71]; rfl) | (exact (countF_bad c6).symm)) (rfl)
            · refine lv_aload_n hx hb dX9_count_62 rfl (lv_at hl 2 rfl) ?_
              refine va_get (D := D) (ci := 9) (v := .int td) (C := RX9) (T := TX9) (N := 15) hx hb htg in_X9 hown hK hP 0 rfl rfl 9 (by decide) (htg _ tw_529) (fun _ h9 => h9) rfl dX9_count_63 ?_
              refine lv_goto (tgt := 85) hx hb dX9_count_66 (by decide) ?_
              exact hs_iret hx hb hrt hlocks hK hP hD hS dX9_count_85 (by first | (rw [countF_lt3 c6 c50, hn0, hjN]; done) | (rw [c59]; rfl) | (rw [c71]; rfl) | (rw [w_5b c6 c50 c59 c71]; rfl) | (exact (countF_bad c6).symm)) (rfl)
          · refine lv_iload_n hx hb dX9_count_53 rfl (lv_at hl 1 rfl) ?_
            refine lv_goto (tgt := 85) hx hb dX9_count_54 (by decide) ?_
            exact hs_iret hx hb hrt hlocks hK hP hD hS dX9_count_85 (by first | (rw [countF_lt3 c6 c50, hn0, hjN]; done) | (rw [c59]; rfl) | (rw [c71]; rfl) | (rw [w_5b c6 c50 c59 c71]; rfl) | (exact (countF_bad c6).symm)) (rfl)
        · have hjlt : j < N := by
            rcases Nat.lt_or_ge j N with h | h
            · exact h
            · exact absurd (etn ▸ (nI_leI (a := N) (b := j) (by omega) (by omega)).mpr h) c21
          refine lv_iload_n hx hb dX9_count_24 rfl (lv_at hl 1 rfl) ?_
          refine lv_aload_n hx hb dX9_count_25 rfl (lv_at hl 2 rfl) ?_
          refine va_get (D := D) (ci := 9) (v := .ref (ad 5)) (C := RX9) (T := TX9) (N := 15) hx hb htg in_X9 hown hK hP 0 rfl rfl 5 (by decide) (htg _ tw_525) (fun _ h9 => h9) rfl dX9_count_26 ?_
          refine lv_iload_n hx hb dX9_count_29 rfl (lv_at hl 0 rfl) ?_
          refine va_iald hx hb hK hP 5 4 rfl rfl (vp_in_nI (show j < 24 by omega) (by omega)) dX9_count_30 ?_
          rw [nI_clamp (show j < 2 ^ 31 by omega)]
          refine lv_iload_n hx hb dX9_count_31 rfl (lv_at hl 3 rfl) ?_
          refine lv_icmp_ne (tgt := 39) hx hb dX9_count_32 (by decide) (fun c32 => ?_) (fun c32 => ?_)
          · refine lv_iconst (v := 0) hx hb dX9_count_39 (by decide) ?_
            refine lv_iadd hx hb dX9_count_40 ?_
            refine lv_istore_n (lv' := [(2, .int (n0 + 0)), (3, .int (nI j)), (0, .ref o), (1, .int w)]) hx hb dX9_count_41 rfl hl (by decide) rfl (fun ls hl => ?_)
            refine lv_iinc (v := ((nI j) + 1)) (lv' := [(3, .int ((nI j) + 1)), (2, .int (n0 + 0)), (0, .ref o), (1, .int w)]) hx hb dX9_count_42 hl (k := 1) rfl rfl (by decide) rfl (fun ls hl => ?_)
            rw [nI_1] at hl
            refine lv_goto (tgt := 16) hx hb dX9_count_45 (by decide) ?_
            exact ih (j + 1) (n0 + 0) ls (by omega) (by omega) (by rw [hn0, cntM_s]; first | (rw [if_pos c32]; done) | (rw [if_neg c32]; done)) (lv_sub hl [0, 1, 2, 3] rfl) H locs hP hD hS
          · refine lv_iconst (v := 1) hx hb dX9_count_35 (by decide) ?_
            refine lv_goto (tgt := 40) hx hb dX9_count_36 (by decide) ?_
            refine lv_iadd hx hb dX9_count_40 ?_
            refine lv_istore_n (lv' := [(2, .int (n0 + 1)), (3, .int (nI j)), (0, .ref o), (1, .int w)]) hx hb dX9_count_41 rfl hl (by decide) rfl (fun ls hl => ?_)
            refine lv_iinc (v := ((nI j) + 1)) (lv' := [(3, .int ((nI j) + 1)), (2, .int (n0 + 1)), (0, .ref o), (1, .int w)]) hx hb dX9_count_42 hl (k := 1) rfl rfl (by decide) rfl (fun ls hl => ?_)
            rw [nI_1] at hl
            refine lv_goto (tgt := 16) hx hb dX9_count_45 (by decide) ?_
            exact ih (j + 1) (n0 + 1) ls (by omega) (by omega) (by rw [hn0, cntM_s]; first | (rw [if_pos c32]; done) | (rw [if_neg c32]; done)) (lv_sub hl [0, 1, 2, 3] rfl) H locs hP hD hS
    exact loop (N + 1) 0 0 ls (by omega) (by omega) rfl (lv_sub hl [0, 1, 2, 3] rfl) H locs hP hD hS
  · refine lv_bipush (v := (-2)) hx hb dX9_count_9 (by decide) ?_
    exact hs_iret hx hb hrt hlocks hK hP hD hS dX9_count_11 (by first | (rw [countF_lt3 c6 c50, hn0, hjN]; done) | (rw [c59]; rfl) | (rw [c71]; rfl) | (rw [w_5b c6 c50 c59 c71]; rfl) | (exact (countF_bad c6).symm)) (rfl)

theorem cal_X9_count : hs_cV yX9_count cX9_count 4 (some .int) 1 := ⟨tw_657, tw_655, tw_656, tw_19, by decide +kernel⟩

