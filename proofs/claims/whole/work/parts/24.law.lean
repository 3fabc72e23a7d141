set_option maxHeartbeats 1000000 in
set_option maxRecDepth 100000 in
theorem law_loop {p : Program} {l : Launch} {e : Env} {s : State} {m : MethodId} {below : List Frame} {meth : Method} {c : Code} {b L : Nat} {xs : Nat → Int32} {D : va_G} {o ta ac tr nb om : Nat} {ad : Nat → Nat} {cN cT cJ : ClassId} {cd : Nat → ClassId} (hL : L ≤ 2048) (C : lwC p s m c b L xs D cN cT cJ cd) (hrt : meth.sig.returnType = ret) (hlocks : meth.locks = false) :
    ∀ (n i : Nat) (H : Heap) (locs : List Loc) (ls : Array Slot), i ≤ L → L + 1 ≤ i + n → lwI D (lwA s) o ta ac tr nb om ad cN cT cJ cd H → va_S (lwA s) s.heap H locs → lv_has ls 4 [(3, .int (nI i)), (2, .ref om), (1, .ref o), (0, .ref b)] → W p l e room_1 s m #[Value.ref b] below meth c H locs (20 + i) (400 + 8 * i) (lw_Z below #[Value.ref b] s) (F0 m 18 ls []) := by
  intro n
  induction n with
  | zero =>
    intro i H locs ls h1 h2
    exact absurd h2 (by omega)
  | succ n ih =>
    intro i H locs ls hiL hn hI hS hl
    obtain ⟨hx, hb, hml, hown, htg, hX, hbl, hKS, hKM⟩ := id C
    refine lv_iload_n hx hb dL_law_18 rfl (lv_at hl 0 rfl) ?_
    refine lv_aload_n hx hb dL_law_19 rfl (lv_at hl 3 rfl) ?_
    refine va_slen hx hb hX hbl (fun h => Nat.not_le.mpr hbl h) hS dL_law_20 ?_
    refine lv_iconst (v := 4) hx hb dL_law_21 (by decide) ?_
    refine lv_isub hx hb dL_law_22 ?_
    have hsub : (Int32.ofNat L - 4).toInt = (L : Int) - 4 := pk_sub_toInt (a := L) (b := 4) (by omega) (by decide)
    refine lv_icmp_gt (tgt := 385) hx hb dL_law_23 (by decide) (fun c23 => ?_) (fun c23 => ?_)
    · refine lv_iconst (v := 1) hx hb dL_law_385 (by decide) ?_
      refine va_forget (fun q hq => hS.2.2 q hq) ?_
      refine W.widen (k := 600000) (n := 7302250) (by omega) (by omega) ?_
      exact lw_ret hx hb hrt hlocks dL_law_386
    · have hi4 : i + 4 ≤ L := by
        rw [Int32.lt_iff_toInt_lt, hsub, nI_toInt (by omega)] at c23
        omega
      have tail : ∀ (H : Heap) (locs : List Loc), lwI D (lwA s) o ta ac tr nb om ad cN cT cJ cd H → va_S (lwA s) s.heap H locs → W p l e room_1 s m #[Value.ref b] below meth c H locs (20 + i + 1) (400 + 8 * i + 8) (lw_Z below #[Value.ref b] s) (F0 m 379 ls []) := by
        intro H locs hI hS
        refine lv_iinc (v := nI i + 4) (lv' := [(3, .int (nI i + 4)), (2, .ref om), (1, .ref o), (0, .ref b)]) hx hb dL_law_379 hl (k := 0) rfl rfl (by decide) rfl (fun ls hl => ?_)
        refine lv_goto (tgt := 18) hx hb dL_law_382 (by decide) ?_
        rw [show nI i + 4 = nI (i + 4) from nI_add i 4] at hl
        refine W.widen (k := 20 + (i + 4)) (n := 400 + 8 * (i + 4)) (by omega) (by omega) ?_
        exact ih (i + 4) H locs ls hi4 (by omega) hI hS hl
      refine lv_aload_n hx hb dL_law_26 rfl (lv_at hl 3 rfl) ?_
      refine lv_iload_n hx hb dL_law_27 rfl (lv_at hl 0 rfl) ?_
      refine va_sld hx hb hX hbl (fun h => Nat.not_le.mpr hbl h) hS (vp_in_nI (show i < L by omega) (by omega)) dL_law_28 ?_
      refine lv_bipush (v := 15) hx hb dL_law_29 (by decide) ?_
      refine lv_iand hx hb dL_law_31 ?_
      refine lv_topi (fun w ew => ?_)
      clear ew
      by_cases w0 : w = 0
      · subst w0
        refine lv_tableIn (off := 56) (tgt := 88) hx hb dL_law_32 (by decide) (by decide) (by decide) (by decide) ?_
        exact st_tool C hI hS hl (by omega) hL (by omega) (by omega) tail
      by_cases w1 : w = 1
      · subst w1
        refine lv_tableIn (off := 99) (tgt := 131) hx hb dL_law_32 (by decide) (by decide) (by decide) (by decide) ?_
        exact st_ask C hI hS hl (by omega) hL (by omega) (by omega) tail
      by_cases w2 : w = 2
      · subst w2
        refine lv_tableIn (off := 142) (tgt := 174) hx hb dL_law_32 (by decide) (by decide) (by decide) (by decide) ?_
        exact st_trace C hI hS hl (by omega) hL (by omega) (by omega) tail
      by_cases w3 : w = 3
      · subst w3
        refine lv_tableIn (off := 165) (tgt := 197) hx hb dL_law_32 (by decide) (by decide) (by decide) (by decide) ?_
        exact st_hire C hI hS hl (by omega) hL (by omega) (by omega) tail
      by_cases w4 : w = 4
      · subst w4
        refine lv_tableIn (off := 198) (tgt := 230) hx hb dL_law_32 (by decide) (by decide) (by decide) (by decide) ?_
        exact st_back C hI hS hl (by omega) hL (by omega) (by omega) tail
      by_cases w5 : w = 5
      · subst w5
        refine lv_tableIn (off := 221) (tgt := 253) hx hb dL_law_32 (by decide) (by decide) (by decide) (by decide) ?_
        exact st_service C hI hS hl (by omega) hL (by omega) (by omega) tail
      by_cases w6 : w = 6
      · subst w6
        refine lv_tableIn (off := 244) (tgt := 276) hx hb dL_law_32 (by decide) (by decide) (by decide) (by decide) ?_
        exact st_day C hI hS hl (by omega) hL (by omega) (by omega) tail
      by_cases w7 : w = 7
      · subst w7
        refine lv_tableIn (off := 267) (tgt := 299) hx hb dL_law_32 (by decide) (by decide) (by decide) (by decide) ?_
        exact st_account C hI hS hl (by omega) hL (by omega) (by omega) tail
      by_cases w8 : w = 8
      · subst w8
        refine lv_tableIn (off := 291) (tgt := 323) hx hb dL_law_32 (by decide) (by decide) (by decide) (by decide) ?_
        exact st_told C hI hS hl (by omega) hL (by omega) (by omega) tail
      by_cases w9 : w = 9
      · subst w9
        refine lv_tableIn (off := 324) (tgt := 356) hx hb dL_law_32 (by decide) (by decide) (by decide) (by decide) ?_
        exact st_count C hI hS hl (by omega) hL (by omega) (by omega) tail
      refine lv_tableOut (tgt := 379) hx hb dL_law_32 (by have := lv_neT w0 (a := 0) (by decide); have := lv_neT w1 (a := 1) (by decide); have := lv_neT w2 (a := 2) (by decide); have := lv_neT w3 (a := 3) (by decide); have := lv_neT w4 (a := 4) (by decide); have := lv_neT w5 (a := 5) (by decide); have := lv_neT w6 (a := 6) (by decide); have := lv_neT w7 (a := 7) (by decide); have := lv_neT w8 (a := 8) (by decide); have := lv_neT w9 (a := 9) (by decide); omega) (by decide) ?_
      exact W.widen (k := 20 + i + 1) (n := 400 + 8 * i + 8) (by omega) (by omega) (tail H locs hI hS)

set_option maxHeartbeats 1000000 in
set_option maxRecDepth 100000 in
theorem whole_start {p : Program} {e : Env} {s : State} {m : MethodId} {below : List Frame} {meth : Method} {c : Code} (l : Launch) {b L : Nat} {xs : Nat → Int32} (hL : L ≤ 2048) (C0 : lw_At p s m meth c b L xs) : W p l e room_1 s m #[Value.ref b] below meth c s.heap [] 0 0 (lw_Z below #[Value.ref b] s) (entryFrame m ([Value.ref b] : List Value).toArray 4) := by
  obtain ⟨hx, hb, hrt, hml, hown, hts, hX, hbl, hlocks, hgv⟩ := id C0
  have htg : ∀ w ∈ hs_gt, w.before #[Value.ref b] s = true := fun w h => hts w (hs_gt_in w h)
  have hown : s.vm.findClass RL = some m.cls := hown
  have hA : ∀ q : Nat, s.heap.size ≤ q → lwA s q := fun _ h => h
  have SF : CallFix p m c code 4 s #[Value.ref b] hs_gt RL := ⟨hx, hb, hml, hown, htg⟩
  obtain ⟨c0, i0, hKn0⟩ := u_known (C := RX0) (T := TX5) (N := 8) (n := 8) htg in_X0 (htg (.instantiable RX0 8) tw_163)
  obtain ⟨c1, i1, hKn1⟩ := u_known (C := RX1) (T := TX5) (N := 8) (n := 8) htg in_X1 (htg (.instantiable RX1 8) tw_208)
  obtain ⟨c2, i2, hKn2⟩ := u_known (C := RX2) (T := TX5) (N := 8) (n := 8) htg in_X2 (htg (.instantiable RX2 8) tw_91)
  obtain ⟨c3, i3, hKn3⟩ := u_known (C := RX3) (T := TX5) (N := 8) (n := 8) htg in_X3 (htg (.instantiable RX3 8) tw_193)
  obtain ⟨c4, i4, hKn4⟩ := u_known (C := RX4) (T := TX5) (N := 8) (n := 8) htg in_X4 (htg (.instantiable RX4 8) tw_148)
  obtain ⟨c5, i5, hKn5⟩ := u_known (C := RX5) (T := TX5) (N := 8) (n := 8) htg in_X5 (htg (.instantiable RX5 8) tw_222)
  obtain ⟨c6, i6, hKn6⟩ := u_known (C := RX6) (T := TX6) (N := 3) (n := 3) htg in_X6 (htg (.instantiable RX6 3) tw_37)
  obtain ⟨c7, i7, hKn7⟩ := u_known (C := RX7) (T := TX5) (N := 8) (n := 8) htg in_X7 (htg (.instantiable RX7 8) tw_178)
  obtain ⟨c8, i8, hKn8⟩ := u_known (C := RX8) (T := TX8) (N := 7) (n := 7) htg in_X8 (htg (.instantiable RX8 7) tw_29)
  obtain ⟨c9, i9, hKn9⟩ := u_known (C := RX9) (T := TX9) (N := 15) (n := 15) htg in_X9 (htg (.instantiable RX9 15) tw_515)
  obtain ⟨D, hKc⟩ : ∃ D : va_G, ∀ (k : Nat) (q : vw_C), hs_cl[k]? = some q → u_Kn s q.1 q.2.1 q.2.2 (D.1 k) (D.2 k) := by
    refine ⟨((fun k => match k with | 0 => c0 | 1 => c1 | 2 => c2 | 3 => c3 | 4 => c4 | 5 => c5 | 6 => c6 | 7 => c7 | 8 => c8 | _ => c9), (fun k => match k with | 0 => i0 | 1 => i1 | 2 => i2 | 3 => i3 | 4 => i4 | 5 => i5 | 6 => i6 | 7 => i7 | 8 => i8 | _ => i9)), ?_⟩
    intro k q hq
    match k, hq with
    | 0, hq => cases hq; exact hKn0
    | 1, hq => cases hq; exact hKn1
    | 2, hq => cases hq; exact hKn2
    | 3, hq => cases hq; exact hKn3
    | 4, hq => cases hq; exact hKn4
    | 5, hq => cases hq; exact hKn5
    | 6, hq => cases hq; exact hKn6
    | 7, hq => cases hq; exact hKn7
    | 8, hq => cases hq; exact hKn8
    | 9, hq => cases hq; exact hKn9
    | k + 10, hq => simp [hs_cl] at hq
  have hS : va_S (lwA s) s.heap s.heap [] := va_S.rf
  have hK : va_K D hs_cl [] s := ⟨hKc, fun k q h => by simp at h⟩
  have hP : va_P D hs_cl [] s.heap := fun k q h => by simp at h
  have hD : va_D (lwA s) [] := ⟨fun i j p q h => by simp at h, fun k q h => by simp at h⟩
  have hl := lv_entry ([.ref b]) (n := 4) (Nat.le_of_ble_eq_true rfl)
  rw [lg_entry_eq]
  generalize (lg_sl ([.ref b]) ++ List.replicate (4 - (lg_sl ([.ref b])).length) Slot.unset).toArray = ls at hl ⊢
  have hl : lv_has ls 4 [(0, .ref b)] := hl
  refine va_new (ci := 8) (fs := [.null, .null, .null, .int 0, .int 0, .int 0, .int 0]) (C := RX8) (T := TX8) (N := 7) hx hb htg in_X8 tyX8 tyX8_ok hown (htg _ tw_28) (htg _ tw_29) (htg _ tw_17) hK hP hD hS hA rfl (fun j hj => by rcases (show j = 0 ∨ j = 1 ∨ j = 2 ∨ j = 3 ∨ j = 4 ∨ j = 5 ∨ j = 6 by omega) with rfl | rfl | rfl | rfl | rfl | rfl | rfl <;> rfl) (Nat.le_of_ble_eq_true rfl) (Nat.le_of_ble_eq_true rfl) dL_law_0 (fun o H hP hD hS => ?_)
  have hP : va_P D hs_cl [(o, .inr (8, [.null, .null, .null, .int 0, .int 0, .int 0, .int 0]))] H := hP
  have hD : va_D (lwA s) [(o, .inr (8, [.null, .null, .null, .int 0, .int 0, .int 0, .int 0]))] := hD
  refine W.widen (k := 1) (n := 7) (by omega) (by omega) ?_
  refine lv_dup hx hb dL_law_3 rfl ?_
  have h1 : va_Nw (.methodLinkNest RX8 9 yX6_init RX8) s := va_Nw.of rfl (hts _ tw_38)
  have h2 : va_AO RX5 s := va_AO.of (hts _ tw_54)
  have hF := hs_free0 hD hS hA
  refine va_callv (hs_runIE (E := (fun U => va_Nw (.methodLinkNest RX8 9 yX6_init RX8) U ∧ va_AO RX5 U)) (Qf := (hs_QVx (fun A t => ∃ (ta ac tr nb : Nat) (cN cT cJ : ClassId), hs_end D (tyS cN cT cJ) A [(o, shE tr ta ac 0 0 0 0), (ta, taE cT (fun _ => none)), (ac, acE cJ (fun _ => 0)), (tr, trE nb (0, 0, fun _ => 0)), (nb, nbE cN (0, 0, fun _ => 0))] t))) (As := []) (rest := [.ref o]) (rm := { frames := 2, cells := 4, slots := 41, locals := 32 }) SF cal_X8_init tw_30 (c_X8_init l D o) (fun U hW => ⟨va_Nw.warmM hW h1, va_AO.moved hW.alike h2⟩) (fun a U g mk h => ⟨va_Nw.same rfl rfl h.1, va_AO.moved (Vm.Alike.refl U.vm) h.2⟩) hK hP hD ⟨Nat.le_of_ble_eq_true rfl, Nat.le_of_ble_eq_true rfl⟩ rfl hl.1 rfl (Nat.le_of_ble_eq_true rfl) dL_law_4 ⟨Nat.le_of_ble_eq_true rfl, Nat.le_of_ble_eq_true rfl⟩) hS (fun q _ h => hF q h) hF (fun u t H1 locs ht hvm hw hB hz1 hk1 hS => ?_)
  obtain ⟨ta, ac, tr, nb, cN, cT, cJ, hP1, hK1, hD1⟩ := hB
  rw [ht] at hP1
  have hKS : va_K D hs_cl (tyS cN cT cJ) s := va_K.moved hvm.symm hK1
  have hD1 : va_D (lwA s) [(o, shE tr ta ac 0 0 0 0), (ta, taE cT (fun _ => none)), (ac, acE cJ (fun _ => 0)), (tr, trE nb (0, 0, fun _ => 0)), (nb, nbE cN (0, 0, fun _ => 0))] := hD1.weaken (fun k q _ h => hF q.1 h)
  have hP1 : va_P D hs_cl [(o, shE tr ta ac 0 0 0 0), (ta, taE cT (fun _ => none)), (ac, acE cJ (fun _ => 0)), (tr, trE nb (0, 0, fun _ => 0)), (nb, nbE cN (0, 0, fun _ => 0))] H1 := hP1
  refine W.widen (k := 5) (n := 48) (Nat.le_of_ble_eq_true rfl) (Nat.le_of_ble_eq_true rfl) ?_
  refine lv_astore_n (lv' := [(1, .ref o), (0, .ref b)]) hx hb dL_law_7 rfl hl (by decide) rfl (fun ls hl => ?_)
  refine va_new (ci := 9) (fs := [.int 0, .null, .null, .null, .null, .null, .null, .null, .null, .int 0, .int 0, .int 0, .null, .int 0, .int 0]) (C := RX9) (T := TX9) (N := 15) hx hb htg in_X9 tyX9 tyX9_ok hown (htg _ tw_514) (htg _ tw_515) (htg _ tw_19) hKS hP1 hD1 hS hA rfl (fun j hj => by rcases (show j = 0 ∨ j = 1 ∨ j = 2 ∨ j = 3 ∨ j = 4 ∨ j = 5 ∨ j = 6 ∨ j = 7 ∨ j = 8 ∨ j = 9 ∨ j = 10 ∨ j = 11 ∨ j = 12 ∨ j = 13 ∨ j = 14 by omega) with rfl | rfl | rfl | rfl | rfl | rfl | rfl | rfl | rfl | rfl | rfl | rfl | rfl | rfl | rfl <;> rfl) (Nat.le_of_ble_eq_true rfl) (Nat.le_of_ble_eq_true rfl) dL_law_8 (fun om H hP hD hS => ?_)
  have hP : va_P D hs_cl ([(om, .inr (9, [.int 0, .null, .null, .null, .null, .null, .null, .null, .null, .int 0, .int 0, .int 0, .null, .int 0, .int 0]))] ++ [(o, shE tr ta ac 0 0 0 0), (ta, taE cT (fun _ => none)), (ac, acE cJ (fun _ => 0)), (tr, trE nb (0, 0, fun _ => 0)), (nb, nbE cN (0, 0, fun _ => 0))]) H := hs_Pp List.perm_append_comm hP
  have hD : va_D (lwA s) ([(om, .inr (9, [.int 0, .null, .null, .null, .null, .null, .null, .null, .null, .int 0, .int 0, .int 0, .null, .int 0, .int 0]))] ++ [(o, shE tr ta ac 0 0 0 0), (ta, taE cT (fun _ => none)), (ac, acE cJ (fun _ => 0)), (tr, trE nb (0, 0, fun _ => 0)), (nb, nbE cN (0, 0, fun _ => 0))]) := hs_Dp List.perm_append_comm hD
  refine W.widen (k := 6) (n := 63) (by omega) (by omega) ?_
  refine lv_dup hx hb dL_law_11 rfl ?_
  have hF := hs_freeL hD hS hA
  refine va_callv (hs_runI (Qf := (hs_QVx (fun A t => ∃ (ad : Nat → Nat) (cd : Nat → ClassId), hs_end D (tyM cd) A (mW om ad cd 0 0 0 0 (fun _ => 0) (fun _ => 0) (fun _ => 0) (fun _ => 0) (fun _ => 0) (fun _ => 0) (fun _ => 0) (fun _ => 0) (0, 0, (fun _ => 0))) t))) (As := []) (rest := [.ref om]) (rm := { frames := 1, cells := 9, slots := 190, locals := 12 }) SF cal_X9_init tw_516 (c_X9_init l D om) hK (hs_Pl hP) (hs_Dl hD) ⟨Nat.le_of_ble_eq_true rfl, Nat.le_of_ble_eq_true rfl⟩ rfl hl.1 rfl (Nat.le_of_ble_eq_true rfl) dL_law_12 ⟨Nat.le_of_ble_eq_true rfl, Nat.le_of_ble_eq_true rfl⟩) hS (fun q _ h => hF q h) hF (fun u t H1 locs ht hvm hw hB hz1 hk1 hS => ?_)
  obtain ⟨ad, cd, hP2, hK2, hD2⟩ := hB
  rw [ht] at hP2
  have hKM : va_K D hs_cl (tyM cd) s := va_K.moved hvm.symm hK2
  obtain ⟨hP, hD⟩ := hs_frame hP hD hF hk1 hP2 hD2
  refine W.widen (k := 20) (n := 400) (Nat.le_of_ble_eq_true rfl) (Nat.le_of_ble_eq_true rfl) ?_
  refine lv_astore_n (lv' := [(2, .ref om), (1, .ref o), (0, .ref b)]) hx hb dL_law_15 rfl hl (by decide) rfl (fun ls hl => ?_)
  refine lv_iconst (v := 0) hx hb dL_law_16 (by decide) ?_
  refine lv_istore_n (lv' := [(3, .int 0), (2, .ref om), (1, .ref o), (0, .ref b)]) hx hb dL_law_17 rfl hl (by decide) rfl (fun ls hl => ?_)
  have ea : aOf 0 (fun _ => 0) = (fun _ => none) := by
    funext j
    exact aOf_ge (by omega)
  have pm : ((mW om ad cd 0 0 0 0 (fun _ => 0) (fun _ => 0) (fun _ => 0) (fun _ => 0) (fun _ => 0) (fun _ => 0) (fun _ => 0) (fun _ => 0) (0, 0, (fun _ => 0))) ++ [(o, shE tr ta ac 0 0 0 0), (ta, taE cT (fun _ => none)), (ac, acE cJ (fun _ => 0)), (tr, trE nb (0, 0, fun _ => 0)), (nb, nbE cN (0, 0, fun _ => 0))]).Perm (lwW o ta ac tr nb om ad cN cT cJ cd 0 0 0 0 (fun _ => 0) (fun _ => 0) (fun _ => 0) (0, 0, fun _ => 0) (0, 0, fun _ => 0) (fun _ => 0) (fun _ => 0) (fun _ => 0) (fun _ => 0) (fun _ => 0) (fun _ => 0) (fun _ => 0)) := by
    unfold lwW
    rw [ea]
    have e0 : poolW tr (fun _ => 0) (fun _ => 0) (fun _ => 0) (fun _ => 0) (fun _ => 0) (fun _ => 0) (fun _ => 0) (fun _ => 0) 0 = [] := rfl
    rw [e0, List.append_nil]
    exact List.perm_append_comm
  exact law_loop hL ⟨hx, hb, hml, hown, htg, hX, hbl, hKS, hKM⟩ hrt hlocks (L + 1) 0 _ _ ls (Nat.zero_le _) (by omega) ⟨0, 0, 0, 0, fun _ => 0, fun _ => 0, fun _ => 0, (0, 0, fun _ => 0), (0, 0, fun _ => 0), (fun _ => 0), (fun _ => 0), (fun _ => 0), (fun _ => 0), (fun _ => 0), (fun _ => 0), (fun _ => 0), ⟨by omega, by omega, ⟨rfl, rfl, 0, by omega, nI_0.symm, nI_0.symm, fun i h => absurd h (by omega)⟩, fun j h => absurd h (by omega), fun j _ => ⟨rfl, rfl⟩⟩, hs_Pp pm hP, hs_Dp pm hD⟩ hS hl

