/-! worlds up to their order; the frame for worlds of any length -/
theorem hs_Pm {D : va_G} {cl : List vw_C} {ws : va_W} {H : Heap} : va_P D cl ws H ↔ ∀ q ∈ ws, va_at D cl q H := ⟨fun h q hq => by obtain ⟨k, hk⟩ := List.getElem?_of_mem hq; exact h k q hk, fun h k q hk => h q (List.mem_of_getElem? hk)⟩
theorem hs_Dm {A : Nat → Prop} {ws : va_W} : va_D A ws ↔ ws.Pairwise (fun p q => p.1 ≠ q.1) ∧ ∀ q ∈ ws, A q.1 := by
  constructor
  · intro h
    refine ⟨List.pairwise_iff_getElem.mpr (fun i j hi hj hij e => ?_), fun q hq => ?_⟩
    · have := h.1 i j _ _ (List.getElem?_eq_getElem hi) (List.getElem?_eq_getElem hj) e
      omega
    · obtain ⟨k, hk⟩ := List.getElem?_of_mem hq
      exact h.2 k q hk
  · intro h
    refine ⟨fun i j p q hp hq e => ?_, fun k q hk => h.2 q (List.mem_of_getElem? hk)⟩
    obtain ⟨hi, rfl⟩ := List.getElem?_eq_some_iff.mp hp
    obtain ⟨hj, rfl⟩ := List.getElem?_eq_some_iff.mp hq
    rcases Nat.lt_trichotomy i j with h1 | h1 | h1
    · exact absurd e (List.pairwise_iff_getElem.mp h.1 i j hi hj h1)
    · exact h1
    · exact absurd e.symm (List.pairwise_iff_getElem.mp h.1 j i hj hi h1)
theorem hs_Pp {D : va_G} {cl : List vw_C} {ws ws' : va_W} {H : Heap} (hp : ws.Perm ws') (h : va_P D cl ws H) : va_P D cl ws' H := hs_Pm.mpr (fun q hq => hs_Pm.mp h q (hp.mem_iff.mpr hq))
theorem hs_Dp {A : Nat → Prop} {ws ws' : va_W} (hp : ws.Perm ws') (h : va_D A ws) : va_D A ws' := by
  have h' := hs_Dm.mp h
  exact hs_Dm.mpr ⟨(hp.pairwise_iff (fun e => Ne.symm e)).mp h'.1, fun q hq => h'.2 q (hp.mem_iff.mpr hq)⟩
theorem hs_Pl {D : va_G} {cl : List vw_C} {w1 w2 : va_W} {H : Heap} (h : va_P D cl (w1 ++ w2) H) : va_P D cl w1 H := hs_Pm.mpr (fun q hq => hs_Pm.mp h q (List.mem_append_left _ hq))
theorem hs_Dl {A : Nat → Prop} {w1 w2 : va_W} (h : va_D A (w1 ++ w2)) : va_D A w1 := by
  have h' := hs_Dm.mp h
  exact hs_Dm.mpr ⟨(List.pairwise_append.mp h'.1).1, fun q hq => h'.2 q (List.mem_append_left _ hq)⟩
theorem hs_frame {D : va_G} {cl : List vw_C} {A : Nat → Prop} {wc wr w1 : va_W} {H H1 : Heap} (hP : va_P D cl (wc ++ wr) H) (hD : va_D A (wc ++ wr)) (hF : ∀ q, va_A wc H.size q → A q) (hk : ∀ q : Nat, q < H.size → ¬ va_A wc H.size q → H1[q]? = H[q]?) (hP1 : va_P D cl w1 H1) (hD1 : va_D (va_A wc H.size) w1) : va_P D cl (w1 ++ wr) H1 ∧ va_D A (w1 ++ wr) := by
  have hD' := hs_Dm.mp hD
  have hD1' := hs_Dm.mp hD1
  obtain ⟨-, p2, p3⟩ := List.pairwise_append.mp hD'.1
  have ap : ∀ q ∈ wr, q.1 < H.size ∧ ¬ va_A wc H.size q.1 := by
    intro q hq
    have hl := (hs_Pm.mp hP q (List.mem_append_right _ hq)).lt
    refine ⟨hl, fun h => ?_⟩
    rcases h with ⟨k, e, h⟩ | h
    · exact p3 _ (List.mem_of_getElem? h) q hq rfl
    · omega
  refine ⟨hs_Pm.mpr (fun q hq => ?_), hs_Dm.mpr ⟨List.pairwise_append.mpr ⟨hD1'.1, p2, fun x hx y hy e => ?_⟩, fun q hq => ?_⟩⟩
  · rcases List.mem_append.mp hq with h | h
    · exact hs_Pm.mp hP1 q h
    · exact (hs_Pm.mp hP q (List.mem_append_right _ h)).kept (hk q.1 (ap q h).1 (ap q h).2)
  · have hx1 : va_A wc H.size x.1 := hD1'.2 x hx
    exact (ap y hy).2 (e ▸ hx1)
  · rcases List.mem_append.mp hq with h | h
    · exact hF _ (hD1'.2 q h)
    · exact hD'.2 q (List.mem_append_right _ h)
theorem pm_in {S M C RS : va_W} {c : Nat × va_E} (h : C.Perm (c :: RS)) : (S ++ (M ++ C)).Perm ((S ++ [c]) ++ (M ++ RS)) := by
  have h1 : (M ++ C).Perm (c :: (M ++ RS)) := (h.append_left M).trans List.perm_middle
  have h2 := h1.append_left S
  rw [List.append_assoc]
  exact h2
theorem pm_sw (A B C : va_W) : (A ++ (B ++ C)).Perm (B ++ (A ++ C)) := List.perm_append_comm_assoc A B C
theorem pm_out {S M C RS : va_W} {c : Nat × va_E} (h : C.Perm (c :: RS)) : (M ++ ((S ++ [c]) ++ RS)).Perm (S ++ (M ++ C)) := ((pm_in (S := S) (M := M) h).trans (pm_sw (S ++ [c]) M RS)).symm
section HSL
variable {p : Program} {l : Launch} {e : Env} {R : Room} {s : State} {m : MethodId} {args : Array Value} {below : List Frame} {meth : Method} {c : Code} {H : Heap} {locs : List Loc} {cells slots : Nat} {Q : State → Prop}
variable {pc : Nat} {ls : Array Slot} {rest st0 : List Value} {D : va_G} {A : Nat → Prop} {a : Array Value} {tc : List (ClassId × FieldType)} {wc w1 wr : va_W} {H0 : Heap}
theorem hs_freeL (hD : va_D A (wc ++ wr)) (hS : va_S A H0 H locs) (hA : ∀ q, H0.size ≤ q → A q) : ∀ q, va_A wc H.size q → A q := hs_free0 (hs_Dl hD) hS hA
theorem hs_lcalli {r : Int32} (hr : va_Run p l e R s m args below meth c H locs cells slots 0 0 (F0 m pc ls st0) rest (hs_QI D tc r w1 (va_A wc H.size) a) (va_A wc H.size)) (hP : va_P D hs_cl (wc ++ wr) H) (hD : va_D A (wc ++ wr)) (hS : va_S A H0 H locs) (hA : ∀ q, H0.size ≤ q → A q)
    (kk : ∀ (H1 : Heap) (locs1 : List Loc), va_P D hs_cl (w1 ++ wr) H1 → va_D A (w1 ++ wr) → va_S A H0 H1 locs1 → W p l e R s m args below meth c H1 locs1 cells slots Q (F0 m (pc + 3) ls (.int r :: rest))) : W p l e R s m args below meth c H locs cells slots Q (F0 m pc ls st0) := by
  have hF := hs_freeL hD hS hA
  refine va_calli hr hS (fun q _ h => hF q h) hF (fun r' u t H1 locs1 ht hvm hw hB1 hz1 hk1 hS1 => ?_)
  obtain ⟨hP1, -, hD1⟩ := hB1
  rw [ht] at hP1
  obtain ⟨hP2, hD2⟩ := hs_frame hP hD hF hk1 hP1 hD1
  have hw' : r' = r := hw
  subst hw'
  exact kk H1 locs1 hP2 hD2 hS1
theorem hs_lcalll {r : Int64} (hr : va_Run p l e R s m args below meth c H locs cells slots 0 0 (F0 m pc ls st0) rest (hs_QL D tc r w1 (va_A wc H.size) a) (va_A wc H.size)) (hP : va_P D hs_cl (wc ++ wr) H) (hD : va_D A (wc ++ wr)) (hS : va_S A H0 H locs) (hA : ∀ q, H0.size ≤ q → A q)
    (kk : ∀ (H1 : Heap) (locs1 : List Loc), va_P D hs_cl (w1 ++ wr) H1 → va_D A (w1 ++ wr) → va_S A H0 H1 locs1 → W p l e R s m args below meth c H1 locs1 cells slots Q (F0 m (pc + 3) ls (.long r :: rest))) : W p l e R s m args below meth c H locs cells slots Q (F0 m pc ls st0) := by
  have hF := hs_freeL hD hS hA
  refine va_calll hr hS (fun q _ h => hF q h) hF (fun r' u t H1 locs1 ht hvm hw hB1 hz1 hk1 hS1 => ?_)
  obtain ⟨hP1, -, hD1⟩ := hB1
  rw [ht] at hP1
  obtain ⟨hP2, hD2⟩ := hs_frame hP hD hF hk1 hP1 hD1
  have hw' : r' = r := hw
  subst hw'
  exact kk H1 locs1 hP2 hD2 hS1
theorem hs_lcallx {mc ms : Nat} {r : Int32} {wf : Nat → va_W} (hr : va_Run p l e R s m args below meth c H locs cells slots mc ms (F0 m pc ls st0) rest (hs_QIx D tc r wf (va_A wc H.size) a) (va_A wc H.size)) (hP : va_P D hs_cl (wc ++ wr) H) (hD : va_D A (wc ++ wr)) (hS : va_S A H0 H locs) (hA : ∀ q, H0.size ≤ q → A q)
    (kk : ∀ (q : Nat) (H1 : Heap) (locs1 : List Loc), va_P D hs_cl (wf q ++ wr) H1 → va_D A (wf q ++ wr) → va_S A H0 H1 locs1 → W p l e R s m args below meth c H1 locs1 (cells + mc) (slots + ms) Q (F0 m (pc + 3) ls (.int r :: rest))) : W p l e R s m args below meth c H locs cells slots Q (F0 m pc ls st0) := by
  have hF := hs_freeL hD hS hA
  refine va_calli hr hS (fun q _ h => hF q h) hF (fun r' u t H1 locs1 ht hvm hw hB1 hz1 hk1 hS1 => ?_)
  obtain ⟨q, hP1, -, hD1⟩ := hB1
  rw [ht] at hP1
  obtain ⟨hP2, hD2⟩ := hs_frame hP hD hF hk1 hP1 hD1
  have hw' : r' = r := hw
  subst hw'
  exact kk q H1 locs1 hP2 hD2 hS1
end HSL
