set_option maxHeartbeats 8000000 in
set_option maxRecDepth 100000 in
theorem whole_start {p : Program} {e : Env} {s : State} {m : MethodId} {below : List Frame} {meth : Method} {c : Code} (l : Launch) (htr : l.stackTraces = false) {b L : Nat} {xs : Nat → Int32} (hL : L ≤ 6) (C0 : lw_At p s m meth c b L xs) (hst : vq_st s) : W p l e room_1 s m #[Value.ref b] below meth c s.heap [] 0 0 (lw_Z below #[Value.ref b] s) (entryFrame m ([Value.ref b] : List Value).toArray 7) := by
  have hAt := C0
  obtain ⟨hx, hb, hr, hml, hown, hts0, hX, hbl, hlocks, -⟩ := C0
  have hts : ∀ w ∈ WS, w.before #[Value.ref b] s = true := fun w hw => hts0 w (WS_tbl w hw)
  obtain ⟨⟨dC, dI⟩, hK⟩ := vq_known hts
  obtain ⟨A, hA, hA2⟩ : ∃ A : Nat → Prop, (∀ q : Nat, s.heap.size ≤ q → A q) ∧ (∀ q : Nat, A q → s.heap.size ≤ q) := ⟨fun q => s.heap.size ≤ q, fun _ h => h, fun _ h => h⟩
  have hbA : ¬ A b := fun h => absurd hbl (Nat.not_lt.mpr (hA2 _ h))
  have hN : ∀ q : Nat, A q → ∀ cell : Cell, s.heap[q]? = some cell → cell.vm.isStatics = false := fun q hq cell hc => absurd (Array.getElem?_eq_some_iff.mp hc).1 (Nat.not_lt.mpr (hA2 q hq))
  have hS : va_S A s.heap s.heap [] := va_S.rf
  have hP : va_P (dC, dI) CL [] s.heap := vq_P0
  have hD : va_D A [] := vq_D0
  have hl := lv_entry ([.ref b]) (n := 7) (Nat.le_of_ble_eq_true rfl)
  rw [lg_entry_eq]
  generalize (lg_sl ([.ref b]) ++ List.replicate (7 - (lg_sl ([.ref b])).length) Slot.unset).toArray = ls at hl ⊢
  have hl : lv_has ls 7 [(0, .ref b)] := hl
  refine va_new (ci := 0) (fs := [.null, .null, .null, .null]) (C := R_V) (T := F_V) (N := 4) hx hb hts u_V t_V t_V_ok hown (hts _ k_440) (hts _ k_441) (hts _ k_143) hK hP hD hS hA rfl z_V (Nat.le_of_ble_eq_true rfl) (Nat.le_of_ble_eq_true rfl) d_L_law_0 (fun q1 H hP hD hS => ?_)
  have hP : va_P (dC, dI) CL [(q1, .inr (0, [.null, .null, .null, .null]))] H := hP
  have hD : va_D A [(q1, .inr (0, [.null, .null, .null, .null]))] := hD
  refine W.widen (k := 1) (n := 4) (by decide) (by decide) ?_
  refine lv_dup hx hb d_L_law_3 rfl ?_
  have hPc := hP.sub (ws' := [(q1, .inr (0, [.null, .null, .null, .null]))]) [0] rfl
  have hDc := hD.sub (ws' := [(q1, .inr (0, [.null, .null, .null, .null]))]) [0] (by decide) rfl
  have hKc := hK.sub (tys' := []) [] rfl
  have hFc := va_free (wc := [(q1, .inr (0, [.null, .null, .null, .null]))]) hD hS hA [0] rfl
  refine va_callv (va_runI (As := []) (rest := [.ref q1]) ⟨hx, hb, hml, hown, hts⟩ (c_V_init l htr dC dI q1 H.size) (vq_cI WSk hts 0 rfl rfl ⟨by decide, by decide⟩ k_74 k_143 k_442 k_443 rfl (by decide +kernel)) ⟨vq_blind, vq_here hst hS hN hPc hKc hDc⟩ rfl rfl hl.1 rfl (lv_room (Nat.le_of_ble_eq_true rfl)) d_L_law_4 ⟨by decide, by decide⟩) hS (fun q _ h => hFc q h) hFc (fun u t H1 locs ht hvm hw hB hz1 hk1 hS => ?_)
  obtain ⟨q2, q3, q4, q5, q6, q7, q8, q9, q10, q11, q12, q13, q14, q15, q16, c17, c18, q19, q20, q21, q22, q23, q24, q25, q26, q27, q28, q29, c30, hP1, hK1, hD1⟩ := hB
  rw [ht] at hP1
  have hK1 := va_K.moved hvm.symm hK1
  obtain ⟨hP, hD⟩ := va_join (wr := []) (w1 := [(q1, .inr (0, [.ref q2, .ref q3, .ref q4, .ref q5])), (q2, .inr (1, [.ref q6, .ref q7, .int 0, .ref q8, .ref q9, .ref q10, .ref q11, .int 0, .ref q12, .ref q13, .ref q14, .ref q15, .ref q16])), (q6, .inl (c17, 6, .inl ((fun _ => 0)))), (q7, .inl (c18, 6, .inl ((fun _ => 0)))), (q3, .inr (2, [.ref q2, .ref q19, .ref q20, .ref q21, .int 0, .int 0, .int (-1), .int (-1)])), (q4, .inr (6, [.ref q2, .ref q22, .ref q23, .ref q24, .ref q25, .int 0])), (q5, .inr (7, [.ref q2, .ref q21, .ref q4, .ref q26, .ref q27, .ref q28, .ref q29, .int 0, .int 0, .int 0])), (q26, .inl (c30, 4, .inl ((fun _ => 0))))]) hP hD [0] [] rfl rfl (by decide) (by decide) hk1 hFc hP1 hD1
  have hK := (hK.sub (tys' := []) [] rfl).app hK1
  generalize H1 = H at hP hS ⊢
  have hP : va_P (dC, dI) CL [(q1, .inr (0, [.ref q2, .ref q3, .ref q4, .ref q5])), (q2, .inr (1, [.ref q6, .ref q7, .int 0, .ref q8, .ref q9, .ref q10, .ref q11, .int 0, .ref q12, .ref q13, .ref q14, .ref q15, .ref q16])), (q6, .inl (c17, 6, .inl ((fun _ => 0)))), (q7, .inl (c18, 6, .inl ((fun _ => 0)))), (q3, .inr (2, [.ref q2, .ref q19, .ref q20, .ref q21, .int 0, .int 0, .int (-1), .int (-1)])), (q4, .inr (6, [.ref q2, .ref q22, .ref q23, .ref q24, .ref q25, .int 0])), (q5, .inr (7, [.ref q2, .ref q21, .ref q4, .ref q26, .ref q27, .ref q28, .ref q29, .int 0, .int 0, .int 0])), (q26, .inl (c30, 4, .inl ((fun _ => 0))))] H := hP
  have hD : va_D A [(q1, .inr (0, [.ref q2, .ref q3, .ref q4, .ref q5])), (q2, .inr (1, [.ref q6, .ref q7, .int 0, .ref q8, .ref q9, .ref q10, .ref q11, .int 0, .ref q12, .ref q13, .ref q14, .ref q15, .ref q16])), (q6, .inl (c17, 6, .inl ((fun _ => 0)))), (q7, .inl (c18, 6, .inl ((fun _ => 0)))), (q3, .inr (2, [.ref q2, .ref q19, .ref q20, .ref q21, .int 0, .int 0, .int (-1), .int (-1)])), (q4, .inr (6, [.ref q2, .ref q22, .ref q23, .ref q24, .ref q25, .int 0])), (q5, .inr (7, [.ref q2, .ref q21, .ref q4, .ref q26, .ref q27, .ref q28, .ref q29, .int 0, .int 0, .int 0])), (q26, .inl (c30, 4, .inl ((fun _ => 0))))] := hD
  have hK : va_K (dC, dI) CL [(c17, .int), (c18, .int), (c30, .int)] s := hK
  refine W.widen (k := 35) (n := 1884) (by decide) (by decide) ?_
  refine lv_astore_n (lv' := [(1, .ref q1), (0, .ref b)]) hx hb d_L_law_7 rfl hl (by decide) rfl (fun ls hl => ?_)
  refine va_new (ci := 8) (fs := [.int 0, .int 0, .null, .null, .int 0, .null, .null, .null, .null, .null, .int 0, .int 0, .int 0, .int 0, .null, .null, .null, .null, .null, .null, .null, .null, .null, .null, .int 0, .null, .null, .null, .null, .null, .null, .null, .null, .int 0, .int 0]) (C := R_M) (T := F_M) (N := 35) hx hb hts u_M t_M t_M_ok hown (hts _ k_444) (hts _ k_445) (hts _ k_235) hK hP hD hS hA rfl z_M (Nat.le_of_ble_eq_true rfl) (Nat.le_of_ble_eq_true rfl) d_L_law_8 (fun q32 H hP hD hS => ?_)
  have hP : va_P (dC, dI) CL [(q1, .inr (0, [.ref q2, .ref q3, .ref q4, .ref q5])), (q2, .inr (1, [.ref q6, .ref q7, .int 0, .ref q8, .ref q9, .ref q10, .ref q11, .int 0, .ref q12, .ref q13, .ref q14, .ref q15, .ref q16])), (q6, .inl (c17, 6, .inl ((fun _ => 0)))), (q7, .inl (c18, 6, .inl ((fun _ => 0)))), (q3, .inr (2, [.ref q2, .ref q19, .ref q20, .ref q21, .int 0, .int 0, .int (-1), .int (-1)])), (q4, .inr (6, [.ref q2, .ref q22, .ref q23, .ref q24, .ref q25, .int 0])), (q5, .inr (7, [.ref q2, .ref q21, .ref q4, .ref q26, .ref q27, .ref q28, .ref q29, .int 0, .int 0, .int 0])), (q26, .inl (c30, 4, .inl ((fun _ => 0)))), (q32, .inr (8, [.int 0, .int 0, .null, .null, .int 0, .null, .null, .null, .null, .null, .int 0, .int 0, .int 0, .int 0, .null, .null, .null, .null, .null, .null, .null, .null, .null, .null, .int 0, .null, .null, .null, .null, .null, .null, .null, .null, .int 0, .int 0]))] H := hP
  have hD : va_D A [(q1, .inr (0, [.ref q2, .ref q3, .ref q4, .ref q5])), (q2, .inr (1, [.ref q6, .ref q7, .int 0, .ref q8, .ref q9, .ref q10, .ref q11, .int 0, .ref q12, .ref q13, .ref q14, .ref q15, .ref q16])), (q6, .inl (c17, 6, .inl ((fun _ => 0)))), (q7, .inl (c18, 6, .inl ((fun _ => 0)))), (q3, .inr (2, [.ref q2, .ref q19, .ref q20, .ref q21, .int 0, .int 0, .int (-1), .int (-1)])), (q4, .inr (6, [.ref q2, .ref q22, .ref q23, .ref q24, .ref q25, .int 0])), (q5, .inr (7, [.ref q2, .ref q21, .ref q4, .ref q26, .ref q27, .ref q28, .ref q29, .int 0, .int 0, .int 0])), (q26, .inl (c30, 4, .inl ((fun _ => 0)))), (q32, .inr (8, [.int 0, .int 0, .null, .null, .int 0, .null, .null, .null, .null, .null, .int 0, .int 0, .int 0, .int 0, .null, .null, .null, .null, .null, .null, .null, .null, .null, .null, .int 0, .null, .null, .null, .null, .null, .null, .null, .null, .int 0, .int 0]))] := hD
  refine W.widen (k := 36) (n := 1919) (by decide) (by decide) ?_
  refine lv_dup hx hb d_L_law_11 rfl ?_
  have hPc := hP.sub (ws' := [(q32, .inr (8, [.int 0, .int 0, .null, .null, .int 0, .null, .null, .null, .null, .null, .int 0, .int 0, .int 0, .int 0, .null, .null, .null, .null, .null, .null, .null, .null, .null, .null, .int 0, .null, .null, .null, .null, .null, .null, .null, .null, .int 0, .int 0]))]) [8] rfl
  have hDc := hD.sub (ws' := [(q32, .inr (8, [.int 0, .int 0, .null, .null, .int 0, .null, .null, .null, .null, .null, .int 0, .int 0, .int 0, .int 0, .null, .null, .null, .null, .null, .null, .null, .null, .null, .null, .int 0, .null, .null, .null, .null, .null, .null, .null, .null, .int 0, .int 0]))]) [8] (by decide) rfl
  have hKc := hK.sub (tys' := []) [] rfl
  have hFc := va_free (wc := [(q32, .inr (8, [.int 0, .int 0, .null, .null, .int 0, .null, .null, .null, .null, .null, .int 0, .int 0, .int 0, .int 0, .null, .null, .null, .null, .null, .null, .null, .null, .null, .null, .int 0, .null, .null, .null, .null, .null, .null, .null, .null, .int 0, .int 0]))]) hD hS hA [8] rfl
  refine va_callv (va_runI (As := []) (rest := [.ref q32]) ⟨hx, hb, hml, hown, hts⟩ (c_M_init l htr dC dI q32 H.size) (vq_cI WSk hts 0 rfl rfl ⟨by decide, by decide⟩ k_200 k_235 k_446 k_447 rfl (by decide +kernel)) ⟨vq_blind, vq_here hst hS hN hPc hKc hDc⟩ rfl rfl hl.1 rfl (lv_room (Nat.le_of_ble_eq_true rfl)) d_L_law_12 ⟨by decide, by decide⟩) hS (fun q _ h => hFc q h) hFc (fun u t H1 locs ht hvm hw hB hz1 hk1 hS => ?_)
  obtain ⟨q33, q34, q35, q36, q37, q38, q39, q40, q41, q42, q43, q44, q45, q46, q47, q48, q49, q50, q51, q52, q53, q54, q55, q56, q57, c58, c59, c60, c61, hP1, hK1, hD1⟩ := hB
  rw [ht] at hP1
  have hK1 := va_K.moved hvm.symm hK1
  obtain ⟨hP, hD⟩ := va_join (wr := [(q1, .inr (0, [.ref q2, .ref q3, .ref q4, .ref q5])), (q2, .inr (1, [.ref q6, .ref q7, .int 0, .ref q8, .ref q9, .ref q10, .ref q11, .int 0, .ref q12, .ref q13, .ref q14, .ref q15, .ref q16])), (q6, .inl (c17, 6, .inl ((fun _ => 0)))), (q7, .inl (c18, 6, .inl ((fun _ => 0)))), (q3, .inr (2, [.ref q2, .ref q19, .ref q20, .ref q21, .int 0, .int 0, .int (-1), .int (-1)])), (q4, .inr (6, [.ref q2, .ref q22, .ref q23, .ref q24, .ref q25, .int 0])), (q5, .inr (7, [.ref q2, .ref q21, .ref q4, .ref q26, .ref q27, .ref q28, .ref q29, .int 0, .int 0, .int 0])), (q26, .inl (c30, 4, .inl ((fun _ => 0))))]) (w1 := [(q32, .inr (8, [.int 0, .int 0, .ref q33, .ref q34, .int 0, .ref q35, .ref q36, .ref q37, .ref q38, .ref q39, .int 0, .int 0, .int (-1), .int (-1), .ref q40, .ref q41, .ref q42, .ref q43, .ref q44, .ref q45, .ref q46, .ref q47, .ref q48, .ref q49, .int 0, .ref q50, .ref q51, .ref q52, .ref q53, .ref q54, .ref q55, .ref q56, .ref q57, .int (-1), .int (-1)])), (q33, .inl (c58, 6, .inl ((fun _ => 0)))), (q34, .inl (c59, 24, .inl ((fun _ => 0)))), (q55, .inl (c60, 160, .inl ((fun _ => 0)))), (q57, .inl (c61, 4, .inl ((fun _ => 0))))]) hP hD [8] [0, 1, 2, 3, 4, 5, 6, 7] rfl rfl (by decide) (by decide) hk1 hFc hP1 hD1
  have hK := (hK.sub (tys' := [(c17, .int), (c18, .int), (c30, .int)]) [0, 1, 2] rfl).app hK1
  generalize H1 = H at hP hS ⊢
  have hP : va_P (dC, dI) CL [(q1, .inr (0, [.ref q2, .ref q3, .ref q4, .ref q5])), (q2, .inr (1, [.ref q6, .ref q7, .int 0, .ref q8, .ref q9, .ref q10, .ref q11, .int 0, .ref q12, .ref q13, .ref q14, .ref q15, .ref q16])), (q6, .inl (c17, 6, .inl ((fun _ => 0)))), (q7, .inl (c18, 6, .inl ((fun _ => 0)))), (q3, .inr (2, [.ref q2, .ref q19, .ref q20, .ref q21, .int 0, .int 0, .int (-1), .int (-1)])), (q4, .inr (6, [.ref q2, .ref q22, .ref q23, .ref q24, .ref q25, .int 0])), (q5, .inr (7, [.ref q2, .ref q21, .ref q4, .ref q26, .ref q27, .ref q28, .ref q29, .int 0, .int 0, .int 0])), (q26, .inl (c30, 4, .inl ((fun _ => 0)))), (q32, .inr (8, [.int 0, .int 0, .ref q33, .ref q34, .int 0, .ref q35, .ref q36, .ref q37, .ref q38, .ref q39, .int 0, .int 0, .int (-1), .int (-1), .ref q40, .ref q41, .ref q42, .ref q43, .ref q44, .ref q45, .ref q46, .ref q47, .ref q48, .ref q49, .int 0, .ref q50, .ref q51, .ref q52, .ref q53, .ref q54, .ref q55, .ref q56, .ref q57, .int (-1), .int (-1)])), (q33, .inl (c58, 6, .inl ((fun _ => 0)))), (q34, .inl (c59, 24, .inl ((fun _ => 0)))), (q55, .inl (c60, 160, .inl ((fun _ => 0)))), (q57, .inl (c61, 4, .inl ((fun _ => 0))))] H := hP
  have hD : va_D A [(q1, .inr (0, [.ref q2, .ref q3, .ref q4, .ref q5])), (q2, .inr (1, [.ref q6, .ref q7, .int 0, .ref q8, .ref q9, .ref q10, .ref q11, .int 0, .ref q12, .ref q13, .ref q14, .ref q15, .ref q16])), (q6, .inl (c17, 6, .inl ((fun _ => 0)))), (q7, .inl (c18, 6, .inl ((fun _ => 0)))), (q3, .inr (2, [.ref q2, .ref q19, .ref q20, .ref q21, .int 0, .int 0, .int (-1), .int (-1)])), (q4, .inr (6, [.ref q2, .ref q22, .ref q23, .ref q24, .ref q25, .int 0])), (q5, .inr (7, [.ref q2, .ref q21, .ref q4, .ref q26, .ref q27, .ref q28, .ref q29, .int 0, .int 0, .int 0])), (q26, .inl (c30, 4, .inl ((fun _ => 0)))), (q32, .inr (8, [.int 0, .int 0, .ref q33, .ref q34, .int 0, .ref q35, .ref q36, .ref q37, .ref q38, .ref q39, .int 0, .int 0, .int (-1), .int (-1), .ref q40, .ref q41, .ref q42, .ref q43, .ref q44, .ref q45, .ref q46, .ref q47, .ref q48, .ref q49, .int 0, .ref q50, .ref q51, .ref q52, .ref q53, .ref q54, .ref q55, .ref q56, .ref q57, .int (-1), .int (-1)])), (q33, .inl (c58, 6, .inl ((fun _ => 0)))), (q34, .inl (c59, 24, .inl ((fun _ => 0)))), (q55, .inl (c60, 160, .inl ((fun _ => 0)))), (q57, .inl (c61, 4, .inl ((fun _ => 0))))] := hD
  have hK : va_K (dC, dI) CL [(c17, .int), (c18, .int), (c30, .int), (c58, .int), (c59, .boolean), (c60, .boolean), (c61, .int)] s := hK
  refine W.widen (k := 61) (n := 9095) (by decide) (by decide) ?_
  refine lv_astore_n (lv' := [(2, .ref q32), (1, .ref q1), (0, .ref b)]) hx hb d_L_law_15 rfl hl (by decide) rfl (fun ls hl => ?_)
  refine lv_iconst (v := 1) hx hb d_L_law_16 (by decide) ?_
  refine va_newa (D := (dC, dI)) (atype := .long) (ty := .long) (N' := 1) (a0 := (1, .inr (.inl (fun _ => 0)))) hx hb (hts _ k_448) rfl hK hP hD hS hA (fun _ => rfl) (by decide) (by decide) (by decide) (Nat.le_of_ble_eq_true rfl) (Nat.le_of_ble_eq_true rfl) d_L_law_17 (fun q63 c64 H hK hP hD hS => ?_)
  have hP : va_P (dC, dI) CL [(q1, .inr (0, [.ref q2, .ref q3, .ref q4, .ref q5])), (q2, .inr (1, [.ref q6, .ref q7, .int 0, .ref q8, .ref q9, .ref q10, .ref q11, .int 0, .ref q12, .ref q13, .ref q14, .ref q15, .ref q16])), (q6, .inl (c17, 6, .inl ((fun _ => 0)))), (q7, .inl (c18, 6, .inl ((fun _ => 0)))), (q3, .inr (2, [.ref q2, .ref q19, .ref q20, .ref q21, .int 0, .int 0, .int (-1), .int (-1)])), (q4, .inr (6, [.ref q2, .ref q22, .ref q23, .ref q24, .ref q25, .int 0])), (q5, .inr (7, [.ref q2, .ref q21, .ref q4, .ref q26, .ref q27, .ref q28, .ref q29, .int 0, .int 0, .int 0])), (q26, .inl (c30, 4, .inl ((fun _ => 0)))), (q32, .inr (8, [.int 0, .int 0, .ref q33, .ref q34, .int 0, .ref q35, .ref q36, .ref q37, .ref q38, .ref q39, .int 0, .int 0, .int (-1), .int (-1), .ref q40, .ref q41, .ref q42, .ref q43, .ref q44, .ref q45, .ref q46, .ref q47, .ref q48, .ref q49, .int 0, .ref q50, .ref q51, .ref q52, .ref q53, .ref q54, .ref q55, .ref q56, .ref q57, .int (-1), .int (-1)])), (q33, .inl (c58, 6, .inl ((fun _ => 0)))), (q34, .inl (c59, 24, .inl ((fun _ => 0)))), (q55, .inl (c60, 160, .inl ((fun _ => 0)))), (q57, .inl (c61, 4, .inl ((fun _ => 0)))), (q63, .inl (c64, 1, .inr (.inl ((fun _ => 0)))))] H := hP
  have hD : va_D A [(q1, .inr (0, [.ref q2, .ref q3, .ref q4, .ref q5])), (q2, .inr (1, [.ref q6, .ref q7, .int 0, .ref q8, .ref q9, .ref q10, .ref q11, .int 0, .ref q12, .ref q13, .ref q14, .ref q15, .ref q16])), (q6, .inl (c17, 6, .inl ((fun _ => 0)))), (q7, .inl (c18, 6, .inl ((fun _ => 0)))), (q3, .inr (2, [.ref q2, .ref q19, .ref q20, .ref q21, .int 0, .int 0, .int (-1), .int (-1)])), (q4, .inr (6, [.ref q2, .ref q22, .ref q23, .ref q24, .ref q25, .int 0])), (q5, .inr (7, [.ref q2, .ref q21, .ref q4, .ref q26, .ref q27, .ref q28, .ref q29, .int 0, .int 0, .int 0])), (q26, .inl (c30, 4, .inl ((fun _ => 0)))), (q32, .inr (8, [.int 0, .int 0, .ref q33, .ref q34, .int 0, .ref q35, .ref q36, .ref q37, .ref q38, .ref q39, .int 0, .int 0, .int (-1), .int (-1), .ref q40, .ref q41, .ref q42, .ref q43, .ref q44, .ref q45, .ref q46, .ref q47, .ref q48, .ref q49, .int 0, .ref q50, .ref q51, .ref q52, .ref q53, .ref q54, .ref q55, .ref q56, .ref q57, .int (-1), .int (-1)])), (q33, .inl (c58, 6, .inl ((fun _ => 0)))), (q34, .inl (c59, 24, .inl ((fun _ => 0)))), (q55, .inl (c60, 160, .inl ((fun _ => 0)))), (q57, .inl (c61, 4, .inl ((fun _ => 0)))), (q63, .inl (c64, 1, .inr (.inl ((fun _ => 0)))))] := hD
  have hK : va_K (dC, dI) CL [(c17, .int), (c18, .int), (c30, .int), (c58, .int), (c59, .boolean), (c60, .boolean), (c61, .int), (c64, .long)] s := hK
  refine W.widen (k := 62) (n := 9096) (by decide) (by decide) ?_
  refine lv_astore_n (lv' := [(3, .ref q63), (2, .ref q32), (1, .ref q1), (0, .ref b)]) hx hb d_L_law_19 rfl hl (by decide) rfl (fun ls hl => ?_)
  refine lv_iconst (v := 0) hx hb d_L_law_20 (by decide) ?_
  refine lv_istore (lv' := [(4, .int 0), (3, .ref q63), (2, .ref q32), (1, .ref q1), (0, .ref b)]) hx hb d_L_law_21 hl (by decide) rfl (fun ls hl => ?_)
  by_cases hL6 : L = 6
  ·
    subst hL6
    refine lv_iload hx hb d_L_law_23 (lv_at hl 0 rfl) ?_
    refine lv_aload_n hx hb d_L_law_25 rfl (lv_at hl 4 rfl) ?_
    refine va_slen hx hb hX hbl hbA hS d_L_law_26 ?_
    refine vq_top (y := 6) (by decide) ?_
    refine lv_bipush (v := 6) hx hb d_L_law_27 (by decide) ?_
    refine lv_isub hx hb d_L_law_29 ?_
    refine vq_top (y := 0) (by decide) ?_
    refine lv_icmp_gt (tgt := 1059) hx hb d_L_law_30 (by decide) (fun h9 => absurd h9 (by decide)) (fun _ => ?_)
    refine lv_aload_n hx hb d_L_law_33 rfl (lv_at hl 4 rfl) ?_
    refine lv_iload hx hb d_L_law_34 (lv_at hl 0 rfl) ?_
    refine va_sld (i := 0) hx hb hX hbl hbA hS (show ¬ ((0 : Int32) < 0 ∨ 6 ≤ Int32.toNatClampNeg 0) by decide) d_L_law_36 ?_
    refine vq_top (y := xs 0) rfl ?_
    refine lv_bipush (v := 31) hx hb d_L_law_37 (by decide) ?_
    refine lv_iand hx hb d_L_law_39 ?_
    obtain ⟨j, hj, hjx⟩ := pk_andE (xs 0) (m := 31) 5 (by decide)
    refine vq_top (y := nI j) hjx ?_
    have hj17 : j = 0 ∨ j = 1 ∨ j = 2 ∨ j = 3 ∨ j = 4 ∨ j = 5 ∨ j = 6 ∨ j = 7 ∨ j = 8 ∨ j = 9 ∨ j = 10 ∨ j = 11 ∨ j = 12 ∨ j = 13 ∨ j = 14 ∨ j = 15 ∨ j = 16 ∨ 17 ≤ j := by omega
    rcases hj17 with rfl | rfl | rfl | rfl | rfl | rfl | rfl | rfl | rfl | rfl | rfl | rfl | rfl | rfl | rfl | rfl | rfl | h17
    ·
      refine lv_tableIn (x := nI 0) (off := 84) (tgt := 124) hx hb d_L_law_40 (by decide) (by decide) (by decide) (by decide) ?_
      by_cases h0 : xs 1 < 0
      ·
        exact arm_0L l htr dC dI q63 q32 q1 q2 q3 q4 q5 q33 q34 q35 q36 q37 q38 q39 q40 q41 q42 q43 q44 q45 q46 q47 q48 q49 q50 q51 q52 q53 q54 q55 q56 q57 h0 hAt hst hA hA2 hbA (hK.sub [] rfl) (hP.sub [0, 8] rfl) (hD.sub [0, 8] (by decide) rfl) hS hl
      ·
        by_cases h4 : xs 1 ≤ 4
        ·
          exact arm_0 l htr dC dI q63 q32 q1 q2 q3 q4 q5 q6 q7 q8 q9 q10 q11 q12 q13 q14 q15 q16 q19 q20 q21 q26 q27 q28 q29 c17 (fun _ => 0) c18 (fun _ => 0) c64 (fun _ => 0) q33 q34 q35 q36 q37 q38 q39 q40 q41 q42 q43 q44 q45 q46 q47 q48 q49 q50 q51 q52 q53 q54 q55 q56 q57 c58 (fun _ => 0) c59 (fun _ => 0) c60 (fun _ => 0) h0 h4 hAt hst hA hA2 hbA (hK.sub [0, 1, 7, 3, 4, 5] rfl) (hP.sub [0, 1, 4, 6, 2, 3, 13, 8, 9, 10, 11] rfl) (hD.sub [0, 1, 4, 6, 2, 3, 13, 8, 9, 10, 11] (by decide) rfl) hS hl
        ·
          exact arm_0G l htr dC dI q63 q32 q1 q2 q3 q4 q5 q33 q34 q35 q36 q37 q38 q39 q40 q41 q42 q43 q44 q45 q46 q47 q48 q49 q50 q51 q52 q53 q54 q55 q56 q57 h0 h4 hAt hst hA hA2 hbA (hK.sub [] rfl) (hP.sub [0, 8] rfl) (hD.sub [0, 8] (by decide) rfl) hS hl
    ·
      refine lv_tableIn (x := nI 1) (off := 152) (tgt := 192) hx hb d_L_law_40 (by decide) (by decide) (by decide) (by decide) ?_
      exact arm_1 l htr dC dI q63 q32 q1 q2 q3 q4 q5 q6 q7 q8 q9 q10 q11 q12 q13 q14 q15 q16 q33 q34 q35 q36 q37 q38 q39 q40 q41 q42 q43 q44 q45 q46 q47 q48 q49 q50 q51 q52 q53 q54 q55 q56 q57 hAt hst hA hA2 hbA (hK.sub [] rfl) (hP.sub [0, 1, 8] rfl) (hD.sub [0, 1, 8] (by decide) rfl) hS hl
    ·
      refine lv_tableIn (x := nI 2) (off := 244) (tgt := 284) hx hb d_L_law_40 (by decide) (by decide) (by decide) (by decide) ?_
      exact arm_2 l htr dC dI q63 q32 q1 q2 q3 q4 q5 q6 q7 q8 q9 q10 q11 q12 q13 q14 q15 q16 q33 q34 q35 q36 q37 q38 q39 q40 q41 q42 q43 q44 q45 q46 q47 q48 q49 q50 q51 q52 q53 q54 q55 q56 q57 hAt hst hA hA2 hbA (hK.sub [] rfl) (hP.sub [0, 1, 8] rfl) (hD.sub [0, 1, 8] (by decide) rfl) hS hl
    ·
      refine lv_tableIn (x := nI 3) (off := 328) (tgt := 368) hx hb d_L_law_40 (by decide) (by decide) (by decide) (by decide) ?_
      exact arm_3 l htr dC dI q63 q32 q1 q2 q3 q4 q5 q6 q7 q8 q9 q10 q11 q12 q13 q14 q15 q16 q19 q20 q21 q26 q27 q28 q29 q33 q34 q35 q36 q37 q38 q39 q40 q41 q42 q43 q44 q45 q46 q47 q48 q49 q50 q51 q52 q53 q54 q55 q56 q57 c60 (fun _ => 0) hAt hst hA hA2 hbA (hK.sub [5] rfl) (hP.sub [0, 1, 4, 6, 8, 11] rfl) (hD.sub [0, 1, 4, 6, 8, 11] (by decide) rfl) hS hl
    ·
      refine lv_tableIn (x := nI 4) (off := 372) (tgt := 412) hx hb d_L_law_40 (by decide) (by decide) (by decide) (by decide) ?_
      by_cases e0 : xs 1 = 0
      ·
        exact arm_4_0 l htr dC dI q63 q32 q1 q2 q3 q4 q5 q19 q20 q21 q33 q34 q35 q36 q37 q38 q39 q40 q41 q42 q43 q44 q45 q46 q47 q48 q49 q50 q51 q52 q53 q54 q55 q56 q57 e0 hAt hst hA hA2 hbA (hK.sub [] rfl) (hP.sub [0, 4, 8] rfl) (hD.sub [0, 4, 8] (by decide) rfl) hS hl
      by_cases e1 : xs 1 = 1
      ·
        exact arm_4_1 l htr dC dI q63 q32 q1 q2 q3 q4 q5 q19 q20 q21 q33 q34 q35 q36 q37 q38 q39 q40 q41 q42 q43 q44 q45 q46 q47 q48 q49 q50 q51 q52 q53 q54 q55 q56 q57 e1 hAt hst hA hA2 hbA (hK.sub [] rfl) (hP.sub [0, 4, 8] rfl) (hD.sub [0, 4, 8] (by decide) rfl) hS hl
      by_cases e2 : xs 1 = 2
      ·
        exact arm_4_2 l htr dC dI q63 q32 q1 q2 q3 q4 q5 q19 q20 q21 q33 q34 q35 q36 q37 q38 q39 q40 q41 q42 q43 q44 q45 q46 q47 q48 q49 q50 q51 q52 q53 q54 q55 q56 q57 e2 hAt hst hA hA2 hbA (hK.sub [] rfl) (hP.sub [0, 4, 8] rfl) (hD.sub [0, 4, 8] (by decide) rfl) hS hl
      exact arm_4D l htr dC dI q63 q32 q1 q2 q3 q4 q5 q19 q20 q21 q33 q34 q35 q36 q37 q38 q39 q40 q41 q42 q43 q44 q45 q46 q47 q48 q49 q50 q51 q52 q53 q54 q55 q56 q57 (vq_f4 e0 e1 e2) e0 e1 e2 hAt hst hA hA2 hbA (hK.sub [] rfl) (hP.sub [0, 4, 8] rfl) (hD.sub [0, 4, 8] (by decide) rfl) hS hl
    ·
      refine lv_tableIn (x := nI 5) (off := 397) (tgt := 437) hx hb d_L_law_40 (by decide) (by decide) (by decide) (by decide) ?_
      exact arm_5 l htr dC dI q63 q32 q1 q2 q3 q4 q5 q19 q20 q21 q33 q34 q35 q36 q37 q38 q39 q40 q41 q42 q43 q44 q45 q46 q47 q48 q49 q50 q51 q52 q53 q54 q55 q56 q57 hAt hst hA hA2 hbA (hK.sub [] rfl) (hP.sub [0, 4, 8] rfl) (hD.sub [0, 4, 8] (by decide) rfl) hS hl
    ·
      refine lv_tableIn (x := nI 6) (off := 453) (tgt := 493) hx hb d_L_law_40 (by decide) (by decide) (by decide) (by decide) ?_
      exact arm_6 l htr dC dI q63 q32 q1 q2 q3 q4 q5 q19 q20 q21 q33 q34 q35 q36 q37 q38 q39 q40 q41 q42 q43 q44 q45 q46 q47 q48 q49 q50 q51 q52 q53 q54 q55 q56 q57 hAt hst hA hA2 hbA (hK.sub [] rfl) (hP.sub [0, 4, 8] rfl) (hD.sub [0, 4, 8] (by decide) rfl) hS hl
    ·
      refine lv_tableIn (x := nI 7) (off := 521) (tgt := 561) hx hb d_L_law_40 (by decide) (by decide) (by decide) (by decide) ?_
      exact arm_7 l htr dC dI q63 q32 q1 q2 q3 q4 q5 q19 q20 q21 q33 q34 q35 q36 q37 q38 q39 q40 q41 q42 q43 q44 q45 q46 q47 q48 q49 q50 q51 q52 q53 q54 q55 q56 q57 hAt hst hA hA2 hbA (hK.sub [] rfl) (hP.sub [0, 4, 8] rfl) (hD.sub [0, 4, 8] (by decide) rfl) hS hl
    ·
      refine lv_tableIn (x := nI 8) (off := 589) (tgt := 629) hx hb d_L_law_40 (by decide) (by decide) (by decide) (by decide) ?_
      exact arm_8 l htr dC dI q63 q32 q1 q2 q3 q4 q5 q6 q7 q8 q9 q10 q11 q12 q13 q14 q15 q16 q33 q34 q35 q36 q37 q38 q39 q40 q41 q42 q43 q44 q45 q46 q47 q48 q49 q50 q51 q52 q53 q54 q55 q56 q57 hAt hst hA hA2 hbA (hK.sub [] rfl) (hP.sub [0, 1, 8] rfl) (hD.sub [0, 1, 8] (by decide) rfl) hS hl
    ·
      refine lv_tableIn (x := nI 9) (off := 693) (tgt := 733) hx hb d_L_law_40 (by decide) (by decide) (by decide) (by decide) ?_
      exact arm_9 l htr dC dI q63 q32 q1 q2 q3 q4 q5 q22 q23 q24 q25 q21 q26 q27 q28 q29 q33 q34 q35 q36 q37 q38 q39 q40 q41 q42 q43 q44 q45 q46 q47 q48 q49 q50 q51 q52 q53 q54 q55 q56 q57 c60 (fun _ => 0) hAt hst hA hA2 hbA (hK.sub [5] rfl) (hP.sub [0, 5, 6, 8, 11] rfl) (hD.sub [0, 5, 6, 8, 11] (by decide) rfl) hS hl
    ·
      refine lv_tableIn (x := nI 10) (off := 704) (tgt := 744) hx hb d_L_law_40 (by decide) (by decide) (by decide) (by decide) ?_
      by_cases h0 : xs 1 < 0
      ·
        exact arm_10L l htr dC dI q63 q32 q1 q2 q3 q4 q5 q33 q34 q35 q36 q37 q38 q39 q40 q41 q42 q43 q44 q45 q46 q47 q48 q49 q50 q51 q52 q53 q54 q55 q56 q57 h0 hAt hst hA hA2 hbA (hK.sub [] rfl) (hP.sub [0, 8] rfl) (hD.sub [0, 8] (by decide) rfl) hS hl
      ·
        obtain ⟨g1, g2⟩ := vq_g4 h0
        by_cases h4 : xs 1 < 4
        ·
          exact arm_10 l htr dC dI q63 q32 q1 q2 q3 q4 q5 q21 q26 q27 q28 q29 c30 (fun _ => 0) q33 q34 q35 q36 q37 q38 q39 q40 q41 q42 q43 q44 q45 q46 q47 q48 q49 q50 q51 q52 q53 q54 q55 q56 q57 c61 (fun _ => 0) h0 h4 (g1.mp h4) (g2 h4) hAt hst hA hA2 hbA (hK.sub [2, 6] rfl) (hP.sub [0, 6, 7, 8, 12] rfl) (hD.sub [0, 6, 7, 8, 12] (by decide) rfl) hS hl
        ·
          exact arm_10G l htr dC dI q63 q32 q1 q2 q3 q4 q5 q33 q34 q35 q36 q37 q38 q39 q40 q41 q42 q43 q44 q45 q46 q47 q48 q49 q50 q51 q52 q53 q54 q55 q56 q57 h0 h4 (fun h => h4 (g1.mpr h)) hAt hst hA hA2 hbA (hK.sub [] rfl) (hP.sub [0, 8] rfl) (hD.sub [0, 8] (by decide) rfl) hS hl
    ·
      refine lv_tableIn (x := nI 11) (off := 752) (tgt := 792) hx hb d_L_law_40 (by decide) (by decide) (by decide) (by decide) ?_
      exact arm_11 l htr dC dI q63 q32 q1 q2 q3 q4 q5 q19 q20 q21 q33 q34 q35 q36 q37 q38 q39 q40 q41 q42 q43 q44 q45 q46 q47 q48 q49 q50 q51 q52 q53 q54 q55 q56 q57 hAt hst hA hA2 hbA (hK.sub [] rfl) (hP.sub [0, 4, 8] rfl) (hD.sub [0, 4, 8] (by decide) rfl) hS hl
    ·
      refine lv_tableIn (x := nI 12) (off := 788) (tgt := 828) hx hb d_L_law_40 (by decide) (by decide) (by decide) (by decide) ?_
      by_cases h0 : xs 1 < 0
      ·
        exact arm_12L l htr dC dI q63 q32 q1 q2 q3 q4 q5 q33 q34 q35 q36 q37 q38 q39 q40 q41 q42 q43 q44 q45 q46 q47 q48 q49 q50 q51 q52 q53 q54 q55 q56 q57 h0 hAt hst hA hA2 hbA (hK.sub [] rfl) (hP.sub [0, 8] rfl) (hD.sub [0, 8] (by decide) rfl) hS hl
      ·
        by_cases h4 : xs 1 ≤ 500
        ·
          exact arm_12 l htr dC dI q63 q32 q1 q2 q3 q4 q5 q21 q26 q27 q28 q29 q33 q34 q35 q36 q37 q38 q39 q40 q41 q42 q43 q44 q45 q46 q47 q48 q49 q50 q51 q52 q53 q54 q55 q56 q57 h0 h4 hAt hst hA hA2 hbA (hK.sub [] rfl) (hP.sub [0, 6, 8] rfl) (hD.sub [0, 6, 8] (by decide) rfl) hS hl
        ·
          exact arm_12G l htr dC dI q63 q32 q1 q2 q3 q4 q5 q33 q34 q35 q36 q37 q38 q39 q40 q41 q42 q43 q44 q45 q46 q47 q48 q49 q50 q51 q52 q53 q54 q55 q56 q57 h0 h4 hAt hst hA hA2 hbA (hK.sub [] rfl) (hP.sub [0, 8] rfl) (hD.sub [0, 8] (by decide) rfl) hS hl
    ·
      refine lv_tableIn (x := nI 13) (off := 844) (tgt := 884) hx hb d_L_law_40 (by decide) (by decide) (by decide) (by decide) ?_
      exact arm_13 l htr dC dI q63 q32 q1 q2 q3 q4 q5 q21 q26 q27 q28 q29 q33 q34 q35 q36 q37 q38 q39 q40 q41 q42 q43 q44 q45 q46 q47 q48 q49 q50 q51 q52 q53 q54 q55 q56 q57 hAt hst hA hA2 hbA (hK.sub [] rfl) (hP.sub [0, 6, 8] rfl) (hD.sub [0, 6, 8] (by decide) rfl) hS hl
    ·
      refine lv_tableIn (x := nI 14) (off := 857) (tgt := 897) hx hb d_L_law_40 (by decide) (by decide) (by decide) (by decide) ?_
      exact arm_14 l htr dC dI q63 q32 q1 q2 q3 q4 q5 q21 q26 q27 q28 q29 q33 q34 q35 q36 q37 q38 q39 q40 q41 q42 q43 q44 q45 q46 q47 q48 q49 q50 q51 q52 q53 q54 q55 q56 q57 hAt hst hA hA2 hbA (hK.sub [] rfl) (hP.sub [0, 6, 8] rfl) (hD.sub [0, 6, 8] (by decide) rfl) hS hl
    ·
      refine lv_tableIn (x := nI 15) (off := 870) (tgt := 910) hx hb d_L_law_40 (by decide) (by decide) (by decide) (by decide) ?_
      exact arm_15 l htr dC dI q63 q32 q1 q2 q3 q4 q5 q22 q23 q24 q25 q33 q34 q35 q36 q37 q38 q39 q40 q41 q42 q43 q44 q45 q46 q47 q48 q49 q50 q51 q52 q53 q54 q55 q56 q57 hAt hst hA hA2 hbA (hK.sub [] rfl) (hP.sub [0, 5, 8] rfl) (hD.sub [0, 5, 8] (by decide) rfl) hS hl
    ·
      refine lv_tableIn (x := nI 16) (off := 945) (tgt := 985) hx hb d_L_law_40 (by decide) (by decide) (by decide) (by decide) ?_
      exact arm_16 l htr dC dI q63 q32 q1 q2 q3 q4 q5 q22 q23 q24 q25 q33 q34 q35 q36 q37 q38 q39 q40 q41 q42 q43 q44 q45 q46 q47 q48 q49 q50 q51 q52 q53 q54 q55 q56 q57 hAt hst hA hA2 hbA (hK.sub [] rfl) (hP.sub [0, 5, 8] rfl) (hD.sub [0, 5, 8] (by decide) rfl) hS hl
    ·
      refine lv_tableOut (tgt := 1053) hx hb d_L_law_40 (Or.inr (by rw [nI_toInt (by omega)]; omega)) (by decide) ?_
      exact arm_D l htr dC dI q63 q32 q1 hAt hst hA hA2 hbA (hK.sub [] rfl) (hP.sub [] rfl) (hD.sub [] (by decide) rfl) hS hl
  ·
    refine lv_iload hx hb d_L_law_23 (lv_at hl 0 rfl) ?_
    refine lv_aload_n hx hb d_L_law_25 rfl (lv_at hl 4 rfl) ?_
    refine va_slen hx hb hX hbl hbA hS d_L_law_26 ?_
    refine lv_bipush (v := 6) hx hb d_L_law_27 (by decide) ?_
    refine lv_isub hx hb d_L_law_29 ?_
    refine lv_icmp_gt (tgt := 1059) hx hb d_L_law_30 (by decide) (fun _ => ?_) (fun h9 => absurd (vq_short L (by omega)) h9)
    refine lv_iconst (v := 1) hx hb d_L_law_1059 (by decide) ?_
    refine va_forget (fun q hq => hA2 _ (hS.2.2 q hq)) ?_
    refine W.widen (k := 85) (n := 9238) (by decide) (by decide) ?_
    exact lw_ret hx hb hr hlocks d_L_law_1060

