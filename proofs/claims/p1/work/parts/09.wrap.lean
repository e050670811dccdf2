set_option maxHeartbeats 4000000 in
set_option maxRecDepth 100000 in
theorem w_symbol (l : Launch) (htr : l.stackTraces = false) (dC : Nat → ClassId) (dI : Nat → Nat → Nat) (x : Nat) (a : Int32) (inh : Int32) (out : Nat) (g : Nat) (an : Nat) (tr : Nat) (w : Nat) (g_attributeCounts : Nat) (g_inheritedBits : Nat) (g_symbolsAt : Nat) (g_lastPositions : Nat) (g_presentBits : Nat) (g_toDefineBits : Nat) (g_ruledBits : Nat) (g_forms : Nat) (g_firsts : Nat) (g_seconds : Nat) (g_usedBits : Nat) (an_leads : Nat) (an_ranking : Nat) (an_sequences : Nat) (w_given : Nat) (w_values : Nat) (w_knownBits : Nat) (w_instructionsDone : Nat) (cac : ClassId) (fac : Nat → Int32) (cib : ClassId) (fib : Nat → Int32) (cout : ClassId) (fo : Nat → Int64) (sz : Nat) (h0 : ¬ a < 0) (h4 : a ≤ 4) : Met l y_L_symbol WS ({ frames := 3, cells := 0, slots := 0, locals := 66 }) (va_Pc [.ref x, .int a, .int inh, .ref out] (vq_Pre (dC, dI) CL sz [(x, .inr (0, [.ref g, .ref an, .ref tr, .ref w])), (g, .inr (1, [.ref g_attributeCounts, .ref g_inheritedBits, .int 0, .ref g_symbolsAt, .ref g_lastPositions, .ref g_presentBits, .ref g_toDefineBits, .int 0, .ref g_ruledBits, .ref g_forms, .ref g_firsts, .ref g_seconds, .ref g_usedBits])), (an, .inr (2, [.ref g, .ref an_leads, .ref an_ranking, .ref an_sequences, .int 0, .int 0, .int (-1), .int (-1)])), (w, .inr (7, [.ref g, .ref an_sequences, .ref tr, .ref w_given, .ref w_values, .ref w_knownBits, .ref w_instructionsDone, .int 0, .int 0, .int 0])), (g_attributeCounts, .inl (cac, 6, .inl fac)), (g_inheritedBits, .inl (cib, 6, .inl fib)), (out, .inl (cout, 1, .inr (.inl fo)))] [(cac, .int), (cib, .int), (cout, .long)])) (va_Qi (fun (r : Int32) (_ : Unit) => r = 0) (fun _ t => vq_Post (dC, dI) CL (va_A [(x, .inr (0, [.ref g, .ref an, .ref tr, .ref w])), (g, .inr (1, [.ref g_attributeCounts, .ref g_inheritedBits, .int 0, .ref g_symbolsAt, .ref g_lastPositions, .ref g_presentBits, .ref g_toDefineBits, .int 0, .ref g_ruledBits, .ref g_forms, .ref g_firsts, .ref g_seconds, .ref g_usedBits])), (an, .inr (2, [.ref g, .ref an_leads, .ref an_ranking, .ref an_sequences, .int 0, .int 0, .int (-1), .int (-1)])), (w, .inr (7, [.ref g, .ref an_sequences, .ref tr, .ref w_given, .ref w_values, .ref w_knownBits, .ref w_instructionsDone, .int 0, .int 0, .int 0])), (g_attributeCounts, .inl (cac, 6, .inl fac)), (g_inheritedBits, .inl (cib, 6, .inl fib)), (out, .inl (cout, 1, .inr (.inl fo)))] sz) [(out, .inl (cout, 1, .inr (.inl (vp_updL fo (0 : Int32).toNatClampNeg 0))))] [(cout, .long)] t) (va_A [(x, .inr (0, [.ref g, .ref an, .ref tr, .ref w])), (g, .inr (1, [.ref g_attributeCounts, .ref g_inheritedBits, .int 0, .ref g_symbolsAt, .ref g_lastPositions, .ref g_presentBits, .ref g_toDefineBits, .int 0, .ref g_ruledBits, .ref g_forms, .ref g_firsts, .ref g_seconds, .ref g_usedBits])), (an, .inr (2, [.ref g, .ref an_leads, .ref an_ranking, .ref an_sequences, .int 0, .int 0, .int (-1), .int (-1)])), (w, .inr (7, [.ref g, .ref an_sequences, .ref tr, .ref w_given, .ref w_values, .ref w_knownBits, .ref w_instructionsDone, .int 0, .int 0, .int 0])), (g_attributeCounts, .inl (cac, 6, .inl fac)), (g_inheritedBits, .inl (cib, 6, .inl fib)), (out, .inl (cout, 1, .inr (.inl fo)))] sz)) 0 0 (va_A [(x, .inr (0, [.ref g, .ref an, .ref tr, .ref w])), (g, .inr (1, [.ref g_attributeCounts, .ref g_inheritedBits, .int 0, .ref g_symbolsAt, .ref g_lastPositions, .ref g_presentBits, .ref g_toDefineBits, .int 0, .ref g_ruledBits, .ref g_forms, .ref g_firsts, .ref g_seconds, .ref g_usedBits])), (an, .inr (2, [.ref g, .ref an_leads, .ref an_ranking, .ref an_sequences, .int 0, .int 0, .int (-1), .int (-1)])), (w, .inr (7, [.ref g, .ref an_sequences, .ref tr, .ref w_given, .ref w_values, .ref w_knownBits, .ref w_instructionsDone, .int 0, .int 0, .int 0])), (g_attributeCounts, .inl (cac, 6, .inl fac)), (g_inheritedBits, .inl (cib, 6, .inl fib)), (out, .inl (cout, 1, .inr (.inl fo)))] sz) := by
  refine vq_ofW (cc := method_3_code) (maxL := 5) (ret := (Option.some Jvm.ClassFile.FieldType.int)) (by decide) (vq_hisH k_289) ?_
  intro p e s m args below meth c s₁ B hml hv
  obtain ⟨rfl, hst, hsz, hP, hK, hD0⟩ := hv
  have hx := B.exec
  have hb := B.bytes
  have hr := B.returns
  have hts := atoms_spec (ws := WS) B.pre
  have hown : s.vm.findClass R_L = some m.cls := findClass_of_methodNamed B.named
  have hlocks := B.notSynchronized
  have htab := vq_hasH B (hts _ k_289)
  subst hsz
  have hN := vq_ns hP
  have hD := hD0.self (sz := s.heap.size)
  generalize hAe : va_A [(x, .inr (0, [.ref g, .ref an, .ref tr, .ref w])), (g, .inr (1, [.ref g_attributeCounts, .ref g_inheritedBits, .int 0, .ref g_symbolsAt, .ref g_lastPositions, .ref g_presentBits, .ref g_toDefineBits, .int 0, .ref g_ruledBits, .ref g_forms, .ref g_firsts, .ref g_seconds, .ref g_usedBits])), (an, .inr (2, [.ref g, .ref an_leads, .ref an_ranking, .ref an_sequences, .int 0, .int 0, .int (-1), .int (-1)])), (w, .inr (7, [.ref g, .ref an_sequences, .ref tr, .ref w_given, .ref w_values, .ref w_knownBits, .ref w_instructionsDone, .int 0, .int 0, .int 0])), (g_attributeCounts, .inl (cac, 6, .inl fac)), (g_inheritedBits, .inl (cib, 6, .inl fib)), (out, .inl (cout, 1, .inr (.inl fo)))] s.heap.size = A at hD hN ⊢
  have hA : ∀ q : Nat, s.heap.size ≤ q → A q := fun q h => by rw [← hAe]; exact Or.inr h
  have hS : va_S A s.heap s.heap [] := va_S.rf
  have hP : va_P (dC, dI) CL [(x, .inr (0, [.ref g, .ref an, .ref tr, .ref w])), (g, .inr (1, [.ref g_attributeCounts, .ref g_inheritedBits, .int 0, .ref g_symbolsAt, .ref g_lastPositions, .ref g_presentBits, .ref g_toDefineBits, .int 0, .ref g_ruledBits, .ref g_forms, .ref g_firsts, .ref g_seconds, .ref g_usedBits])), (an, .inr (2, [.ref g, .ref an_leads, .ref an_ranking, .ref an_sequences, .int 0, .int 0, .int (-1), .int (-1)])), (w, .inr (7, [.ref g, .ref an_sequences, .ref tr, .ref w_given, .ref w_values, .ref w_knownBits, .ref w_instructionsDone, .int 0, .int 0, .int 0])), (g_attributeCounts, .inl (cac, 6, .inl fac)), (g_inheritedBits, .inl (cib, 6, .inl fib)), (out, .inl (cout, 1, .inr (.inl fo)))] s.heap := hP
  have hD : va_D A [(x, .inr (0, [.ref g, .ref an, .ref tr, .ref w])), (g, .inr (1, [.ref g_attributeCounts, .ref g_inheritedBits, .int 0, .ref g_symbolsAt, .ref g_lastPositions, .ref g_presentBits, .ref g_toDefineBits, .int 0, .ref g_ruledBits, .ref g_forms, .ref g_firsts, .ref g_seconds, .ref g_usedBits])), (an, .inr (2, [.ref g, .ref an_leads, .ref an_ranking, .ref an_sequences, .int 0, .int 0, .int (-1), .int (-1)])), (w, .inr (7, [.ref g, .ref an_sequences, .ref tr, .ref w_given, .ref w_values, .ref w_knownBits, .ref w_instructionsDone, .int 0, .int 0, .int 0])), (g_attributeCounts, .inl (cac, 6, .inl fac)), (g_inheritedBits, .inl (cib, 6, .inl fib)), (out, .inl (cout, 1, .inr (.inl fo)))] := hD
  have hl := lv_entry ([.ref x, .int a, .int inh, .ref out]) (n := 5) (Nat.le_of_ble_eq_true rfl)
  rw [lg_entry_eq]
  generalize (lg_sl ([.ref x, .int a, .int inh, .ref out]) ++ List.replicate (5 - (lg_sl ([.ref x, .int a, .int inh, .ref out])).length) Slot.unset).toArray = ls at hl ⊢
  have hl : lv_has ls 5 [(0, .ref x), (1, .int a), (2, .int inh), (3, .ref out)] := hl
  refine lv_aload_n hx hb d_L_symbol_0 rfl (lv_at hl 3 rfl) ?_
  refine lv_iconst (v := 0) hx hb d_L_symbol_1 (by decide) ?_
  refine lv_aload_n hx hb d_L_symbol_2 rfl (lv_at hl 0 rfl) ?_
  refine lv_iload_n hx hb d_L_symbol_3 rfl (lv_at hl 1 rfl) ?_
  refine lv_iload_n hx hb d_L_symbol_4 rfl (lv_at hl 2 rfl) ?_
  have hPc := hP.sub (ws' := [(x, .inr (0, [.ref g, .ref an, .ref tr, .ref w])), (g, .inr (1, [.ref g_attributeCounts, .ref g_inheritedBits, .int 0, .ref g_symbolsAt, .ref g_lastPositions, .ref g_presentBits, .ref g_toDefineBits, .int 0, .ref g_ruledBits, .ref g_forms, .ref g_firsts, .ref g_seconds, .ref g_usedBits])), (an, .inr (2, [.ref g, .ref an_leads, .ref an_ranking, .ref an_sequences, .int 0, .int 0, .int (-1), .int (-1)])), (w, .inr (7, [.ref g, .ref an_sequences, .ref tr, .ref w_given, .ref w_values, .ref w_knownBits, .ref w_instructionsDone, .int 0, .int 0, .int 0])), (g_attributeCounts, .inl (cac, 6, .inl fac)), (g_inheritedBits, .inl (cib, 6, .inl fib))]) [0, 1, 2, 3, 4, 5] rfl
  have hDc := hD.sub (ws' := [(x, .inr (0, [.ref g, .ref an, .ref tr, .ref w])), (g, .inr (1, [.ref g_attributeCounts, .ref g_inheritedBits, .int 0, .ref g_symbolsAt, .ref g_lastPositions, .ref g_presentBits, .ref g_toDefineBits, .int 0, .ref g_ruledBits, .ref g_forms, .ref g_firsts, .ref g_seconds, .ref g_usedBits])), (an, .inr (2, [.ref g, .ref an_leads, .ref an_ranking, .ref an_sequences, .int 0, .int 0, .int (-1), .int (-1)])), (w, .inr (7, [.ref g, .ref an_sequences, .ref tr, .ref w_given, .ref w_values, .ref w_knownBits, .ref w_instructionsDone, .int 0, .int 0, .int 0])), (g_attributeCounts, .inl (cac, 6, .inl fac)), (g_inheritedBits, .inl (cib, 6, .inl fib))]) [0, 1, 2, 3, 4, 5] (by decide) rfl
  have hKc := hK.sub (tys' := [(cac, .int), (cib, .int)]) [0, 1] rfl
  have hFc := va_free (wc := [(x, .inr (0, [.ref g, .ref an, .ref tr, .ref w])), (g, .inr (1, [.ref g_attributeCounts, .ref g_inheritedBits, .int 0, .ref g_symbolsAt, .ref g_lastPositions, .ref g_presentBits, .ref g_toDefineBits, .int 0, .ref g_ruledBits, .ref g_forms, .ref g_firsts, .ref g_seconds, .ref g_usedBits])), (an, .inr (2, [.ref g, .ref an_leads, .ref an_ranking, .ref an_sequences, .int 0, .int 0, .int (-1), .int (-1)])), (w, .inr (7, [.ref g, .ref an_sequences, .ref tr, .ref w_given, .ref w_values, .ref w_knownBits, .ref w_instructionsDone, .int 0, .int 0, .int 0])), (g_attributeCounts, .inl (cac, 6, .inl fac)), (g_inheritedBits, .inl (cib, 6, .inl fib))]) hD hS hA [0, 1, 2, 3, 4, 5] rfl
  refine va_calli (va_runV (As := [.int a, .int inh]) (rest := [.int 0, .ref out]) ⟨hx, hb, hml, hown, hts⟩ (c_V_symbol l htr dC dI x a inh g an tr w g_attributeCounts g_inheritedBits g_symbolsAt g_lastPositions g_presentBits g_toDefineBits g_ruledBits g_forms g_firsts g_seconds g_usedBits an_leads an_ranking an_sequences w_given w_values w_knownBits w_instructionsDone cac fac cib fib s.heap.size h0 h4) (vq_cV WSk hts 2 rfl rfl ⟨by decide, by decide⟩ k_141 k_143 k_290 k_291 k_292 (by decide +kernel)) ⟨vq_blind, va_recv hK hP (ci := 0) (q0 := 0) rfl rfl, vq_here hst hS hN hPc hKc hDc⟩ rfl rfl hl.1 rfl (lv_room (Nat.le_of_ble_eq_true rfl)) d_L_symbol_5 ⟨by decide, by decide⟩) hS (fun q _ h => hFc q h) hFc (fun r1 u t H1 locs ht hvm hw hB hz1 hk1 hS => ?_)
  obtain ⟨hP1, hK1, hD1⟩ := hB
  rw [ht] at hP1
  have hK1 := va_K.moved hvm.symm hK1
  have hw : r1 = 0 := hw
  subst hw
  obtain ⟨hP, hD⟩ := va_join (wr := [(out, .inl (cout, 1, .inr (.inl fo)))]) (w1 := []) hP hD [0, 1, 2, 3, 4, 5] [6] rfl rfl (by decide) (by decide) hk1 hFc hP1 hD1
  have hK := (hK.sub (tys' := [(cout, .long)]) [2] rfl).app hK1
  generalize H1 = H at hP hS ⊢
  have hP : va_P (dC, dI) CL [(out, .inl (cout, 1, .inr (.inl fo)))] H := hP
  have hD : va_D A [(out, .inl (cout, 1, .inr (.inl fo)))] := hD
  have hK : va_K (dC, dI) CL [(cout, .long)] s := hK
  refine W.widen (k := 0) (n := 0) (by decide) (by decide) ?_
  refine lv_i2l (v := 0) hx hb d_L_symbol_8 (by decide) ?_
  refine va_last (n := 1) (f := fo) hx hb hK hP hD hS 0 0 rfl rfl (show ¬ ((0 : Int32) < 0 ∨ 1 ≤ Int32.toNatClampNeg 0) by decide) d_L_symbol_9 (fun H locs hP hD hS => ?_)
  have hP : va_P (dC, dI) CL [(out, .inl (cout, 1, .inr (.inl (vp_updL fo (0 : Int32).toNatClampNeg 0))))] H := hP
  have hD : va_D A [(out, .inl (cout, 1, .inr (.inl (vp_updL fo (0 : Int32).toNatClampNeg 0))))] := hD
  refine lv_goto (tgt := 21) hx hb d_L_symbol_10 (by decide) ?_
  refine lv_iconst (v := 0) hx hb d_L_symbol_21 (by decide) ?_
  have hP9 := hP.sub (ws' := [(out, .inl (cout, 1, .inr (.inl (vp_updL fo (0 : Int32).toNatClampNeg 0))))]) [0] rfl
  have hD9 := hD.sub (ws' := [(out, .inl (cout, 1, .inr (.inl (vp_updL fo (0 : Int32).toNatClampNeg 0))))]) [0] (by decide) rfl
  have hK9 := hK.sub (tys' := [(cout, .long)]) [0] rfl
  refine W.widen (k := 0) (n := 0) (by decide) (by decide) ?_
  exact W.iret (v := 0) hx hb hr (fun t ht hW => ⟨⟨0, (), rfl, rfl, by rw [ht]; exact hP9, va_K.moved hW.alike hK9, hD9⟩, hS.F ht⟩) hS.2.2 d_L_symbol_22

set_option maxHeartbeats 4000000 in
set_option maxRecDepth 100000 in
theorem w_symbolL (l : Launch) (htr : l.stackTraces = false) (dC : Nat → ClassId) (dI : Nat → Nat → Nat) (x : Nat) (a : Int32) (inh : Int32) (out : Nat) (g : Nat) (an : Nat) (tr : Nat) (w : Nat) (sz : Nat) (h0 : a < 0) : Met l y_L_symbol WS ({ frames := 7, cells := 1, slots := 6, locals := 104 }) (va_Pc [.ref x, .int a, .int inh, .ref out] (vq_Pre (dC, dI) CL sz [(x, .inr (0, [.ref g, .ref an, .ref tr, .ref w]))] [])) (va_Qi (fun (r : Int32) (_ : Unit) => r = 1) (fun _ t => vq_Post (dC, dI) CL (va_A [(x, .inr (0, [.ref g, .ref an, .ref tr, .ref w]))] sz) [] [] t) (va_A [(x, .inr (0, [.ref g, .ref an, .ref tr, .ref w]))] sz)) 1 6 (va_A [(x, .inr (0, [.ref g, .ref an, .ref tr, .ref w]))] sz) := by
  refine vq_ofW (cc := method_3_code) (maxL := 5) (ret := (Option.some Jvm.ClassFile.FieldType.int)) (by decide) (vq_hisH k_289) ?_
  intro p e s m args below meth c s₁ B hml hv
  obtain ⟨rfl, hst, hsz, hP, hK, hD0⟩ := hv
  have hx := B.exec
  have hb := B.bytes
  have hr := B.returns
  have hts := atoms_spec (ws := WS) B.pre
  have hown : s.vm.findClass R_L = some m.cls := findClass_of_methodNamed B.named
  have hlocks := B.notSynchronized
  have htab := vq_hasH B (hts _ k_289)
  subst hsz
  have hN := vq_ns hP
  have hD := hD0.self (sz := s.heap.size)
  generalize hAe : va_A [(x, .inr (0, [.ref g, .ref an, .ref tr, .ref w]))] s.heap.size = A at hD hN ⊢
  have hA : ∀ q : Nat, s.heap.size ≤ q → A q := fun q h => by rw [← hAe]; exact Or.inr h
  have hS : va_S A s.heap s.heap [] := va_S.rf
  have hP : va_P (dC, dI) CL [(x, .inr (0, [.ref g, .ref an, .ref tr, .ref w]))] s.heap := hP
  have hD : va_D A [(x, .inr (0, [.ref g, .ref an, .ref tr, .ref w]))] := hD
  have hl := lv_entry ([.ref x, .int a, .int inh, .ref out]) (n := 5) (Nat.le_of_ble_eq_true rfl)
  rw [lg_entry_eq]
  generalize (lg_sl ([.ref x, .int a, .int inh, .ref out]) ++ List.replicate (5 - (lg_sl ([.ref x, .int a, .int inh, .ref out])).length) Slot.unset).toArray = ls at hl ⊢
  have hl : lv_has ls 5 [(0, .ref x), (1, .int a), (2, .int inh), (3, .ref out)] := hl
  refine lv_aload_n hx hb d_L_symbol_0 rfl (lv_at hl 3 rfl) ?_
  refine lv_iconst (v := 0) hx hb d_L_symbol_1 (by decide) ?_
  refine lv_aload_n hx hb d_L_symbol_2 rfl (lv_at hl 0 rfl) ?_
  refine lv_iload_n hx hb d_L_symbol_3 rfl (lv_at hl 1 rfl) ?_
  refine lv_iload_n hx hb d_L_symbol_4 rfl (lv_at hl 2 rfl) ?_
  have hPc := hP.sub (ws' := [(x, .inr (0, [.ref g, .ref an, .ref tr, .ref w]))]) [0] rfl
  have hDc := hD.sub (ws' := [(x, .inr (0, [.ref g, .ref an, .ref tr, .ref w]))]) [0] (by decide) rfl
  have hKc := hK.sub (tys' := []) [] rfl
  have hFc := va_free (wc := [(x, .inr (0, [.ref g, .ref an, .ref tr, .ref w]))]) hD hS hA [0] rfl
  refine vq_catch (E := "java/lang/IllegalArgumentException") (name := "java/lang/IllegalArgumentException") (vq_runT (As := [.int a, .int inh]) (rest := [.int 0, .ref out]) ⟨hx, hb, hml, hown, hts⟩ (t_V_symbolL l htr dC dI x a inh g an tr w s.heap.size h0) (vq_cV WSk hts 2 rfl rfl ⟨by decide, by decide⟩ k_141 k_143 k_290 k_291 k_292 (by decide +kernel)) ⟨vq_blind, va_recv hK hP (ci := 0) (q0 := 0) rfl rfl, vq_here hst hS hN hPc hKc hDc⟩ rfl rfl hl.1 rfl (lv_room (Nat.le_of_ble_eq_true rfl)) d_L_symbol_5 ⟨by decide, by decide⟩) hS hFc hown [] ⟨0, 10, 13, 13⟩ [⟨0, 10, 17, 15⟩] htab (by intro z hz; cases hz) (by decide) (by decide) (hts _ k_293) (hts _ k_294) (fun q9 H1 locs hz1 hk1 hS => ?_)
  obtain ⟨hP, hD⟩ := va_join (wr := []) (w1 := []) hP hD [0] [] rfl rfl (by decide) (by decide) hk1 hFc vq_P0 vq_D0
  have hK := hK.sub (tys' := []) [] rfl
  generalize H1 = H at hP hS ⊢
  have hP : va_P (dC, dI) CL [] H := hP
  have hD : va_D A [] := hD
  have hK : va_K (dC, dI) CL [] s := hK
  refine W.eq (g2 := F0 m 13 ls [.ref q9]) rfl ?_
  refine W.widen (k := 1) (n := 6) (by decide) (by decide) ?_
  refine lv_astore (lv' := [(4, .ref q9), (0, .ref x), (1, .int a), (2, .int inh), (3, .ref out)]) hx hb d_L_symbol_13 hl (by decide) rfl (fun ls hl => ?_)
  refine lv_iconst (v := 1) hx hb d_L_symbol_15 (by decide) ?_
  have hP9 := hP.sub (ws' := []) [] rfl
  have hD9 := hD.sub (ws' := []) [] (by decide) rfl
  have hK9 := hK.sub (tys' := []) [] rfl
  refine W.widen (k := 1) (n := 6) (by decide) (by decide) ?_
  exact W.iret (v := 1) hx hb hr (fun t ht hW => ⟨⟨1, (), rfl, rfl, by rw [ht]; exact hP9, va_K.moved hW.alike hK9, hD9⟩, hS.F ht⟩) hS.2.2 d_L_symbol_16

set_option maxHeartbeats 4000000 in
set_option maxRecDepth 100000 in
theorem w_symbolG (l : Launch) (htr : l.stackTraces = false) (dC : Nat → ClassId) (dI : Nat → Nat → Nat) (x : Nat) (a : Int32) (inh : Int32) (out : Nat) (g : Nat) (an : Nat) (tr : Nat) (w : Nat) (sz : Nat) (h0 : ¬ a < 0) (h4 : ¬ a ≤ 4) : Met l y_L_symbol WS ({ frames := 7, cells := 1, slots := 6, locals := 104 }) (va_Pc [.ref x, .int a, .int inh, .ref out] (vq_Pre (dC, dI) CL sz [(x, .inr (0, [.ref g, .ref an, .ref tr, .ref w]))] [])) (va_Qi (fun (r : Int32) (_ : Unit) => r = 1) (fun _ t => vq_Post (dC, dI) CL (va_A [(x, .inr (0, [.ref g, .ref an, .ref tr, .ref w]))] sz) [] [] t) (va_A [(x, .inr (0, [.ref g, .ref an, .ref tr, .ref w]))] sz)) 1 6 (va_A [(x, .inr (0, [.ref g, .ref an, .ref tr, .ref w]))] sz) := by
  refine vq_ofW (cc := method_3_code) (maxL := 5) (ret := (Option.some Jvm.ClassFile.FieldType.int)) (by decide) (vq_hisH k_289) ?_
  intro p e s m args below meth c s₁ B hml hv
  obtain ⟨rfl, hst, hsz, hP, hK, hD0⟩ := hv
  have hx := B.exec
  have hb := B.bytes
  have hr := B.returns
  have hts := atoms_spec (ws := WS) B.pre
  have hown : s.vm.findClass R_L = some m.cls := findClass_of_methodNamed B.named
  have hlocks := B.notSynchronized
  have htab := vq_hasH B (hts _ k_289)
  subst hsz
  have hN := vq_ns hP
  have hD := hD0.self (sz := s.heap.size)
  generalize hAe : va_A [(x, .inr (0, [.ref g, .ref an, .ref tr, .ref w]))] s.heap.size = A at hD hN ⊢
  have hA : ∀ q : Nat, s.heap.size ≤ q → A q := fun q h => by rw [← hAe]; exact Or.inr h
  have hS : va_S A s.heap s.heap [] := va_S.rf
  have hP : va_P (dC, dI) CL [(x, .inr (0, [.ref g, .ref an, .ref tr, .ref w]))] s.heap := hP
  have hD : va_D A [(x, .inr (0, [.ref g, .ref an, .ref tr, .ref w]))] := hD
  have hl := lv_entry ([.ref x, .int a, .int inh, .ref out]) (n := 5) (Nat.le_of_ble_eq_true rfl)
  rw [lg_entry_eq]
  generalize (lg_sl ([.ref x, .int a, .int inh, .ref out]) ++ List.replicate (5 - (lg_sl ([.ref x, .int a, .int inh, .ref out])).length) Slot.unset).toArray = ls at hl ⊢
  have hl : lv_has ls 5 [(0, .ref x), (1, .int a), (2, .int inh), (3, .ref out)] := hl
  refine lv_aload_n hx hb d_L_symbol_0 rfl (lv_at hl 3 rfl) ?_
  refine lv_iconst (v := 0) hx hb d_L_symbol_1 (by decide) ?_
  refine lv_aload_n hx hb d_L_symbol_2 rfl (lv_at hl 0 rfl) ?_
  refine lv_iload_n hx hb d_L_symbol_3 rfl (lv_at hl 1 rfl) ?_
  refine lv_iload_n hx hb d_L_symbol_4 rfl (lv_at hl 2 rfl) ?_
  have hPc := hP.sub (ws' := [(x, .inr (0, [.ref g, .ref an, .ref tr, .ref w]))]) [0] rfl
  have hDc := hD.sub (ws' := [(x, .inr (0, [.ref g, .ref an, .ref tr, .ref w]))]) [0] (by decide) rfl
  have hKc := hK.sub (tys' := []) [] rfl
  have hFc := va_free (wc := [(x, .inr (0, [.ref g, .ref an, .ref tr, .ref w]))]) hD hS hA [0] rfl
  refine vq_catch (E := "java/lang/IllegalArgumentException") (name := "java/lang/IllegalArgumentException") (vq_runT (As := [.int a, .int inh]) (rest := [.int 0, .ref out]) ⟨hx, hb, hml, hown, hts⟩ (t_V_symbolG l htr dC dI x a inh g an tr w s.heap.size h0 h4) (vq_cV WSk hts 2 rfl rfl ⟨by decide, by decide⟩ k_141 k_143 k_290 k_291 k_292 (by decide +kernel)) ⟨vq_blind, va_recv hK hP (ci := 0) (q0 := 0) rfl rfl, vq_here hst hS hN hPc hKc hDc⟩ rfl rfl hl.1 rfl (lv_room (Nat.le_of_ble_eq_true rfl)) d_L_symbol_5 ⟨by decide, by decide⟩) hS hFc hown [] ⟨0, 10, 13, 13⟩ [⟨0, 10, 17, 15⟩] htab (by intro z hz; cases hz) (by decide) (by decide) (hts _ k_293) (hts _ k_294) (fun q9 H1 locs hz1 hk1 hS => ?_)
  obtain ⟨hP, hD⟩ := va_join (wr := []) (w1 := []) hP hD [0] [] rfl rfl (by decide) (by decide) hk1 hFc vq_P0 vq_D0
  have hK := hK.sub (tys' := []) [] rfl
  generalize H1 = H at hP hS ⊢
  have hP : va_P (dC, dI) CL [] H := hP
  have hD : va_D A [] := hD
  have hK : va_K (dC, dI) CL [] s := hK
  refine W.eq (g2 := F0 m 13 ls [.ref q9]) rfl ?_
  refine W.widen (k := 1) (n := 6) (by decide) (by decide) ?_
  refine lv_astore (lv' := [(4, .ref q9), (0, .ref x), (1, .int a), (2, .int inh), (3, .ref out)]) hx hb d_L_symbol_13 hl (by decide) rfl (fun ls hl => ?_)
  refine lv_iconst (v := 1) hx hb d_L_symbol_15 (by decide) ?_
  have hP9 := hP.sub (ws' := []) [] rfl
  have hD9 := hD.sub (ws' := []) [] (by decide) rfl
  have hK9 := hK.sub (tys' := []) [] rfl
  refine W.widen (k := 1) (n := 6) (by decide) (by decide) ?_
  exact W.iret (v := 1) hx hb hr (fun t ht hW => ⟨⟨1, (), rfl, rfl, by rw [ht]; exact hP9, va_K.moved hW.alike hK9, hD9⟩, hS.F ht⟩) hS.2.2 d_L_symbol_16

set_option maxHeartbeats 4000000 in
set_option maxRecDepth 100000 in
theorem w_production (l : Launch) (htr : l.stackTraces = false) (dC : Nat → ClassId) (dI : Nat → Nat → Nat) (x : Nat) (a : Int32) (b : Int32) (c9 : Int32) (d9 : Int32) (out : Nat) (g : Nat) (an : Nat) (tr : Nat) (w : Nat) (g_attributeCounts : Nat) (g_inheritedBits : Nat) (g_symbolsAt : Nat) (g_lastPositions : Nat) (g_presentBits : Nat) (g_toDefineBits : Nat) (g_ruledBits : Nat) (g_forms : Nat) (g_firsts : Nat) (g_seconds : Nat) (g_usedBits : Nat) (sz : Nat) : Met l y_L_production WS ({ frames := 7, cells := 1, slots := 6, locals := 106 }) (va_Pc [.ref x, .int a, .int b, .int c9, .int d9, .ref out] (vq_Pre (dC, dI) CL sz [(x, .inr (0, [.ref g, .ref an, .ref tr, .ref w])), (g, .inr (1, [.ref g_attributeCounts, .ref g_inheritedBits, .int 0, .ref g_symbolsAt, .ref g_lastPositions, .ref g_presentBits, .ref g_toDefineBits, .int 0, .ref g_ruledBits, .ref g_forms, .ref g_firsts, .ref g_seconds, .ref g_usedBits]))] [])) (va_Qi (fun (r : Int32) (_ : Unit) => r = 1) (fun _ t => vq_Post (dC, dI) CL (va_A [(x, .inr (0, [.ref g, .ref an, .ref tr, .ref w])), (g, .inr (1, [.ref g_attributeCounts, .ref g_inheritedBits, .int 0, .ref g_symbolsAt, .ref g_lastPositions, .ref g_presentBits, .ref g_toDefineBits, .int 0, .ref g_ruledBits, .ref g_forms, .ref g_firsts, .ref g_seconds, .ref g_usedBits]))] sz) [] [] t) (va_A [(x, .inr (0, [.ref g, .ref an, .ref tr, .ref w])), (g, .inr (1, [.ref g_attributeCounts, .ref g_inheritedBits, .int 0, .ref g_symbolsAt, .ref g_lastPositions, .ref g_presentBits, .ref g_toDefineBits, .int 0, .ref g_ruledBits, .ref g_forms, .ref g_firsts, .ref g_seconds, .ref g_usedBits]))] sz)) 1 6 (va_A [(x, .inr (0, [.ref g, .ref an, .ref tr, .ref w])), (g, .inr (1, [.ref g_attributeCounts, .ref g_inheritedBits, .int 0, .ref g_symbolsAt, .ref g_lastPositions, .ref g_presentBits, .ref g_toDefineBits, .int 0, .ref g_ruledBits, .ref g_forms, .ref g_firsts, .ref g_seconds, .ref g_usedBits]))] sz) := by
  refine vq_ofW (cc := method_4_code) (maxL := 7) (ret := (Option.some Jvm.ClassFile.FieldType.int)) (by decide) (vq_hisH k_295) ?_
  intro p e s m args below meth c s₁ B hml hv
  obtain ⟨rfl, hst, hsz, hP, hK, hD0⟩ := hv
  have hx := B.exec
  have hb := B.bytes
  have hr := B.returns
  have hts := atoms_spec (ws := WS) B.pre
  have hown : s.vm.findClass R_L = some m.cls := findClass_of_methodNamed B.named
  have hlocks := B.notSynchronized
  have htab := vq_hasH B (hts _ k_295)
  subst hsz
  have hN := vq_ns hP
  have hD := hD0.self (sz := s.heap.size)
  generalize hAe : va_A [(x, .inr (0, [.ref g, .ref an, .ref tr, .ref w])), (g, .inr (1, [.ref g_attributeCounts, .ref g_inheritedBits, .int 0, .ref g_symbolsAt, .ref g_lastPositions, .ref g_presentBits, .ref g_toDefineBits, .int 0, .ref g_ruledBits, .ref g_forms, .ref g_firsts, .ref g_seconds, .ref g_usedBits]))] s.heap.size = A at hD hN ⊢
  have hA : ∀ q : Nat, s.heap.size ≤ q → A q := fun q h => by rw [← hAe]; exact Or.inr h
  have hS : va_S A s.heap s.heap [] := va_S.rf
  have hP : va_P (dC, dI) CL [(x, .inr (0, [.ref g, .ref an, .ref tr, .ref w])), (g, .inr (1, [.ref g_attributeCounts, .ref g_inheritedBits, .int 0, .ref g_symbolsAt, .ref g_lastPositions, .ref g_presentBits, .ref g_toDefineBits, .int 0, .ref g_ruledBits, .ref g_forms, .ref g_firsts, .ref g_seconds, .ref g_usedBits]))] s.heap := hP
  have hD : va_D A [(x, .inr (0, [.ref g, .ref an, .ref tr, .ref w])), (g, .inr (1, [.ref g_attributeCounts, .ref g_inheritedBits, .int 0, .ref g_symbolsAt, .ref g_lastPositions, .ref g_presentBits, .ref g_toDefineBits, .int 0, .ref g_ruledBits, .ref g_forms, .ref g_firsts, .ref g_seconds, .ref g_usedBits]))] := hD
  have hl := lv_entry ([.ref x, .int a, .int b, .int c9, .int d9, .ref out]) (n := 7) (Nat.le_of_ble_eq_true rfl)
  rw [lg_entry_eq]
  generalize (lg_sl ([.ref x, .int a, .int b, .int c9, .int d9, .ref out]) ++ List.replicate (7 - (lg_sl ([.ref x, .int a, .int b, .int c9, .int d9, .ref out])).length) Slot.unset).toArray = ls at hl ⊢
  have hl : lv_has ls 7 [(0, .ref x), (1, .int a), (2, .int b), (3, .int c9), (4, .int d9), (5, .ref out)] := hl
  refine lv_aload hx hb d_L_production_0 (lv_at hl 5 rfl) ?_
  refine lv_iconst (v := 0) hx hb d_L_production_2 (by decide) ?_
  refine lv_aload_n hx hb d_L_production_3 rfl (lv_at hl 0 rfl) ?_
  refine lv_iload_n hx hb d_L_production_4 rfl (lv_at hl 1 rfl) ?_
  refine lv_iload_n hx hb d_L_production_5 rfl (lv_at hl 2 rfl) ?_
  refine lv_iload_n hx hb d_L_production_6 rfl (lv_at hl 3 rfl) ?_
  refine lv_iload hx hb d_L_production_7 (lv_at hl 4 rfl) ?_
  have hPc := hP.sub (ws' := [(x, .inr (0, [.ref g, .ref an, .ref tr, .ref w])), (g, .inr (1, [.ref g_attributeCounts, .ref g_inheritedBits, .int 0, .ref g_symbolsAt, .ref g_lastPositions, .ref g_presentBits, .ref g_toDefineBits, .int 0, .ref g_ruledBits, .ref g_forms, .ref g_firsts, .ref g_seconds, .ref g_usedBits]))]) [0, 1] rfl
  have hDc := hD.sub (ws' := [(x, .inr (0, [.ref g, .ref an, .ref tr, .ref w])), (g, .inr (1, [.ref g_attributeCounts, .ref g_inheritedBits, .int 0, .ref g_symbolsAt, .ref g_lastPositions, .ref g_presentBits, .ref g_toDefineBits, .int 0, .ref g_ruledBits, .ref g_forms, .ref g_firsts, .ref g_seconds, .ref g_usedBits]))]) [0, 1] (by decide) rfl
  have hKc := hK.sub (tys' := []) [] rfl
  have hFc := va_free (wc := [(x, .inr (0, [.ref g, .ref an, .ref tr, .ref w])), (g, .inr (1, [.ref g_attributeCounts, .ref g_inheritedBits, .int 0, .ref g_symbolsAt, .ref g_lastPositions, .ref g_presentBits, .ref g_toDefineBits, .int 0, .ref g_ruledBits, .ref g_forms, .ref g_firsts, .ref g_seconds, .ref g_usedBits]))]) hD hS hA [0, 1] rfl
  refine vq_catch (E := "java/lang/IllegalArgumentException") (name := "java/lang/IllegalArgumentException") (vq_runT (As := [.int a, .int b, .int c9, .int d9]) (rest := [.int 0, .ref out]) ⟨hx, hb, hml, hown, hts⟩ (t_V_production l htr dC dI x a b c9 d9 g an tr w g_attributeCounts g_inheritedBits g_symbolsAt g_lastPositions g_presentBits g_toDefineBits g_ruledBits g_forms g_firsts g_seconds g_usedBits s.heap.size) (vq_cV WSk hts 4 rfl rfl ⟨by decide, by decide⟩ k_154 k_143 k_296 k_297 k_298 (by decide +kernel)) ⟨vq_blind, va_recv hK hP (ci := 0) (q0 := 0) rfl rfl, vq_here hst hS hN hPc hKc hDc⟩ rfl rfl hl.1 rfl (lv_room (Nat.le_of_ble_eq_true rfl)) d_L_production_9 ⟨by decide, by decide⟩) hS hFc hown [] ⟨0, 14, 17, 13⟩ [⟨0, 14, 21, 15⟩] htab (by intro z hz; cases hz) (by decide) (by decide) (hts _ k_293) (hts _ k_294) (fun q9 H1 locs hz1 hk1 hS => ?_)
  obtain ⟨hP, hD⟩ := va_join (wr := []) (w1 := []) hP hD [0, 1] [] rfl rfl (by decide) (by decide) hk1 hFc vq_P0 vq_D0
  have hK := hK.sub (tys' := []) [] rfl
  generalize H1 = H at hP hS ⊢
  have hP : va_P (dC, dI) CL [] H := hP
  have hD : va_D A [] := hD
  have hK : va_K (dC, dI) CL [] s := hK
  refine W.eq (g2 := F0 m 17 ls [.ref q9]) rfl ?_
  refine W.widen (k := 1) (n := 6) (by decide) (by decide) ?_
  refine lv_astore (lv' := [(6, .ref q9), (0, .ref x), (1, .int a), (2, .int b), (3, .int c9), (4, .int d9), (5, .ref out)]) hx hb d_L_production_17 hl (by decide) rfl (fun ls hl => ?_)
  refine lv_iconst (v := 1) hx hb d_L_production_19 (by decide) ?_
  have hP9 := hP.sub (ws' := []) [] rfl
  have hD9 := hD.sub (ws' := []) [] (by decide) rfl
  have hK9 := hK.sub (tys' := []) [] rfl
  refine W.widen (k := 1) (n := 6) (by decide) (by decide) ?_
  exact W.iret (v := 1) hx hb hr (fun t ht hW => ⟨⟨1, (), rfl, rfl, by rw [ht]; exact hP9, va_K.moved hW.alike hK9, hD9⟩, hS.F ht⟩) hS.2.2 d_L_production_20

set_option maxHeartbeats 4000000 in
set_option maxRecDepth 100000 in
theorem w_rule (l : Launch) (htr : l.stackTraces = false) (dC : Nat → ClassId) (dI : Nat → Nat → Nat) (x : Nat) (a : Int32) (b : Int32) (c9 : Int32) (d9 : Int32) (e9 : Int32) (g : Nat) (an : Nat) (tr : Nat) (w : Nat) (g_attributeCounts : Nat) (g_inheritedBits : Nat) (g_symbolsAt : Nat) (g_lastPositions : Nat) (g_presentBits : Nat) (g_toDefineBits : Nat) (g_ruledBits : Nat) (g_forms : Nat) (g_firsts : Nat) (g_seconds : Nat) (g_usedBits : Nat) (sz : Nat) : Met l y_L_rule WS ({ frames := 7, cells := 1, slots := 6, locals := 107 }) (va_Pc [.ref x, .int a, .int b, .int c9, .int d9, .int e9] (vq_Pre (dC, dI) CL sz [(x, .inr (0, [.ref g, .ref an, .ref tr, .ref w])), (g, .inr (1, [.ref g_attributeCounts, .ref g_inheritedBits, .int 0, .ref g_symbolsAt, .ref g_lastPositions, .ref g_presentBits, .ref g_toDefineBits, .int 0, .ref g_ruledBits, .ref g_forms, .ref g_firsts, .ref g_seconds, .ref g_usedBits]))] [])) (va_Qi (fun (r : Int32) (_ : Unit) => r = 1) (fun _ t => vq_Post (dC, dI) CL (va_A [(x, .inr (0, [.ref g, .ref an, .ref tr, .ref w])), (g, .inr (1, [.ref g_attributeCounts, .ref g_inheritedBits, .int 0, .ref g_symbolsAt, .ref g_lastPositions, .ref g_presentBits, .ref g_toDefineBits, .int 0, .ref g_ruledBits, .ref g_forms, .ref g_firsts, .ref g_seconds, .ref g_usedBits]))] sz) [] [] t) (va_A [(x, .inr (0, [.ref g, .ref an, .ref tr, .ref w])), (g, .inr (1, [.ref g_attributeCounts, .ref g_inheritedBits, .int 0, .ref g_symbolsAt, .ref g_lastPositions, .ref g_presentBits, .ref g_toDefineBits, .int 0, .ref g_ruledBits, .ref g_forms, .ref g_firsts, .ref g_seconds, .ref g_usedBits]))] sz)) 1 6 (va_A [(x, .inr (0, [.ref g, .ref an, .ref tr, .ref w])), (g, .inr (1, [.ref g_attributeCounts, .ref g_inheritedBits, .int 0, .ref g_symbolsAt, .ref g_lastPositions, .ref g_presentBits, .ref g_toDefineBits, .int 0, .ref g_ruledBits, .ref g_forms, .ref g_firsts, .ref g_seconds, .ref g_usedBits]))] sz) := by
  refine vq_ofW (cc := method_5_code) (maxL := 7) (ret := (Option.some Jvm.ClassFile.FieldType.int)) (by decide) (vq_hisH k_299) ?_
  intro p e s m args below meth c s₁ B hml hv
  obtain ⟨rfl, hst, hsz, hP, hK, hD0⟩ := hv
  have hx := B.exec
  have hb := B.bytes
  have hr := B.returns
  have hts := atoms_spec (ws := WS) B.pre
  have hown : s.vm.findClass R_L = some m.cls := findClass_of_methodNamed B.named
  have hlocks := B.notSynchronized
  have htab := vq_hasH B (hts _ k_299)
  subst hsz
  have hN := vq_ns hP
  have hD := hD0.self (sz := s.heap.size)
  generalize hAe : va_A [(x, .inr (0, [.ref g, .ref an, .ref tr, .ref w])), (g, .inr (1, [.ref g_attributeCounts, .ref g_inheritedBits, .int 0, .ref g_symbolsAt, .ref g_lastPositions, .ref g_presentBits, .ref g_toDefineBits, .int 0, .ref g_ruledBits, .ref g_forms, .ref g_firsts, .ref g_seconds, .ref g_usedBits]))] s.heap.size = A at hD hN ⊢
  have hA : ∀ q : Nat, s.heap.size ≤ q → A q := fun q h => by rw [← hAe]; exact Or.inr h
  have hS : va_S A s.heap s.heap [] := va_S.rf
  have hP : va_P (dC, dI) CL [(x, .inr (0, [.ref g, .ref an, .ref tr, .ref w])), (g, .inr (1, [.ref g_attributeCounts, .ref g_inheritedBits, .int 0, .ref g_symbolsAt, .ref g_lastPositions, .ref g_presentBits, .ref g_toDefineBits, .int 0, .ref g_ruledBits, .ref g_forms, .ref g_firsts, .ref g_seconds, .ref g_usedBits]))] s.heap := hP
  have hD : va_D A [(x, .inr (0, [.ref g, .ref an, .ref tr, .ref w])), (g, .inr (1, [.ref g_attributeCounts, .ref g_inheritedBits, .int 0, .ref g_symbolsAt, .ref g_lastPositions, .ref g_presentBits, .ref g_toDefineBits, .int 0, .ref g_ruledBits, .ref g_forms, .ref g_firsts, .ref g_seconds, .ref g_usedBits]))] := hD
  have hl := lv_entry ([.ref x, .int a, .int b, .int c9, .int d9, .int e9]) (n := 7) (Nat.le_of_ble_eq_true rfl)
  rw [lg_entry_eq]
  generalize (lg_sl ([.ref x, .int a, .int b, .int c9, .int d9, .int e9]) ++ List.replicate (7 - (lg_sl ([.ref x, .int a, .int b, .int c9, .int d9, .int e9])).length) Slot.unset).toArray = ls at hl ⊢
  have hl : lv_has ls 7 [(0, .ref x), (1, .int a), (2, .int b), (3, .int c9), (4, .int d9), (5, .int e9)] := hl
  refine lv_aload_n hx hb d_L_rule_0 rfl (lv_at hl 0 rfl) ?_
  refine lv_iload_n hx hb d_L_rule_1 rfl (lv_at hl 1 rfl) ?_
  refine lv_iload_n hx hb d_L_rule_2 rfl (lv_at hl 2 rfl) ?_
  refine lv_iload_n hx hb d_L_rule_3 rfl (lv_at hl 3 rfl) ?_
  refine lv_iload hx hb d_L_rule_4 (lv_at hl 4 rfl) ?_
  refine lv_iload hx hb d_L_rule_6 (lv_at hl 5 rfl) ?_
  have hPc := hP.sub (ws' := [(x, .inr (0, [.ref g, .ref an, .ref tr, .ref w])), (g, .inr (1, [.ref g_attributeCounts, .ref g_inheritedBits, .int 0, .ref g_symbolsAt, .ref g_lastPositions, .ref g_presentBits, .ref g_toDefineBits, .int 0, .ref g_ruledBits, .ref g_forms, .ref g_firsts, .ref g_seconds, .ref g_usedBits]))]) [0, 1] rfl
  have hDc := hD.sub (ws' := [(x, .inr (0, [.ref g, .ref an, .ref tr, .ref w])), (g, .inr (1, [.ref g_attributeCounts, .ref g_inheritedBits, .int 0, .ref g_symbolsAt, .ref g_lastPositions, .ref g_presentBits, .ref g_toDefineBits, .int 0, .ref g_ruledBits, .ref g_forms, .ref g_firsts, .ref g_seconds, .ref g_usedBits]))]) [0, 1] (by decide) rfl
  have hKc := hK.sub (tys' := []) [] rfl
  have hFc := va_free (wc := [(x, .inr (0, [.ref g, .ref an, .ref tr, .ref w])), (g, .inr (1, [.ref g_attributeCounts, .ref g_inheritedBits, .int 0, .ref g_symbolsAt, .ref g_lastPositions, .ref g_presentBits, .ref g_toDefineBits, .int 0, .ref g_ruledBits, .ref g_forms, .ref g_firsts, .ref g_seconds, .ref g_usedBits]))]) hD hS hA [0, 1] rfl
  refine vq_catch (E := "java/lang/IndexOutOfBoundsException") (name := "java/lang/IndexOutOfBoundsException") (vq_runT (As := [.int a, .int b, .int c9, .int d9, .int e9]) (rest := []) ⟨hx, hb, hml, hown, hts⟩ (t_V_rule l htr dC dI x a b c9 d9 e9 g an tr w g_attributeCounts g_inheritedBits g_symbolsAt g_lastPositions g_presentBits g_toDefineBits g_ruledBits g_forms g_firsts g_seconds g_usedBits s.heap.size) (vq_cV WSk hts 5 rfl rfl ⟨by decide, by decide⟩ k_159 k_143 k_300 k_301 k_302 (by decide +kernel)) ⟨vq_blind, va_recv hK hP (ci := 0) (q0 := 0) rfl rfl, vq_here hst hS hN hPc hKc hDc⟩ rfl rfl hl.1 rfl (lv_room (Nat.le_of_ble_eq_true rfl)) d_L_rule_8 ⟨by decide, by decide⟩) hS hFc hown [] ⟨0, 11, 14, 25⟩ [⟨0, 11, 18, 13⟩] htab (by intro z hz; cases hz) (by decide) (by decide) (hts _ k_303) (hts _ k_304) (fun q9 H1 locs hz1 hk1 hS => ?_)
  obtain ⟨hP, hD⟩ := va_join (wr := []) (w1 := []) hP hD [0, 1] [] rfl rfl (by decide) (by decide) hk1 hFc vq_P0 vq_D0
  have hK := hK.sub (tys' := []) [] rfl
  generalize H1 = H at hP hS ⊢
  have hP : va_P (dC, dI) CL [] H := hP
  have hD : va_D A [] := hD
  have hK : va_K (dC, dI) CL [] s := hK
  refine W.eq (g2 := F0 m 14 ls [.ref q9]) rfl ?_
  refine W.widen (k := 1) (n := 6) (by decide) (by decide) ?_
  refine lv_astore (lv' := [(6, .ref q9), (0, .ref x), (1, .int a), (2, .int b), (3, .int c9), (4, .int d9), (5, .int e9)]) hx hb d_L_rule_14 hl (by decide) rfl (fun ls hl => ?_)
  refine lv_iconst (v := 1) hx hb d_L_rule_16 (by decide) ?_
  have hP9 := hP.sub (ws' := []) [] rfl
  have hD9 := hD.sub (ws' := []) [] (by decide) rfl
  have hK9 := hK.sub (tys' := []) [] rfl
  refine W.widen (k := 1) (n := 6) (by decide) (by decide) ?_
  exact W.iret (v := 1) hx hb hr (fun t ht hW => ⟨⟨1, (), rfl, rfl, by rw [ht]; exact hP9, va_K.moved hW.alike hK9, hD9⟩, hS.F ht⟩) hS.2.2 d_L_rule_17

set_option maxHeartbeats 4000000 in
set_option maxRecDepth 100000 in
theorem w_analyse (l : Launch) (htr : l.stackTraces = false) (dC : Nat → ClassId) (dI : Nat → Nat → Nat) (x : Nat) (out : Nat) (g : Nat) (an : Nat) (tr : Nat) (w : Nat) (g_attributeCounts : Nat) (g_inheritedBits : Nat) (g_symbolsAt : Nat) (g_lastPositions : Nat) (g_presentBits : Nat) (g_toDefineBits : Nat) (g_ruledBits : Nat) (g_forms : Nat) (g_firsts : Nat) (g_seconds : Nat) (g_usedBits : Nat) (an_leads : Nat) (an_ranking : Nat) (an_sequences : Nat) (w_given : Nat) (w_values : Nat) (w_knownBits : Nat) (w_instructionsDone : Nat) (sz : Nat) : Met l y_L_analyse WS ({ frames := 7, cells := 1, slots := 6, locals := 102 }) (va_Pc [.ref x, .ref out] (vq_Pre (dC, dI) CL sz [(x, .inr (0, [.ref g, .ref an, .ref tr, .ref w])), (g, .inr (1, [.ref g_attributeCounts, .ref g_inheritedBits, .int 0, .ref g_symbolsAt, .ref g_lastPositions, .ref g_presentBits, .ref g_toDefineBits, .int 0, .ref g_ruledBits, .ref g_forms, .ref g_firsts, .ref g_seconds, .ref g_usedBits])), (an, .inr (2, [.ref g, .ref an_leads, .ref an_ranking, .ref an_sequences, .int 0, .int 0, .int (-1), .int (-1)])), (w, .inr (7, [.ref g, .ref an_sequences, .ref tr, .ref w_given, .ref w_values, .ref w_knownBits, .ref w_instructionsDone, .int 0, .int 0, .int 0]))] [])) (va_Qi (fun (r : Int32) (_ : Unit) => r = 1) (fun _ t => vq_Post (dC, dI) CL (va_A [(x, .inr (0, [.ref g, .ref an, .ref tr, .ref w])), (g, .inr (1, [.ref g_attributeCounts, .ref g_inheritedBits, .int 0, .ref g_symbolsAt, .ref g_lastPositions, .ref g_presentBits, .ref g_toDefineBits, .int 0, .ref g_ruledBits, .ref g_forms, .ref g_firsts, .ref g_seconds, .ref g_usedBits])), (an, .inr (2, [.ref g, .ref an_leads, .ref an_ranking, .ref an_sequences, .int 0, .int 0, .int (-1), .int (-1)])), (w, .inr (7, [.ref g, .ref an_sequences, .ref tr, .ref w_given, .ref w_values, .ref w_knownBits, .ref w_instructionsDone, .int 0, .int 0, .int 0]))] sz) [] [] t) (va_A [(x, .inr (0, [.ref g, .ref an, .ref tr, .ref w])), (g, .inr (1, [.ref g_attributeCounts, .ref g_inheritedBits, .int 0, .ref g_symbolsAt, .ref g_lastPositions, .ref g_presentBits, .ref g_toDefineBits, .int 0, .ref g_ruledBits, .ref g_forms, .ref g_firsts, .ref g_seconds, .ref g_usedBits])), (an, .inr (2, [.ref g, .ref an_leads, .ref an_ranking, .ref an_sequences, .int 0, .int 0, .int (-1), .int (-1)])), (w, .inr (7, [.ref g, .ref an_sequences, .ref tr, .ref w_given, .ref w_values, .ref w_knownBits, .ref w_instructionsDone, .int 0, .int 0, .int 0]))] sz)) 1 6 (va_A [(x, .inr (0, [.ref g, .ref an, .ref tr, .ref w])), (g, .inr (1, [.ref g_attributeCounts, .ref g_inheritedBits, .int 0, .ref g_symbolsAt, .ref g_lastPositions, .ref g_presentBits, .ref g_toDefineBits, .int 0, .ref g_ruledBits, .ref g_forms, .ref g_firsts, .ref g_seconds, .ref g_usedBits])), (an, .inr (2, [.ref g, .ref an_leads, .ref an_ranking, .ref an_sequences, .int 0, .int 0, .int (-1), .int (-1)])), (w, .inr (7, [.ref g, .ref an_sequences, .ref tr, .ref w_given, .ref w_values, .ref w_knownBits, .ref w_instructionsDone, .int 0, .int 0, .int 0]))] sz) := by
  refine vq_ofW (cc := method_6_code) (maxL := 3) (ret := (Option.some Jvm.ClassFile.FieldType.int)) (by decide) (vq_hisH k_305) ?_
  intro p e s m args below meth c s₁ B hml hv
  obtain ⟨rfl, hst, hsz, hP, hK, hD0⟩ := hv
  have hx := B.exec
  have hb := B.bytes
  have hr := B.returns
  have hts := atoms_spec (ws := WS) B.pre
  have hown : s.vm.findClass R_L = some m.cls := findClass_of_methodNamed B.named
  have hlocks := B.notSynchronized
  have htab := vq_hasH B (hts _ k_305)
  subst hsz
  have hN := vq_ns hP
  have hD := hD0.self (sz := s.heap.size)
  generalize hAe : va_A [(x, .inr (0, [.ref g, .ref an, .ref tr, .ref w])), (g, .inr (1, [.ref g_attributeCounts, .ref g_inheritedBits, .int 0, .ref g_symbolsAt, .ref g_lastPositions, .ref g_presentBits, .ref g_toDefineBits, .int 0, .ref g_ruledBits, .ref g_forms, .ref g_firsts, .ref g_seconds, .ref g_usedBits])), (an, .inr (2, [.ref g, .ref an_leads, .ref an_ranking, .ref an_sequences, .int 0, .int 0, .int (-1), .int (-1)])), (w, .inr (7, [.ref g, .ref an_sequences, .ref tr, .ref w_given, .ref w_values, .ref w_knownBits, .ref w_instructionsDone, .int 0, .int 0, .int 0]))] s.heap.size = A at hD hN ⊢
  have hA : ∀ q : Nat, s.heap.size ≤ q → A q := fun q h => by rw [← hAe]; exact Or.inr h
  have hS : va_S A s.heap s.heap [] := va_S.rf
  have hP : va_P (dC, dI) CL [(x, .inr (0, [.ref g, .ref an, .ref tr, .ref w])), (g, .inr (1, [.ref g_attributeCounts, .ref g_inheritedBits, .int 0, .ref g_symbolsAt, .ref g_lastPositions, .ref g_presentBits, .ref g_toDefineBits, .int 0, .ref g_ruledBits, .ref g_forms, .ref g_firsts, .ref g_seconds, .ref g_usedBits])), (an, .inr (2, [.ref g, .ref an_leads, .ref an_ranking, .ref an_sequences, .int 0, .int 0, .int (-1), .int (-1)])), (w, .inr (7, [.ref g, .ref an_sequences, .ref tr, .ref w_given, .ref w_values, .ref w_knownBits, .ref w_instructionsDone, .int 0, .int 0, .int 0]))] s.heap := hP
  have hD : va_D A [(x, .inr (0, [.ref g, .ref an, .ref tr, .ref w])), (g, .inr (1, [.ref g_attributeCounts, .ref g_inheritedBits, .int 0, .ref g_symbolsAt, .ref g_lastPositions, .ref g_presentBits, .ref g_toDefineBits, .int 0, .ref g_ruledBits, .ref g_forms, .ref g_firsts, .ref g_seconds, .ref g_usedBits])), (an, .inr (2, [.ref g, .ref an_leads, .ref an_ranking, .ref an_sequences, .int 0, .int 0, .int (-1), .int (-1)])), (w, .inr (7, [.ref g, .ref an_sequences, .ref tr, .ref w_given, .ref w_values, .ref w_knownBits, .ref w_instructionsDone, .int 0, .int 0, .int 0]))] := hD
  have hl := lv_entry ([.ref x, .ref out]) (n := 3) (Nat.le_of_ble_eq_true rfl)
  rw [lg_entry_eq]
  generalize (lg_sl ([.ref x, .ref out]) ++ List.replicate (3 - (lg_sl ([.ref x, .ref out])).length) Slot.unset).toArray = ls at hl ⊢
  have hl : lv_has ls 3 [(0, .ref x), (1, .ref out)] := hl
  refine lv_aload_n hx hb d_L_analyse_0 rfl (lv_at hl 1 rfl) ?_
  refine lv_iconst (v := 0) hx hb d_L_analyse_1 (by decide) ?_
  refine lv_aload_n hx hb d_L_analyse_2 rfl (lv_at hl 0 rfl) ?_
  have hPc := hP.sub (ws' := [(x, .inr (0, [.ref g, .ref an, .ref tr, .ref w])), (g, .inr (1, [.ref g_attributeCounts, .ref g_inheritedBits, .int 0, .ref g_symbolsAt, .ref g_lastPositions, .ref g_presentBits, .ref g_toDefineBits, .int 0, .ref g_ruledBits, .ref g_forms, .ref g_firsts, .ref g_seconds, .ref g_usedBits])), (an, .inr (2, [.ref g, .ref an_leads, .ref an_ranking, .ref an_sequences, .int 0, .int 0, .int (-1), .int (-1)])), (w, .inr (7, [.ref g, .ref an_sequences, .ref tr, .ref w_given, .ref w_values, .ref w_knownBits, .ref w_instructionsDone, .int 0, .int 0, .int 0]))]) [0, 1, 2, 3] rfl
  have hDc := hD.sub (ws' := [(x, .inr (0, [.ref g, .ref an, .ref tr, .ref w])), (g, .inr (1, [.ref g_attributeCounts, .ref g_inheritedBits, .int 0, .ref g_symbolsAt, .ref g_lastPositions, .ref g_presentBits, .ref g_toDefineBits, .int 0, .ref g_ruledBits, .ref g_forms, .ref g_firsts, .ref g_seconds, .ref g_usedBits])), (an, .inr (2, [.ref g, .ref an_leads, .ref an_ranking, .ref an_sequences, .int 0, .int 0, .int (-1), .int (-1)])), (w, .inr (7, [.ref g, .ref an_sequences, .ref tr, .ref w_given, .ref w_values, .ref w_knownBits, .ref w_instructionsDone, .int 0, .int 0, .int 0]))]) [0, 1, 2, 3] (by decide) rfl
  have hKc := hK.sub (tys' := []) [] rfl
  have hFc := va_free (wc := [(x, .inr (0, [.ref g, .ref an, .ref tr, .ref w])), (g, .inr (1, [.ref g_attributeCounts, .ref g_inheritedBits, .int 0, .ref g_symbolsAt, .ref g_lastPositions, .ref g_presentBits, .ref g_toDefineBits, .int 0, .ref g_ruledBits, .ref g_forms, .ref g_firsts, .ref g_seconds, .ref g_usedBits])), (an, .inr (2, [.ref g, .ref an_leads, .ref an_ranking, .ref an_sequences, .int 0, .int 0, .int (-1), .int (-1)])), (w, .inr (7, [.ref g, .ref an_sequences, .ref tr, .ref w_given, .ref w_values, .ref w_knownBits, .ref w_instructionsDone, .int 0, .int 0, .int 0]))]) hD hS hA [0, 1, 2, 3] rfl
  refine vq_catch (E := "java/lang/IllegalStateException") (name := "java/lang/IllegalStateException") (vq_runT (As := []) (rest := [.int 0, .ref out]) ⟨hx, hb, hml, hown, hts⟩ (t_V_analyse l htr dC dI x g an tr w g_attributeCounts g_inheritedBits g_symbolsAt g_lastPositions g_presentBits g_toDefineBits g_ruledBits g_forms g_firsts g_seconds g_usedBits an_leads an_ranking an_sequences w_given w_values w_knownBits w_instructionsDone s.heap.size) (vq_cV WSk hts 0 rfl rfl ⟨by decide, by decide⟩ k_164 k_143 k_306 k_307 k_308 (by decide +kernel)) ⟨vq_blind, va_recv hK hP (ci := 0) (q0 := 0) rfl rfl, vq_here hst hS hN hPc hKc hDc⟩ rfl rfl hl.1 rfl (lv_room (Nat.le_of_ble_eq_true rfl)) d_L_analyse_3 ⟨by decide, by decide⟩) hS hFc hown [] ⟨0, 8, 11, 15⟩ [⟨0, 8, 14, 31⟩] htab (by intro z hz; cases hz) (by decide) (by decide) (hts _ k_309) (hts _ k_310) (fun q9 H1 locs hz1 hk1 hS => ?_)
  obtain ⟨hP, hD⟩ := va_join (wr := []) (w1 := []) hP hD [0, 1, 2, 3] [] rfl rfl (by decide) (by decide) hk1 hFc vq_P0 vq_D0
  have hK := hK.sub (tys' := []) [] rfl
  generalize H1 = H at hP hS ⊢
  have hP : va_P (dC, dI) CL [] H := hP
  have hD : va_D A [] := hD
  have hK : va_K (dC, dI) CL [] s := hK
  refine W.eq (g2 := F0 m 11 ls [.ref q9]) rfl ?_
  refine W.widen (k := 1) (n := 6) (by decide) (by decide) ?_
  refine lv_astore_n (lv' := [(2, .ref q9), (0, .ref x), (1, .ref out)]) hx hb d_L_analyse_11 rfl hl (by decide) rfl (fun ls hl => ?_)
  refine lv_iconst (v := 1) hx hb d_L_analyse_12 (by decide) ?_
  have hP9 := hP.sub (ws' := []) [] rfl
  have hD9 := hD.sub (ws' := []) [] (by decide) rfl
  have hK9 := hK.sub (tys' := []) [] rfl
  refine W.widen (k := 1) (n := 6) (by decide) (by decide) ?_
  exact W.iret (v := 1) hx hb hr (fun t ht hW => ⟨⟨1, (), rfl, rfl, by rw [ht]; exact hP9, va_K.moved hW.alike hK9, hD9⟩, hS.F ht⟩) hS.2.2 d_L_analyse_13

set_option maxHeartbeats 4000000 in
set_option maxRecDepth 100000 in
theorem w_visits (l : Launch) (htr : l.stackTraces = false) (dC : Nat → ClassId) (dI : Nat → Nat → Nat) (x : Nat) (a : Int32) (out : Nat) (g : Nat) (an : Nat) (tr : Nat) (w : Nat) (an_leads : Nat) (an_ranking : Nat) (an_sequences : Nat) (sz : Nat) : Met l y_L_visits WS ({ frames := 8, cells := 1, slots := 6, locals := 123 }) (va_Pc [.ref x, .int a, .ref out] (vq_Pre (dC, dI) CL sz [(x, .inr (0, [.ref g, .ref an, .ref tr, .ref w])), (an, .inr (2, [.ref g, .ref an_leads, .ref an_ranking, .ref an_sequences, .int 0, .int 0, .int (-1), .int (-1)]))] [])) (va_Qi (fun (r : Int32) (_ : Unit) => r = 1) (fun _ t => vq_Post (dC, dI) CL (va_A [(x, .inr (0, [.ref g, .ref an, .ref tr, .ref w])), (an, .inr (2, [.ref g, .ref an_leads, .ref an_ranking, .ref an_sequences, .int 0, .int 0, .int (-1), .int (-1)]))] sz) [] [] t) (va_A [(x, .inr (0, [.ref g, .ref an, .ref tr, .ref w])), (an, .inr (2, [.ref g, .ref an_leads, .ref an_ranking, .ref an_sequences, .int 0, .int 0, .int (-1), .int (-1)]))] sz)) 1 6 (va_A [(x, .inr (0, [.ref g, .ref an, .ref tr, .ref w])), (an, .inr (2, [.ref g, .ref an_leads, .ref an_ranking, .ref an_sequences, .int 0, .int 0, .int (-1), .int (-1)]))] sz) := by
  refine vq_ofW (cc := method_7_code) (maxL := 4) (ret := (Option.some Jvm.ClassFile.FieldType.int)) (by decide) (vq_hisH k_311) ?_
  intro p e s m args below meth c s₁ B hml hv
  obtain ⟨rfl, hst, hsz, hP, hK, hD0⟩ := hv
  have hx := B.exec
  have hb := B.bytes
  have hr := B.returns
  have hts := atoms_spec (ws := WS) B.pre
  have hown : s.vm.findClass R_L = some m.cls := findClass_of_methodNamed B.named
  have hlocks := B.notSynchronized
  have htab := vq_hasH B (hts _ k_311)
  subst hsz
  have hN := vq_ns hP
  have hD := hD0.self (sz := s.heap.size)
  generalize hAe : va_A [(x, .inr (0, [.ref g, .ref an, .ref tr, .ref w])), (an, .inr (2, [.ref g, .ref an_leads, .ref an_ranking, .ref an_sequences, .int 0, .int 0, .int (-1), .int (-1)]))] s.heap.size = A at hD hN ⊢
  have hA : ∀ q : Nat, s.heap.size ≤ q → A q := fun q h => by rw [← hAe]; exact Or.inr h
  have hS : va_S A s.heap s.heap [] := va_S.rf
  have hP : va_P (dC, dI) CL [(x, .inr (0, [.ref g, .ref an, .ref tr, .ref w])), (an, .inr (2, [.ref g, .ref an_leads, .ref an_ranking, .ref an_sequences, .int 0, .int 0, .int (-1), .int (-1)]))] s.heap := hP
  have hD : va_D A [(x, .inr (0, [.ref g, .ref an, .ref tr, .ref w])), (an, .inr (2, [.ref g, .ref an_leads, .ref an_ranking, .ref an_sequences, .int 0, .int 0, .int (-1), .int (-1)]))] := hD
  have hl := lv_entry ([.ref x, .int a, .ref out]) (n := 4) (Nat.le_of_ble_eq_true rfl)
  rw [lg_entry_eq]
  generalize (lg_sl ([.ref x, .int a, .ref out]) ++ List.replicate (4 - (lg_sl ([.ref x, .int a, .ref out])).length) Slot.unset).toArray = ls at hl ⊢
  have hl : lv_has ls 4 [(0, .ref x), (1, .int a), (2, .ref out)] := hl
  refine lv_aload_n hx hb d_L_visits_0 rfl (lv_at hl 2 rfl) ?_
  refine lv_iconst (v := 0) hx hb d_L_visits_1 (by decide) ?_
  refine lv_aload_n hx hb d_L_visits_2 rfl (lv_at hl 0 rfl) ?_
  refine lv_iload_n hx hb d_L_visits_3 rfl (lv_at hl 1 rfl) ?_
  have hPc := hP.sub (ws' := [(x, .inr (0, [.ref g, .ref an, .ref tr, .ref w])), (an, .inr (2, [.ref g, .ref an_leads, .ref an_ranking, .ref an_sequences, .int 0, .int 0, .int (-1), .int (-1)]))]) [0, 1] rfl
  have hDc := hD.sub (ws' := [(x, .inr (0, [.ref g, .ref an, .ref tr, .ref w])), (an, .inr (2, [.ref g, .ref an_leads, .ref an_ranking, .ref an_sequences, .int 0, .int 0, .int (-1), .int (-1)]))]) [0, 1] (by decide) rfl
  have hKc := hK.sub (tys' := []) [] rfl
  have hFc := va_free (wc := [(x, .inr (0, [.ref g, .ref an, .ref tr, .ref w])), (an, .inr (2, [.ref g, .ref an_leads, .ref an_ranking, .ref an_sequences, .int 0, .int 0, .int (-1), .int (-1)]))]) hD hS hA [0, 1] rfl
  refine vq_catch (E := "java/lang/IllegalStateException") (name := "java/lang/IllegalStateException") (vq_runT (As := [.int a]) (rest := [.int 0, .ref out]) ⟨hx, hb, hml, hown, hts⟩ (t_V_visits l htr dC dI x a g an tr w an_leads an_ranking an_sequences s.heap.size) (vq_cV WSk hts 1 rfl rfl ⟨by decide, by decide⟩ k_170 k_143 k_312 k_313 k_314 (by decide +kernel)) ⟨vq_blind, va_recv hK hP (ci := 0) (q0 := 0) rfl rfl, vq_here hst hS hN hPc hKc hDc⟩ rfl rfl hl.1 rfl (lv_room (Nat.le_of_ble_eq_true rfl)) d_L_visits_4 ⟨by decide, by decide⟩) hS hFc hown [] ⟨0, 9, 12, 15⟩ [⟨0, 9, 15, 25⟩] htab (by intro z hz; cases hz) (by decide) (by decide) (hts _ k_309) (hts _ k_310) (fun q9 H1 locs hz1 hk1 hS => ?_)
  obtain ⟨hP, hD⟩ := va_join (wr := []) (w1 := []) hP hD [0, 1] [] rfl rfl (by decide) (by decide) hk1 hFc vq_P0 vq_D0
  have hK := hK.sub (tys' := []) [] rfl
  generalize H1 = H at hP hS ⊢
  have hP : va_P (dC, dI) CL [] H := hP
  have hD : va_D A [] := hD
  have hK : va_K (dC, dI) CL [] s := hK
  refine W.eq (g2 := F0 m 12 ls [.ref q9]) rfl ?_
  refine W.widen (k := 1) (n := 6) (by decide) (by decide) ?_
  refine lv_astore_n (lv' := [(3, .ref q9), (0, .ref x), (1, .int a), (2, .ref out)]) hx hb d_L_visits_12 rfl hl (by decide) rfl (fun ls hl => ?_)
  refine lv_iconst (v := 1) hx hb d_L_visits_13 (by decide) ?_
  have hP9 := hP.sub (ws' := []) [] rfl
  have hD9 := hD.sub (ws' := []) [] (by decide) rfl
  have hK9 := hK.sub (tys' := []) [] rfl
  refine W.widen (k := 1) (n := 6) (by decide) (by decide) ?_
  exact W.iret (v := 1) hx hb hr (fun t ht hW => ⟨⟨1, (), rfl, rfl, by rw [ht]; exact hP9, va_K.moved hW.alike hK9, hD9⟩, hS.F ht⟩) hS.2.2 d_L_visits_14

set_option maxHeartbeats 4000000 in
set_option maxRecDepth 100000 in
theorem w_rank (l : Launch) (htr : l.stackTraces = false) (dC : Nat → ClassId) (dI : Nat → Nat → Nat) (x : Nat) (a : Int32) (b : Int32) (out : Nat) (g : Nat) (an : Nat) (tr : Nat) (w : Nat) (an_leads : Nat) (an_ranking : Nat) (an_sequences : Nat) (sz : Nat) : Met l y_L_rank WS ({ frames := 8, cells := 1, slots := 6, locals := 124 }) (va_Pc [.ref x, .int a, .int b, .ref out] (vq_Pre (dC, dI) CL sz [(x, .inr (0, [.ref g, .ref an, .ref tr, .ref w])), (an, .inr (2, [.ref g, .ref an_leads, .ref an_ranking, .ref an_sequences, .int 0, .int 0, .int (-1), .int (-1)]))] [])) (va_Qi (fun (r : Int32) (_ : Unit) => r = 1) (fun _ t => vq_Post (dC, dI) CL (va_A [(x, .inr (0, [.ref g, .ref an, .ref tr, .ref w])), (an, .inr (2, [.ref g, .ref an_leads, .ref an_ranking, .ref an_sequences, .int 0, .int 0, .int (-1), .int (-1)]))] sz) [] [] t) (va_A [(x, .inr (0, [.ref g, .ref an, .ref tr, .ref w])), (an, .inr (2, [.ref g, .ref an_leads, .ref an_ranking, .ref an_sequences, .int 0, .int 0, .int (-1), .int (-1)]))] sz)) 1 6 (va_A [(x, .inr (0, [.ref g, .ref an, .ref tr, .ref w])), (an, .inr (2, [.ref g, .ref an_leads, .ref an_ranking, .ref an_sequences, .int 0, .int 0, .int (-1), .int (-1)]))] sz) := by
  refine vq_ofW (cc := method_8_code) (maxL := 5) (ret := (Option.some Jvm.ClassFile.FieldType.int)) (by decide) (vq_hisH k_315) ?_
  intro p e s m args below meth c s₁ B hml hv
  obtain ⟨rfl, hst, hsz, hP, hK, hD0⟩ := hv
  have hx := B.exec
  have hb := B.bytes
  have hr := B.returns
  have hts := atoms_spec (ws := WS) B.pre
  have hown : s.vm.findClass R_L = some m.cls := findClass_of_methodNamed B.named
  have hlocks := B.notSynchronized
  have htab := vq_hasH B (hts _ k_315)
  subst hsz
  have hN := vq_ns hP
  have hD := hD0.self (sz := s.heap.size)
  generalize hAe : va_A [(x, .inr (0, [.ref g, .ref an, .ref tr, .ref w])), (an, .inr (2, [.ref g, .ref an_leads, .ref an_ranking, .ref an_sequences, .int 0, .int 0, .int (-1), .int (-1)]))] s.heap.size = A at hD hN ⊢
  have hA : ∀ q : Nat, s.heap.size ≤ q → A q := fun q h => by rw [← hAe]; exact Or.inr h
  have hS : va_S A s.heap s.heap [] := va_S.rf
  have hP : va_P (dC, dI) CL [(x, .inr (0, [.ref g, .ref an, .ref tr, .ref w])), (an, .inr (2, [.ref g, .ref an_leads, .ref an_ranking, .ref an_sequences, .int 0, .int 0, .int (-1), .int (-1)]))] s.heap := hP
  have hD : va_D A [(x, .inr (0, [.ref g, .ref an, .ref tr, .ref w])), (an, .inr (2, [.ref g, .ref an_leads, .ref an_ranking, .ref an_sequences, .int 0, .int 0, .int (-1), .int (-1)]))] := hD
  have hl := lv_entry ([.ref x, .int a, .int b, .ref out]) (n := 5) (Nat.le_of_ble_eq_true rfl)
  rw [lg_entry_eq]
  generalize (lg_sl ([.ref x, .int a, .int b, .ref out]) ++ List.replicate (5 - (lg_sl ([.ref x, .int a, .int b, .ref out])).length) Slot.unset).toArray = ls at hl ⊢
  have hl : lv_has ls 5 [(0, .ref x), (1, .int a), (2, .int b), (3, .ref out)] := hl
  refine lv_aload_n hx hb d_L_rank_0 rfl (lv_at hl 3 rfl) ?_
  refine lv_iconst (v := 0) hx hb d_L_rank_1 (by decide) ?_
  refine lv_aload_n hx hb d_L_rank_2 rfl (lv_at hl 0 rfl) ?_
  refine lv_iload_n hx hb d_L_rank_3 rfl (lv_at hl 1 rfl) ?_
  refine lv_iload_n hx hb d_L_rank_4 rfl (lv_at hl 2 rfl) ?_
  have hPc := hP.sub (ws' := [(x, .inr (0, [.ref g, .ref an, .ref tr, .ref w])), (an, .inr (2, [.ref g, .ref an_leads, .ref an_ranking, .ref an_sequences, .int 0, .int 0, .int (-1), .int (-1)]))]) [0, 1] rfl
  have hDc := hD.sub (ws' := [(x, .inr (0, [.ref g, .ref an, .ref tr, .ref w])), (an, .inr (2, [.ref g, .ref an_leads, .ref an_ranking, .ref an_sequences, .int 0, .int 0, .int (-1), .int (-1)]))]) [0, 1] (by decide) rfl
  have hKc := hK.sub (tys' := []) [] rfl
  have hFc := va_free (wc := [(x, .inr (0, [.ref g, .ref an, .ref tr, .ref w])), (an, .inr (2, [.ref g, .ref an_leads, .ref an_ranking, .ref an_sequences, .int 0, .int 0, .int (-1), .int (-1)]))]) hD hS hA [0, 1] rfl
  refine vq_catch (E := "java/lang/IllegalStateException") (name := "java/lang/IllegalStateException") (vq_runT (As := [.int a, .int b]) (rest := [.int 0, .ref out]) ⟨hx, hb, hml, hown, hts⟩ (t_V_rank l htr dC dI x a b g an tr w an_leads an_ranking an_sequences s.heap.size) (vq_cV WSk hts 2 rfl rfl ⟨by decide, by decide⟩ k_174 k_143 k_316 k_317 k_318 (by decide +kernel)) ⟨vq_blind, va_recv hK hP (ci := 0) (q0 := 0) rfl rfl, vq_here hst hS hN hPc hKc hDc⟩ rfl rfl hl.1 rfl (lv_room (Nat.le_of_ble_eq_true rfl)) d_L_rank_5 ⟨by decide, by decide⟩) hS hFc hown [] ⟨0, 10, 13, 15⟩ [⟨0, 10, 17, 25⟩] htab (by intro z hz; cases hz) (by decide) (by decide) (hts _ k_309) (hts _ k_310) (fun q9 H1 locs hz1 hk1 hS => ?_)
  obtain ⟨hP, hD⟩ := va_join (wr := []) (w1 := []) hP hD [0, 1] [] rfl rfl (by decide) (by decide) hk1 hFc vq_P0 vq_D0
  have hK := hK.sub (tys' := []) [] rfl
  generalize H1 = H at hP hS ⊢
  have hP : va_P (dC, dI) CL [] H := hP
  have hD : va_D A [] := hD
  have hK : va_K (dC, dI) CL [] s := hK
  refine W.eq (g2 := F0 m 13 ls [.ref q9]) rfl ?_
  refine W.widen (k := 1) (n := 6) (by decide) (by decide) ?_
  refine lv_astore (lv' := [(4, .ref q9), (0, .ref x), (1, .int a), (2, .int b), (3, .ref out)]) hx hb d_L_rank_13 hl (by decide) rfl (fun ls hl => ?_)
  refine lv_iconst (v := 1) hx hb d_L_rank_15 (by decide) ?_
  have hP9 := hP.sub (ws' := []) [] rfl
  have hD9 := hD.sub (ws' := []) [] (by decide) rfl
  have hK9 := hK.sub (tys' := []) [] rfl
  refine W.widen (k := 1) (n := 6) (by decide) (by decide) ?_
  exact W.iret (v := 1) hx hb hr (fun t ht hW => ⟨⟨1, (), rfl, rfl, by rw [ht]; exact hP9, va_K.moved hW.alike hK9, hD9⟩, hS.F ht⟩) hS.2.2 d_L_rank_16

set_option maxHeartbeats 4000000 in
set_option maxRecDepth 100000 in
theorem w_instruction (l : Launch) (htr : l.stackTraces = false) (dC : Nat → ClassId) (dI : Nat → Nat → Nat) (x : Nat) (a : Int32) (b : Int32) (out : Nat) (g : Nat) (an : Nat) (tr : Nat) (w : Nat) (an_leads : Nat) (an_ranking : Nat) (an_sequences : Nat) (sz : Nat) : Met l y_L_instruction WS ({ frames := 8, cells := 1, slots := 6, locals := 124 }) (va_Pc [.ref x, .int a, .int b, .ref out] (vq_Pre (dC, dI) CL sz [(x, .inr (0, [.ref g, .ref an, .ref tr, .ref w])), (an, .inr (2, [.ref g, .ref an_leads, .ref an_ranking, .ref an_sequences, .int 0, .int 0, .int (-1), .int (-1)]))] [])) (va_Qi (fun (r : Int32) (_ : Unit) => r = 1) (fun _ t => vq_Post (dC, dI) CL (va_A [(x, .inr (0, [.ref g, .ref an, .ref tr, .ref w])), (an, .inr (2, [.ref g, .ref an_leads, .ref an_ranking, .ref an_sequences, .int 0, .int 0, .int (-1), .int (-1)]))] sz) [] [] t) (va_A [(x, .inr (0, [.ref g, .ref an, .ref tr, .ref w])), (an, .inr (2, [.ref g, .ref an_leads, .ref an_ranking, .ref an_sequences, .int 0, .int 0, .int (-1), .int (-1)]))] sz)) 1 6 (va_A [(x, .inr (0, [.ref g, .ref an, .ref tr, .ref w])), (an, .inr (2, [.ref g, .ref an_leads, .ref an_ranking, .ref an_sequences, .int 0, .int 0, .int (-1), .int (-1)]))] sz) := by
  refine vq_ofW (cc := method_9_code) (maxL := 5) (ret := (Option.some Jvm.ClassFile.FieldType.int)) (by decide) (vq_hisH k_319) ?_
  intro p e s m args below meth c s₁ B hml hv
  obtain ⟨rfl, hst, hsz, hP, hK, hD0⟩ := hv
  have hx := B.exec
  have hb := B.bytes
  have hr := B.returns
  have hts := atoms_spec (ws := WS) B.pre
  have hown : s.vm.findClass R_L = some m.cls := findClass_of_methodNamed B.named
  have hlocks := B.notSynchronized
  have htab := vq_hasH B (hts _ k_319)
  subst hsz
  have hN := vq_ns hP
  have hD := hD0.self (sz := s.heap.size)
  generalize hAe : va_A [(x, .inr (0, [.ref g, .ref an, .ref tr, .ref w])), (an, .inr (2, [.ref g, .ref an_leads, .ref an_ranking, .ref an_sequences, .int 0, .int 0, .int (-1), .int (-1)]))] s.heap.size = A at hD hN ⊢
  have hA : ∀ q : Nat, s.heap.size ≤ q → A q := fun q h => by rw [← hAe]; exact Or.inr h
  have hS : va_S A s.heap s.heap [] := va_S.rf
  have hP : va_P (dC, dI) CL [(x, .inr (0, [.ref g, .ref an, .ref tr, .ref w])), (an, .inr (2, [.ref g, .ref an_leads, .ref an_ranking, .ref an_sequences, .int 0, .int 0, .int (-1), .int (-1)]))] s.heap := hP
  have hD : va_D A [(x, .inr (0, [.ref g, .ref an, .ref tr, .ref w])), (an, .inr (2, [.ref g, .ref an_leads, .ref an_ranking, .ref an_sequences, .int 0, .int 0, .int (-1), .int (-1)]))] := hD
  have hl := lv_entry ([.ref x, .int a, .int b, .ref out]) (n := 5) (Nat.le_of_ble_eq_true rfl)
  rw [lg_entry_eq]
  generalize (lg_sl ([.ref x, .int a, .int b, .ref out]) ++ List.replicate (5 - (lg_sl ([.ref x, .int a, .int b, .ref out])).length) Slot.unset).toArray = ls at hl ⊢
  have hl : lv_has ls 5 [(0, .ref x), (1, .int a), (2, .int b), (3, .ref out)] := hl
  refine lv_aload_n hx hb d_L_instruction_0 rfl (lv_at hl 3 rfl) ?_
  refine lv_iconst (v := 0) hx hb d_L_instruction_1 (by decide) ?_
  refine lv_aload_n hx hb d_L_instruction_2 rfl (lv_at hl 0 rfl) ?_
  refine lv_iload_n hx hb d_L_instruction_3 rfl (lv_at hl 1 rfl) ?_
  refine lv_iload_n hx hb d_L_instruction_4 rfl (lv_at hl 2 rfl) ?_
  have hPc := hP.sub (ws' := [(x, .inr (0, [.ref g, .ref an, .ref tr, .ref w])), (an, .inr (2, [.ref g, .ref an_leads, .ref an_ranking, .ref an_sequences, .int 0, .int 0, .int (-1), .int (-1)]))]) [0, 1] rfl
  have hDc := hD.sub (ws' := [(x, .inr (0, [.ref g, .ref an, .ref tr, .ref w])), (an, .inr (2, [.ref g, .ref an_leads, .ref an_ranking, .ref an_sequences, .int 0, .int 0, .int (-1), .int (-1)]))]) [0, 1] (by decide) rfl
  have hKc := hK.sub (tys' := []) [] rfl
  have hFc := va_free (wc := [(x, .inr (0, [.ref g, .ref an, .ref tr, .ref w])), (an, .inr (2, [.ref g, .ref an_leads, .ref an_ranking, .ref an_sequences, .int 0, .int 0, .int (-1), .int (-1)]))]) hD hS hA [0, 1] rfl
  refine vq_catch (E := "java/lang/IllegalStateException") (name := "java/lang/IllegalStateException") (vq_runT (As := [.int a, .int b]) (rest := [.int 0, .ref out]) ⟨hx, hb, hml, hown, hts⟩ (t_V_instruction l htr dC dI x a b g an tr w an_leads an_ranking an_sequences s.heap.size) (vq_cV WSk hts 2 rfl rfl ⟨by decide, by decide⟩ k_175 k_143 k_320 k_321 k_322 (by decide +kernel)) ⟨vq_blind, va_recv hK hP (ci := 0) (q0 := 0) rfl rfl, vq_here hst hS hN hPc hKc hDc⟩ rfl rfl hl.1 rfl (lv_room (Nat.le_of_ble_eq_true rfl)) d_L_instruction_5 ⟨by decide, by decide⟩) hS hFc hown [] ⟨0, 10, 13, 15⟩ [⟨0, 10, 17, 25⟩] htab (by intro z hz; cases hz) (by decide) (by decide) (hts _ k_309) (hts _ k_310) (fun q9 H1 locs hz1 hk1 hS => ?_)
  obtain ⟨hP, hD⟩ := va_join (wr := []) (w1 := []) hP hD [0, 1] [] rfl rfl (by decide) (by decide) hk1 hFc vq_P0 vq_D0
  have hK := hK.sub (tys' := []) [] rfl
  generalize H1 = H at hP hS ⊢
  have hP : va_P (dC, dI) CL [] H := hP
  have hD : va_D A [] := hD
  have hK : va_K (dC, dI) CL [] s := hK
  refine W.eq (g2 := F0 m 13 ls [.ref q9]) rfl ?_
  refine W.widen (k := 1) (n := 6) (by decide) (by decide) ?_
  refine lv_astore (lv' := [(4, .ref q9), (0, .ref x), (1, .int a), (2, .int b), (3, .ref out)]) hx hb d_L_instruction_13 hl (by decide) rfl (fun ls hl => ?_)
  refine lv_iconst (v := 1) hx hb d_L_instruction_15 (by decide) ?_
  have hP9 := hP.sub (ws' := []) [] rfl
  have hD9 := hD.sub (ws' := []) [] (by decide) rfl
  have hK9 := hK.sub (tys' := []) [] rfl
  refine W.widen (k := 1) (n := 6) (by decide) (by decide) ?_
  exact W.iret (v := 1) hx hb hr (fun t ht hW => ⟨⟨1, (), rfl, rfl, by rw [ht]; exact hP9, va_K.moved hW.alike hK9, hD9⟩, hS.F ht⟩) hS.2.2 d_L_instruction_16

set_option maxHeartbeats 4000000 in
set_option maxRecDepth 100000 in
theorem w_node (l : Launch) (htr : l.stackTraces = false) (dC : Nat → ClassId) (dI : Nat → Nat → Nat) (x : Nat) (a : Int32) (b : Int32) (c9 : Int32) (d9 : Int32) (e9 : Int32) (out : Nat) (g : Nat) (an : Nat) (tr : Nat) (w : Nat) (g_attributeCounts : Nat) (g_inheritedBits : Nat) (g_symbolsAt : Nat) (g_lastPositions : Nat) (g_presentBits : Nat) (g_toDefineBits : Nat) (g_ruledBits : Nat) (g_forms : Nat) (g_firsts : Nat) (g_seconds : Nat) (g_usedBits : Nat) (sz : Nat) : Met l y_L_node WS ({ frames := 7, cells := 1, slots := 6, locals := 107 }) (va_Pc [.ref x, .int a, .int b, .int c9, .int d9, .int e9, .ref out] (vq_Pre (dC, dI) CL sz [(x, .inr (0, [.ref g, .ref an, .ref tr, .ref w])), (g, .inr (1, [.ref g_attributeCounts, .ref g_inheritedBits, .int 0, .ref g_symbolsAt, .ref g_lastPositions, .ref g_presentBits, .ref g_toDefineBits, .int 0, .ref g_ruledBits, .ref g_forms, .ref g_firsts, .ref g_seconds, .ref g_usedBits]))] [])) (va_Qi (fun (r : Int32) (_ : Unit) => r = 1) (fun _ t => vq_Post (dC, dI) CL (va_A [(x, .inr (0, [.ref g, .ref an, .ref tr, .ref w])), (g, .inr (1, [.ref g_attributeCounts, .ref g_inheritedBits, .int 0, .ref g_symbolsAt, .ref g_lastPositions, .ref g_presentBits, .ref g_toDefineBits, .int 0, .ref g_ruledBits, .ref g_forms, .ref g_firsts, .ref g_seconds, .ref g_usedBits]))] sz) [] [] t) (va_A [(x, .inr (0, [.ref g, .ref an, .ref tr, .ref w])), (g, .inr (1, [.ref g_attributeCounts, .ref g_inheritedBits, .int 0, .ref g_symbolsAt, .ref g_lastPositions, .ref g_presentBits, .ref g_toDefineBits, .int 0, .ref g_ruledBits, .ref g_forms, .ref g_firsts, .ref g_seconds, .ref g_usedBits]))] sz)) 1 6 (va_A [(x, .inr (0, [.ref g, .ref an, .ref tr, .ref w])), (g, .inr (1, [.ref g_attributeCounts, .ref g_inheritedBits, .int 0, .ref g_symbolsAt, .ref g_lastPositions, .ref g_presentBits, .ref g_toDefineBits, .int 0, .ref g_ruledBits, .ref g_forms, .ref g_firsts, .ref g_seconds, .ref g_usedBits]))] sz) := by
  refine vq_ofW (cc := method_10_code) (maxL := 8) (ret := (Option.some Jvm.ClassFile.FieldType.int)) (by decide) (vq_hisH k_323) ?_
  intro p e s m args below meth c s₁ B hml hv
  obtain ⟨rfl, hst, hsz, hP, hK, hD0⟩ := hv
  have hx := B.exec
  have hb := B.bytes
  have hr := B.returns
  have hts := atoms_spec (ws := WS) B.pre
  have hown : s.vm.findClass R_L = some m.cls := findClass_of_methodNamed B.named
  have hlocks := B.notSynchronized
  have htab := vq_hasH B (hts _ k_323)
  subst hsz
  have hN := vq_ns hP
  have hD := hD0.self (sz := s.heap.size)
  generalize hAe : va_A [(x, .inr (0, [.ref g, .ref an, .ref tr, .ref w])), (g, .inr (1, [.ref g_attributeCounts, .ref g_inheritedBits, .int 0, .ref g_symbolsAt, .ref g_lastPositions, .ref g_presentBits, .ref g_toDefineBits, .int 0, .ref g_ruledBits, .ref g_forms, .ref g_firsts, .ref g_seconds, .ref g_usedBits]))] s.heap.size = A at hD hN ⊢
  have hA : ∀ q : Nat, s.heap.size ≤ q → A q := fun q h => by rw [← hAe]; exact Or.inr h
  have hS : va_S A s.heap s.heap [] := va_S.rf
  have hP : va_P (dC, dI) CL [(x, .inr (0, [.ref g, .ref an, .ref tr, .ref w])), (g, .inr (1, [.ref g_attributeCounts, .ref g_inheritedBits, .int 0, .ref g_symbolsAt, .ref g_lastPositions, .ref g_presentBits, .ref g_toDefineBits, .int 0, .ref g_ruledBits, .ref g_forms, .ref g_firsts, .ref g_seconds, .ref g_usedBits]))] s.heap := hP
  have hD : va_D A [(x, .inr (0, [.ref g, .ref an, .ref tr, .ref w])), (g, .inr (1, [.ref g_attributeCounts, .ref g_inheritedBits, .int 0, .ref g_symbolsAt, .ref g_lastPositions, .ref g_presentBits, .ref g_toDefineBits, .int 0, .ref g_ruledBits, .ref g_forms, .ref g_firsts, .ref g_seconds, .ref g_usedBits]))] := hD
  have hl := lv_entry ([.ref x, .int a, .int b, .int c9, .int d9, .int e9, .ref out]) (n := 8) (Nat.le_of_ble_eq_true rfl)
  rw [lg_entry_eq]
  generalize (lg_sl ([.ref x, .int a, .int b, .int c9, .int d9, .int e9, .ref out]) ++ List.replicate (8 - (lg_sl ([.ref x, .int a, .int b, .int c9, .int d9, .int e9, .ref out])).length) Slot.unset).toArray = ls at hl ⊢
  have hl : lv_has ls 8 [(0, .ref x), (1, .int a), (2, .int b), (3, .int c9), (4, .int d9), (5, .int e9), (6, .ref out)] := hl
  refine lv_aload hx hb d_L_node_0 (lv_at hl 6 rfl) ?_
  refine lv_iconst (v := 0) hx hb d_L_node_2 (by decide) ?_
  refine lv_aload_n hx hb d_L_node_3 rfl (lv_at hl 0 rfl) ?_
  refine lv_iload_n hx hb d_L_node_4 rfl (lv_at hl 1 rfl) ?_
  refine lv_iload_n hx hb d_L_node_5 rfl (lv_at hl 2 rfl) ?_
  refine lv_iload_n hx hb d_L_node_6 rfl (lv_at hl 3 rfl) ?_
  refine lv_iload hx hb d_L_node_7 (lv_at hl 4 rfl) ?_
  refine lv_iload hx hb d_L_node_9 (lv_at hl 5 rfl) ?_
  have hPc := hP.sub (ws' := [(x, .inr (0, [.ref g, .ref an, .ref tr, .ref w])), (g, .inr (1, [.ref g_attributeCounts, .ref g_inheritedBits, .int 0, .ref g_symbolsAt, .ref g_lastPositions, .ref g_presentBits, .ref g_toDefineBits, .int 0, .ref g_ruledBits, .ref g_forms, .ref g_firsts, .ref g_seconds, .ref g_usedBits]))]) [0, 1] rfl
  have hDc := hD.sub (ws' := [(x, .inr (0, [.ref g, .ref an, .ref tr, .ref w])), (g, .inr (1, [.ref g_attributeCounts, .ref g_inheritedBits, .int 0, .ref g_symbolsAt, .ref g_lastPositions, .ref g_presentBits, .ref g_toDefineBits, .int 0, .ref g_ruledBits, .ref g_forms, .ref g_firsts, .ref g_seconds, .ref g_usedBits]))]) [0, 1] (by decide) rfl
  have hKc := hK.sub (tys' := []) [] rfl
  have hFc := va_free (wc := [(x, .inr (0, [.ref g, .ref an, .ref tr, .ref w])), (g, .inr (1, [.ref g_attributeCounts, .ref g_inheritedBits, .int 0, .ref g_symbolsAt, .ref g_lastPositions, .ref g_presentBits, .ref g_toDefineBits, .int 0, .ref g_ruledBits, .ref g_forms, .ref g_firsts, .ref g_seconds, .ref g_usedBits]))]) hD hS hA [0, 1] rfl
  refine vq_catch (E := "java/lang/IllegalArgumentException") (name := "java/lang/IllegalArgumentException") (vq_runT (As := [.int a, .int b, .int c9, .int d9, .int e9]) (rest := [.int 0, .ref out]) ⟨hx, hb, hml, hown, hts⟩ (t_V_node l htr dC dI x a b c9 d9 e9 g an tr w g_attributeCounts g_inheritedBits g_symbolsAt g_lastPositions g_presentBits g_toDefineBits g_ruledBits g_forms g_firsts g_seconds g_usedBits s.heap.size) (vq_cV WSk hts 5 rfl rfl ⟨by decide, by decide⟩ k_176 k_143 k_324 k_325 k_326 (by decide +kernel)) ⟨vq_blind, va_recv hK hP (ci := 0) (q0 := 0) rfl rfl, vq_here hst hS hN hPc hKc hDc⟩ rfl rfl hl.1 rfl (lv_room (Nat.le_of_ble_eq_true rfl)) d_L_node_11 ⟨by decide, by decide⟩) hS hFc hown [] ⟨0, 16, 19, 13⟩ [⟨0, 16, 23, 15⟩] htab (by intro z hz; cases hz) (by decide) (by decide) (hts _ k_293) (hts _ k_294) (fun q9 H1 locs hz1 hk1 hS => ?_)
  obtain ⟨hP, hD⟩ := va_join (wr := []) (w1 := []) hP hD [0, 1] [] rfl rfl (by decide) (by decide) hk1 hFc vq_P0 vq_D0
  have hK := hK.sub (tys' := []) [] rfl
  generalize H1 = H at hP hS ⊢
  have hP : va_P (dC, dI) CL [] H := hP
  have hD : va_D A [] := hD
  have hK : va_K (dC, dI) CL [] s := hK
  refine W.eq (g2 := F0 m 19 ls [.ref q9]) rfl ?_
  refine W.widen (k := 1) (n := 6) (by decide) (by decide) ?_
  refine lv_astore (lv' := [(7, .ref q9), (0, .ref x), (1, .int a), (2, .int b), (3, .int c9), (4, .int d9), (5, .int e9), (6, .ref out)]) hx hb d_L_node_19 hl (by decide) rfl (fun ls hl => ?_)
  refine lv_iconst (v := 1) hx hb d_L_node_21 (by decide) ?_
  have hP9 := hP.sub (ws' := []) [] rfl
  have hD9 := hD.sub (ws' := []) [] (by decide) rfl
  have hK9 := hK.sub (tys' := []) [] rfl
  refine W.widen (k := 1) (n := 6) (by decide) (by decide) ?_
  exact W.iret (v := 1) hx hb hr (fun t ht hW => ⟨⟨1, (), rfl, rfl, by rw [ht]; exact hP9, va_K.moved hW.alike hK9, hD9⟩, hS.F ht⟩) hS.2.2 d_L_node_22

set_option maxHeartbeats 4000000 in
set_option maxRecDepth 100000 in
theorem w_give (l : Launch) (htr : l.stackTraces = false) (dC : Nat → ClassId) (dI : Nat → Nat → Nat) (x : Nat) (a : Int32) (b : Int32) (g : Nat) (an : Nat) (tr : Nat) (w : Nat) (an_sequences : Nat) (w_given : Nat) (w_values : Nat) (w_knownBits : Nat) (w_instructionsDone : Nat) (cgv : ClassId) (fgv : Nat → Int32) (sz : Nat) (h0 : ¬ a < 0) (h4 : a < 4) (hi : vp_in a 4) : Met l y_L_give WS ({ frames := 1, cells := 0, slots := 0, locals := 22 }) (va_Pc [.ref x, .int a, .int b] (vq_Pre (dC, dI) CL sz [(x, .inr (0, [.ref g, .ref an, .ref tr, .ref w])), (w, .inr (7, [.ref g, .ref an_sequences, .ref tr, .ref w_given, .ref w_values, .ref w_knownBits, .ref w_instructionsDone, .int 0, .int 0, .int 0])), (w_given, .inl (cgv, 4, .inl fgv))] [(cgv, .int)])) (va_Qi (fun (r : Int32) (_ : Unit) => r = 0) (fun _ t => vq_Post (dC, dI) CL (va_A [(x, .inr (0, [.ref g, .ref an, .ref tr, .ref w])), (w, .inr (7, [.ref g, .ref an_sequences, .ref tr, .ref w_given, .ref w_values, .ref w_knownBits, .ref w_instructionsDone, .int 0, .int 0, .int 0])), (w_given, .inl (cgv, 4, .inl fgv))] sz) [] [] t) (va_A [(x, .inr (0, [.ref g, .ref an, .ref tr, .ref w])), (w, .inr (7, [.ref g, .ref an_sequences, .ref tr, .ref w_given, .ref w_values, .ref w_knownBits, .ref w_instructionsDone, .int 0, .int 0, .int 0])), (w_given, .inl (cgv, 4, .inl fgv))] sz)) 0 0 (va_A [(x, .inr (0, [.ref g, .ref an, .ref tr, .ref w])), (w, .inr (7, [.ref g, .ref an_sequences, .ref tr, .ref w_given, .ref w_values, .ref w_knownBits, .ref w_instructionsDone, .int 0, .int 0, .int 0])), (w_given, .inl (cgv, 4, .inl fgv))] sz) := by
  refine vq_ofW (cc := method_11_code) (maxL := 4) (ret := (Option.some Jvm.ClassFile.FieldType.int)) (by decide) (vq_hisH k_327) ?_
  intro p e s m args below meth c s₁ B hml hv
  obtain ⟨rfl, hst, hsz, hP, hK, hD0⟩ := hv
  have hx := B.exec
  have hb := B.bytes
  have hr := B.returns
  have hts := atoms_spec (ws := WS) B.pre
  have hown : s.vm.findClass R_L = some m.cls := findClass_of_methodNamed B.named
  have hlocks := B.notSynchronized
  have htab := vq_hasH B (hts _ k_327)
  subst hsz
  have hN := vq_ns hP
  have hD := hD0.self (sz := s.heap.size)
  generalize hAe : va_A [(x, .inr (0, [.ref g, .ref an, .ref tr, .ref w])), (w, .inr (7, [.ref g, .ref an_sequences, .ref tr, .ref w_given, .ref w_values, .ref w_knownBits, .ref w_instructionsDone, .int 0, .int 0, .int 0])), (w_given, .inl (cgv, 4, .inl fgv))] s.heap.size = A at hD hN ⊢
  have hA : ∀ q : Nat, s.heap.size ≤ q → A q := fun q h => by rw [← hAe]; exact Or.inr h
  have hS : va_S A s.heap s.heap [] := va_S.rf
  have hP : va_P (dC, dI) CL [(x, .inr (0, [.ref g, .ref an, .ref tr, .ref w])), (w, .inr (7, [.ref g, .ref an_sequences, .ref tr, .ref w_given, .ref w_values, .ref w_knownBits, .ref w_instructionsDone, .int 0, .int 0, .int 0])), (w_given, .inl (cgv, 4, .inl fgv))] s.heap := hP
  have hD : va_D A [(x, .inr (0, [.ref g, .ref an, .ref tr, .ref w])), (w, .inr (7, [.ref g, .ref an_sequences, .ref tr, .ref w_given, .ref w_values, .ref w_knownBits, .ref w_instructionsDone, .int 0, .int 0, .int 0])), (w_given, .inl (cgv, 4, .inl fgv))] := hD
  have hl := lv_entry ([.ref x, .int a, .int b]) (n := 4) (Nat.le_of_ble_eq_true rfl)
  rw [lg_entry_eq]
  generalize (lg_sl ([.ref x, .int a, .int b]) ++ List.replicate (4 - (lg_sl ([.ref x, .int a, .int b])).length) Slot.unset).toArray = ls at hl ⊢
  have hl : lv_has ls 4 [(0, .ref x), (1, .int a), (2, .int b)] := hl
  refine lv_aload_n hx hb d_L_give_0 rfl (lv_at hl 0 rfl) ?_
  refine lv_iload_n hx hb d_L_give_1 rfl (lv_at hl 1 rfl) ?_
  refine lv_iload_n hx hb d_L_give_2 rfl (lv_at hl 2 rfl) ?_
  have hPc := hP.sub (ws' := [(x, .inr (0, [.ref g, .ref an, .ref tr, .ref w])), (w, .inr (7, [.ref g, .ref an_sequences, .ref tr, .ref w_given, .ref w_values, .ref w_knownBits, .ref w_instructionsDone, .int 0, .int 0, .int 0])), (w_given, .inl (cgv, 4, .inl fgv))]) [0, 1, 2] rfl
  have hDc := hD.sub (ws' := [(x, .inr (0, [.ref g, .ref an, .ref tr, .ref w])), (w, .inr (7, [.ref g, .ref an_sequences, .ref tr, .ref w_given, .ref w_values, .ref w_knownBits, .ref w_instructionsDone, .int 0, .int 0, .int 0])), (w_given, .inl (cgv, 4, .inl fgv))]) [0, 1, 2] (by decide) rfl
  have hKc := hK.sub (tys' := [(cgv, .int)]) [0] rfl
  have hFc := va_free (wc := [(x, .inr (0, [.ref g, .ref an, .ref tr, .ref w])), (w, .inr (7, [.ref g, .ref an_sequences, .ref tr, .ref w_given, .ref w_values, .ref w_knownBits, .ref w_instructionsDone, .int 0, .int 0, .int 0])), (w_given, .inl (cgv, 4, .inl fgv))]) hD hS hA [0, 1, 2] rfl
  refine va_callv (va_runV (As := [.int a, .int b]) (rest := []) ⟨hx, hb, hml, hown, hts⟩ (c_V_give l htr dC dI x a b g an tr w an_sequences w_given w_values w_knownBits w_instructionsDone cgv fgv s.heap.size h0 h4 hi) (vq_cV WSk hts 2 rfl rfl ⟨by decide, by decide⟩ k_182 k_143 k_328 k_329 k_330 (by decide +kernel)) ⟨vq_blind, va_recv hK hP (ci := 0) (q0 := 0) rfl rfl, vq_here hst hS hN hPc hKc hDc⟩ rfl rfl hl.1 rfl (lv_room (Nat.le_of_ble_eq_true rfl)) d_L_give_3 ⟨by decide, by decide⟩) hS (fun q _ h => hFc q h) hFc (fun u t H1 locs ht hvm hw hB hz1 hk1 hS => ?_)
  obtain ⟨hP1, hK1, hD1⟩ := hB
  rw [ht] at hP1
  have hK1 := va_K.moved hvm.symm hK1
  obtain ⟨hP, hD⟩ := va_join (wr := []) (w1 := []) hP hD [0, 1, 2] [] rfl rfl (by decide) (by decide) hk1 hFc hP1 hD1
  have hK := (hK.sub (tys' := []) [] rfl).app hK1
  generalize H1 = H at hP hS ⊢
  have hP : va_P (dC, dI) CL [] H := hP
  have hD : va_D A [] := hD
  have hK : va_K (dC, dI) CL [] s := hK
  refine W.widen (k := 0) (n := 0) (by decide) (by decide) ?_
  refine lv_goto (tgt := 12) hx hb d_L_give_6 (by decide) ?_
  refine lv_iconst (v := 0) hx hb d_L_give_12 (by decide) ?_
  have hP9 := hP.sub (ws' := []) [] rfl
  have hD9 := hD.sub (ws' := []) [] (by decide) rfl
  have hK9 := hK.sub (tys' := []) [] rfl
  refine W.widen (k := 0) (n := 0) (by decide) (by decide) ?_
  exact W.iret (v := 0) hx hb hr (fun t ht hW => ⟨⟨0, (), rfl, rfl, by rw [ht]; exact hP9, va_K.moved hW.alike hK9, hD9⟩, hS.F ht⟩) hS.2.2 d_L_give_13

set_option maxHeartbeats 4000000 in
set_option maxRecDepth 100000 in
theorem w_giveL (l : Launch) (htr : l.stackTraces = false) (dC : Nat → ClassId) (dI : Nat → Nat → Nat) (x : Nat) (a : Int32) (b : Int32) (g : Nat) (an : Nat) (tr : Nat) (w : Nat) (sz : Nat) (h0 : a < 0) : Met l y_L_give WS ({ frames := 7, cells := 1, slots := 6, locals := 104 }) (va_Pc [.ref x, .int a, .int b] (vq_Pre (dC, dI) CL sz [(x, .inr (0, [.ref g, .ref an, .ref tr, .ref w]))] [])) (va_Qi (fun (r : Int32) (_ : Unit) => r = 1) (fun _ t => vq_Post (dC, dI) CL (va_A [(x, .inr (0, [.ref g, .ref an, .ref tr, .ref w]))] sz) [] [] t) (va_A [(x, .inr (0, [.ref g, .ref an, .ref tr, .ref w]))] sz)) 1 6 (va_A [(x, .inr (0, [.ref g, .ref an, .ref tr, .ref w]))] sz) := by
  refine vq_ofW (cc := method_11_code) (maxL := 4) (ret := (Option.some Jvm.ClassFile.FieldType.int)) (by decide) (vq_hisH k_327) ?_
  intro p e s m args below meth c s₁ B hml hv
  obtain ⟨rfl, hst, hsz, hP, hK, hD0⟩ := hv
  have hx := B.exec
  have hb := B.bytes
  have hr := B.returns
  have hts := atoms_spec (ws := WS) B.pre
  have hown : s.vm.findClass R_L = some m.cls := findClass_of_methodNamed B.named
  have hlocks := B.notSynchronized
  have htab := vq_hasH B (hts _ k_327)
  subst hsz
  have hN := vq_ns hP
  have hD := hD0.self (sz := s.heap.size)
  generalize hAe : va_A [(x, .inr (0, [.ref g, .ref an, .ref tr, .ref w]))] s.heap.size = A at hD hN ⊢
  have hA : ∀ q : Nat, s.heap.size ≤ q → A q := fun q h => by rw [← hAe]; exact Or.inr h
  have hS : va_S A s.heap s.heap [] := va_S.rf
  have hP : va_P (dC, dI) CL [(x, .inr (0, [.ref g, .ref an, .ref tr, .ref w]))] s.heap := hP
  have hD : va_D A [(x, .inr (0, [.ref g, .ref an, .ref tr, .ref w]))] := hD
  have hl := lv_entry ([.ref x, .int a, .int b]) (n := 4) (Nat.le_of_ble_eq_true rfl)
  rw [lg_entry_eq]
  generalize (lg_sl ([.ref x, .int a, .int b]) ++ List.replicate (4 - (lg_sl ([.ref x, .int a, .int b])).length) Slot.unset).toArray = ls at hl ⊢
  have hl : lv_has ls 4 [(0, .ref x), (1, .int a), (2, .int b)] := hl
  refine lv_aload_n hx hb d_L_give_0 rfl (lv_at hl 0 rfl) ?_
  refine lv_iload_n hx hb d_L_give_1 rfl (lv_at hl 1 rfl) ?_
  refine lv_iload_n hx hb d_L_give_2 rfl (lv_at hl 2 rfl) ?_
  have hPc := hP.sub (ws' := [(x, .inr (0, [.ref g, .ref an, .ref tr, .ref w]))]) [0] rfl
  have hDc := hD.sub (ws' := [(x, .inr (0, [.ref g, .ref an, .ref tr, .ref w]))]) [0] (by decide) rfl
  have hKc := hK.sub (tys' := []) [] rfl
  have hFc := va_free (wc := [(x, .inr (0, [.ref g, .ref an, .ref tr, .ref w]))]) hD hS hA [0] rfl
  refine vq_catch (E := "java/lang/IndexOutOfBoundsException") (name := "java/lang/IndexOutOfBoundsException") (vq_runT (As := [.int a, .int b]) (rest := []) ⟨hx, hb, hml, hown, hts⟩ (t_V_giveL l htr dC dI x a b g an tr w s.heap.size h0) (vq_cV WSk hts 2 rfl rfl ⟨by decide, by decide⟩ k_182 k_143 k_328 k_329 k_330 (by decide +kernel)) ⟨vq_blind, va_recv hK hP (ci := 0) (q0 := 0) rfl rfl, vq_here hst hS hN hPc hKc hDc⟩ rfl rfl hl.1 rfl (lv_room (Nat.le_of_ble_eq_true rfl)) d_L_give_3 ⟨by decide, by decide⟩) hS hFc hown [] ⟨0, 6, 9, 25⟩ [] htab (by intro z hz; cases hz) (by decide) (by decide) (hts _ k_303) (hts _ k_304) (fun q9 H1 locs hz1 hk1 hS => ?_)
  obtain ⟨hP, hD⟩ := va_join (wr := []) (w1 := []) hP hD [0] [] rfl rfl (by decide) (by decide) hk1 hFc vq_P0 vq_D0
  have hK := hK.sub (tys' := []) [] rfl
  generalize H1 = H at hP hS ⊢
  have hP : va_P (dC, dI) CL [] H := hP
  have hD : va_D A [] := hD
  have hK : va_K (dC, dI) CL [] s := hK
  refine W.eq (g2 := F0 m 9 ls [.ref q9]) rfl ?_
  refine W.widen (k := 1) (n := 6) (by decide) (by decide) ?_
  refine lv_astore_n (lv' := [(3, .ref q9), (0, .ref x), (1, .int a), (2, .int b)]) hx hb d_L_give_9 rfl hl (by decide) rfl (fun ls hl => ?_)
  refine lv_iconst (v := 1) hx hb d_L_give_10 (by decide) ?_
  have hP9 := hP.sub (ws' := []) [] rfl
  have hD9 := hD.sub (ws' := []) [] (by decide) rfl
  have hK9 := hK.sub (tys' := []) [] rfl
  refine W.widen (k := 1) (n := 6) (by decide) (by decide) ?_
  exact W.iret (v := 1) hx hb hr (fun t ht hW => ⟨⟨1, (), rfl, rfl, by rw [ht]; exact hP9, va_K.moved hW.alike hK9, hD9⟩, hS.F ht⟩) hS.2.2 d_L_give_11

set_option maxHeartbeats 4000000 in
set_option maxRecDepth 100000 in
theorem w_giveG (l : Launch) (htr : l.stackTraces = false) (dC : Nat → ClassId) (dI : Nat → Nat → Nat) (x : Nat) (a : Int32) (b : Int32) (g : Nat) (an : Nat) (tr : Nat) (w : Nat) (sz : Nat) (h0 : ¬ a < 0) (h4 : ¬ a < 4) : Met l y_L_give WS ({ frames := 7, cells := 1, slots := 6, locals := 104 }) (va_Pc [.ref x, .int a, .int b] (vq_Pre (dC, dI) CL sz [(x, .inr (0, [.ref g, .ref an, .ref tr, .ref w]))] [])) (va_Qi (fun (r : Int32) (_ : Unit) => r = 1) (fun _ t => vq_Post (dC, dI) CL (va_A [(x, .inr (0, [.ref g, .ref an, .ref tr, .ref w]))] sz) [] [] t) (va_A [(x, .inr (0, [.ref g, .ref an, .ref tr, .ref w]))] sz)) 1 6 (va_A [(x, .inr (0, [.ref g, .ref an, .ref tr, .ref w]))] sz) := by
  refine vq_ofW (cc := method_11_code) (maxL := 4) (ret := (Option.some Jvm.ClassFile.FieldType.int)) (by decide) (vq_hisH k_327) ?_
  intro p e s m args below meth c s₁ B hml hv
  obtain ⟨rfl, hst, hsz, hP, hK, hD0⟩ := hv
  have hx := B.exec
  have hb := B.bytes
  have hr := B.returns
  have hts := atoms_spec (ws := WS) B.pre
  have hown : s.vm.findClass R_L = some m.cls := findClass_of_methodNamed B.named
  have hlocks := B.notSynchronized
  have htab := vq_hasH B (hts _ k_327)
  subst hsz
  have hN := vq_ns hP
  have hD := hD0.self (sz := s.heap.size)
  generalize hAe : va_A [(x, .inr (0, [.ref g, .ref an, .ref tr, .ref w]))] s.heap.size = A at hD hN ⊢
  have hA : ∀ q : Nat, s.heap.size ≤ q → A q := fun q h => by rw [← hAe]; exact Or.inr h
  have hS : va_S A s.heap s.heap [] := va_S.rf
  have hP : va_P (dC, dI) CL [(x, .inr (0, [.ref g, .ref an, .ref tr, .ref w]))] s.heap := hP
  have hD : va_D A [(x, .inr (0, [.ref g, .ref an, .ref tr, .ref w]))] := hD
  have hl := lv_entry ([.ref x, .int a, .int b]) (n := 4) (Nat.le_of_ble_eq_true rfl)
  rw [lg_entry_eq]
  generalize (lg_sl ([.ref x, .int a, .int b]) ++ List.replicate (4 - (lg_sl ([.ref x, .int a, .int b])).length) Slot.unset).toArray = ls at hl ⊢
  have hl : lv_has ls 4 [(0, .ref x), (1, .int a), (2, .int b)] := hl
  refine lv_aload_n hx hb d_L_give_0 rfl (lv_at hl 0 rfl) ?_
  refine lv_iload_n hx hb d_L_give_1 rfl (lv_at hl 1 rfl) ?_
  refine lv_iload_n hx hb d_L_give_2 rfl (lv_at hl 2 rfl) ?_
  have hPc := hP.sub (ws' := [(x, .inr (0, [.ref g, .ref an, .ref tr, .ref w]))]) [0] rfl
  have hDc := hD.sub (ws' := [(x, .inr (0, [.ref g, .ref an, .ref tr, .ref w]))]) [0] (by decide) rfl
  have hKc := hK.sub (tys' := []) [] rfl
  have hFc := va_free (wc := [(x, .inr (0, [.ref g, .ref an, .ref tr, .ref w]))]) hD hS hA [0] rfl
  refine vq_catch (E := "java/lang/IndexOutOfBoundsException") (name := "java/lang/IndexOutOfBoundsException") (vq_runT (As := [.int a, .int b]) (rest := []) ⟨hx, hb, hml, hown, hts⟩ (t_V_giveG l htr dC dI x a b g an tr w s.heap.size h0 h4) (vq_cV WSk hts 2 rfl rfl ⟨by decide, by decide⟩ k_182 k_143 k_328 k_329 k_330 (by decide +kernel)) ⟨vq_blind, va_recv hK hP (ci := 0) (q0 := 0) rfl rfl, vq_here hst hS hN hPc hKc hDc⟩ rfl rfl hl.1 rfl (lv_room (Nat.le_of_ble_eq_true rfl)) d_L_give_3 ⟨by decide, by decide⟩) hS hFc hown [] ⟨0, 6, 9, 25⟩ [] htab (by intro z hz; cases hz) (by decide) (by decide) (hts _ k_303) (hts _ k_304) (fun q9 H1 locs hz1 hk1 hS => ?_)
  obtain ⟨hP, hD⟩ := va_join (wr := []) (w1 := []) hP hD [0] [] rfl rfl (by decide) (by decide) hk1 hFc vq_P0 vq_D0
  have hK := hK.sub (tys' := []) [] rfl
  generalize H1 = H at hP hS ⊢
  have hP : va_P (dC, dI) CL [] H := hP
  have hD : va_D A [] := hD
  have hK : va_K (dC, dI) CL [] s := hK
  refine W.eq (g2 := F0 m 9 ls [.ref q9]) rfl ?_
  refine W.widen (k := 1) (n := 6) (by decide) (by decide) ?_
  refine lv_astore_n (lv' := [(3, .ref q9), (0, .ref x), (1, .int a), (2, .int b)]) hx hb d_L_give_9 rfl hl (by decide) rfl (fun ls hl => ?_)
  refine lv_iconst (v := 1) hx hb d_L_give_10 (by decide) ?_
  have hP9 := hP.sub (ws' := []) [] rfl
  have hD9 := hD.sub (ws' := []) [] (by decide) rfl
  have hK9 := hK.sub (tys' := []) [] rfl
  refine W.widen (k := 1) (n := 6) (by decide) (by decide) ?_
  exact W.iret (v := 1) hx hb hr (fun t ht hW => ⟨⟨1, (), rfl, rfl, by rw [ht]; exact hP9, va_K.moved hW.alike hK9, hD9⟩, hS.F ht⟩) hS.2.2 d_L_give_11

set_option maxHeartbeats 4000000 in
set_option maxRecDepth 100000 in
theorem w_start (l : Launch) (htr : l.stackTraces = false) (dC : Nat → ClassId) (dI : Nat → Nat → Nat) (x : Nat) (a : Int32) (g : Nat) (an : Nat) (tr : Nat) (w : Nat) (an_leads : Nat) (an_ranking : Nat) (an_sequences : Nat) (sz : Nat) : Met l y_L_start WS ({ frames := 8, cells := 1, slots := 6, locals := 123 }) (va_Pc [.ref x, .int a] (vq_Pre (dC, dI) CL sz [(x, .inr (0, [.ref g, .ref an, .ref tr, .ref w])), (an, .inr (2, [.ref g, .ref an_leads, .ref an_ranking, .ref an_sequences, .int 0, .int 0, .int (-1), .int (-1)]))] [])) (va_Qi (fun (r : Int32) (_ : Unit) => r = 1) (fun _ t => vq_Post (dC, dI) CL (va_A [(x, .inr (0, [.ref g, .ref an, .ref tr, .ref w])), (an, .inr (2, [.ref g, .ref an_leads, .ref an_ranking, .ref an_sequences, .int 0, .int 0, .int (-1), .int (-1)]))] sz) [] [] t) (va_A [(x, .inr (0, [.ref g, .ref an, .ref tr, .ref w])), (an, .inr (2, [.ref g, .ref an_leads, .ref an_ranking, .ref an_sequences, .int 0, .int 0, .int (-1), .int (-1)]))] sz)) 1 6 (va_A [(x, .inr (0, [.ref g, .ref an, .ref tr, .ref w])), (an, .inr (2, [.ref g, .ref an_leads, .ref an_ranking, .ref an_sequences, .int 0, .int 0, .int (-1), .int (-1)]))] sz) := by
  refine vq_ofW (cc := method_12_code) (maxL := 3) (ret := (Option.some Jvm.ClassFile.FieldType.int)) (by decide) (vq_hisH k_331) ?_
  intro p e s m args below meth c s₁ B hml hv
  obtain ⟨rfl, hst, hsz, hP, hK, hD0⟩ := hv
  have hx := B.exec
  have hb := B.bytes
  have hr := B.returns
  have hts := atoms_spec (ws := WS) B.pre
  have hown : s.vm.findClass R_L = some m.cls := findClass_of_methodNamed B.named
  have hlocks := B.notSynchronized
  have htab := vq_hasH B (hts _ k_331)
  subst hsz
  have hN := vq_ns hP
  have hD := hD0.self (sz := s.heap.size)
  generalize hAe : va_A [(x, .inr (0, [.ref g, .ref an, .ref tr, .ref w])), (an, .inr (2, [.ref g, .ref an_leads, .ref an_ranking, .ref an_sequences, .int 0, .int 0, .int (-1), .int (-1)]))] s.heap.size = A at hD hN ⊢
  have hA : ∀ q : Nat, s.heap.size ≤ q → A q := fun q h => by rw [← hAe]; exact Or.inr h
  have hS : va_S A s.heap s.heap [] := va_S.rf
  have hP : va_P (dC, dI) CL [(x, .inr (0, [.ref g, .ref an, .ref tr, .ref w])), (an, .inr (2, [.ref g, .ref an_leads, .ref an_ranking, .ref an_sequences, .int 0, .int 0, .int (-1), .int (-1)]))] s.heap := hP
  have hD : va_D A [(x, .inr (0, [.ref g, .ref an, .ref tr, .ref w])), (an, .inr (2, [.ref g, .ref an_leads, .ref an_ranking, .ref an_sequences, .int 0, .int 0, .int (-1), .int (-1)]))] := hD
  have hl := lv_entry ([.ref x, .int a]) (n := 3) (Nat.le_of_ble_eq_true rfl)
  rw [lg_entry_eq]
  generalize (lg_sl ([.ref x, .int a]) ++ List.replicate (3 - (lg_sl ([.ref x, .int a])).length) Slot.unset).toArray = ls at hl ⊢
  have hl : lv_has ls 3 [(0, .ref x), (1, .int a)] := hl
  refine lv_aload_n hx hb d_L_start_0 rfl (lv_at hl 0 rfl) ?_
  refine lv_iload_n hx hb d_L_start_1 rfl (lv_at hl 1 rfl) ?_
  have hPc := hP.sub (ws' := [(x, .inr (0, [.ref g, .ref an, .ref tr, .ref w])), (an, .inr (2, [.ref g, .ref an_leads, .ref an_ranking, .ref an_sequences, .int 0, .int 0, .int (-1), .int (-1)]))]) [0, 1] rfl
  have hDc := hD.sub (ws' := [(x, .inr (0, [.ref g, .ref an, .ref tr, .ref w])), (an, .inr (2, [.ref g, .ref an_leads, .ref an_ranking, .ref an_sequences, .int 0, .int 0, .int (-1), .int (-1)]))]) [0, 1] (by decide) rfl
  have hKc := hK.sub (tys' := []) [] rfl
  have hFc := va_free (wc := [(x, .inr (0, [.ref g, .ref an, .ref tr, .ref w])), (an, .inr (2, [.ref g, .ref an_leads, .ref an_ranking, .ref an_sequences, .int 0, .int 0, .int (-1), .int (-1)]))]) hD hS hA [0, 1] rfl
  refine vq_catch (E := "java/lang/IllegalStateException") (name := "java/lang/IllegalStateException") (vq_runT (As := [.int a]) (rest := []) ⟨hx, hb, hml, hown, hts⟩ (t_V_start l htr dC dI x a g an tr w an_leads an_ranking an_sequences s.heap.size) (vq_cV WSk hts 1 rfl rfl ⟨by decide, by decide⟩ k_185 k_143 k_332 k_333 k_334 (by decide +kernel)) ⟨vq_blind, va_recv hK hP (ci := 0) (q0 := 0) rfl rfl, vq_here hst hS hN hPc hKc hDc⟩ rfl rfl hl.1 rfl (lv_room (Nat.le_of_ble_eq_true rfl)) d_L_start_2 ⟨by decide, by decide⟩) hS hFc hown [] ⟨0, 5, 8, 15⟩ [⟨0, 5, 11, 25⟩] htab (by intro z hz; cases hz) (by decide) (by decide) (hts _ k_309) (hts _ k_310) (fun q9 H1 locs hz1 hk1 hS => ?_)
  obtain ⟨hP, hD⟩ := va_join (wr := []) (w1 := []) hP hD [0, 1] [] rfl rfl (by decide) (by decide) hk1 hFc vq_P0 vq_D0
  have hK := hK.sub (tys' := []) [] rfl
  generalize H1 = H at hP hS ⊢
  have hP : va_P (dC, dI) CL [] H := hP
  have hD : va_D A [] := hD
  have hK : va_K (dC, dI) CL [] s := hK
  refine W.eq (g2 := F0 m 8 ls [.ref q9]) rfl ?_
  refine W.widen (k := 1) (n := 6) (by decide) (by decide) ?_
  refine lv_astore_n (lv' := [(2, .ref q9), (0, .ref x), (1, .int a)]) hx hb d_L_start_8 rfl hl (by decide) rfl (fun ls hl => ?_)
  refine lv_iconst (v := 1) hx hb d_L_start_9 (by decide) ?_
  have hP9 := hP.sub (ws' := []) [] rfl
  have hD9 := hD.sub (ws' := []) [] (by decide) rfl
  have hK9 := hK.sub (tys' := []) [] rfl
  refine W.widen (k := 1) (n := 6) (by decide) (by decide) ?_
  exact W.iret (v := 1) hx hb hr (fun t ht hW => ⟨⟨1, (), rfl, rfl, by rw [ht]; exact hP9, va_K.moved hW.alike hK9, hD9⟩, hS.F ht⟩) hS.2.2 d_L_start_10

set_option maxHeartbeats 4000000 in
set_option maxRecDepth 100000 in
theorem w_runL (l : Launch) (htr : l.stackTraces = false) (dC : Nat → ClassId) (dI : Nat → Nat → Nat) (x : Nat) (a : Int32) (out : Nat) (g : Nat) (an : Nat) (tr : Nat) (w : Nat) (sz : Nat) (h0 : a < 0) : Met l y_L_run WS ({ frames := 7, cells := 1, slots := 6, locals := 103 }) (va_Pc [.ref x, .int a, .ref out] (vq_Pre (dC, dI) CL sz [(x, .inr (0, [.ref g, .ref an, .ref tr, .ref w]))] [])) (va_Qi (fun (r : Int32) (_ : Unit) => r = 1) (fun _ t => vq_Post (dC, dI) CL (va_A [(x, .inr (0, [.ref g, .ref an, .ref tr, .ref w]))] sz) [] [] t) (va_A [(x, .inr (0, [.ref g, .ref an, .ref tr, .ref w]))] sz)) 1 6 (va_A [(x, .inr (0, [.ref g, .ref an, .ref tr, .ref w]))] sz) := by
  refine vq_ofW (cc := method_13_code) (maxL := 4) (ret := (Option.some Jvm.ClassFile.FieldType.int)) (by decide) (vq_hisH k_335) ?_
  intro p e s m args below meth c s₁ B hml hv
  obtain ⟨rfl, hst, hsz, hP, hK, hD0⟩ := hv
  have hx := B.exec
  have hb := B.bytes
  have hr := B.returns
  have hts := atoms_spec (ws := WS) B.pre
  have hown : s.vm.findClass R_L = some m.cls := findClass_of_methodNamed B.named
  have hlocks := B.notSynchronized
  have htab := vq_hasH B (hts _ k_335)
  subst hsz
  have hN := vq_ns hP
  have hD := hD0.self (sz := s.heap.size)
  generalize hAe : va_A [(x, .inr (0, [.ref g, .ref an, .ref tr, .ref w]))] s.heap.size = A at hD hN ⊢
  have hA : ∀ q : Nat, s.heap.size ≤ q → A q := fun q h => by rw [← hAe]; exact Or.inr h
  have hS : va_S A s.heap s.heap [] := va_S.rf
  have hP : va_P (dC, dI) CL [(x, .inr (0, [.ref g, .ref an, .ref tr, .ref w]))] s.heap := hP
  have hD : va_D A [(x, .inr (0, [.ref g, .ref an, .ref tr, .ref w]))] := hD
  have hl := lv_entry ([.ref x, .int a, .ref out]) (n := 4) (Nat.le_of_ble_eq_true rfl)
  rw [lg_entry_eq]
  generalize (lg_sl ([.ref x, .int a, .ref out]) ++ List.replicate (4 - (lg_sl ([.ref x, .int a, .ref out])).length) Slot.unset).toArray = ls at hl ⊢
  have hl : lv_has ls 4 [(0, .ref x), (1, .int a), (2, .ref out)] := hl
  refine lv_aload_n hx hb d_L_run_0 rfl (lv_at hl 2 rfl) ?_
  refine lv_iconst (v := 0) hx hb d_L_run_1 (by decide) ?_
  refine lv_aload_n hx hb d_L_run_2 rfl (lv_at hl 0 rfl) ?_
  refine lv_iload_n hx hb d_L_run_3 rfl (lv_at hl 1 rfl) ?_
  have hPc := hP.sub (ws' := [(x, .inr (0, [.ref g, .ref an, .ref tr, .ref w]))]) [0] rfl
  have hDc := hD.sub (ws' := [(x, .inr (0, [.ref g, .ref an, .ref tr, .ref w]))]) [0] (by decide) rfl
  have hKc := hK.sub (tys' := []) [] rfl
  have hFc := va_free (wc := [(x, .inr (0, [.ref g, .ref an, .ref tr, .ref w]))]) hD hS hA [0] rfl
  refine vq_catch (E := "java/lang/IllegalArgumentException") (name := "java/lang/IllegalArgumentException") (vq_runT (As := [.int a]) (rest := [.int 0, .ref out]) ⟨hx, hb, hml, hown, hts⟩ (t_V_runL l htr dC dI x a g an tr w s.heap.size h0) (vq_cV WSk hts 1 rfl rfl ⟨by decide, by decide⟩ k_186 k_143 k_336 k_337 k_338 (by decide +kernel)) ⟨vq_blind, va_recv hK hP (ci := 0) (q0 := 0) rfl rfl, vq_here hst hS hN hPc hKc hDc⟩ rfl rfl hl.1 rfl (lv_room (Nat.le_of_ble_eq_true rfl)) d_L_run_4 ⟨by decide, by decide⟩) hS hFc hown [] ⟨0, 9, 12, 13⟩ [⟨0, 9, 15, 15⟩] htab (by intro z hz; cases hz) (by decide) (by decide) (hts _ k_293) (hts _ k_294) (fun q9 H1 locs hz1 hk1 hS => ?_)
  obtain ⟨hP, hD⟩ := va_join (wr := []) (w1 := []) hP hD [0] [] rfl rfl (by decide) (by decide) hk1 hFc vq_P0 vq_D0
  have hK := hK.sub (tys' := []) [] rfl
  generalize H1 = H at hP hS ⊢
  have hP : va_P (dC, dI) CL [] H := hP
  have hD : va_D A [] := hD
  have hK : va_K (dC, dI) CL [] s := hK
  refine W.eq (g2 := F0 m 12 ls [.ref q9]) rfl ?_
  refine W.widen (k := 1) (n := 6) (by decide) (by decide) ?_
  refine lv_astore_n (lv' := [(3, .ref q9), (0, .ref x), (1, .int a), (2, .ref out)]) hx hb d_L_run_12 rfl hl (by decide) rfl (fun ls hl => ?_)
  refine lv_iconst (v := 1) hx hb d_L_run_13 (by decide) ?_
  have hP9 := hP.sub (ws' := []) [] rfl
  have hD9 := hD.sub (ws' := []) [] (by decide) rfl
  have hK9 := hK.sub (tys' := []) [] rfl
  refine W.widen (k := 1) (n := 6) (by decide) (by decide) ?_
  exact W.iret (v := 1) hx hb hr (fun t ht hW => ⟨⟨1, (), rfl, rfl, by rw [ht]; exact hP9, va_K.moved hW.alike hK9, hD9⟩, hS.F ht⟩) hS.2.2 d_L_run_14

set_option maxHeartbeats 4000000 in
set_option maxRecDepth 100000 in
theorem w_runG (l : Launch) (htr : l.stackTraces = false) (dC : Nat → ClassId) (dI : Nat → Nat → Nat) (x : Nat) (a : Int32) (out : Nat) (g : Nat) (an : Nat) (tr : Nat) (w : Nat) (sz : Nat) (h0 : ¬ a < 0) (h4 : ¬ a ≤ 500) : Met l y_L_run WS ({ frames := 7, cells := 1, slots := 6, locals := 103 }) (va_Pc [.ref x, .int a, .ref out] (vq_Pre (dC, dI) CL sz [(x, .inr (0, [.ref g, .ref an, .ref tr, .ref w]))] [])) (va_Qi (fun (r : Int32) (_ : Unit) => r = 1) (fun _ t => vq_Post (dC, dI) CL (va_A [(x, .inr (0, [.ref g, .ref an, .ref tr, .ref w]))] sz) [] [] t) (va_A [(x, .inr (0, [.ref g, .ref an, .ref tr, .ref w]))] sz)) 1 6 (va_A [(x, .inr (0, [.ref g, .ref an, .ref tr, .ref w]))] sz) := by
  refine vq_ofW (cc := method_13_code) (maxL := 4) (ret := (Option.some Jvm.ClassFile.FieldType.int)) (by decide) (vq_hisH k_335) ?_
  intro p e s m args below meth c s₁ B hml hv
  obtain ⟨rfl, hst, hsz, hP, hK, hD0⟩ := hv
  have hx := B.exec
  have hb := B.bytes
  have hr := B.returns
  have hts := atoms_spec (ws := WS) B.pre
  have hown : s.vm.findClass R_L = some m.cls := findClass_of_methodNamed B.named
  have hlocks := B.notSynchronized
  have htab := vq_hasH B (hts _ k_335)
  subst hsz
  have hN := vq_ns hP
  have hD := hD0.self (sz := s.heap.size)
  generalize hAe : va_A [(x, .inr (0, [.ref g, .ref an, .ref tr, .ref w]))] s.heap.size = A at hD hN ⊢
  have hA : ∀ q : Nat, s.heap.size ≤ q → A q := fun q h => by rw [← hAe]; exact Or.inr h
  have hS : va_S A s.heap s.heap [] := va_S.rf
  have hP : va_P (dC, dI) CL [(x, .inr (0, [.ref g, .ref an, .ref tr, .ref w]))] s.heap := hP
  have hD : va_D A [(x, .inr (0, [.ref g, .ref an, .ref tr, .ref w]))] := hD
  have hl := lv_entry ([.ref x, .int a, .ref out]) (n := 4) (Nat.le_of_ble_eq_true rfl)
  rw [lg_entry_eq]
  generalize (lg_sl ([.ref x, .int a, .ref out]) ++ List.replicate (4 - (lg_sl ([.ref x, .int a, .ref out])).length) Slot.unset).toArray = ls at hl ⊢
  have hl : lv_has ls 4 [(0, .ref x), (1, .int a), (2, .ref out)] := hl
  refine lv_aload_n hx hb d_L_run_0 rfl (lv_at hl 2 rfl) ?_
  refine lv_iconst (v := 0) hx hb d_L_run_1 (by decide) ?_
  refine lv_aload_n hx hb d_L_run_2 rfl (lv_at hl 0 rfl) ?_
  refine lv_iload_n hx hb d_L_run_3 rfl (lv_at hl 1 rfl) ?_
  have hPc := hP.sub (ws' := [(x, .inr (0, [.ref g, .ref an, .ref tr, .ref w]))]) [0] rfl
  have hDc := hD.sub (ws' := [(x, .inr (0, [.ref g, .ref an, .ref tr, .ref w]))]) [0] (by decide) rfl
  have hKc := hK.sub (tys' := []) [] rfl
  have hFc := va_free (wc := [(x, .inr (0, [.ref g, .ref an, .ref tr, .ref w]))]) hD hS hA [0] rfl
  refine vq_catch (E := "java/lang/IllegalArgumentException") (name := "java/lang/IllegalArgumentException") (vq_runT (As := [.int a]) (rest := [.int 0, .ref out]) ⟨hx, hb, hml, hown, hts⟩ (t_V_runG l htr dC dI x a g an tr w s.heap.size h0 h4) (vq_cV WSk hts 1 rfl rfl ⟨by decide, by decide⟩ k_186 k_143 k_336 k_337 k_338 (by decide +kernel)) ⟨vq_blind, va_recv hK hP (ci := 0) (q0 := 0) rfl rfl, vq_here hst hS hN hPc hKc hDc⟩ rfl rfl hl.1 rfl (lv_room (Nat.le_of_ble_eq_true rfl)) d_L_run_4 ⟨by decide, by decide⟩) hS hFc hown [] ⟨0, 9, 12, 13⟩ [⟨0, 9, 15, 15⟩] htab (by intro z hz; cases hz) (by decide) (by decide) (hts _ k_293) (hts _ k_294) (fun q9 H1 locs hz1 hk1 hS => ?_)
  obtain ⟨hP, hD⟩ := va_join (wr := []) (w1 := []) hP hD [0] [] rfl rfl (by decide) (by decide) hk1 hFc vq_P0 vq_D0
  have hK := hK.sub (tys' := []) [] rfl
  generalize H1 = H at hP hS ⊢
  have hP : va_P (dC, dI) CL [] H := hP
  have hD : va_D A [] := hD
  have hK : va_K (dC, dI) CL [] s := hK
  refine W.eq (g2 := F0 m 12 ls [.ref q9]) rfl ?_
  refine W.widen (k := 1) (n := 6) (by decide) (by decide) ?_
  refine lv_astore_n (lv' := [(3, .ref q9), (0, .ref x), (1, .int a), (2, .ref out)]) hx hb d_L_run_12 rfl hl (by decide) rfl (fun ls hl => ?_)
  refine lv_iconst (v := 1) hx hb d_L_run_13 (by decide) ?_
  have hP9 := hP.sub (ws' := []) [] rfl
  have hD9 := hD.sub (ws' := []) [] (by decide) rfl
  have hK9 := hK.sub (tys' := []) [] rfl
  refine W.widen (k := 1) (n := 6) (by decide) (by decide) ?_
  exact W.iret (v := 1) hx hb hr (fun t ht hW => ⟨⟨1, (), rfl, rfl, by rw [ht]; exact hP9, va_K.moved hW.alike hK9, hD9⟩, hS.F ht⟩) hS.2.2 d_L_run_14

set_option maxHeartbeats 4000000 in
set_option maxRecDepth 100000 in
theorem w_run (l : Launch) (htr : l.stackTraces = false) (dC : Nat → ClassId) (dI : Nat → Nat → Nat) (x : Nat) (a : Int32) (out : Nat) (g : Nat) (an : Nat) (tr : Nat) (w : Nat) (an_sequences : Nat) (w_given : Nat) (w_values : Nat) (w_knownBits : Nat) (w_instructionsDone : Nat) (sz : Nat) (h0 : ¬ a < 0) (h4 : a ≤ 500) : Met l y_L_run WS ({ frames := 7, cells := 1, slots := 6, locals := 103 }) (va_Pc [.ref x, .int a, .ref out] (vq_Pre (dC, dI) CL sz [(x, .inr (0, [.ref g, .ref an, .ref tr, .ref w])), (w, .inr (7, [.ref g, .ref an_sequences, .ref tr, .ref w_given, .ref w_values, .ref w_knownBits, .ref w_instructionsDone, .int 0, .int 0, .int 0]))] [])) (va_Qi (fun (r : Int32) (_ : Unit) => r = 2) (fun _ t => vq_Post (dC, dI) CL (va_A [(x, .inr (0, [.ref g, .ref an, .ref tr, .ref w])), (w, .inr (7, [.ref g, .ref an_sequences, .ref tr, .ref w_given, .ref w_values, .ref w_knownBits, .ref w_instructionsDone, .int 0, .int 0, .int 0]))] sz) [] [] t) (va_A [(x, .inr (0, [.ref g, .ref an, .ref tr, .ref w])), (w, .inr (7, [.ref g, .ref an_sequences, .ref tr, .ref w_given, .ref w_values, .ref w_knownBits, .ref w_instructionsDone, .int 0, .int 0, .int 0]))] sz)) 1 6 (va_A [(x, .inr (0, [.ref g, .ref an, .ref tr, .ref w])), (w, .inr (7, [.ref g, .ref an_sequences, .ref tr, .ref w_given, .ref w_values, .ref w_knownBits, .ref w_instructionsDone, .int 0, .int 0, .int 0]))] sz) := by
  refine vq_ofW (cc := method_13_code) (maxL := 4) (ret := (Option.some Jvm.ClassFile.FieldType.int)) (by decide) (vq_hisH k_335) ?_
  intro p e s m args below meth c s₁ B hml hv
  obtain ⟨rfl, hst, hsz, hP, hK, hD0⟩ := hv
  have hx := B.exec
  have hb := B.bytes
  have hr := B.returns
  have hts := atoms_spec (ws := WS) B.pre
  have hown : s.vm.findClass R_L = some m.cls := findClass_of_methodNamed B.named
  have hlocks := B.notSynchronized
  have htab := vq_hasH B (hts _ k_335)
  subst hsz
  have hN := vq_ns hP
  have hD := hD0.self (sz := s.heap.size)
  generalize hAe : va_A [(x, .inr (0, [.ref g, .ref an, .ref tr, .ref w])), (w, .inr (7, [.ref g, .ref an_sequences, .ref tr, .ref w_given, .ref w_values, .ref w_knownBits, .ref w_instructionsDone, .int 0, .int 0, .int 0]))] s.heap.size = A at hD hN ⊢
  have hA : ∀ q : Nat, s.heap.size ≤ q → A q := fun q h => by rw [← hAe]; exact Or.inr h
  have hS : va_S A s.heap s.heap [] := va_S.rf
  have hP : va_P (dC, dI) CL [(x, .inr (0, [.ref g, .ref an, .ref tr, .ref w])), (w, .inr (7, [.ref g, .ref an_sequences, .ref tr, .ref w_given, .ref w_values, .ref w_knownBits, .ref w_instructionsDone, .int 0, .int 0, .int 0]))] s.heap := hP
  have hD : va_D A [(x, .inr (0, [.ref g, .ref an, .ref tr, .ref w])), (w, .inr (7, [.ref g, .ref an_sequences, .ref tr, .ref w_given, .ref w_values, .ref w_knownBits, .ref w_instructionsDone, .int 0, .int 0, .int 0]))] := hD
  have hl := lv_entry ([.ref x, .int a, .ref out]) (n := 4) (Nat.le_of_ble_eq_true rfl)
  rw [lg_entry_eq]
  generalize (lg_sl ([.ref x, .int a, .ref out]) ++ List.replicate (4 - (lg_sl ([.ref x, .int a, .ref out])).length) Slot.unset).toArray = ls at hl ⊢
  have hl : lv_has ls 4 [(0, .ref x), (1, .int a), (2, .ref out)] := hl
  refine lv_aload_n hx hb d_L_run_0 rfl (lv_at hl 2 rfl) ?_
  refine lv_iconst (v := 0) hx hb d_L_run_1 (by decide) ?_
  refine lv_aload_n hx hb d_L_run_2 rfl (lv_at hl 0 rfl) ?_
  refine lv_iload_n hx hb d_L_run_3 rfl (lv_at hl 1 rfl) ?_
  have hPc := hP.sub (ws' := [(x, .inr (0, [.ref g, .ref an, .ref tr, .ref w])), (w, .inr (7, [.ref g, .ref an_sequences, .ref tr, .ref w_given, .ref w_values, .ref w_knownBits, .ref w_instructionsDone, .int 0, .int 0, .int 0]))]) [0, 1] rfl
  have hDc := hD.sub (ws' := [(x, .inr (0, [.ref g, .ref an, .ref tr, .ref w])), (w, .inr (7, [.ref g, .ref an_sequences, .ref tr, .ref w_given, .ref w_values, .ref w_knownBits, .ref w_instructionsDone, .int 0, .int 0, .int 0]))]) [0, 1] (by decide) rfl
  have hKc := hK.sub (tys' := []) [] rfl
  have hFc := va_free (wc := [(x, .inr (0, [.ref g, .ref an, .ref tr, .ref w])), (w, .inr (7, [.ref g, .ref an_sequences, .ref tr, .ref w_given, .ref w_values, .ref w_knownBits, .ref w_instructionsDone, .int 0, .int 0, .int 0]))]) hD hS hA [0, 1] rfl
  refine vq_catch (E := "java/lang/IllegalStateException") (name := "java/lang/IllegalStateException") (vq_runT (As := [.int a]) (rest := [.int 0, .ref out]) ⟨hx, hb, hml, hown, hts⟩ (t_V_run l htr dC dI x a g an tr w an_sequences w_given w_values w_knownBits w_instructionsDone s.heap.size h0 h4) (vq_cV WSk hts 1 rfl rfl ⟨by decide, by decide⟩ k_186 k_143 k_336 k_337 k_338 (by decide +kernel)) ⟨vq_blind, va_recv hK hP (ci := 0) (q0 := 0) rfl rfl, vq_here hst hS hN hPc hKc hDc⟩ rfl rfl hl.1 rfl (lv_room (Nat.le_of_ble_eq_true rfl)) d_L_run_4 ⟨by decide, by decide⟩) hS hFc hown [⟨0, 9, 12, 13⟩] ⟨0, 9, 15, 15⟩ [] htab (by intro z hz; rw [List.mem_singleton] at hz; subst hz; exact Or.inr ⟨by decide, "java/lang/IllegalArgumentException", hts _ k_293, hst.2⟩) (by decide) (by decide) (hts _ k_309) (hts _ k_310) (fun q9 H1 locs hz1 hk1 hS => ?_)
  obtain ⟨hP, hD⟩ := va_join (wr := []) (w1 := []) hP hD [0, 1] [] rfl rfl (by decide) (by decide) hk1 hFc vq_P0 vq_D0
  have hK := hK.sub (tys' := []) [] rfl
  generalize H1 = H at hP hS ⊢
  have hP : va_P (dC, dI) CL [] H := hP
  have hD : va_D A [] := hD
  have hK : va_K (dC, dI) CL [] s := hK
  refine W.eq (g2 := F0 m 15 ls [.ref q9]) rfl ?_
  refine W.widen (k := 1) (n := 6) (by decide) (by decide) ?_
  refine lv_astore_n (lv' := [(3, .ref q9), (0, .ref x), (1, .int a), (2, .ref out)]) hx hb d_L_run_15 rfl hl (by decide) rfl (fun ls hl => ?_)
  refine lv_iconst (v := 2) hx hb d_L_run_16 (by decide) ?_
  have hP9 := hP.sub (ws' := []) [] rfl
  have hD9 := hD.sub (ws' := []) [] (by decide) rfl
  have hK9 := hK.sub (tys' := []) [] rfl
  refine W.widen (k := 1) (n := 6) (by decide) (by decide) ?_
  exact W.iret (v := 2) hx hb hr (fun t ht hW => ⟨⟨2, (), rfl, rfl, by rw [ht]; exact hP9, va_K.moved hW.alike hK9, hD9⟩, hS.F ht⟩) hS.2.2 d_L_run_17

set_option maxHeartbeats 4000000 in
set_option maxRecDepth 100000 in
theorem w_knows (l : Launch) (htr : l.stackTraces = false) (dC : Nat → ClassId) (dI : Nat → Nat → Nat) (x : Nat) (a : Int32) (b : Int32) (out : Nat) (g : Nat) (an : Nat) (tr : Nat) (w : Nat) (tr_productions : Nat) (tr_tokens : Nat) (tr_parents : Nat) (tr_nodesAt : Nat) (sz : Nat) : Met l y_L_knows WS ({ frames := 8, cells := 1, slots := 6, locals := 126 }) (va_Pc [.ref x, .int a, .int b, .ref out] (vq_Pre (dC, dI) CL sz [(x, .inr (0, [.ref g, .ref an, .ref tr, .ref w])), (tr, .inr (6, [.ref g, .ref tr_productions, .ref tr_tokens, .ref tr_parents, .ref tr_nodesAt, .int 0]))] [])) (va_Qi (fun (r : Int32) (_ : Unit) => r = 1) (fun _ t => vq_Post (dC, dI) CL (va_A [(x, .inr (0, [.ref g, .ref an, .ref tr, .ref w])), (tr, .inr (6, [.ref g, .ref tr_productions, .ref tr_tokens, .ref tr_parents, .ref tr_nodesAt, .int 0]))] sz) [] [] t) (va_A [(x, .inr (0, [.ref g, .ref an, .ref tr, .ref w])), (tr, .inr (6, [.ref g, .ref tr_productions, .ref tr_tokens, .ref tr_parents, .ref tr_nodesAt, .int 0]))] sz)) 1 6 (va_A [(x, .inr (0, [.ref g, .ref an, .ref tr, .ref w])), (tr, .inr (6, [.ref g, .ref tr_productions, .ref tr_tokens, .ref tr_parents, .ref tr_nodesAt, .int 0]))] sz) := by
  refine vq_ofW (cc := method_14_code) (maxL := 5) (ret := (Option.some Jvm.ClassFile.FieldType.int)) (by decide) (vq_hisH k_339) ?_
  intro p e s m args below meth c s₁ B hml hv
  obtain ⟨rfl, hst, hsz, hP, hK, hD0⟩ := hv
  have hx := B.exec
  have hb := B.bytes
  have hr := B.returns
  have hts := atoms_spec (ws := WS) B.pre
  have hown : s.vm.findClass R_L = some m.cls := findClass_of_methodNamed B.named
  have hlocks := B.notSynchronized
  have htab := vq_hasH B (hts _ k_339)
  subst hsz
  have hN := vq_ns hP
  have hD := hD0.self (sz := s.heap.size)
  generalize hAe : va_A [(x, .inr (0, [.ref g, .ref an, .ref tr, .ref w])), (tr, .inr (6, [.ref g, .ref tr_productions, .ref tr_tokens, .ref tr_parents, .ref tr_nodesAt, .int 0]))] s.heap.size = A at hD hN ⊢
  have hA : ∀ q : Nat, s.heap.size ≤ q → A q := fun q h => by rw [← hAe]; exact Or.inr h
  have hS : va_S A s.heap s.heap [] := va_S.rf
  have hP : va_P (dC, dI) CL [(x, .inr (0, [.ref g, .ref an, .ref tr, .ref w])), (tr, .inr (6, [.ref g, .ref tr_productions, .ref tr_tokens, .ref tr_parents, .ref tr_nodesAt, .int 0]))] s.heap := hP
  have hD : va_D A [(x, .inr (0, [.ref g, .ref an, .ref tr, .ref w])), (tr, .inr (6, [.ref g, .ref tr_productions, .ref tr_tokens, .ref tr_parents, .ref tr_nodesAt, .int 0]))] := hD
  have hl := lv_entry ([.ref x, .int a, .int b, .ref out]) (n := 5) (Nat.le_of_ble_eq_true rfl)
  rw [lg_entry_eq]
  generalize (lg_sl ([.ref x, .int a, .int b, .ref out]) ++ List.replicate (5 - (lg_sl ([.ref x, .int a, .int b, .ref out])).length) Slot.unset).toArray = ls at hl ⊢
  have hl : lv_has ls 5 [(0, .ref x), (1, .int a), (2, .int b), (3, .ref out)] := hl
  refine lv_aload_n hx hb d_L_knows_0 rfl (lv_at hl 3 rfl) ?_
  refine lv_iconst (v := 0) hx hb d_L_knows_1 (by decide) ?_
  refine lv_aload_n hx hb d_L_knows_2 rfl (lv_at hl 0 rfl) ?_
  refine lv_iload_n hx hb d_L_knows_3 rfl (lv_at hl 1 rfl) ?_
  refine lv_iload_n hx hb d_L_knows_4 rfl (lv_at hl 2 rfl) ?_
  have hPc := hP.sub (ws' := [(x, .inr (0, [.ref g, .ref an, .ref tr, .ref w])), (tr, .inr (6, [.ref g, .ref tr_productions, .ref tr_tokens, .ref tr_parents, .ref tr_nodesAt, .int 0]))]) [0, 1] rfl
  have hDc := hD.sub (ws' := [(x, .inr (0, [.ref g, .ref an, .ref tr, .ref w])), (tr, .inr (6, [.ref g, .ref tr_productions, .ref tr_tokens, .ref tr_parents, .ref tr_nodesAt, .int 0]))]) [0, 1] (by decide) rfl
  have hKc := hK.sub (tys' := []) [] rfl
  have hFc := va_free (wc := [(x, .inr (0, [.ref g, .ref an, .ref tr, .ref w])), (tr, .inr (6, [.ref g, .ref tr_productions, .ref tr_tokens, .ref tr_parents, .ref tr_nodesAt, .int 0]))]) hD hS hA [0, 1] rfl
  refine vq_catch (E := "java/lang/IndexOutOfBoundsException") (name := "java/lang/IndexOutOfBoundsException") (vq_runT (As := [.int a, .int b]) (rest := [.int 0, .ref out]) ⟨hx, hb, hml, hown, hts⟩ (t_V_knows l htr dC dI x a b g an tr w tr_productions tr_tokens tr_parents tr_nodesAt s.heap.size) (vq_cV WSk hts 2 rfl rfl ⟨by decide, by decide⟩ k_192 k_143 k_340 k_341 k_342 (by decide +kernel)) ⟨vq_blind, va_recv hK hP (ci := 0) (q0 := 0) rfl rfl, vq_here hst hS hN hPc hKc hDc⟩ rfl rfl hl.1 rfl (lv_room (Nat.le_of_ble_eq_true rfl)) d_L_knows_5 ⟨by decide, by decide⟩) hS hFc hown [] ⟨0, 17, 20, 25⟩ [] htab (by intro z hz; cases hz) (by decide) (by decide) (hts _ k_303) (hts _ k_304) (fun q9 H1 locs hz1 hk1 hS => ?_)
  obtain ⟨hP, hD⟩ := va_join (wr := []) (w1 := []) hP hD [0, 1] [] rfl rfl (by decide) (by decide) hk1 hFc vq_P0 vq_D0
  have hK := hK.sub (tys' := []) [] rfl
  generalize H1 = H at hP hS ⊢
  have hP : va_P (dC, dI) CL [] H := hP
  have hD : va_D A [] := hD
  have hK : va_K (dC, dI) CL [] s := hK
  refine W.eq (g2 := F0 m 20 ls [.ref q9]) rfl ?_
  refine W.widen (k := 1) (n := 6) (by decide) (by decide) ?_
  refine lv_astore (lv' := [(4, .ref q9), (0, .ref x), (1, .int a), (2, .int b), (3, .ref out)]) hx hb d_L_knows_20 hl (by decide) rfl (fun ls hl => ?_)
  refine lv_iconst (v := 1) hx hb d_L_knows_22 (by decide) ?_
  have hP9 := hP.sub (ws' := []) [] rfl
  have hD9 := hD.sub (ws' := []) [] (by decide) rfl
  have hK9 := hK.sub (tys' := []) [] rfl
  refine W.widen (k := 1) (n := 6) (by decide) (by decide) ?_
  exact W.iret (v := 1) hx hb hr (fun t ht hW => ⟨⟨1, (), rfl, rfl, by rw [ht]; exact hP9, va_K.moved hW.alike hK9, hD9⟩, hS.F ht⟩) hS.2.2 d_L_knows_23

set_option maxHeartbeats 4000000 in
set_option maxRecDepth 100000 in
theorem w_value (l : Launch) (htr : l.stackTraces = false) (dC : Nat → ClassId) (dI : Nat → Nat → Nat) (x : Nat) (a : Int32) (b : Int32) (out : Nat) (g : Nat) (an : Nat) (tr : Nat) (w : Nat) (tr_productions : Nat) (tr_tokens : Nat) (tr_parents : Nat) (tr_nodesAt : Nat) (sz : Nat) : Met l y_L_value WS ({ frames := 8, cells := 1, slots := 6, locals := 126 }) (va_Pc [.ref x, .int a, .int b, .ref out] (vq_Pre (dC, dI) CL sz [(x, .inr (0, [.ref g, .ref an, .ref tr, .ref w])), (tr, .inr (6, [.ref g, .ref tr_productions, .ref tr_tokens, .ref tr_parents, .ref tr_nodesAt, .int 0]))] [])) (va_Qi (fun (r : Int32) (_ : Unit) => r = 1) (fun _ t => vq_Post (dC, dI) CL (va_A [(x, .inr (0, [.ref g, .ref an, .ref tr, .ref w])), (tr, .inr (6, [.ref g, .ref tr_productions, .ref tr_tokens, .ref tr_parents, .ref tr_nodesAt, .int 0]))] sz) [] [] t) (va_A [(x, .inr (0, [.ref g, .ref an, .ref tr, .ref w])), (tr, .inr (6, [.ref g, .ref tr_productions, .ref tr_tokens, .ref tr_parents, .ref tr_nodesAt, .int 0]))] sz)) 1 6 (va_A [(x, .inr (0, [.ref g, .ref an, .ref tr, .ref w])), (tr, .inr (6, [.ref g, .ref tr_productions, .ref tr_tokens, .ref tr_parents, .ref tr_nodesAt, .int 0]))] sz) := by
  refine vq_ofW (cc := method_15_code) (maxL := 5) (ret := (Option.some Jvm.ClassFile.FieldType.int)) (by decide) (vq_hisH k_343) ?_
  intro p e s m args below meth c s₁ B hml hv
  obtain ⟨rfl, hst, hsz, hP, hK, hD0⟩ := hv
  have hx := B.exec
  have hb := B.bytes
  have hr := B.returns
  have hts := atoms_spec (ws := WS) B.pre
  have hown : s.vm.findClass R_L = some m.cls := findClass_of_methodNamed B.named
  have hlocks := B.notSynchronized
  have htab := vq_hasH B (hts _ k_343)
  subst hsz
  have hN := vq_ns hP
  have hD := hD0.self (sz := s.heap.size)
  generalize hAe : va_A [(x, .inr (0, [.ref g, .ref an, .ref tr, .ref w])), (tr, .inr (6, [.ref g, .ref tr_productions, .ref tr_tokens, .ref tr_parents, .ref tr_nodesAt, .int 0]))] s.heap.size = A at hD hN ⊢
  have hA : ∀ q : Nat, s.heap.size ≤ q → A q := fun q h => by rw [← hAe]; exact Or.inr h
  have hS : va_S A s.heap s.heap [] := va_S.rf
  have hP : va_P (dC, dI) CL [(x, .inr (0, [.ref g, .ref an, .ref tr, .ref w])), (tr, .inr (6, [.ref g, .ref tr_productions, .ref tr_tokens, .ref tr_parents, .ref tr_nodesAt, .int 0]))] s.heap := hP
  have hD : va_D A [(x, .inr (0, [.ref g, .ref an, .ref tr, .ref w])), (tr, .inr (6, [.ref g, .ref tr_productions, .ref tr_tokens, .ref tr_parents, .ref tr_nodesAt, .int 0]))] := hD
  have hl := lv_entry ([.ref x, .int a, .int b, .ref out]) (n := 5) (Nat.le_of_ble_eq_true rfl)
  rw [lg_entry_eq]
  generalize (lg_sl ([.ref x, .int a, .int b, .ref out]) ++ List.replicate (5 - (lg_sl ([.ref x, .int a, .int b, .ref out])).length) Slot.unset).toArray = ls at hl ⊢
  have hl : lv_has ls 5 [(0, .ref x), (1, .int a), (2, .int b), (3, .ref out)] := hl
  refine lv_aload_n hx hb d_L_value_0 rfl (lv_at hl 3 rfl) ?_
  refine lv_iconst (v := 0) hx hb d_L_value_1 (by decide) ?_
  refine lv_aload_n hx hb d_L_value_2 rfl (lv_at hl 0 rfl) ?_
  refine lv_iload_n hx hb d_L_value_3 rfl (lv_at hl 1 rfl) ?_
  refine lv_iload_n hx hb d_L_value_4 rfl (lv_at hl 2 rfl) ?_
  have hPc := hP.sub (ws' := [(x, .inr (0, [.ref g, .ref an, .ref tr, .ref w])), (tr, .inr (6, [.ref g, .ref tr_productions, .ref tr_tokens, .ref tr_parents, .ref tr_nodesAt, .int 0]))]) [0, 1] rfl
  have hDc := hD.sub (ws' := [(x, .inr (0, [.ref g, .ref an, .ref tr, .ref w])), (tr, .inr (6, [.ref g, .ref tr_productions, .ref tr_tokens, .ref tr_parents, .ref tr_nodesAt, .int 0]))]) [0, 1] (by decide) rfl
  have hKc := hK.sub (tys' := []) [] rfl
  have hFc := va_free (wc := [(x, .inr (0, [.ref g, .ref an, .ref tr, .ref w])), (tr, .inr (6, [.ref g, .ref tr_productions, .ref tr_tokens, .ref tr_parents, .ref tr_nodesAt, .int 0]))]) hD hS hA [0, 1] rfl
  refine vq_catch (E := "java/lang/IndexOutOfBoundsException") (name := "java/lang/IndexOutOfBoundsException") (vq_runT (As := [.int a, .int b]) (rest := [.int 0, .ref out]) ⟨hx, hb, hml, hown, hts⟩ (t_V_value l htr dC dI x a b g an tr w tr_productions tr_tokens tr_parents tr_nodesAt s.heap.size) (vq_cV WSk hts 2 rfl rfl ⟨by decide, by decide⟩ k_196 k_143 k_344 k_345 k_346 (by decide +kernel)) ⟨vq_blind, va_recv hK hP (ci := 0) (q0 := 0) rfl rfl, vq_here hst hS hN hPc hKc hDc⟩ rfl rfl hl.1 rfl (lv_room (Nat.le_of_ble_eq_true rfl)) d_L_value_5 ⟨by decide, by decide⟩) hS hFc hown [] ⟨0, 10, 13, 25⟩ [⟨0, 10, 17, 15⟩] htab (by intro z hz; cases hz) (by decide) (by decide) (hts _ k_303) (hts _ k_304) (fun q9 H1 locs hz1 hk1 hS => ?_)
  obtain ⟨hP, hD⟩ := va_join (wr := []) (w1 := []) hP hD [0, 1] [] rfl rfl (by decide) (by decide) hk1 hFc vq_P0 vq_D0
  have hK := hK.sub (tys' := []) [] rfl
  generalize H1 = H at hP hS ⊢
  have hP : va_P (dC, dI) CL [] H := hP
  have hD : va_D A [] := hD
  have hK : va_K (dC, dI) CL [] s := hK
  refine W.eq (g2 := F0 m 13 ls [.ref q9]) rfl ?_
  refine W.widen (k := 1) (n := 6) (by decide) (by decide) ?_
  refine lv_astore (lv' := [(4, .ref q9), (0, .ref x), (1, .int a), (2, .int b), (3, .ref out)]) hx hb d_L_value_13 hl (by decide) rfl (fun ls hl => ?_)
  refine lv_iconst (v := 1) hx hb d_L_value_15 (by decide) ?_
  have hP9 := hP.sub (ws' := []) [] rfl
  have hD9 := hD.sub (ws' := []) [] (by decide) rfl
  have hK9 := hK.sub (tys' := []) [] rfl
  refine W.widen (k := 1) (n := 6) (by decide) (by decide) ?_
  exact W.iret (v := 1) hx hb hr (fun t ht hW => ⟨⟨1, (), rfl, rfl, by rw [ht]; exact hP9, va_K.moved hW.alike hK9, hD9⟩, hS.F ht⟩) hS.2.2 d_L_value_16

