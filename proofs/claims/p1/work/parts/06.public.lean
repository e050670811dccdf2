set_option maxHeartbeats 4000000 in
set_option maxRecDepth 100000 in
theorem c_V_symbol (l : Launch) (htr : l.stackTraces = false) (dC : Nat → ClassId) (dI : Nat → Nat → Nat) (x : Nat) (a : Int32) (inh : Int32) (g : Nat) (an : Nat) (tr : Nat) (w : Nat) (g_attributeCounts : Nat) (g_inheritedBits : Nat) (g_symbolsAt : Nat) (g_lastPositions : Nat) (g_presentBits : Nat) (g_toDefineBits : Nat) (g_ruledBits : Nat) (g_forms : Nat) (g_firsts : Nat) (g_seconds : Nat) (g_usedBits : Nat) (an_leads : Nat) (an_ranking : Nat) (an_sequences : Nat) (w_given : Nat) (w_values : Nat) (w_knownBits : Nat) (w_instructionsDone : Nat) (cac : ClassId) (fac : Nat → Int32) (cib : ClassId) (fib : Nat → Int32) (sz : Nat) (h0 : ¬ a < 0) (h4 : a ≤ 4) : Met l y_V_symbol WS ({ frames := 2, cells := 0, slots := 0, locals := 44 }) (va_Pc [.ref x, .int a, .int inh] (vq_Pre (dC, dI) CL sz [(x, .inr (0, [.ref g, .ref an, .ref tr, .ref w])), (g, .inr (1, [.ref g_attributeCounts, .ref g_inheritedBits, .int 0, .ref g_symbolsAt, .ref g_lastPositions, .ref g_presentBits, .ref g_toDefineBits, .int 0, .ref g_ruledBits, .ref g_forms, .ref g_firsts, .ref g_seconds, .ref g_usedBits])), (an, .inr (2, [.ref g, .ref an_leads, .ref an_ranking, .ref an_sequences, .int 0, .int 0, .int (-1), .int (-1)])), (w, .inr (7, [.ref g, .ref an_sequences, .ref tr, .ref w_given, .ref w_values, .ref w_knownBits, .ref w_instructionsDone, .int 0, .int 0, .int 0])), (g_attributeCounts, .inl (cac, 6, .inl fac)), (g_inheritedBits, .inl (cib, 6, .inl fib))] [(cac, .int), (cib, .int)])) (va_Qi (fun (r : Int32) (_ : Unit) => r = 0) (fun _ t => vq_Post (dC, dI) CL (va_A [(x, .inr (0, [.ref g, .ref an, .ref tr, .ref w])), (g, .inr (1, [.ref g_attributeCounts, .ref g_inheritedBits, .int 0, .ref g_symbolsAt, .ref g_lastPositions, .ref g_presentBits, .ref g_toDefineBits, .int 0, .ref g_ruledBits, .ref g_forms, .ref g_firsts, .ref g_seconds, .ref g_usedBits])), (an, .inr (2, [.ref g, .ref an_leads, .ref an_ranking, .ref an_sequences, .int 0, .int 0, .int (-1), .int (-1)])), (w, .inr (7, [.ref g, .ref an_sequences, .ref tr, .ref w_given, .ref w_values, .ref w_knownBits, .ref w_instructionsDone, .int 0, .int 0, .int 0])), (g_attributeCounts, .inl (cac, 6, .inl fac)), (g_inheritedBits, .inl (cib, 6, .inl fib))] sz) [] [] t) (va_A [(x, .inr (0, [.ref g, .ref an, .ref tr, .ref w])), (g, .inr (1, [.ref g_attributeCounts, .ref g_inheritedBits, .int 0, .ref g_symbolsAt, .ref g_lastPositions, .ref g_presentBits, .ref g_toDefineBits, .int 0, .ref g_ruledBits, .ref g_forms, .ref g_firsts, .ref g_seconds, .ref g_usedBits])), (an, .inr (2, [.ref g, .ref an_leads, .ref an_ranking, .ref an_sequences, .int 0, .int 0, .int (-1), .int (-1)])), (w, .inr (7, [.ref g, .ref an_sequences, .ref tr, .ref w_given, .ref w_values, .ref w_knownBits, .ref w_instructionsDone, .int 0, .int 0, .int 0])), (g_attributeCounts, .inl (cac, 6, .inl fac)), (g_inheritedBits, .inl (cib, 6, .inl fib))] sz)) 0 0 (va_A [(x, .inr (0, [.ref g, .ref an, .ref tr, .ref w])), (g, .inr (1, [.ref g_attributeCounts, .ref g_inheritedBits, .int 0, .ref g_symbolsAt, .ref g_lastPositions, .ref g_presentBits, .ref g_toDefineBits, .int 0, .ref g_ruledBits, .ref g_forms, .ref g_firsts, .ref g_seconds, .ref g_usedBits])), (an, .inr (2, [.ref g, .ref an_leads, .ref an_ranking, .ref an_sequences, .int 0, .int 0, .int (-1), .int (-1)])), (w, .inr (7, [.ref g, .ref an_sequences, .ref tr, .ref w_given, .ref w_values, .ref w_knownBits, .ref w_instructionsDone, .int 0, .int 0, .int 0])), (g_attributeCounts, .inl (cac, 6, .inl fac)), (g_inheritedBits, .inl (cib, 6, .inl fib))] sz) := by
  refine vq_ofW (cc := prog_1_method_2_code) (maxL := 3) (ret := (Option.some Jvm.ClassFile.FieldType.int)) (by decide) (vq_his k_141) ?_
  intro p e s m args below meth c s₁ B hml hv
  obtain ⟨rfl, hst, hsz, hP, hK, hD0⟩ := hv
  have hx := B.exec
  have hb := B.bytes
  have hr := B.returns
  have hts := atoms_spec (ws := WS) B.pre
  have hown : s.vm.findClass R_V = some m.cls := findClass_of_methodNamed B.named
  have hlocks := B.notSynchronized
  have hno := vq_noH B (hts _ k_141)
  subst hsz
  have hN := vq_ns hP
  have hD := hD0.self (sz := s.heap.size)
  generalize hAe : va_A [(x, .inr (0, [.ref g, .ref an, .ref tr, .ref w])), (g, .inr (1, [.ref g_attributeCounts, .ref g_inheritedBits, .int 0, .ref g_symbolsAt, .ref g_lastPositions, .ref g_presentBits, .ref g_toDefineBits, .int 0, .ref g_ruledBits, .ref g_forms, .ref g_firsts, .ref g_seconds, .ref g_usedBits])), (an, .inr (2, [.ref g, .ref an_leads, .ref an_ranking, .ref an_sequences, .int 0, .int 0, .int (-1), .int (-1)])), (w, .inr (7, [.ref g, .ref an_sequences, .ref tr, .ref w_given, .ref w_values, .ref w_knownBits, .ref w_instructionsDone, .int 0, .int 0, .int 0])), (g_attributeCounts, .inl (cac, 6, .inl fac)), (g_inheritedBits, .inl (cib, 6, .inl fib))] s.heap.size = A at hD hN ⊢
  have hA : ∀ q : Nat, s.heap.size ≤ q → A q := fun q h => by rw [← hAe]; exact Or.inr h
  have hS : va_S A s.heap s.heap [] := va_S.rf
  have hP : va_P (dC, dI) CL [(x, .inr (0, [.ref g, .ref an, .ref tr, .ref w])), (g, .inr (1, [.ref g_attributeCounts, .ref g_inheritedBits, .int 0, .ref g_symbolsAt, .ref g_lastPositions, .ref g_presentBits, .ref g_toDefineBits, .int 0, .ref g_ruledBits, .ref g_forms, .ref g_firsts, .ref g_seconds, .ref g_usedBits])), (an, .inr (2, [.ref g, .ref an_leads, .ref an_ranking, .ref an_sequences, .int 0, .int 0, .int (-1), .int (-1)])), (w, .inr (7, [.ref g, .ref an_sequences, .ref tr, .ref w_given, .ref w_values, .ref w_knownBits, .ref w_instructionsDone, .int 0, .int 0, .int 0])), (g_attributeCounts, .inl (cac, 6, .inl fac)), (g_inheritedBits, .inl (cib, 6, .inl fib))] s.heap := hP
  have hD : va_D A [(x, .inr (0, [.ref g, .ref an, .ref tr, .ref w])), (g, .inr (1, [.ref g_attributeCounts, .ref g_inheritedBits, .int 0, .ref g_symbolsAt, .ref g_lastPositions, .ref g_presentBits, .ref g_toDefineBits, .int 0, .ref g_ruledBits, .ref g_forms, .ref g_firsts, .ref g_seconds, .ref g_usedBits])), (an, .inr (2, [.ref g, .ref an_leads, .ref an_ranking, .ref an_sequences, .int 0, .int 0, .int (-1), .int (-1)])), (w, .inr (7, [.ref g, .ref an_sequences, .ref tr, .ref w_given, .ref w_values, .ref w_knownBits, .ref w_instructionsDone, .int 0, .int 0, .int 0])), (g_attributeCounts, .inl (cac, 6, .inl fac)), (g_inheritedBits, .inl (cib, 6, .inl fib))] := hD
  have hl := lv_entry ([.ref x, .int a, .int inh]) (n := 3) (Nat.le_of_ble_eq_true rfl)
  rw [lg_entry_eq]
  generalize (lg_sl ([.ref x, .int a, .int inh]) ++ List.replicate (3 - (lg_sl ([.ref x, .int a, .int inh])).length) Slot.unset).toArray = ls at hl ⊢
  have hl : lv_has ls 3 [(0, .ref x), (1, .int a), (2, .int inh)] := hl
  refine lv_iload_n hx hb d_V_symbol_0 rfl (lv_at hl 1 rfl) ?_
  refine lv_if_lt (tgt := 9) hx hb d_V_symbol_1 (by decide) (fun h9 => absurd h9 (h0)) (fun _ => ?_)
  refine lv_iload_n hx hb d_V_symbol_4 rfl (lv_at hl 1 rfl) ?_
  refine lv_iconst (v := 4) hx hb d_V_symbol_5 (by decide) ?_
  refine lv_icmp_le (tgt := 19) hx hb d_V_symbol_6 (by decide) (fun _ => ?_) (fun h9 => absurd (h4) h9)
  refine lv_aload_n hx hb d_V_symbol_19 rfl (lv_at hl 0 rfl) ?_
  refine va_get (D := (dC, dI)) (ci := 0) (v := .ref g) (C := R_V) (T := F_V) (N := 4) hx hb hts u_V hown hK hP 0 rfl rfl 0 (by decide) (hts _ k_81) (fun _ h9 => h9) rfl d_V_symbol_20 ?_
  refine va_getN (D := (dC, dI)) (ci := 1) (v := .int 0) (C := R_G) (T := F_G) (N := 13) hx hb hts u_G hown hK hP 1 rfl rfl 2 (by decide) (hts _ k_142) (fun _ h9 => h9) rfl d_V_symbol_23 ?_
  refine lv_bipush (v := 6) hx hb d_V_symbol_26 (by decide) ?_
  refine lv_icmp_ne (tgt := 41) hx hb d_V_symbol_28 (by decide) (fun _ => ?_) (fun h9 => absurd h9 (by decide))
  refine lv_aload_n hx hb d_V_symbol_41 rfl (lv_at hl 0 rfl) ?_
  have hPc := hP.sub (ws' := [(x, .inr (0, [.ref g, .ref an, .ref tr, .ref w])), (an, .inr (2, [.ref g, .ref an_leads, .ref an_ranking, .ref an_sequences, .int 0, .int 0, .int (-1), .int (-1)])), (w, .inr (7, [.ref g, .ref an_sequences, .ref tr, .ref w_given, .ref w_values, .ref w_knownBits, .ref w_instructionsDone, .int 0, .int 0, .int 0]))]) [0, 2, 3] rfl
  have hDc := hD.sub (ws' := [(x, .inr (0, [.ref g, .ref an, .ref tr, .ref w])), (an, .inr (2, [.ref g, .ref an_leads, .ref an_ranking, .ref an_sequences, .int 0, .int 0, .int (-1), .int (-1)])), (w, .inr (7, [.ref g, .ref an_sequences, .ref tr, .ref w_given, .ref w_values, .ref w_knownBits, .ref w_instructionsDone, .int 0, .int 0, .int 0]))]) [0, 2, 3] (by decide) rfl
  have hKc := hK.sub (tys' := []) [] rfl
  have hFc := va_free (wc := [(x, .inr (0, [.ref g, .ref an, .ref tr, .ref w])), (an, .inr (2, [.ref g, .ref an_leads, .ref an_ranking, .ref an_sequences, .int 0, .int 0, .int (-1), .int (-1)])), (w, .inr (7, [.ref g, .ref an_sequences, .ref tr, .ref w_given, .ref w_values, .ref w_knownBits, .ref w_instructionsDone, .int 0, .int 0, .int 0]))]) hD hS hA [0, 2, 3] rfl
  refine va_callv (va_runV (As := []) (rest := []) ⟨hx, hb, hml, hown, hts⟩ (c_V_drop l htr dC dI x g an tr w an_leads an_ranking an_sequences w_given w_values w_knownBits w_instructionsDone s.heap.size) (vq_cV WSk hts 0 rfl rfl ⟨by decide, by decide⟩ k_103 k_143 k_144 k_145 k_146 (by decide +kernel)) ⟨vq_blind, va_recv hK hP (ci := 0) (q0 := 0) rfl rfl, vq_here hst hS hN hPc hKc hDc⟩ rfl rfl hl.1 rfl (lv_room (Nat.le_of_ble_eq_true rfl)) d_V_symbol_42 ⟨by decide, by decide⟩) hS (fun q _ h => hFc q h) hFc (fun u t H1 locs ht hvm hw hB hz1 hk1 hS => ?_)
  obtain ⟨hP1, hK1, hD1⟩ := hB
  rw [ht] at hP1
  have hK1 := va_K.moved hvm.symm hK1
  obtain ⟨hP, hD⟩ := va_join (wr := [(g, .inr (1, [.ref g_attributeCounts, .ref g_inheritedBits, .int 0, .ref g_symbolsAt, .ref g_lastPositions, .ref g_presentBits, .ref g_toDefineBits, .int 0, .ref g_ruledBits, .ref g_forms, .ref g_firsts, .ref g_seconds, .ref g_usedBits])), (g_attributeCounts, .inl (cac, 6, .inl fac)), (g_inheritedBits, .inl (cib, 6, .inl fib))]) (w1 := [(x, .inr (0, [.ref g, .ref an, .ref tr, .ref w])), (an, .inr (2, [.ref g, .ref an_leads, .ref an_ranking, .ref an_sequences, .int 0, .int 0, .int (-1), .int (-1)])), (w, .inr (7, [.ref g, .ref an_sequences, .ref tr, .ref w_given, .ref w_values, .ref w_knownBits, .ref w_instructionsDone, .int 0, .int 0, .int 0]))]) hP hD [0, 2, 3] [1, 4, 5] rfl rfl (by decide) (by decide) hk1 hFc hP1 hD1
  have hK := (hK.sub (tys' := [(cac, .int), (cib, .int)]) [0, 1] rfl).app hK1
  generalize H1 = H at hP hS ⊢
  have hP : va_P (dC, dI) CL [(g, .inr (1, [.ref g_attributeCounts, .ref g_inheritedBits, .int 0, .ref g_symbolsAt, .ref g_lastPositions, .ref g_presentBits, .ref g_toDefineBits, .int 0, .ref g_ruledBits, .ref g_forms, .ref g_firsts, .ref g_seconds, .ref g_usedBits])), (g_attributeCounts, .inl (cac, 6, .inl fac)), (g_inheritedBits, .inl (cib, 6, .inl fib)), (x, .inr (0, [.ref g, .ref an, .ref tr, .ref w])), (an, .inr (2, [.ref g, .ref an_leads, .ref an_ranking, .ref an_sequences, .int 0, .int 0, .int (-1), .int (-1)])), (w, .inr (7, [.ref g, .ref an_sequences, .ref tr, .ref w_given, .ref w_values, .ref w_knownBits, .ref w_instructionsDone, .int 0, .int 0, .int 0]))] H := hP
  have hD : va_D A [(g, .inr (1, [.ref g_attributeCounts, .ref g_inheritedBits, .int 0, .ref g_symbolsAt, .ref g_lastPositions, .ref g_presentBits, .ref g_toDefineBits, .int 0, .ref g_ruledBits, .ref g_forms, .ref g_firsts, .ref g_seconds, .ref g_usedBits])), (g_attributeCounts, .inl (cac, 6, .inl fac)), (g_inheritedBits, .inl (cib, 6, .inl fib)), (x, .inr (0, [.ref g, .ref an, .ref tr, .ref w])), (an, .inr (2, [.ref g, .ref an_leads, .ref an_ranking, .ref an_sequences, .int 0, .int 0, .int (-1), .int (-1)])), (w, .inr (7, [.ref g, .ref an_sequences, .ref tr, .ref w_given, .ref w_values, .ref w_knownBits, .ref w_instructionsDone, .int 0, .int 0, .int 0]))] := hD
  have hK : va_K (dC, dI) CL [(cac, .int), (cib, .int)] s := hK
  refine W.widen (k := 0) (n := 0) (by decide) (by decide) ?_
  refine lv_aload_n hx hb d_V_symbol_45 rfl (lv_at hl 0 rfl) ?_
  refine va_get (D := (dC, dI)) (ci := 0) (v := .ref g) (C := R_V) (T := F_V) (N := 4) hx hb hts u_V hown hK hP 3 rfl rfl 0 (by decide) (hts _ k_81) (fun _ h9 => h9) rfl d_V_symbol_46 ?_
  refine lv_iload_n hx hb d_V_symbol_49 rfl (lv_at hl 1 rfl) ?_
  refine lv_iload_n hx hb d_V_symbol_50 rfl (lv_at hl 2 rfl) ?_
  have hPc := hP.sub (ws' := [(g, .inr (1, [.ref g_attributeCounts, .ref g_inheritedBits, .int 0, .ref g_symbolsAt, .ref g_lastPositions, .ref g_presentBits, .ref g_toDefineBits, .int 0, .ref g_ruledBits, .ref g_forms, .ref g_firsts, .ref g_seconds, .ref g_usedBits])), (g_attributeCounts, .inl (cac, 6, .inl fac)), (g_inheritedBits, .inl (cib, 6, .inl fib))]) [0, 1, 2] rfl
  have hDc := hD.sub (ws' := [(g, .inr (1, [.ref g_attributeCounts, .ref g_inheritedBits, .int 0, .ref g_symbolsAt, .ref g_lastPositions, .ref g_presentBits, .ref g_toDefineBits, .int 0, .ref g_ruledBits, .ref g_forms, .ref g_firsts, .ref g_seconds, .ref g_usedBits])), (g_attributeCounts, .inl (cac, 6, .inl fac)), (g_inheritedBits, .inl (cib, 6, .inl fib))]) [0, 1, 2] (by decide) rfl
  have hKc := hK.sub (tys' := [(cac, .int), (cib, .int)]) [0, 1] rfl
  have hFc := va_free (wc := [(g, .inr (1, [.ref g_attributeCounts, .ref g_inheritedBits, .int 0, .ref g_symbolsAt, .ref g_lastPositions, .ref g_presentBits, .ref g_toDefineBits, .int 0, .ref g_ruledBits, .ref g_forms, .ref g_firsts, .ref g_seconds, .ref g_usedBits])), (g_attributeCounts, .inl (cac, 6, .inl fac)), (g_inheritedBits, .inl (cib, 6, .inl fib))]) hD hS hA [0, 1, 2] rfl
  refine va_calli (va_runV (As := [.int a, .int inh]) (rest := []) ⟨hx, hb, hml, hown, hts⟩ (c_G_addS l htr dC dI g a inh g_attributeCounts g_inheritedBits g_symbolsAt g_lastPositions g_presentBits g_toDefineBits g_ruledBits g_forms g_firsts g_seconds g_usedBits cac fac cib fib H.size) (vq_cV WSk hts 2 rfl rfl ⟨by decide, by decide⟩ k_121 k_78 k_147 k_148 k_149 (by decide +kernel)) ⟨vq_blind, va_recv hK hP (ci := 1) (q0 := 0) rfl rfl, vq_here hst hS hN hPc hKc hDc⟩ rfl rfl hl.1 rfl (lv_room (Nat.le_of_ble_eq_true rfl)) d_V_symbol_51 ⟨by decide, by decide⟩) hS (fun q _ h => hFc q h) hFc (fun r2 u t H1 locs ht hvm hw hB hz1 hk1 hS => ?_)
  obtain ⟨hP1, hK1, hD1⟩ := hB
  rw [ht] at hP1
  have hK1 := va_K.moved hvm.symm hK1
  have hw : r2 = 0 := hw
  subst hw
  obtain ⟨hP, hD⟩ := va_join (wr := [(x, .inr (0, [.ref g, .ref an, .ref tr, .ref w])), (an, .inr (2, [.ref g, .ref an_leads, .ref an_ranking, .ref an_sequences, .int 0, .int 0, .int (-1), .int (-1)])), (w, .inr (7, [.ref g, .ref an_sequences, .ref tr, .ref w_given, .ref w_values, .ref w_knownBits, .ref w_instructionsDone, .int 0, .int 0, .int 0]))]) (w1 := []) hP hD [0, 1, 2] [3, 4, 5] rfl rfl (by decide) (by decide) hk1 hFc hP1 hD1
  have hK := (hK.sub (tys' := []) [] rfl).app hK1
  generalize H1 = H at hP hS ⊢
  have hP : va_P (dC, dI) CL [(x, .inr (0, [.ref g, .ref an, .ref tr, .ref w])), (an, .inr (2, [.ref g, .ref an_leads, .ref an_ranking, .ref an_sequences, .int 0, .int 0, .int (-1), .int (-1)])), (w, .inr (7, [.ref g, .ref an_sequences, .ref tr, .ref w_given, .ref w_values, .ref w_knownBits, .ref w_instructionsDone, .int 0, .int 0, .int 0]))] H := hP
  have hD : va_D A [(x, .inr (0, [.ref g, .ref an, .ref tr, .ref w])), (an, .inr (2, [.ref g, .ref an_leads, .ref an_ranking, .ref an_sequences, .int 0, .int 0, .int (-1), .int (-1)])), (w, .inr (7, [.ref g, .ref an_sequences, .ref tr, .ref w_given, .ref w_values, .ref w_knownBits, .ref w_instructionsDone, .int 0, .int 0, .int 0]))] := hD
  have hK : va_K (dC, dI) CL [] s := hK
  refine W.widen (k := 0) (n := 0) (by decide) (by decide) ?_
  have hP9 := hP.sub (ws' := []) [] rfl
  have hD9 := hD.sub (ws' := []) [] (by decide) rfl
  have hK9 := hK.sub (tys' := []) [] rfl
  refine W.widen (k := 0) (n := 0) (by decide) (by decide) ?_
  exact W.iret (v := 0) hx hb hr (fun t ht hW => ⟨⟨0, (), rfl, rfl, by rw [ht]; exact hP9, va_K.moved hW.alike hK9, hD9⟩, hS.F ht⟩) hS.2.2 d_V_symbol_54

set_option maxHeartbeats 4000000 in
set_option maxRecDepth 100000 in
theorem t_V_symbolL (l : Launch) (htr : l.stackTraces = false) (dC : Nat → ClassId) (dI : Nat → Nat → Nat) (x : Nat) (a : Int32) (inh : Int32) (g : Nat) (an : Nat) (tr : Nat) (w : Nat) (sz : Nat) (h0 : a < 0) : vq_T l y_V_symbol WS ({ frames := 6, cells := 1, slots := 6, locals := 82 }) (va_Pc [.ref x, .int a, .int inh] (vq_Pre (dC, dI) CL sz [(x, .inr (0, [.ref g, .ref an, .ref tr, .ref w]))] [])) "java/lang/IllegalArgumentException" (va_A [(x, .inr (0, [.ref g, .ref an, .ref tr, .ref w]))] sz) 1 6 := by
  refine vq_ofT (cc := prog_1_method_2_code) (maxL := 3) (ret := (Option.some Jvm.ClassFile.FieldType.int)) (by decide) (vq_his k_141) ?_
  intro p e s m args below meth c s₁ B hml hv
  obtain ⟨rfl, hst, hsz, hP, hK, hD0⟩ := hv
  have hx := B.exec
  have hb := B.bytes
  have hr := B.returns
  have hts := atoms_spec (ws := WS) B.pre
  have hown : s.vm.findClass R_V = some m.cls := findClass_of_methodNamed B.named
  have hlocks := B.notSynchronized
  have hno := vq_noH B (hts _ k_141)
  subst hsz
  have hN := vq_ns hP
  have hD := hD0.self (sz := s.heap.size)
  generalize hAe : va_A [(x, .inr (0, [.ref g, .ref an, .ref tr, .ref w]))] s.heap.size = A at hD hN ⊢
  have hA : ∀ q : Nat, s.heap.size ≤ q → A q := fun q h => by rw [← hAe]; exact Or.inr h
  have hS : va_S A s.heap s.heap [] := va_S.rf
  have hP : va_P (dC, dI) CL [(x, .inr (0, [.ref g, .ref an, .ref tr, .ref w]))] s.heap := hP
  have hD : va_D A [(x, .inr (0, [.ref g, .ref an, .ref tr, .ref w]))] := hD
  have hl := lv_entry ([.ref x, .int a, .int inh]) (n := 3) (Nat.le_of_ble_eq_true rfl)
  rw [lg_entry_eq]
  generalize (lg_sl ([.ref x, .int a, .int inh]) ++ List.replicate (3 - (lg_sl ([.ref x, .int a, .int inh])).length) Slot.unset).toArray = ls at hl ⊢
  have hl : lv_has ls 3 [(0, .ref x), (1, .int a), (2, .int inh)] := hl
  refine lv_iload_n hx hb d_V_symbol_0 rfl (lv_at hl 1 rfl) ?_
  refine lv_if_lt (tgt := 9) hx hb d_V_symbol_1 (by decide) (fun _ => ?_) (fun h9 => absurd (h0) h9)
  exact vq_throw (names := up_names) hx hb htr hown (by decide +kernel) (by decide +kernel) (at_V_IllegalArgumentException hts hst) (hts _ k_151) (hts _ k_152) (hts _ k_153) hS hA hN hno hlocks (by decide) (hl.1.trans hml.symm) d_V_symbol_9 d_V_symbol_12 d_V_symbol_13 d_V_symbol_15 d_V_symbol_18

set_option maxHeartbeats 4000000 in
set_option maxRecDepth 100000 in
theorem t_V_symbolG (l : Launch) (htr : l.stackTraces = false) (dC : Nat → ClassId) (dI : Nat → Nat → Nat) (x : Nat) (a : Int32) (inh : Int32) (g : Nat) (an : Nat) (tr : Nat) (w : Nat) (sz : Nat) (h0 : ¬ a < 0) (h4 : ¬ a ≤ 4) : vq_T l y_V_symbol WS ({ frames := 6, cells := 1, slots := 6, locals := 82 }) (va_Pc [.ref x, .int a, .int inh] (vq_Pre (dC, dI) CL sz [(x, .inr (0, [.ref g, .ref an, .ref tr, .ref w]))] [])) "java/lang/IllegalArgumentException" (va_A [(x, .inr (0, [.ref g, .ref an, .ref tr, .ref w]))] sz) 1 6 := by
  refine vq_ofT (cc := prog_1_method_2_code) (maxL := 3) (ret := (Option.some Jvm.ClassFile.FieldType.int)) (by decide) (vq_his k_141) ?_
  intro p e s m args below meth c s₁ B hml hv
  obtain ⟨rfl, hst, hsz, hP, hK, hD0⟩ := hv
  have hx := B.exec
  have hb := B.bytes
  have hr := B.returns
  have hts := atoms_spec (ws := WS) B.pre
  have hown : s.vm.findClass R_V = some m.cls := findClass_of_methodNamed B.named
  have hlocks := B.notSynchronized
  have hno := vq_noH B (hts _ k_141)
  subst hsz
  have hN := vq_ns hP
  have hD := hD0.self (sz := s.heap.size)
  generalize hAe : va_A [(x, .inr (0, [.ref g, .ref an, .ref tr, .ref w]))] s.heap.size = A at hD hN ⊢
  have hA : ∀ q : Nat, s.heap.size ≤ q → A q := fun q h => by rw [← hAe]; exact Or.inr h
  have hS : va_S A s.heap s.heap [] := va_S.rf
  have hP : va_P (dC, dI) CL [(x, .inr (0, [.ref g, .ref an, .ref tr, .ref w]))] s.heap := hP
  have hD : va_D A [(x, .inr (0, [.ref g, .ref an, .ref tr, .ref w]))] := hD
  have hl := lv_entry ([.ref x, .int a, .int inh]) (n := 3) (Nat.le_of_ble_eq_true rfl)
  rw [lg_entry_eq]
  generalize (lg_sl ([.ref x, .int a, .int inh]) ++ List.replicate (3 - (lg_sl ([.ref x, .int a, .int inh])).length) Slot.unset).toArray = ls at hl ⊢
  have hl : lv_has ls 3 [(0, .ref x), (1, .int a), (2, .int inh)] := hl
  refine lv_iload_n hx hb d_V_symbol_0 rfl (lv_at hl 1 rfl) ?_
  refine lv_if_lt (tgt := 9) hx hb d_V_symbol_1 (by decide) (fun h9 => absurd h9 (h0)) (fun _ => ?_)
  refine lv_iload_n hx hb d_V_symbol_4 rfl (lv_at hl 1 rfl) ?_
  refine lv_iconst (v := 4) hx hb d_V_symbol_5 (by decide) ?_
  refine lv_icmp_le (tgt := 19) hx hb d_V_symbol_6 (by decide) (fun h9 => absurd h9 (h4)) (fun _ => ?_)
  exact vq_throw (names := up_names) hx hb htr hown (by decide +kernel) (by decide +kernel) (at_V_IllegalArgumentException hts hst) (hts _ k_151) (hts _ k_152) (hts _ k_153) hS hA hN hno hlocks (by decide) (hl.1.trans hml.symm) d_V_symbol_9 d_V_symbol_12 d_V_symbol_13 d_V_symbol_15 d_V_symbol_18

set_option maxHeartbeats 4000000 in
set_option maxRecDepth 100000 in
theorem t_V_production (l : Launch) (htr : l.stackTraces = false) (dC : Nat → ClassId) (dI : Nat → Nat → Nat) (x : Nat) (a : Int32) (b : Int32) (c9 : Int32) (d9 : Int32) (g : Nat) (an : Nat) (tr : Nat) (w : Nat) (g_attributeCounts : Nat) (g_inheritedBits : Nat) (g_symbolsAt : Nat) (g_lastPositions : Nat) (g_presentBits : Nat) (g_toDefineBits : Nat) (g_ruledBits : Nat) (g_forms : Nat) (g_firsts : Nat) (g_seconds : Nat) (g_usedBits : Nat) (sz : Nat) : vq_T l y_V_production WS ({ frames := 6, cells := 1, slots := 6, locals := 82 }) (va_Pc [.ref x, .int a, .int b, .int c9, .int d9] (vq_Pre (dC, dI) CL sz [(x, .inr (0, [.ref g, .ref an, .ref tr, .ref w])), (g, .inr (1, [.ref g_attributeCounts, .ref g_inheritedBits, .int 0, .ref g_symbolsAt, .ref g_lastPositions, .ref g_presentBits, .ref g_toDefineBits, .int 0, .ref g_ruledBits, .ref g_forms, .ref g_firsts, .ref g_seconds, .ref g_usedBits]))] [])) "java/lang/IllegalArgumentException" (va_A [(x, .inr (0, [.ref g, .ref an, .ref tr, .ref w])), (g, .inr (1, [.ref g_attributeCounts, .ref g_inheritedBits, .int 0, .ref g_symbolsAt, .ref g_lastPositions, .ref g_presentBits, .ref g_toDefineBits, .int 0, .ref g_ruledBits, .ref g_forms, .ref g_firsts, .ref g_seconds, .ref g_usedBits]))] sz) 1 6 := by
  refine vq_ofT (cc := prog_1_method_3_code) (maxL := 5) (ret := (Option.some Jvm.ClassFile.FieldType.int)) (by decide) (vq_his k_154) ?_
  intro p e s m args below meth c s₁ B hml hv
  obtain ⟨rfl, hst, hsz, hP, hK, hD0⟩ := hv
  have hx := B.exec
  have hb := B.bytes
  have hr := B.returns
  have hts := atoms_spec (ws := WS) B.pre
  have hown : s.vm.findClass R_V = some m.cls := findClass_of_methodNamed B.named
  have hlocks := B.notSynchronized
  have hno := vq_noH B (hts _ k_154)
  subst hsz
  have hN := vq_ns hP
  have hD := hD0.self (sz := s.heap.size)
  generalize hAe : va_A [(x, .inr (0, [.ref g, .ref an, .ref tr, .ref w])), (g, .inr (1, [.ref g_attributeCounts, .ref g_inheritedBits, .int 0, .ref g_symbolsAt, .ref g_lastPositions, .ref g_presentBits, .ref g_toDefineBits, .int 0, .ref g_ruledBits, .ref g_forms, .ref g_firsts, .ref g_seconds, .ref g_usedBits]))] s.heap.size = A at hD hN ⊢
  have hA : ∀ q : Nat, s.heap.size ≤ q → A q := fun q h => by rw [← hAe]; exact Or.inr h
  have hS : va_S A s.heap s.heap [] := va_S.rf
  have hP : va_P (dC, dI) CL [(x, .inr (0, [.ref g, .ref an, .ref tr, .ref w])), (g, .inr (1, [.ref g_attributeCounts, .ref g_inheritedBits, .int 0, .ref g_symbolsAt, .ref g_lastPositions, .ref g_presentBits, .ref g_toDefineBits, .int 0, .ref g_ruledBits, .ref g_forms, .ref g_firsts, .ref g_seconds, .ref g_usedBits]))] s.heap := hP
  have hD : va_D A [(x, .inr (0, [.ref g, .ref an, .ref tr, .ref w])), (g, .inr (1, [.ref g_attributeCounts, .ref g_inheritedBits, .int 0, .ref g_symbolsAt, .ref g_lastPositions, .ref g_presentBits, .ref g_toDefineBits, .int 0, .ref g_ruledBits, .ref g_forms, .ref g_firsts, .ref g_seconds, .ref g_usedBits]))] := hD
  have hl := lv_entry ([.ref x, .int a, .int b, .int c9, .int d9]) (n := 5) (Nat.le_of_ble_eq_true rfl)
  rw [lg_entry_eq]
  generalize (lg_sl ([.ref x, .int a, .int b, .int c9, .int d9]) ++ List.replicate (5 - (lg_sl ([.ref x, .int a, .int b, .int c9, .int d9])).length) Slot.unset).toArray = ls at hl ⊢
  have hl : lv_has ls 5 [(0, .ref x), (1, .int a), (2, .int b), (3, .int c9), (4, .int d9)] := hl
  refine lv_aload_n hx hb d_V_production_0 rfl (lv_at hl 0 rfl) ?_
  refine va_get (D := (dC, dI)) (ci := 0) (v := .ref g) (C := R_V) (T := F_V) (N := 4) hx hb hts u_V hown hK hP 0 rfl rfl 0 (by decide) (hts _ k_81) (fun _ h9 => h9) rfl d_V_production_1 ?_
  refine lv_iload_n hx hb d_V_production_4 rfl (lv_at hl 1 rfl) ?_
  have hPc := hP.sub (ws' := [(g, .inr (1, [.ref g_attributeCounts, .ref g_inheritedBits, .int 0, .ref g_symbolsAt, .ref g_lastPositions, .ref g_presentBits, .ref g_toDefineBits, .int 0, .ref g_ruledBits, .ref g_forms, .ref g_firsts, .ref g_seconds, .ref g_usedBits]))]) [1] rfl
  have hDc := hD.sub (ws' := [(g, .inr (1, [.ref g_attributeCounts, .ref g_inheritedBits, .int 0, .ref g_symbolsAt, .ref g_lastPositions, .ref g_presentBits, .ref g_toDefineBits, .int 0, .ref g_ruledBits, .ref g_forms, .ref g_firsts, .ref g_seconds, .ref g_usedBits]))]) [1] (by decide) rfl
  have hKc := hK.sub (tys' := []) [] rfl
  have hFc := va_free (wc := [(g, .inr (1, [.ref g_attributeCounts, .ref g_inheritedBits, .int 0, .ref g_symbolsAt, .ref g_lastPositions, .ref g_presentBits, .ref g_toDefineBits, .int 0, .ref g_ruledBits, .ref g_forms, .ref g_firsts, .ref g_seconds, .ref g_usedBits]))]) hD hS hA [1] rfl
  refine va_calli (va_runV (As := [.int a]) (rest := []) ⟨hx, hb, hml, hown, hts⟩ (c_G_hasS l htr dC dI g a g_attributeCounts g_inheritedBits g_symbolsAt g_lastPositions g_presentBits g_toDefineBits g_ruledBits g_forms g_firsts g_seconds g_usedBits s.heap.size) (vq_cV WSk hts 1 rfl rfl ⟨by decide, by decide⟩ k_113 k_78 k_155 k_156 k_157 (by decide +kernel)) ⟨vq_blind, va_recv hK hP (ci := 1) (q0 := 1) rfl rfl, vq_here hst hS hN hPc hKc hDc⟩ rfl rfl hl.1 rfl (lv_room (Nat.le_of_ble_eq_true rfl)) d_V_production_5 ⟨by decide, by decide⟩) hS (fun q _ h => hFc q h) hFc (fun r1 u t H1 locs ht hvm hw hB hz1 hk1 hS => ?_)
  obtain ⟨hP1, hK1, hD1⟩ := hB
  rw [ht] at hP1
  have hK1 := va_K.moved hvm.symm hK1
  have hw : r1 = 0 := hw
  subst hw
  obtain ⟨hP, hD⟩ := va_join (wr := [(x, .inr (0, [.ref g, .ref an, .ref tr, .ref w]))]) (w1 := [(g, .inr (1, [.ref g_attributeCounts, .ref g_inheritedBits, .int 0, .ref g_symbolsAt, .ref g_lastPositions, .ref g_presentBits, .ref g_toDefineBits, .int 0, .ref g_ruledBits, .ref g_forms, .ref g_firsts, .ref g_seconds, .ref g_usedBits]))]) hP hD [1] [0] rfl rfl (by decide) (by decide) hk1 hFc hP1 hD1
  have hK := (hK.sub (tys' := []) [] rfl).app hK1
  generalize H1 = H at hP hS ⊢
  have hP : va_P (dC, dI) CL [(x, .inr (0, [.ref g, .ref an, .ref tr, .ref w])), (g, .inr (1, [.ref g_attributeCounts, .ref g_inheritedBits, .int 0, .ref g_symbolsAt, .ref g_lastPositions, .ref g_presentBits, .ref g_toDefineBits, .int 0, .ref g_ruledBits, .ref g_forms, .ref g_firsts, .ref g_seconds, .ref g_usedBits]))] H := hP
  have hD : va_D A [(x, .inr (0, [.ref g, .ref an, .ref tr, .ref w])), (g, .inr (1, [.ref g_attributeCounts, .ref g_inheritedBits, .int 0, .ref g_symbolsAt, .ref g_lastPositions, .ref g_presentBits, .ref g_toDefineBits, .int 0, .ref g_ruledBits, .ref g_forms, .ref g_firsts, .ref g_seconds, .ref g_usedBits]))] := hD
  have hK : va_K (dC, dI) CL [] s := hK
  refine W.widen (k := 0) (n := 0) (by decide) (by decide) ?_
  refine lv_if_eq (tgt := 25) hx hb d_V_production_8 (by decide) (fun _ => ?_) (fun h9 => absurd (by decide) h9)
  exact vq_throw (names := up_names) hx hb htr hown (by decide +kernel) (by decide +kernel) (at_V_IllegalArgumentException hts hst) (hts _ k_151) (hts _ k_152) (hts _ k_158) hS hA hN hno hlocks (by decide) (hl.1.trans hml.symm) d_V_production_25 d_V_production_28 d_V_production_29 d_V_production_31 d_V_production_34

set_option maxHeartbeats 4000000 in
set_option maxRecDepth 100000 in
theorem t_V_rule (l : Launch) (htr : l.stackTraces = false) (dC : Nat → ClassId) (dI : Nat → Nat → Nat) (x : Nat) (a : Int32) (b : Int32) (c9 : Int32) (d9 : Int32) (e9 : Int32) (g : Nat) (an : Nat) (tr : Nat) (w : Nat) (g_attributeCounts : Nat) (g_inheritedBits : Nat) (g_symbolsAt : Nat) (g_lastPositions : Nat) (g_presentBits : Nat) (g_toDefineBits : Nat) (g_ruledBits : Nat) (g_forms : Nat) (g_firsts : Nat) (g_seconds : Nat) (g_usedBits : Nat) (sz : Nat) : vq_T l y_V_rule WS ({ frames := 6, cells := 1, slots := 6, locals := 82 }) (va_Pc [.ref x, .int a, .int b, .int c9, .int d9, .int e9] (vq_Pre (dC, dI) CL sz [(x, .inr (0, [.ref g, .ref an, .ref tr, .ref w])), (g, .inr (1, [.ref g_attributeCounts, .ref g_inheritedBits, .int 0, .ref g_symbolsAt, .ref g_lastPositions, .ref g_presentBits, .ref g_toDefineBits, .int 0, .ref g_ruledBits, .ref g_forms, .ref g_firsts, .ref g_seconds, .ref g_usedBits]))] [])) "java/lang/IndexOutOfBoundsException" (va_A [(x, .inr (0, [.ref g, .ref an, .ref tr, .ref w])), (g, .inr (1, [.ref g_attributeCounts, .ref g_inheritedBits, .int 0, .ref g_symbolsAt, .ref g_lastPositions, .ref g_presentBits, .ref g_toDefineBits, .int 0, .ref g_ruledBits, .ref g_forms, .ref g_firsts, .ref g_seconds, .ref g_usedBits]))] sz) 1 6 := by
  refine vq_ofT (cc := prog_1_method_4_code) (maxL := 6) (ret := (Option.none : Option Jvm.ClassFile.FieldType)) (by decide) (vq_his k_159) ?_
  intro p e s m args below meth c s₁ B hml hv
  obtain ⟨rfl, hst, hsz, hP, hK, hD0⟩ := hv
  have hx := B.exec
  have hb := B.bytes
  have hr := B.returns
  have hts := atoms_spec (ws := WS) B.pre
  have hown : s.vm.findClass R_V = some m.cls := findClass_of_methodNamed B.named
  have hlocks := B.notSynchronized
  have hno := vq_noH B (hts _ k_159)
  subst hsz
  have hN := vq_ns hP
  have hD := hD0.self (sz := s.heap.size)
  generalize hAe : va_A [(x, .inr (0, [.ref g, .ref an, .ref tr, .ref w])), (g, .inr (1, [.ref g_attributeCounts, .ref g_inheritedBits, .int 0, .ref g_symbolsAt, .ref g_lastPositions, .ref g_presentBits, .ref g_toDefineBits, .int 0, .ref g_ruledBits, .ref g_forms, .ref g_firsts, .ref g_seconds, .ref g_usedBits]))] s.heap.size = A at hD hN ⊢
  have hA : ∀ q : Nat, s.heap.size ≤ q → A q := fun q h => by rw [← hAe]; exact Or.inr h
  have hS : va_S A s.heap s.heap [] := va_S.rf
  have hP : va_P (dC, dI) CL [(x, .inr (0, [.ref g, .ref an, .ref tr, .ref w])), (g, .inr (1, [.ref g_attributeCounts, .ref g_inheritedBits, .int 0, .ref g_symbolsAt, .ref g_lastPositions, .ref g_presentBits, .ref g_toDefineBits, .int 0, .ref g_ruledBits, .ref g_forms, .ref g_firsts, .ref g_seconds, .ref g_usedBits]))] s.heap := hP
  have hD : va_D A [(x, .inr (0, [.ref g, .ref an, .ref tr, .ref w])), (g, .inr (1, [.ref g_attributeCounts, .ref g_inheritedBits, .int 0, .ref g_symbolsAt, .ref g_lastPositions, .ref g_presentBits, .ref g_toDefineBits, .int 0, .ref g_ruledBits, .ref g_forms, .ref g_firsts, .ref g_seconds, .ref g_usedBits]))] := hD
  have hl := lv_entry ([.ref x, .int a, .int b, .int c9, .int d9, .int e9]) (n := 6) (Nat.le_of_ble_eq_true rfl)
  rw [lg_entry_eq]
  generalize (lg_sl ([.ref x, .int a, .int b, .int c9, .int d9, .int e9]) ++ List.replicate (6 - (lg_sl ([.ref x, .int a, .int b, .int c9, .int d9, .int e9])).length) Slot.unset).toArray = ls at hl ⊢
  have hl : lv_has ls 6 [(0, .ref x), (1, .int a), (2, .int b), (3, .int c9), (4, .int d9), (5, .int e9)] := hl
  refine lv_aload_n hx hb d_V_rule_0 rfl (lv_at hl 0 rfl) ?_
  refine va_get (D := (dC, dI)) (ci := 0) (v := .ref g) (C := R_V) (T := F_V) (N := 4) hx hb hts u_V hown hK hP 0 rfl rfl 0 (by decide) (hts _ k_81) (fun _ h9 => h9) rfl d_V_rule_1 ?_
  refine lv_iload_n hx hb d_V_rule_4 rfl (lv_at hl 1 rfl) ?_
  have hPc := hP.sub (ws' := [(g, .inr (1, [.ref g_attributeCounts, .ref g_inheritedBits, .int 0, .ref g_symbolsAt, .ref g_lastPositions, .ref g_presentBits, .ref g_toDefineBits, .int 0, .ref g_ruledBits, .ref g_forms, .ref g_firsts, .ref g_seconds, .ref g_usedBits]))]) [1] rfl
  have hDc := hD.sub (ws' := [(g, .inr (1, [.ref g_attributeCounts, .ref g_inheritedBits, .int 0, .ref g_symbolsAt, .ref g_lastPositions, .ref g_presentBits, .ref g_toDefineBits, .int 0, .ref g_ruledBits, .ref g_forms, .ref g_firsts, .ref g_seconds, .ref g_usedBits]))]) [1] (by decide) rfl
  have hKc := hK.sub (tys' := []) [] rfl
  have hFc := va_free (wc := [(g, .inr (1, [.ref g_attributeCounts, .ref g_inheritedBits, .int 0, .ref g_symbolsAt, .ref g_lastPositions, .ref g_presentBits, .ref g_toDefineBits, .int 0, .ref g_ruledBits, .ref g_forms, .ref g_firsts, .ref g_seconds, .ref g_usedBits]))]) hD hS hA [1] rfl
  refine va_calli (va_runV (As := [.int a]) (rest := []) ⟨hx, hb, hml, hown, hts⟩ (c_G_hasP l htr dC dI g a g_attributeCounts g_inheritedBits g_symbolsAt g_lastPositions g_presentBits g_toDefineBits g_ruledBits g_forms g_firsts g_seconds g_usedBits s.heap.size) (vq_cV WSk hts 1 rfl rfl ⟨by decide, by decide⟩ k_115 k_78 k_160 k_161 k_162 (by decide +kernel)) ⟨vq_blind, va_recv hK hP (ci := 1) (q0 := 1) rfl rfl, vq_here hst hS hN hPc hKc hDc⟩ rfl rfl hl.1 rfl (lv_room (Nat.le_of_ble_eq_true rfl)) d_V_rule_5 ⟨by decide, by decide⟩) hS (fun q _ h => hFc q h) hFc (fun r1 u t H1 locs ht hvm hw hB hz1 hk1 hS => ?_)
  obtain ⟨hP1, hK1, hD1⟩ := hB
  rw [ht] at hP1
  have hK1 := va_K.moved hvm.symm hK1
  have hw : r1 = 0 := hw
  subst hw
  obtain ⟨hP, hD⟩ := va_join (wr := [(x, .inr (0, [.ref g, .ref an, .ref tr, .ref w]))]) (w1 := [(g, .inr (1, [.ref g_attributeCounts, .ref g_inheritedBits, .int 0, .ref g_symbolsAt, .ref g_lastPositions, .ref g_presentBits, .ref g_toDefineBits, .int 0, .ref g_ruledBits, .ref g_forms, .ref g_firsts, .ref g_seconds, .ref g_usedBits]))]) hP hD [1] [0] rfl rfl (by decide) (by decide) hk1 hFc hP1 hD1
  have hK := (hK.sub (tys' := []) [] rfl).app hK1
  generalize H1 = H at hP hS ⊢
  have hP : va_P (dC, dI) CL [(x, .inr (0, [.ref g, .ref an, .ref tr, .ref w])), (g, .inr (1, [.ref g_attributeCounts, .ref g_inheritedBits, .int 0, .ref g_symbolsAt, .ref g_lastPositions, .ref g_presentBits, .ref g_toDefineBits, .int 0, .ref g_ruledBits, .ref g_forms, .ref g_firsts, .ref g_seconds, .ref g_usedBits]))] H := hP
  have hD : va_D A [(x, .inr (0, [.ref g, .ref an, .ref tr, .ref w])), (g, .inr (1, [.ref g_attributeCounts, .ref g_inheritedBits, .int 0, .ref g_symbolsAt, .ref g_lastPositions, .ref g_presentBits, .ref g_toDefineBits, .int 0, .ref g_ruledBits, .ref g_forms, .ref g_firsts, .ref g_seconds, .ref g_usedBits]))] := hD
  have hK : va_K (dC, dI) CL [] s := hK
  refine W.widen (k := 0) (n := 0) (by decide) (by decide) ?_
  refine lv_if_ne (tgt := 21) hx hb d_V_rule_8 (by decide) (fun h9 => absurd (by decide) h9) (fun _ => ?_)
  exact vq_throw (names := up_names) hx hb htr hown (by decide +kernel) (by decide +kernel) (at_V_IndexOutOfBoundsException hts hst) (hts _ k_138) (hts _ k_139) (hts _ k_163) hS hA hN hno hlocks (by decide) (hl.1.trans hml.symm) d_V_rule_11 d_V_rule_14 d_V_rule_15 d_V_rule_17 d_V_rule_20

set_option maxHeartbeats 4000000 in
set_option maxRecDepth 100000 in
theorem t_V_analyse (l : Launch) (htr : l.stackTraces = false) (dC : Nat → ClassId) (dI : Nat → Nat → Nat) (x : Nat) (g : Nat) (an : Nat) (tr : Nat) (w : Nat) (g_attributeCounts : Nat) (g_inheritedBits : Nat) (g_symbolsAt : Nat) (g_lastPositions : Nat) (g_presentBits : Nat) (g_toDefineBits : Nat) (g_ruledBits : Nat) (g_forms : Nat) (g_firsts : Nat) (g_seconds : Nat) (g_usedBits : Nat) (an_leads : Nat) (an_ranking : Nat) (an_sequences : Nat) (w_given : Nat) (w_values : Nat) (w_knownBits : Nat) (w_instructionsDone : Nat) (sz : Nat) : vq_T l y_V_analyse WS ({ frames := 6, cells := 1, slots := 6, locals := 82 }) (va_Pc [.ref x] (vq_Pre (dC, dI) CL sz [(x, .inr (0, [.ref g, .ref an, .ref tr, .ref w])), (g, .inr (1, [.ref g_attributeCounts, .ref g_inheritedBits, .int 0, .ref g_symbolsAt, .ref g_lastPositions, .ref g_presentBits, .ref g_toDefineBits, .int 0, .ref g_ruledBits, .ref g_forms, .ref g_firsts, .ref g_seconds, .ref g_usedBits])), (an, .inr (2, [.ref g, .ref an_leads, .ref an_ranking, .ref an_sequences, .int 0, .int 0, .int (-1), .int (-1)])), (w, .inr (7, [.ref g, .ref an_sequences, .ref tr, .ref w_given, .ref w_values, .ref w_knownBits, .ref w_instructionsDone, .int 0, .int 0, .int 0]))] [])) "java/lang/IllegalStateException" (va_A [(x, .inr (0, [.ref g, .ref an, .ref tr, .ref w])), (g, .inr (1, [.ref g_attributeCounts, .ref g_inheritedBits, .int 0, .ref g_symbolsAt, .ref g_lastPositions, .ref g_presentBits, .ref g_toDefineBits, .int 0, .ref g_ruledBits, .ref g_forms, .ref g_firsts, .ref g_seconds, .ref g_usedBits])), (an, .inr (2, [.ref g, .ref an_leads, .ref an_ranking, .ref an_sequences, .int 0, .int 0, .int (-1), .int (-1)])), (w, .inr (7, [.ref g, .ref an_sequences, .ref tr, .ref w_given, .ref w_values, .ref w_knownBits, .ref w_instructionsDone, .int 0, .int 0, .int 0]))] sz) 1 6 := by
  refine vq_ofT (cc := prog_1_method_5_code) (maxL := 1) (ret := (Option.some Jvm.ClassFile.FieldType.int)) (by decide) (vq_his k_164) ?_
  intro p e s m args below meth c s₁ B hml hv
  obtain ⟨rfl, hst, hsz, hP, hK, hD0⟩ := hv
  have hx := B.exec
  have hb := B.bytes
  have hr := B.returns
  have hts := atoms_spec (ws := WS) B.pre
  have hown : s.vm.findClass R_V = some m.cls := findClass_of_methodNamed B.named
  have hlocks := B.notSynchronized
  have hno := vq_noH B (hts _ k_164)
  subst hsz
  have hN := vq_ns hP
  have hD := hD0.self (sz := s.heap.size)
  generalize hAe : va_A [(x, .inr (0, [.ref g, .ref an, .ref tr, .ref w])), (g, .inr (1, [.ref g_attributeCounts, .ref g_inheritedBits, .int 0, .ref g_symbolsAt, .ref g_lastPositions, .ref g_presentBits, .ref g_toDefineBits, .int 0, .ref g_ruledBits, .ref g_forms, .ref g_firsts, .ref g_seconds, .ref g_usedBits])), (an, .inr (2, [.ref g, .ref an_leads, .ref an_ranking, .ref an_sequences, .int 0, .int 0, .int (-1), .int (-1)])), (w, .inr (7, [.ref g, .ref an_sequences, .ref tr, .ref w_given, .ref w_values, .ref w_knownBits, .ref w_instructionsDone, .int 0, .int 0, .int 0]))] s.heap.size = A at hD hN ⊢
  have hA : ∀ q : Nat, s.heap.size ≤ q → A q := fun q h => by rw [← hAe]; exact Or.inr h
  have hS : va_S A s.heap s.heap [] := va_S.rf
  have hP : va_P (dC, dI) CL [(x, .inr (0, [.ref g, .ref an, .ref tr, .ref w])), (g, .inr (1, [.ref g_attributeCounts, .ref g_inheritedBits, .int 0, .ref g_symbolsAt, .ref g_lastPositions, .ref g_presentBits, .ref g_toDefineBits, .int 0, .ref g_ruledBits, .ref g_forms, .ref g_firsts, .ref g_seconds, .ref g_usedBits])), (an, .inr (2, [.ref g, .ref an_leads, .ref an_ranking, .ref an_sequences, .int 0, .int 0, .int (-1), .int (-1)])), (w, .inr (7, [.ref g, .ref an_sequences, .ref tr, .ref w_given, .ref w_values, .ref w_knownBits, .ref w_instructionsDone, .int 0, .int 0, .int 0]))] s.heap := hP
  have hD : va_D A [(x, .inr (0, [.ref g, .ref an, .ref tr, .ref w])), (g, .inr (1, [.ref g_attributeCounts, .ref g_inheritedBits, .int 0, .ref g_symbolsAt, .ref g_lastPositions, .ref g_presentBits, .ref g_toDefineBits, .int 0, .ref g_ruledBits, .ref g_forms, .ref g_firsts, .ref g_seconds, .ref g_usedBits])), (an, .inr (2, [.ref g, .ref an_leads, .ref an_ranking, .ref an_sequences, .int 0, .int 0, .int (-1), .int (-1)])), (w, .inr (7, [.ref g, .ref an_sequences, .ref tr, .ref w_given, .ref w_values, .ref w_knownBits, .ref w_instructionsDone, .int 0, .int 0, .int 0]))] := hD
  have hl := lv_entry ([.ref x]) (n := 1) (Nat.le_of_ble_eq_true rfl)
  rw [lg_entry_eq]
  generalize (lg_sl ([.ref x]) ++ List.replicate (1 - (lg_sl ([.ref x])).length) Slot.unset).toArray = ls at hl ⊢
  have hl : lv_has ls 1 [(0, .ref x)] := hl
  refine lv_aload_n hx hb d_V_analyse_0 rfl (lv_at hl 0 rfl) ?_
  refine va_get (D := (dC, dI)) (ci := 0) (v := .ref w) (C := R_V) (T := F_V) (N := 4) hx hb hts u_V hown hK hP 0 rfl rfl 3 (by decide) (hts _ k_100) (fun _ h9 => h9) rfl d_V_analyse_1 ?_
  have hPc := hP.sub (ws' := [(w, .inr (7, [.ref g, .ref an_sequences, .ref tr, .ref w_given, .ref w_values, .ref w_knownBits, .ref w_instructionsDone, .int 0, .int 0, .int 0]))]) [3] rfl
  have hDc := hD.sub (ws' := [(w, .inr (7, [.ref g, .ref an_sequences, .ref tr, .ref w_given, .ref w_values, .ref w_knownBits, .ref w_instructionsDone, .int 0, .int 0, .int 0]))]) [3] (by decide) rfl
  have hKc := hK.sub (tys' := []) [] rfl
  have hFc := va_free (wc := [(w, .inr (7, [.ref g, .ref an_sequences, .ref tr, .ref w_given, .ref w_values, .ref w_knownBits, .ref w_instructionsDone, .int 0, .int 0, .int 0]))]) hD hS hA [3] rfl
  refine va_callv (va_runV (As := []) (rest := []) ⟨hx, hb, hml, hown, hts⟩ (c_U_end l htr dC dI w g an_sequences tr w_given w_values w_knownBits w_instructionsDone 0 s.heap.size) (vq_cV WSk hts 0 rfl rfl ⟨by decide, by decide⟩ k_101 k_96 k_105 k_106 k_107 (by decide +kernel)) ⟨vq_blind, va_recv hK hP (ci := 7) (q0 := 3) rfl rfl, vq_here hst hS hN hPc hKc hDc⟩ rfl rfl hl.1 rfl (lv_room (Nat.le_of_ble_eq_true rfl)) d_V_analyse_4 ⟨by decide, by decide⟩) hS (fun q _ h => hFc q h) hFc (fun u t H1 locs ht hvm hw hB hz1 hk1 hS => ?_)
  obtain ⟨hP1, hK1, hD1⟩ := hB
  rw [ht] at hP1
  have hK1 := va_K.moved hvm.symm hK1
  obtain ⟨hP, hD⟩ := va_join (wr := [(x, .inr (0, [.ref g, .ref an, .ref tr, .ref w])), (g, .inr (1, [.ref g_attributeCounts, .ref g_inheritedBits, .int 0, .ref g_symbolsAt, .ref g_lastPositions, .ref g_presentBits, .ref g_toDefineBits, .int 0, .ref g_ruledBits, .ref g_forms, .ref g_firsts, .ref g_seconds, .ref g_usedBits])), (an, .inr (2, [.ref g, .ref an_leads, .ref an_ranking, .ref an_sequences, .int 0, .int 0, .int (-1), .int (-1)]))]) (w1 := [(w, .inr (7, [.ref g, .ref an_sequences, .ref tr, .ref w_given, .ref w_values, .ref w_knownBits, .ref w_instructionsDone, .int 0, .int 0, .int 0]))]) hP hD [3] [0, 1, 2] rfl rfl (by decide) (by decide) hk1 hFc hP1 hD1
  have hK := (hK.sub (tys' := []) [] rfl).app hK1
  generalize H1 = H at hP hS ⊢
  have hP : va_P (dC, dI) CL [(x, .inr (0, [.ref g, .ref an, .ref tr, .ref w])), (g, .inr (1, [.ref g_attributeCounts, .ref g_inheritedBits, .int 0, .ref g_symbolsAt, .ref g_lastPositions, .ref g_presentBits, .ref g_toDefineBits, .int 0, .ref g_ruledBits, .ref g_forms, .ref g_firsts, .ref g_seconds, .ref g_usedBits])), (an, .inr (2, [.ref g, .ref an_leads, .ref an_ranking, .ref an_sequences, .int 0, .int 0, .int (-1), .int (-1)])), (w, .inr (7, [.ref g, .ref an_sequences, .ref tr, .ref w_given, .ref w_values, .ref w_knownBits, .ref w_instructionsDone, .int 0, .int 0, .int 0]))] H := hP
  have hD : va_D A [(x, .inr (0, [.ref g, .ref an, .ref tr, .ref w])), (g, .inr (1, [.ref g_attributeCounts, .ref g_inheritedBits, .int 0, .ref g_symbolsAt, .ref g_lastPositions, .ref g_presentBits, .ref g_toDefineBits, .int 0, .ref g_ruledBits, .ref g_forms, .ref g_firsts, .ref g_seconds, .ref g_usedBits])), (an, .inr (2, [.ref g, .ref an_leads, .ref an_ranking, .ref an_sequences, .int 0, .int 0, .int (-1), .int (-1)])), (w, .inr (7, [.ref g, .ref an_sequences, .ref tr, .ref w_given, .ref w_values, .ref w_knownBits, .ref w_instructionsDone, .int 0, .int 0, .int 0]))] := hD
  have hK : va_K (dC, dI) CL [] s := hK
  refine W.widen (k := 0) (n := 0) (by decide) (by decide) ?_
  refine lv_aload_n hx hb d_V_analyse_7 rfl (lv_at hl 0 rfl) ?_
  refine va_get (D := (dC, dI)) (ci := 0) (v := .ref an) (C := R_V) (T := F_V) (N := 4) hx hb hts u_V hown hK hP 0 rfl rfl 1 (by decide) (hts _ k_87) (fun _ h9 => h9) rfl d_V_analyse_8 ?_
  have hPc := hP.sub (ws' := [(an, .inr (2, [.ref g, .ref an_leads, .ref an_ranking, .ref an_sequences, .int 0, .int 0, .int (-1), .int (-1)])), (g, .inr (1, [.ref g_attributeCounts, .ref g_inheritedBits, .int 0, .ref g_symbolsAt, .ref g_lastPositions, .ref g_presentBits, .ref g_toDefineBits, .int 0, .ref g_ruledBits, .ref g_forms, .ref g_firsts, .ref g_seconds, .ref g_usedBits]))]) [2, 1] rfl
  have hDc := hD.sub (ws' := [(an, .inr (2, [.ref g, .ref an_leads, .ref an_ranking, .ref an_sequences, .int 0, .int 0, .int (-1), .int (-1)])), (g, .inr (1, [.ref g_attributeCounts, .ref g_inheritedBits, .int 0, .ref g_symbolsAt, .ref g_lastPositions, .ref g_presentBits, .ref g_toDefineBits, .int 0, .ref g_ruledBits, .ref g_forms, .ref g_firsts, .ref g_seconds, .ref g_usedBits]))]) [2, 1] (by decide) rfl
  have hKc := hK.sub (tys' := []) [] rfl
  have hFc := va_free (wc := [(an, .inr (2, [.ref g, .ref an_leads, .ref an_ranking, .ref an_sequences, .int 0, .int 0, .int (-1), .int (-1)])), (g, .inr (1, [.ref g_attributeCounts, .ref g_inheritedBits, .int 0, .ref g_symbolsAt, .ref g_lastPositions, .ref g_presentBits, .ref g_toDefineBits, .int 0, .ref g_ruledBits, .ref g_forms, .ref g_firsts, .ref g_seconds, .ref g_usedBits]))]) hD hS hA [2, 1] rfl
  refine va_callv (va_runV (As := []) (rest := []) ⟨hx, hb, hml, hown, hts⟩ (c_A_make l htr dC dI an g an_leads an_ranking an_sequences g_attributeCounts g_inheritedBits g_symbolsAt g_lastPositions g_presentBits g_toDefineBits g_ruledBits g_forms g_firsts g_seconds g_usedBits H.size) (vq_cV WSk hts 0 rfl rfl ⟨by decide, by decide⟩ k_127 k_84 k_165 k_166 k_167 (by decide +kernel)) ⟨vq_blind, va_recv hK hP (ci := 2) (q0 := 2) rfl rfl, vq_here hst hS hN hPc hKc hDc⟩ rfl rfl hl.1 rfl (lv_room (Nat.le_of_ble_eq_true rfl)) d_V_analyse_11 ⟨by decide, by decide⟩) hS (fun q _ h => hFc q h) hFc (fun u t H1 locs ht hvm hw hB hz1 hk1 hS => ?_)
  obtain ⟨hP1, hK1, hD1⟩ := hB
  rw [ht] at hP1
  have hK1 := va_K.moved hvm.symm hK1
  obtain ⟨hP, hD⟩ := va_join (wr := [(x, .inr (0, [.ref g, .ref an, .ref tr, .ref w])), (w, .inr (7, [.ref g, .ref an_sequences, .ref tr, .ref w_given, .ref w_values, .ref w_knownBits, .ref w_instructionsDone, .int 0, .int 0, .int 0]))]) (w1 := [(g, .inr (1, [.ref g_attributeCounts, .ref g_inheritedBits, .int 0, .ref g_symbolsAt, .ref g_lastPositions, .ref g_presentBits, .ref g_toDefineBits, .int 0, .ref g_ruledBits, .ref g_forms, .ref g_firsts, .ref g_seconds, .ref g_usedBits])), (an, .inr (2, [.ref g, .ref an_leads, .ref an_ranking, .ref an_sequences, .int 0, .int 0, .int (-1), .int (-1)]))]) hP hD [2, 1] [0, 3] rfl rfl (by decide) (by decide) hk1 hFc hP1 hD1
  have hK := (hK.sub (tys' := []) [] rfl).app hK1
  generalize H1 = H at hP hS ⊢
  have hP : va_P (dC, dI) CL [(x, .inr (0, [.ref g, .ref an, .ref tr, .ref w])), (w, .inr (7, [.ref g, .ref an_sequences, .ref tr, .ref w_given, .ref w_values, .ref w_knownBits, .ref w_instructionsDone, .int 0, .int 0, .int 0])), (g, .inr (1, [.ref g_attributeCounts, .ref g_inheritedBits, .int 0, .ref g_symbolsAt, .ref g_lastPositions, .ref g_presentBits, .ref g_toDefineBits, .int 0, .ref g_ruledBits, .ref g_forms, .ref g_firsts, .ref g_seconds, .ref g_usedBits])), (an, .inr (2, [.ref g, .ref an_leads, .ref an_ranking, .ref an_sequences, .int 0, .int 0, .int (-1), .int (-1)]))] H := hP
  have hD : va_D A [(x, .inr (0, [.ref g, .ref an, .ref tr, .ref w])), (w, .inr (7, [.ref g, .ref an_sequences, .ref tr, .ref w_given, .ref w_values, .ref w_knownBits, .ref w_instructionsDone, .int 0, .int 0, .int 0])), (g, .inr (1, [.ref g_attributeCounts, .ref g_inheritedBits, .int 0, .ref g_symbolsAt, .ref g_lastPositions, .ref g_presentBits, .ref g_toDefineBits, .int 0, .ref g_ruledBits, .ref g_forms, .ref g_firsts, .ref g_seconds, .ref g_usedBits])), (an, .inr (2, [.ref g, .ref an_leads, .ref an_ranking, .ref an_sequences, .int 0, .int 0, .int (-1), .int (-1)]))] := hD
  have hK : va_K (dC, dI) CL [] s := hK
  refine W.widen (k := 0) (n := 0) (by decide) (by decide) ?_
  refine lv_aload_n hx hb d_V_analyse_14 rfl (lv_at hl 0 rfl) ?_
  refine va_get (D := (dC, dI)) (ci := 0) (v := .ref an) (C := R_V) (T := F_V) (N := 4) hx hb hts u_V hown hK hP 0 rfl rfl 1 (by decide) (hts _ k_87) (fun _ h9 => h9) rfl d_V_analyse_15 ?_
  refine va_getN (D := (dC, dI)) (ci := 2) (v := .int 0) (C := R_A) (T := F_A) (N := 8) hx hb hts u_A hown hK hP 3 rfl rfl 5 (by decide) (hts _ k_168) (fun _ h9 => h9) rfl d_V_analyse_18 ?_
  refine lv_iconst (v := 2) hx hb d_V_analyse_21 (by decide) ?_
  refine lv_icmp_eq (tgt := 36) hx hb d_V_analyse_22 (by decide) (fun h9 => absurd h9 (by decide)) (fun _ => ?_)
  refine lv_aload_n hx hb d_V_analyse_25 rfl (lv_at hl 0 rfl) ?_
  refine va_get (D := (dC, dI)) (ci := 0) (v := .ref an) (C := R_V) (T := F_V) (N := 4) hx hb hts u_V hown hK hP 0 rfl rfl 1 (by decide) (hts _ k_87) (fun _ h9 => h9) rfl d_V_analyse_26 ?_
  refine va_getN (D := (dC, dI)) (ci := 2) (v := .int 0) (C := R_A) (T := F_A) (N := 8) hx hb hts u_A hown hK hP 3 rfl rfl 5 (by decide) (hts _ k_168) (fun _ h9 => h9) rfl d_V_analyse_29 ?_
  refine lv_iconst (v := 3) hx hb d_V_analyse_32 (by decide) ?_
  refine lv_icmp_ne (tgt := 46) hx hb d_V_analyse_33 (by decide) (fun _ => ?_) (fun h9 => absurd h9 (by decide))
  refine lv_aload_n hx hb d_V_analyse_46 rfl (lv_at hl 0 rfl) ?_
  refine va_get (D := (dC, dI)) (ci := 0) (v := .ref an) (C := R_V) (T := F_V) (N := 4) hx hb hts u_V hown hK hP 0 rfl rfl 1 (by decide) (hts _ k_87) (fun _ h9 => h9) rfl d_V_analyse_47 ?_
  refine va_getN (D := (dC, dI)) (ci := 2) (v := .int 0) (C := R_A) (T := F_A) (N := 8) hx hb hts u_A hown hK hP 3 rfl rfl 4 (by decide) (hts _ k_104) (fun _ h9 => h9) rfl d_V_analyse_50 ?_
  refine lv_if_ne (tgt := 66) hx hb d_V_analyse_53 (by decide) (fun h9 => absurd (by decide) h9) (fun _ => ?_)
  exact vq_throw (names := up_names) hx hb htr hown (by decide +kernel) (by decide +kernel) (at_V_IllegalStateException hts hst) (hts _ k_110) (hts _ k_111) (hts _ k_169) hS hA hN hno hlocks (by decide) (hl.1.trans hml.symm) d_V_analyse_56 d_V_analyse_59 d_V_analyse_60 d_V_analyse_62 d_V_analyse_65

set_option maxHeartbeats 4000000 in
set_option maxRecDepth 100000 in
theorem t_V_visits (l : Launch) (htr : l.stackTraces = false) (dC : Nat → ClassId) (dI : Nat → Nat → Nat) (x : Nat) (a : Int32) (g : Nat) (an : Nat) (tr : Nat) (w : Nat) (an_leads : Nat) (an_ranking : Nat) (an_sequences : Nat) (sz : Nat) : vq_T l y_V_visits WS ({ frames := 7, cells := 1, slots := 6, locals := 102 }) (va_Pc [.ref x, .int a] (vq_Pre (dC, dI) CL sz [(x, .inr (0, [.ref g, .ref an, .ref tr, .ref w])), (an, .inr (2, [.ref g, .ref an_leads, .ref an_ranking, .ref an_sequences, .int 0, .int 0, .int (-1), .int (-1)]))] [])) "java/lang/IllegalStateException" (va_A [(x, .inr (0, [.ref g, .ref an, .ref tr, .ref w])), (an, .inr (2, [.ref g, .ref an_leads, .ref an_ranking, .ref an_sequences, .int 0, .int 0, .int (-1), .int (-1)]))] sz) 1 6 := by
  refine vq_ofT (cc := prog_1_method_7_code) (maxL := 2) (ret := (Option.some Jvm.ClassFile.FieldType.int)) (by decide) (vq_his k_170) ?_
  intro p e s m args below meth c s₁ B hml hv
  obtain ⟨rfl, hst, hsz, hP, hK, hD0⟩ := hv
  have hx := B.exec
  have hb := B.bytes
  have hr := B.returns
  have hts := atoms_spec (ws := WS) B.pre
  have hown : s.vm.findClass R_V = some m.cls := findClass_of_methodNamed B.named
  have hlocks := B.notSynchronized
  have hno := vq_noH B (hts _ k_170)
  subst hsz
  have hN := vq_ns hP
  have hD := hD0.self (sz := s.heap.size)
  generalize hAe : va_A [(x, .inr (0, [.ref g, .ref an, .ref tr, .ref w])), (an, .inr (2, [.ref g, .ref an_leads, .ref an_ranking, .ref an_sequences, .int 0, .int 0, .int (-1), .int (-1)]))] s.heap.size = A at hD hN ⊢
  have hA : ∀ q : Nat, s.heap.size ≤ q → A q := fun q h => by rw [← hAe]; exact Or.inr h
  have hS : va_S A s.heap s.heap [] := va_S.rf
  have hP : va_P (dC, dI) CL [(x, .inr (0, [.ref g, .ref an, .ref tr, .ref w])), (an, .inr (2, [.ref g, .ref an_leads, .ref an_ranking, .ref an_sequences, .int 0, .int 0, .int (-1), .int (-1)]))] s.heap := hP
  have hD : va_D A [(x, .inr (0, [.ref g, .ref an, .ref tr, .ref w])), (an, .inr (2, [.ref g, .ref an_leads, .ref an_ranking, .ref an_sequences, .int 0, .int 0, .int (-1), .int (-1)]))] := hD
  have hl := lv_entry ([.ref x, .int a]) (n := 2) (Nat.le_of_ble_eq_true rfl)
  rw [lg_entry_eq]
  generalize (lg_sl ([.ref x, .int a]) ++ List.replicate (2 - (lg_sl ([.ref x, .int a])).length) Slot.unset).toArray = ls at hl ⊢
  have hl : lv_has ls 2 [(0, .ref x), (1, .int a)] := hl
  refine lv_aload_n hx hb d_V_visits_0 rfl (lv_at hl 0 rfl) ?_
  have hPc := hP.sub (ws' := [(x, .inr (0, [.ref g, .ref an, .ref tr, .ref w])), (an, .inr (2, [.ref g, .ref an_leads, .ref an_ranking, .ref an_sequences, .int 0, .int 0, .int (-1), .int (-1)]))]) [0, 1] rfl
  have hDc := hD.sub (ws' := [(x, .inr (0, [.ref g, .ref an, .ref tr, .ref w])), (an, .inr (2, [.ref g, .ref an_leads, .ref an_ranking, .ref an_sequences, .int 0, .int 0, .int (-1), .int (-1)]))]) [0, 1] (by decide) rfl
  have hKc := hK.sub (tys' := []) [] rfl
  have hFc := va_free (wc := [(x, .inr (0, [.ref g, .ref an, .ref tr, .ref w])), (an, .inr (2, [.ref g, .ref an_leads, .ref an_ranking, .ref an_sequences, .int 0, .int 0, .int (-1), .int (-1)]))]) hD hS hA [0, 1] rfl
  exact vq_pass (vq_runT (As := []) (rest := []) ⟨hx, hb, hml, hown, hts⟩ (t_V_reqA l htr dC dI x g an tr w an_leads an_ranking an_sequences s.heap.size) (vq_cV WSk hts 0 rfl rfl ⟨by decide, by decide⟩ k_108 k_143 k_171 k_172 k_173 (by decide +kernel)) ⟨vq_blind, va_recv hK hP (ci := 0) (q0 := 0) rfl rfl, vq_here hst hS hN hPc hKc hDc⟩ rfl rfl hl.1 rfl (lv_room (Nat.le_of_ble_eq_true rfl)) d_V_visits_1 ⟨by decide, by decide⟩) hS hFc hno hlocks (by decide) (by decide)

set_option maxHeartbeats 4000000 in
set_option maxRecDepth 100000 in
theorem t_V_rank (l : Launch) (htr : l.stackTraces = false) (dC : Nat → ClassId) (dI : Nat → Nat → Nat) (x : Nat) (a : Int32) (b : Int32) (g : Nat) (an : Nat) (tr : Nat) (w : Nat) (an_leads : Nat) (an_ranking : Nat) (an_sequences : Nat) (sz : Nat) : vq_T l y_V_rank WS ({ frames := 7, cells := 1, slots := 6, locals := 102 }) (va_Pc [.ref x, .int a, .int b] (vq_Pre (dC, dI) CL sz [(x, .inr (0, [.ref g, .ref an, .ref tr, .ref w])), (an, .inr (2, [.ref g, .ref an_leads, .ref an_ranking, .ref an_sequences, .int 0, .int 0, .int (-1), .int (-1)]))] [])) "java/lang/IllegalStateException" (va_A [(x, .inr (0, [.ref g, .ref an, .ref tr, .ref w])), (an, .inr (2, [.ref g, .ref an_leads, .ref an_ranking, .ref an_sequences, .int 0, .int 0, .int (-1), .int (-1)]))] sz) 1 6 := by
  refine vq_ofT (cc := prog_1_method_8_code) (maxL := 3) (ret := (Option.some Jvm.ClassFile.FieldType.int)) (by decide) (vq_his k_174) ?_
  intro p e s m args below meth c s₁ B hml hv
  obtain ⟨rfl, hst, hsz, hP, hK, hD0⟩ := hv
  have hx := B.exec
  have hb := B.bytes
  have hr := B.returns
  have hts := atoms_spec (ws := WS) B.pre
  have hown : s.vm.findClass R_V = some m.cls := findClass_of_methodNamed B.named
  have hlocks := B.notSynchronized
  have hno := vq_noH B (hts _ k_174)
  subst hsz
  have hN := vq_ns hP
  have hD := hD0.self (sz := s.heap.size)
  generalize hAe : va_A [(x, .inr (0, [.ref g, .ref an, .ref tr, .ref w])), (an, .inr (2, [.ref g, .ref an_leads, .ref an_ranking, .ref an_sequences, .int 0, .int 0, .int (-1), .int (-1)]))] s.heap.size = A at hD hN ⊢
  have hA : ∀ q : Nat, s.heap.size ≤ q → A q := fun q h => by rw [← hAe]; exact Or.inr h
  have hS : va_S A s.heap s.heap [] := va_S.rf
  have hP : va_P (dC, dI) CL [(x, .inr (0, [.ref g, .ref an, .ref tr, .ref w])), (an, .inr (2, [.ref g, .ref an_leads, .ref an_ranking, .ref an_sequences, .int 0, .int 0, .int (-1), .int (-1)]))] s.heap := hP
  have hD : va_D A [(x, .inr (0, [.ref g, .ref an, .ref tr, .ref w])), (an, .inr (2, [.ref g, .ref an_leads, .ref an_ranking, .ref an_sequences, .int 0, .int 0, .int (-1), .int (-1)]))] := hD
  have hl := lv_entry ([.ref x, .int a, .int b]) (n := 3) (Nat.le_of_ble_eq_true rfl)
  rw [lg_entry_eq]
  generalize (lg_sl ([.ref x, .int a, .int b]) ++ List.replicate (3 - (lg_sl ([.ref x, .int a, .int b])).length) Slot.unset).toArray = ls at hl ⊢
  have hl : lv_has ls 3 [(0, .ref x), (1, .int a), (2, .int b)] := hl
  refine lv_aload_n hx hb d_V_rank_0 rfl (lv_at hl 0 rfl) ?_
  have hPc := hP.sub (ws' := [(x, .inr (0, [.ref g, .ref an, .ref tr, .ref w])), (an, .inr (2, [.ref g, .ref an_leads, .ref an_ranking, .ref an_sequences, .int 0, .int 0, .int (-1), .int (-1)]))]) [0, 1] rfl
  have hDc := hD.sub (ws' := [(x, .inr (0, [.ref g, .ref an, .ref tr, .ref w])), (an, .inr (2, [.ref g, .ref an_leads, .ref an_ranking, .ref an_sequences, .int 0, .int 0, .int (-1), .int (-1)]))]) [0, 1] (by decide) rfl
  have hKc := hK.sub (tys' := []) [] rfl
  have hFc := va_free (wc := [(x, .inr (0, [.ref g, .ref an, .ref tr, .ref w])), (an, .inr (2, [.ref g, .ref an_leads, .ref an_ranking, .ref an_sequences, .int 0, .int 0, .int (-1), .int (-1)]))]) hD hS hA [0, 1] rfl
  exact vq_pass (vq_runT (As := []) (rest := []) ⟨hx, hb, hml, hown, hts⟩ (t_V_reqA l htr dC dI x g an tr w an_leads an_ranking an_sequences s.heap.size) (vq_cV WSk hts 0 rfl rfl ⟨by decide, by decide⟩ k_108 k_143 k_171 k_172 k_173 (by decide +kernel)) ⟨vq_blind, va_recv hK hP (ci := 0) (q0 := 0) rfl rfl, vq_here hst hS hN hPc hKc hDc⟩ rfl rfl hl.1 rfl (lv_room (Nat.le_of_ble_eq_true rfl)) d_V_rank_1 ⟨by decide, by decide⟩) hS hFc hno hlocks (by decide) (by decide)

set_option maxHeartbeats 4000000 in
set_option maxRecDepth 100000 in
theorem t_V_instruction (l : Launch) (htr : l.stackTraces = false) (dC : Nat → ClassId) (dI : Nat → Nat → Nat) (x : Nat) (a : Int32) (b : Int32) (g : Nat) (an : Nat) (tr : Nat) (w : Nat) (an_leads : Nat) (an_ranking : Nat) (an_sequences : Nat) (sz : Nat) : vq_T l y_V_instruction WS ({ frames := 7, cells := 1, slots := 6, locals := 102 }) (va_Pc [.ref x, .int a, .int b] (vq_Pre (dC, dI) CL sz [(x, .inr (0, [.ref g, .ref an, .ref tr, .ref w])), (an, .inr (2, [.ref g, .ref an_leads, .ref an_ranking, .ref an_sequences, .int 0, .int 0, .int (-1), .int (-1)]))] [])) "java/lang/IllegalStateException" (va_A [(x, .inr (0, [.ref g, .ref an, .ref tr, .ref w])), (an, .inr (2, [.ref g, .ref an_leads, .ref an_ranking, .ref an_sequences, .int 0, .int 0, .int (-1), .int (-1)]))] sz) 1 6 := by
  refine vq_ofT (cc := prog_1_method_9_code) (maxL := 3) (ret := (Option.some Jvm.ClassFile.FieldType.int)) (by decide) (vq_his k_175) ?_
  intro p e s m args below meth c s₁ B hml hv
  obtain ⟨rfl, hst, hsz, hP, hK, hD0⟩ := hv
  have hx := B.exec
  have hb := B.bytes
  have hr := B.returns
  have hts := atoms_spec (ws := WS) B.pre
  have hown : s.vm.findClass R_V = some m.cls := findClass_of_methodNamed B.named
  have hlocks := B.notSynchronized
  have hno := vq_noH B (hts _ k_175)
  subst hsz
  have hN := vq_ns hP
  have hD := hD0.self (sz := s.heap.size)
  generalize hAe : va_A [(x, .inr (0, [.ref g, .ref an, .ref tr, .ref w])), (an, .inr (2, [.ref g, .ref an_leads, .ref an_ranking, .ref an_sequences, .int 0, .int 0, .int (-1), .int (-1)]))] s.heap.size = A at hD hN ⊢
  have hA : ∀ q : Nat, s.heap.size ≤ q → A q := fun q h => by rw [← hAe]; exact Or.inr h
  have hS : va_S A s.heap s.heap [] := va_S.rf
  have hP : va_P (dC, dI) CL [(x, .inr (0, [.ref g, .ref an, .ref tr, .ref w])), (an, .inr (2, [.ref g, .ref an_leads, .ref an_ranking, .ref an_sequences, .int 0, .int 0, .int (-1), .int (-1)]))] s.heap := hP
  have hD : va_D A [(x, .inr (0, [.ref g, .ref an, .ref tr, .ref w])), (an, .inr (2, [.ref g, .ref an_leads, .ref an_ranking, .ref an_sequences, .int 0, .int 0, .int (-1), .int (-1)]))] := hD
  have hl := lv_entry ([.ref x, .int a, .int b]) (n := 3) (Nat.le_of_ble_eq_true rfl)
  rw [lg_entry_eq]
  generalize (lg_sl ([.ref x, .int a, .int b]) ++ List.replicate (3 - (lg_sl ([.ref x, .int a, .int b])).length) Slot.unset).toArray = ls at hl ⊢
  have hl : lv_has ls 3 [(0, .ref x), (1, .int a), (2, .int b)] := hl
  refine lv_aload_n hx hb d_V_instruction_0 rfl (lv_at hl 0 rfl) ?_
  have hPc := hP.sub (ws' := [(x, .inr (0, [.ref g, .ref an, .ref tr, .ref w])), (an, .inr (2, [.ref g, .ref an_leads, .ref an_ranking, .ref an_sequences, .int 0, .int 0, .int (-1), .int (-1)]))]) [0, 1] rfl
  have hDc := hD.sub (ws' := [(x, .inr (0, [.ref g, .ref an, .ref tr, .ref w])), (an, .inr (2, [.ref g, .ref an_leads, .ref an_ranking, .ref an_sequences, .int 0, .int 0, .int (-1), .int (-1)]))]) [0, 1] (by decide) rfl
  have hKc := hK.sub (tys' := []) [] rfl
  have hFc := va_free (wc := [(x, .inr (0, [.ref g, .ref an, .ref tr, .ref w])), (an, .inr (2, [.ref g, .ref an_leads, .ref an_ranking, .ref an_sequences, .int 0, .int 0, .int (-1), .int (-1)]))]) hD hS hA [0, 1] rfl
  exact vq_pass (vq_runT (As := []) (rest := []) ⟨hx, hb, hml, hown, hts⟩ (t_V_reqA l htr dC dI x g an tr w an_leads an_ranking an_sequences s.heap.size) (vq_cV WSk hts 0 rfl rfl ⟨by decide, by decide⟩ k_108 k_143 k_171 k_172 k_173 (by decide +kernel)) ⟨vq_blind, va_recv hK hP (ci := 0) (q0 := 0) rfl rfl, vq_here hst hS hN hPc hKc hDc⟩ rfl rfl hl.1 rfl (lv_room (Nat.le_of_ble_eq_true rfl)) d_V_instruction_1 ⟨by decide, by decide⟩) hS hFc hno hlocks (by decide) (by decide)

set_option maxHeartbeats 4000000 in
set_option maxRecDepth 100000 in
theorem t_V_node (l : Launch) (htr : l.stackTraces = false) (dC : Nat → ClassId) (dI : Nat → Nat → Nat) (x : Nat) (a : Int32) (b : Int32) (c9 : Int32) (d9 : Int32) (e9 : Int32) (g : Nat) (an : Nat) (tr : Nat) (w : Nat) (g_attributeCounts : Nat) (g_inheritedBits : Nat) (g_symbolsAt : Nat) (g_lastPositions : Nat) (g_presentBits : Nat) (g_toDefineBits : Nat) (g_ruledBits : Nat) (g_forms : Nat) (g_firsts : Nat) (g_seconds : Nat) (g_usedBits : Nat) (sz : Nat) : vq_T l y_V_node WS ({ frames := 6, cells := 1, slots := 6, locals := 82 }) (va_Pc [.ref x, .int a, .int b, .int c9, .int d9, .int e9] (vq_Pre (dC, dI) CL sz [(x, .inr (0, [.ref g, .ref an, .ref tr, .ref w])), (g, .inr (1, [.ref g_attributeCounts, .ref g_inheritedBits, .int 0, .ref g_symbolsAt, .ref g_lastPositions, .ref g_presentBits, .ref g_toDefineBits, .int 0, .ref g_ruledBits, .ref g_forms, .ref g_firsts, .ref g_seconds, .ref g_usedBits]))] [])) "java/lang/IllegalArgumentException" (va_A [(x, .inr (0, [.ref g, .ref an, .ref tr, .ref w])), (g, .inr (1, [.ref g_attributeCounts, .ref g_inheritedBits, .int 0, .ref g_symbolsAt, .ref g_lastPositions, .ref g_presentBits, .ref g_toDefineBits, .int 0, .ref g_ruledBits, .ref g_forms, .ref g_firsts, .ref g_seconds, .ref g_usedBits]))] sz) 1 6 := by
  refine vq_ofT (cc := prog_1_method_10_code) (maxL := 6) (ret := (Option.some Jvm.ClassFile.FieldType.int)) (by decide) (vq_his k_176) ?_
  intro p e s m args below meth c s₁ B hml hv
  obtain ⟨rfl, hst, hsz, hP, hK, hD0⟩ := hv
  have hx := B.exec
  have hb := B.bytes
  have hr := B.returns
  have hts := atoms_spec (ws := WS) B.pre
  have hown : s.vm.findClass R_V = some m.cls := findClass_of_methodNamed B.named
  have hlocks := B.notSynchronized
  have hno := vq_noH B (hts _ k_176)
  subst hsz
  have hN := vq_ns hP
  have hD := hD0.self (sz := s.heap.size)
  generalize hAe : va_A [(x, .inr (0, [.ref g, .ref an, .ref tr, .ref w])), (g, .inr (1, [.ref g_attributeCounts, .ref g_inheritedBits, .int 0, .ref g_symbolsAt, .ref g_lastPositions, .ref g_presentBits, .ref g_toDefineBits, .int 0, .ref g_ruledBits, .ref g_forms, .ref g_firsts, .ref g_seconds, .ref g_usedBits]))] s.heap.size = A at hD hN ⊢
  have hA : ∀ q : Nat, s.heap.size ≤ q → A q := fun q h => by rw [← hAe]; exact Or.inr h
  have hS : va_S A s.heap s.heap [] := va_S.rf
  have hP : va_P (dC, dI) CL [(x, .inr (0, [.ref g, .ref an, .ref tr, .ref w])), (g, .inr (1, [.ref g_attributeCounts, .ref g_inheritedBits, .int 0, .ref g_symbolsAt, .ref g_lastPositions, .ref g_presentBits, .ref g_toDefineBits, .int 0, .ref g_ruledBits, .ref g_forms, .ref g_firsts, .ref g_seconds, .ref g_usedBits]))] s.heap := hP
  have hD : va_D A [(x, .inr (0, [.ref g, .ref an, .ref tr, .ref w])), (g, .inr (1, [.ref g_attributeCounts, .ref g_inheritedBits, .int 0, .ref g_symbolsAt, .ref g_lastPositions, .ref g_presentBits, .ref g_toDefineBits, .int 0, .ref g_ruledBits, .ref g_forms, .ref g_firsts, .ref g_seconds, .ref g_usedBits]))] := hD
  have hl := lv_entry ([.ref x, .int a, .int b, .int c9, .int d9, .int e9]) (n := 6) (Nat.le_of_ble_eq_true rfl)
  rw [lg_entry_eq]
  generalize (lg_sl ([.ref x, .int a, .int b, .int c9, .int d9, .int e9]) ++ List.replicate (6 - (lg_sl ([.ref x, .int a, .int b, .int c9, .int d9, .int e9])).length) Slot.unset).toArray = ls at hl ⊢
  have hl : lv_has ls 6 [(0, .ref x), (1, .int a), (2, .int b), (3, .int c9), (4, .int d9), (5, .int e9)] := hl
  refine lv_aload_n hx hb d_V_node_0 rfl (lv_at hl 0 rfl) ?_
  refine va_get (D := (dC, dI)) (ci := 0) (v := .ref g) (C := R_V) (T := F_V) (N := 4) hx hb hts u_V hown hK hP 0 rfl rfl 0 (by decide) (hts _ k_81) (fun _ h9 => h9) rfl d_V_node_1 ?_
  refine lv_iload_n hx hb d_V_node_4 rfl (lv_at hl 1 rfl) ?_
  have hPc := hP.sub (ws' := [(g, .inr (1, [.ref g_attributeCounts, .ref g_inheritedBits, .int 0, .ref g_symbolsAt, .ref g_lastPositions, .ref g_presentBits, .ref g_toDefineBits, .int 0, .ref g_ruledBits, .ref g_forms, .ref g_firsts, .ref g_seconds, .ref g_usedBits]))]) [1] rfl
  have hDc := hD.sub (ws' := [(g, .inr (1, [.ref g_attributeCounts, .ref g_inheritedBits, .int 0, .ref g_symbolsAt, .ref g_lastPositions, .ref g_presentBits, .ref g_toDefineBits, .int 0, .ref g_ruledBits, .ref g_forms, .ref g_firsts, .ref g_seconds, .ref g_usedBits]))]) [1] (by decide) rfl
  have hKc := hK.sub (tys' := []) [] rfl
  have hFc := va_free (wc := [(g, .inr (1, [.ref g_attributeCounts, .ref g_inheritedBits, .int 0, .ref g_symbolsAt, .ref g_lastPositions, .ref g_presentBits, .ref g_toDefineBits, .int 0, .ref g_ruledBits, .ref g_forms, .ref g_firsts, .ref g_seconds, .ref g_usedBits]))]) hD hS hA [1] rfl
  refine va_calli (va_runV (As := [.int a]) (rest := []) ⟨hx, hb, hml, hown, hts⟩ (c_G_hasP l htr dC dI g a g_attributeCounts g_inheritedBits g_symbolsAt g_lastPositions g_presentBits g_toDefineBits g_ruledBits g_forms g_firsts g_seconds g_usedBits s.heap.size) (vq_cV WSk hts 1 rfl rfl ⟨by decide, by decide⟩ k_115 k_78 k_160 k_161 k_162 (by decide +kernel)) ⟨vq_blind, va_recv hK hP (ci := 1) (q0 := 1) rfl rfl, vq_here hst hS hN hPc hKc hDc⟩ rfl rfl hl.1 rfl (lv_room (Nat.le_of_ble_eq_true rfl)) d_V_node_5 ⟨by decide, by decide⟩) hS (fun q _ h => hFc q h) hFc (fun r1 u t H1 locs ht hvm hw hB hz1 hk1 hS => ?_)
  obtain ⟨hP1, hK1, hD1⟩ := hB
  rw [ht] at hP1
  have hK1 := va_K.moved hvm.symm hK1
  have hw : r1 = 0 := hw
  subst hw
  obtain ⟨hP, hD⟩ := va_join (wr := [(x, .inr (0, [.ref g, .ref an, .ref tr, .ref w]))]) (w1 := [(g, .inr (1, [.ref g_attributeCounts, .ref g_inheritedBits, .int 0, .ref g_symbolsAt, .ref g_lastPositions, .ref g_presentBits, .ref g_toDefineBits, .int 0, .ref g_ruledBits, .ref g_forms, .ref g_firsts, .ref g_seconds, .ref g_usedBits]))]) hP hD [1] [0] rfl rfl (by decide) (by decide) hk1 hFc hP1 hD1
  have hK := (hK.sub (tys' := []) [] rfl).app hK1
  generalize H1 = H at hP hS ⊢
  have hP : va_P (dC, dI) CL [(x, .inr (0, [.ref g, .ref an, .ref tr, .ref w])), (g, .inr (1, [.ref g_attributeCounts, .ref g_inheritedBits, .int 0, .ref g_symbolsAt, .ref g_lastPositions, .ref g_presentBits, .ref g_toDefineBits, .int 0, .ref g_ruledBits, .ref g_forms, .ref g_firsts, .ref g_seconds, .ref g_usedBits]))] H := hP
  have hD : va_D A [(x, .inr (0, [.ref g, .ref an, .ref tr, .ref w])), (g, .inr (1, [.ref g_attributeCounts, .ref g_inheritedBits, .int 0, .ref g_symbolsAt, .ref g_lastPositions, .ref g_presentBits, .ref g_toDefineBits, .int 0, .ref g_ruledBits, .ref g_forms, .ref g_firsts, .ref g_seconds, .ref g_usedBits]))] := hD
  have hK : va_K (dC, dI) CL [] s := hK
  refine W.widen (k := 0) (n := 0) (by decide) (by decide) ?_
  refine lv_if_eq (tgt := 27) hx hb d_V_node_8 (by decide) (fun _ => ?_) (fun h9 => absurd (by decide) h9)
  exact vq_throw (names := up_names) hx hb htr hown (by decide +kernel) (by decide +kernel) (at_V_IllegalArgumentException hts hst) (hts _ k_151) (hts _ k_152) (hts _ k_177) hS hA hN hno hlocks (by decide) (hl.1.trans hml.symm) d_V_node_27 d_V_node_30 d_V_node_31 d_V_node_33 d_V_node_36

set_option maxHeartbeats 4000000 in
set_option maxRecDepth 100000 in
theorem c_V_fell (l : Launch) (htr : l.stackTraces = false) (dC : Nat → ClassId) (dI : Nat → Nat → Nat) (x : Nat) (g : Nat) (an : Nat) (tr : Nat) (w : Nat) (tr_productions : Nat) (tr_tokens : Nat) (tr_parents : Nat) (tr_nodesAt : Nat) (an_sequences : Nat) (w_given : Nat) (w_values : Nat) (w_knownBits : Nat) (w_instructionsDone : Nat) (sz : Nat) : Met l y_V_fell WS ({ frames := 1, cells := 0, slots := 0, locals := 20 }) (va_Pc [.ref x] (vq_Pre (dC, dI) CL sz [(x, .inr (0, [.ref g, .ref an, .ref tr, .ref w])), (tr, .inr (6, [.ref g, .ref tr_productions, .ref tr_tokens, .ref tr_parents, .ref tr_nodesAt, .int 0])), (w, .inr (7, [.ref g, .ref an_sequences, .ref tr, .ref w_given, .ref w_values, .ref w_knownBits, .ref w_instructionsDone, .int 0, .int 0, .int 0]))] [])) (va_Qv (fun _ : Unit => True) (fun _ t => vq_Post (dC, dI) CL (va_A [(x, .inr (0, [.ref g, .ref an, .ref tr, .ref w])), (tr, .inr (6, [.ref g, .ref tr_productions, .ref tr_tokens, .ref tr_parents, .ref tr_nodesAt, .int 0])), (w, .inr (7, [.ref g, .ref an_sequences, .ref tr, .ref w_given, .ref w_values, .ref w_knownBits, .ref w_instructionsDone, .int 0, .int 0, .int 0]))] sz) [] [] t) (va_A [(x, .inr (0, [.ref g, .ref an, .ref tr, .ref w])), (tr, .inr (6, [.ref g, .ref tr_productions, .ref tr_tokens, .ref tr_parents, .ref tr_nodesAt, .int 0])), (w, .inr (7, [.ref g, .ref an_sequences, .ref tr, .ref w_given, .ref w_values, .ref w_knownBits, .ref w_instructionsDone, .int 0, .int 0, .int 0]))] sz)) 0 0 (va_A [(x, .inr (0, [.ref g, .ref an, .ref tr, .ref w])), (tr, .inr (6, [.ref g, .ref tr_productions, .ref tr_tokens, .ref tr_parents, .ref tr_nodesAt, .int 0])), (w, .inr (7, [.ref g, .ref an_sequences, .ref tr, .ref w_given, .ref w_values, .ref w_knownBits, .ref w_instructionsDone, .int 0, .int 0, .int 0]))] sz) := by
  refine vq_ofW (cc := prog_1_method_11_code) (maxL := 1) (ret := (Option.none : Option Jvm.ClassFile.FieldType)) (by decide) (vq_his k_178) ?_
  intro p e s m args below meth c s₁ B hml hv
  obtain ⟨rfl, hst, hsz, hP, hK, hD0⟩ := hv
  have hx := B.exec
  have hb := B.bytes
  have hr := B.returns
  have hts := atoms_spec (ws := WS) B.pre
  have hown : s.vm.findClass R_V = some m.cls := findClass_of_methodNamed B.named
  have hlocks := B.notSynchronized
  have hno := vq_noH B (hts _ k_178)
  subst hsz
  have hN := vq_ns hP
  have hD := hD0.self (sz := s.heap.size)
  generalize hAe : va_A [(x, .inr (0, [.ref g, .ref an, .ref tr, .ref w])), (tr, .inr (6, [.ref g, .ref tr_productions, .ref tr_tokens, .ref tr_parents, .ref tr_nodesAt, .int 0])), (w, .inr (7, [.ref g, .ref an_sequences, .ref tr, .ref w_given, .ref w_values, .ref w_knownBits, .ref w_instructionsDone, .int 0, .int 0, .int 0]))] s.heap.size = A at hD hN ⊢
  have hA : ∀ q : Nat, s.heap.size ≤ q → A q := fun q h => by rw [← hAe]; exact Or.inr h
  have hS : va_S A s.heap s.heap [] := va_S.rf
  have hP : va_P (dC, dI) CL [(x, .inr (0, [.ref g, .ref an, .ref tr, .ref w])), (tr, .inr (6, [.ref g, .ref tr_productions, .ref tr_tokens, .ref tr_parents, .ref tr_nodesAt, .int 0])), (w, .inr (7, [.ref g, .ref an_sequences, .ref tr, .ref w_given, .ref w_values, .ref w_knownBits, .ref w_instructionsDone, .int 0, .int 0, .int 0]))] s.heap := hP
  have hD : va_D A [(x, .inr (0, [.ref g, .ref an, .ref tr, .ref w])), (tr, .inr (6, [.ref g, .ref tr_productions, .ref tr_tokens, .ref tr_parents, .ref tr_nodesAt, .int 0])), (w, .inr (7, [.ref g, .ref an_sequences, .ref tr, .ref w_given, .ref w_values, .ref w_knownBits, .ref w_instructionsDone, .int 0, .int 0, .int 0]))] := hD
  have hl := lv_entry ([.ref x]) (n := 1) (Nat.le_of_ble_eq_true rfl)
  rw [lg_entry_eq]
  generalize (lg_sl ([.ref x]) ++ List.replicate (1 - (lg_sl ([.ref x])).length) Slot.unset).toArray = ls at hl ⊢
  have hl : lv_has ls 1 [(0, .ref x)] := hl
  refine lv_aload_n hx hb d_V_fell_0 rfl (lv_at hl 0 rfl) ?_
  refine va_get (D := (dC, dI)) (ci := 0) (v := .ref w) (C := R_V) (T := F_V) (N := 4) hx hb hts u_V hown hK hP 0 rfl rfl 3 (by decide) (hts _ k_100) (fun _ h9 => h9) rfl d_V_fell_1 ?_
  have hPc := hP.sub (ws' := [(w, .inr (7, [.ref g, .ref an_sequences, .ref tr, .ref w_given, .ref w_values, .ref w_knownBits, .ref w_instructionsDone, .int 0, .int 0, .int 0]))]) [2] rfl
  have hDc := hD.sub (ws' := [(w, .inr (7, [.ref g, .ref an_sequences, .ref tr, .ref w_given, .ref w_values, .ref w_knownBits, .ref w_instructionsDone, .int 0, .int 0, .int 0]))]) [2] (by decide) rfl
  have hKc := hK.sub (tys' := []) [] rfl
  have hFc := va_free (wc := [(w, .inr (7, [.ref g, .ref an_sequences, .ref tr, .ref w_given, .ref w_values, .ref w_knownBits, .ref w_instructionsDone, .int 0, .int 0, .int 0]))]) hD hS hA [2] rfl
  refine va_callv (va_runV (As := []) (rest := []) ⟨hx, hb, hml, hown, hts⟩ (c_U_end l htr dC dI w g an_sequences tr w_given w_values w_knownBits w_instructionsDone 0 s.heap.size) (vq_cV WSk hts 0 rfl rfl ⟨by decide, by decide⟩ k_101 k_96 k_105 k_106 k_107 (by decide +kernel)) ⟨vq_blind, va_recv hK hP (ci := 7) (q0 := 2) rfl rfl, vq_here hst hS hN hPc hKc hDc⟩ rfl rfl hl.1 rfl (lv_room (Nat.le_of_ble_eq_true rfl)) d_V_fell_4 ⟨by decide, by decide⟩) hS (fun q _ h => hFc q h) hFc (fun u t H1 locs ht hvm hw hB hz1 hk1 hS => ?_)
  obtain ⟨hP1, hK1, hD1⟩ := hB
  rw [ht] at hP1
  have hK1 := va_K.moved hvm.symm hK1
  obtain ⟨hP, hD⟩ := va_join (wr := [(x, .inr (0, [.ref g, .ref an, .ref tr, .ref w])), (tr, .inr (6, [.ref g, .ref tr_productions, .ref tr_tokens, .ref tr_parents, .ref tr_nodesAt, .int 0]))]) (w1 := [(w, .inr (7, [.ref g, .ref an_sequences, .ref tr, .ref w_given, .ref w_values, .ref w_knownBits, .ref w_instructionsDone, .int 0, .int 0, .int 0]))]) hP hD [2] [0, 1] rfl rfl (by decide) (by decide) hk1 hFc hP1 hD1
  have hK := (hK.sub (tys' := []) [] rfl).app hK1
  generalize H1 = H at hP hS ⊢
  have hP : va_P (dC, dI) CL [(x, .inr (0, [.ref g, .ref an, .ref tr, .ref w])), (tr, .inr (6, [.ref g, .ref tr_productions, .ref tr_tokens, .ref tr_parents, .ref tr_nodesAt, .int 0])), (w, .inr (7, [.ref g, .ref an_sequences, .ref tr, .ref w_given, .ref w_values, .ref w_knownBits, .ref w_instructionsDone, .int 0, .int 0, .int 0]))] H := hP
  have hD : va_D A [(x, .inr (0, [.ref g, .ref an, .ref tr, .ref w])), (tr, .inr (6, [.ref g, .ref tr_productions, .ref tr_tokens, .ref tr_parents, .ref tr_nodesAt, .int 0])), (w, .inr (7, [.ref g, .ref an_sequences, .ref tr, .ref w_given, .ref w_values, .ref w_knownBits, .ref w_instructionsDone, .int 0, .int 0, .int 0]))] := hD
  have hK : va_K (dC, dI) CL [] s := hK
  refine W.widen (k := 0) (n := 0) (by decide) (by decide) ?_
  refine lv_aload_n hx hb d_V_fell_7 rfl (lv_at hl 0 rfl) ?_
  refine va_get (D := (dC, dI)) (ci := 0) (v := .ref tr) (C := R_V) (T := F_V) (N := 4) hx hb hts u_V hown hK hP 0 rfl rfl 2 (by decide) (hts _ k_93) (fun _ h9 => h9) rfl d_V_fell_8 ?_
  have hPc := hP.sub (ws' := [(tr, .inr (6, [.ref g, .ref tr_productions, .ref tr_tokens, .ref tr_parents, .ref tr_nodesAt, .int 0]))]) [1] rfl
  have hDc := hD.sub (ws' := [(tr, .inr (6, [.ref g, .ref tr_productions, .ref tr_tokens, .ref tr_parents, .ref tr_nodesAt, .int 0]))]) [1] (by decide) rfl
  have hKc := hK.sub (tys' := []) [] rfl
  have hFc := va_free (wc := [(tr, .inr (6, [.ref g, .ref tr_productions, .ref tr_tokens, .ref tr_parents, .ref tr_nodesAt, .int 0]))]) hD hS hA [1] rfl
  refine va_callv (va_runV (As := []) (rest := []) ⟨hx, hb, hml, hown, hts⟩ (c_T_clear l htr dC dI tr g tr_productions tr_tokens tr_parents tr_nodesAt H.size) (vq_cV WSk hts 0 rfl rfl ⟨by decide, by decide⟩ k_119 k_90 k_179 k_180 k_181 (by decide +kernel)) ⟨vq_blind, va_recv hK hP (ci := 6) (q0 := 1) rfl rfl, vq_here hst hS hN hPc hKc hDc⟩ rfl rfl hl.1 rfl (lv_room (Nat.le_of_ble_eq_true rfl)) d_V_fell_11 ⟨by decide, by decide⟩) hS (fun q _ h => hFc q h) hFc (fun u t H1 locs ht hvm hw hB hz1 hk1 hS => ?_)
  obtain ⟨hP1, hK1, hD1⟩ := hB
  rw [ht] at hP1
  have hK1 := va_K.moved hvm.symm hK1
  obtain ⟨hP, hD⟩ := va_join (wr := [(x, .inr (0, [.ref g, .ref an, .ref tr, .ref w])), (w, .inr (7, [.ref g, .ref an_sequences, .ref tr, .ref w_given, .ref w_values, .ref w_knownBits, .ref w_instructionsDone, .int 0, .int 0, .int 0]))]) (w1 := [(tr, .inr (6, [.ref g, .ref tr_productions, .ref tr_tokens, .ref tr_parents, .ref tr_nodesAt, .int 0]))]) hP hD [1] [0, 2] rfl rfl (by decide) (by decide) hk1 hFc hP1 hD1
  have hK := (hK.sub (tys' := []) [] rfl).app hK1
  generalize H1 = H at hP hS ⊢
  have hP : va_P (dC, dI) CL [(x, .inr (0, [.ref g, .ref an, .ref tr, .ref w])), (w, .inr (7, [.ref g, .ref an_sequences, .ref tr, .ref w_given, .ref w_values, .ref w_knownBits, .ref w_instructionsDone, .int 0, .int 0, .int 0])), (tr, .inr (6, [.ref g, .ref tr_productions, .ref tr_tokens, .ref tr_parents, .ref tr_nodesAt, .int 0]))] H := hP
  have hD : va_D A [(x, .inr (0, [.ref g, .ref an, .ref tr, .ref w])), (w, .inr (7, [.ref g, .ref an_sequences, .ref tr, .ref w_given, .ref w_values, .ref w_knownBits, .ref w_instructionsDone, .int 0, .int 0, .int 0])), (tr, .inr (6, [.ref g, .ref tr_productions, .ref tr_tokens, .ref tr_parents, .ref tr_nodesAt, .int 0]))] := hD
  have hK : va_K (dC, dI) CL [] s := hK
  refine W.widen (k := 0) (n := 0) (by decide) (by decide) ?_
  have hP9 := hP.sub (ws' := []) [] rfl
  have hD9 := hD.sub (ws' := []) [] (by decide) rfl
  have hK9 := hK.sub (tys' := []) [] rfl
  refine W.widen (k := 0) (n := 0) (by decide) (by decide) ?_
  exact W.vret hx hb hr (fun t ht hW => ⟨⟨(), rfl, trivial, by rw [ht]; exact hP9, va_K.moved hW.alike hK9, hD9⟩, hS.F ht⟩) hS.2.2 d_V_fell_14

set_option maxHeartbeats 4000000 in
set_option maxRecDepth 100000 in
theorem t_V_giveL (l : Launch) (htr : l.stackTraces = false) (dC : Nat → ClassId) (dI : Nat → Nat → Nat) (x : Nat) (a : Int32) (b : Int32) (g : Nat) (an : Nat) (tr : Nat) (w : Nat) (sz : Nat) (h0 : a < 0) : vq_T l y_V_give WS ({ frames := 6, cells := 1, slots := 6, locals := 82 }) (va_Pc [.ref x, .int a, .int b] (vq_Pre (dC, dI) CL sz [(x, .inr (0, [.ref g, .ref an, .ref tr, .ref w]))] [])) "java/lang/IndexOutOfBoundsException" (va_A [(x, .inr (0, [.ref g, .ref an, .ref tr, .ref w]))] sz) 1 6 := by
  refine vq_ofT (cc := prog_1_method_12_code) (maxL := 3) (ret := (Option.none : Option Jvm.ClassFile.FieldType)) (by decide) (vq_his k_182) ?_
  intro p e s m args below meth c s₁ B hml hv
  obtain ⟨rfl, hst, hsz, hP, hK, hD0⟩ := hv
  have hx := B.exec
  have hb := B.bytes
  have hr := B.returns
  have hts := atoms_spec (ws := WS) B.pre
  have hown : s.vm.findClass R_V = some m.cls := findClass_of_methodNamed B.named
  have hlocks := B.notSynchronized
  have hno := vq_noH B (hts _ k_182)
  subst hsz
  have hN := vq_ns hP
  have hD := hD0.self (sz := s.heap.size)
  generalize hAe : va_A [(x, .inr (0, [.ref g, .ref an, .ref tr, .ref w]))] s.heap.size = A at hD hN ⊢
  have hA : ∀ q : Nat, s.heap.size ≤ q → A q := fun q h => by rw [← hAe]; exact Or.inr h
  have hS : va_S A s.heap s.heap [] := va_S.rf
  have hP : va_P (dC, dI) CL [(x, .inr (0, [.ref g, .ref an, .ref tr, .ref w]))] s.heap := hP
  have hD : va_D A [(x, .inr (0, [.ref g, .ref an, .ref tr, .ref w]))] := hD
  have hl := lv_entry ([.ref x, .int a, .int b]) (n := 3) (Nat.le_of_ble_eq_true rfl)
  rw [lg_entry_eq]
  generalize (lg_sl ([.ref x, .int a, .int b]) ++ List.replicate (3 - (lg_sl ([.ref x, .int a, .int b])).length) Slot.unset).toArray = ls at hl ⊢
  have hl : lv_has ls 3 [(0, .ref x), (1, .int a), (2, .int b)] := hl
  refine lv_iload_n hx hb d_V_give_0 rfl (lv_at hl 1 rfl) ?_
  refine lv_if_lt (tgt := 9) hx hb d_V_give_1 (by decide) (fun _ => ?_) (fun h9 => absurd (h0) h9)
  exact vq_throw (names := up_names) hx hb htr hown (by decide +kernel) (by decide +kernel) (at_V_IndexOutOfBoundsException hts hst) (hts _ k_138) (hts _ k_139) (hts _ k_183) hS hA hN hno hlocks (by decide) (hl.1.trans hml.symm) d_V_give_9 d_V_give_12 d_V_give_13 d_V_give_15 d_V_give_18

set_option maxHeartbeats 4000000 in
set_option maxRecDepth 100000 in
theorem t_V_giveG (l : Launch) (htr : l.stackTraces = false) (dC : Nat → ClassId) (dI : Nat → Nat → Nat) (x : Nat) (a : Int32) (b : Int32) (g : Nat) (an : Nat) (tr : Nat) (w : Nat) (sz : Nat) (h0 : ¬ a < 0) (h4 : ¬ a < 4) : vq_T l y_V_give WS ({ frames := 6, cells := 1, slots := 6, locals := 82 }) (va_Pc [.ref x, .int a, .int b] (vq_Pre (dC, dI) CL sz [(x, .inr (0, [.ref g, .ref an, .ref tr, .ref w]))] [])) "java/lang/IndexOutOfBoundsException" (va_A [(x, .inr (0, [.ref g, .ref an, .ref tr, .ref w]))] sz) 1 6 := by
  refine vq_ofT (cc := prog_1_method_12_code) (maxL := 3) (ret := (Option.none : Option Jvm.ClassFile.FieldType)) (by decide) (vq_his k_182) ?_
  intro p e s m args below meth c s₁ B hml hv
  obtain ⟨rfl, hst, hsz, hP, hK, hD0⟩ := hv
  have hx := B.exec
  have hb := B.bytes
  have hr := B.returns
  have hts := atoms_spec (ws := WS) B.pre
  have hown : s.vm.findClass R_V = some m.cls := findClass_of_methodNamed B.named
  have hlocks := B.notSynchronized
  have hno := vq_noH B (hts _ k_182)
  subst hsz
  have hN := vq_ns hP
  have hD := hD0.self (sz := s.heap.size)
  generalize hAe : va_A [(x, .inr (0, [.ref g, .ref an, .ref tr, .ref w]))] s.heap.size = A at hD hN ⊢
  have hA : ∀ q : Nat, s.heap.size ≤ q → A q := fun q h => by rw [← hAe]; exact Or.inr h
  have hS : va_S A s.heap s.heap [] := va_S.rf
  have hP : va_P (dC, dI) CL [(x, .inr (0, [.ref g, .ref an, .ref tr, .ref w]))] s.heap := hP
  have hD : va_D A [(x, .inr (0, [.ref g, .ref an, .ref tr, .ref w]))] := hD
  have hl := lv_entry ([.ref x, .int a, .int b]) (n := 3) (Nat.le_of_ble_eq_true rfl)
  rw [lg_entry_eq]
  generalize (lg_sl ([.ref x, .int a, .int b]) ++ List.replicate (3 - (lg_sl ([.ref x, .int a, .int b])).length) Slot.unset).toArray = ls at hl ⊢
  have hl : lv_has ls 3 [(0, .ref x), (1, .int a), (2, .int b)] := hl
  refine lv_iload_n hx hb d_V_give_0 rfl (lv_at hl 1 rfl) ?_
  refine lv_if_lt (tgt := 9) hx hb d_V_give_1 (by decide) (fun h9 => absurd h9 (h0)) (fun _ => ?_)
  refine lv_iload_n hx hb d_V_give_4 rfl (lv_at hl 1 rfl) ?_
  refine lv_iconst (v := 4) hx hb d_V_give_5 (by decide) ?_
  refine lv_icmp_lt (tgt := 19) hx hb d_V_give_6 (by decide) (fun h9 => absurd h9 (h4)) (fun _ => ?_)
  exact vq_throw (names := up_names) hx hb htr hown (by decide +kernel) (by decide +kernel) (at_V_IndexOutOfBoundsException hts hst) (hts _ k_138) (hts _ k_139) (hts _ k_183) hS hA hN hno hlocks (by decide) (hl.1.trans hml.symm) d_V_give_9 d_V_give_12 d_V_give_13 d_V_give_15 d_V_give_18

set_option maxHeartbeats 4000000 in
set_option maxRecDepth 100000 in
theorem c_V_give (l : Launch) (htr : l.stackTraces = false) (dC : Nat → ClassId) (dI : Nat → Nat → Nat) (x : Nat) (a : Int32) (b : Int32) (g : Nat) (an : Nat) (tr : Nat) (w : Nat) (an_sequences : Nat) (w_given : Nat) (w_values : Nat) (w_knownBits : Nat) (w_instructionsDone : Nat) (cgv : ClassId) (fgv : Nat → Int32) (sz : Nat) (h0 : ¬ a < 0) (h4 : a < 4) (hi : vp_in a 4) : Met l y_V_give WS ({ frames := 0, cells := 0, slots := 0, locals := 0 }) (va_Pc [.ref x, .int a, .int b] (vq_Pre (dC, dI) CL sz [(x, .inr (0, [.ref g, .ref an, .ref tr, .ref w])), (w, .inr (7, [.ref g, .ref an_sequences, .ref tr, .ref w_given, .ref w_values, .ref w_knownBits, .ref w_instructionsDone, .int 0, .int 0, .int 0])), (w_given, .inl (cgv, 4, .inl fgv))] [(cgv, .int)])) (va_Qv (fun _ : Unit => True) (fun _ t => vq_Post (dC, dI) CL (va_A [(x, .inr (0, [.ref g, .ref an, .ref tr, .ref w])), (w, .inr (7, [.ref g, .ref an_sequences, .ref tr, .ref w_given, .ref w_values, .ref w_knownBits, .ref w_instructionsDone, .int 0, .int 0, .int 0])), (w_given, .inl (cgv, 4, .inl fgv))] sz) [] [] t) (va_A [(x, .inr (0, [.ref g, .ref an, .ref tr, .ref w])), (w, .inr (7, [.ref g, .ref an_sequences, .ref tr, .ref w_given, .ref w_values, .ref w_knownBits, .ref w_instructionsDone, .int 0, .int 0, .int 0])), (w_given, .inl (cgv, 4, .inl fgv))] sz)) 0 0 (va_A [(x, .inr (0, [.ref g, .ref an, .ref tr, .ref w])), (w, .inr (7, [.ref g, .ref an_sequences, .ref tr, .ref w_given, .ref w_values, .ref w_knownBits, .ref w_instructionsDone, .int 0, .int 0, .int 0])), (w_given, .inl (cgv, 4, .inl fgv))] sz) := by
  refine vq_ofW (cc := prog_1_method_12_code) (maxL := 3) (ret := (Option.none : Option Jvm.ClassFile.FieldType)) (by decide) (vq_his k_182) ?_
  intro p e s m args below meth c s₁ B hml hv
  obtain ⟨rfl, hst, hsz, hP, hK, hD0⟩ := hv
  have hx := B.exec
  have hb := B.bytes
  have hr := B.returns
  have hts := atoms_spec (ws := WS) B.pre
  have hown : s.vm.findClass R_V = some m.cls := findClass_of_methodNamed B.named
  have hlocks := B.notSynchronized
  have hno := vq_noH B (hts _ k_182)
  subst hsz
  have hN := vq_ns hP
  have hD := hD0.self (sz := s.heap.size)
  generalize hAe : va_A [(x, .inr (0, [.ref g, .ref an, .ref tr, .ref w])), (w, .inr (7, [.ref g, .ref an_sequences, .ref tr, .ref w_given, .ref w_values, .ref w_knownBits, .ref w_instructionsDone, .int 0, .int 0, .int 0])), (w_given, .inl (cgv, 4, .inl fgv))] s.heap.size = A at hD hN ⊢
  have hA : ∀ q : Nat, s.heap.size ≤ q → A q := fun q h => by rw [← hAe]; exact Or.inr h
  have hS : va_S A s.heap s.heap [] := va_S.rf
  have hP : va_P (dC, dI) CL [(x, .inr (0, [.ref g, .ref an, .ref tr, .ref w])), (w, .inr (7, [.ref g, .ref an_sequences, .ref tr, .ref w_given, .ref w_values, .ref w_knownBits, .ref w_instructionsDone, .int 0, .int 0, .int 0])), (w_given, .inl (cgv, 4, .inl fgv))] s.heap := hP
  have hD : va_D A [(x, .inr (0, [.ref g, .ref an, .ref tr, .ref w])), (w, .inr (7, [.ref g, .ref an_sequences, .ref tr, .ref w_given, .ref w_values, .ref w_knownBits, .ref w_instructionsDone, .int 0, .int 0, .int 0])), (w_given, .inl (cgv, 4, .inl fgv))] := hD
  have hl := lv_entry ([.ref x, .int a, .int b]) (n := 3) (Nat.le_of_ble_eq_true rfl)
  rw [lg_entry_eq]
  generalize (lg_sl ([.ref x, .int a, .int b]) ++ List.replicate (3 - (lg_sl ([.ref x, .int a, .int b])).length) Slot.unset).toArray = ls at hl ⊢
  have hl : lv_has ls 3 [(0, .ref x), (1, .int a), (2, .int b)] := hl
  refine lv_iload_n hx hb d_V_give_0 rfl (lv_at hl 1 rfl) ?_
  refine lv_if_lt (tgt := 9) hx hb d_V_give_1 (by decide) (fun h9 => absurd h9 (h0)) (fun _ => ?_)
  refine lv_iload_n hx hb d_V_give_4 rfl (lv_at hl 1 rfl) ?_
  refine lv_iconst (v := 4) hx hb d_V_give_5 (by decide) ?_
  refine lv_icmp_lt (tgt := 19) hx hb d_V_give_6 (by decide) (fun _ => ?_) (fun h9 => absurd (h4) h9)
  refine lv_aload_n hx hb d_V_give_19 rfl (lv_at hl 0 rfl) ?_
  refine va_get (D := (dC, dI)) (ci := 0) (v := .ref w) (C := R_V) (T := F_V) (N := 4) hx hb hts u_V hown hK hP 0 rfl rfl 3 (by decide) (hts _ k_100) (fun _ h9 => h9) rfl d_V_give_20 ?_
  refine va_getN (D := (dC, dI)) (ci := 7) (v := .ref w_given) (C := R_U) (T := F_U) (N := 10) hx hb hts u_U hown hK hP 1 rfl rfl 3 (by decide) (hts _ k_184) (fun _ h9 => h9) rfl d_V_give_23 ?_
  refine lv_iload_n hx hb d_V_give_26 rfl (lv_at hl 1 rfl) ?_
  refine lv_iload_n hx hb d_V_give_27 rfl (lv_at hl 2 rfl) ?_
  refine va_iast (n := 4) (f := fgv) hx hb hK hP hD hS 2 0 rfl rfl hi d_V_give_28 (fun H locs hP hD hS => ?_)
  have hP : va_P (dC, dI) CL [(x, .inr (0, [.ref g, .ref an, .ref tr, .ref w])), (w, .inr (7, [.ref g, .ref an_sequences, .ref tr, .ref w_given, .ref w_values, .ref w_knownBits, .ref w_instructionsDone, .int 0, .int 0, .int 0])), (w_given, .inl (cgv, 4, .inl (upd fgv (a : Int32).toNatClampNeg b)))] H := hP
  have hD : va_D A [(x, .inr (0, [.ref g, .ref an, .ref tr, .ref w])), (w, .inr (7, [.ref g, .ref an_sequences, .ref tr, .ref w_given, .ref w_values, .ref w_knownBits, .ref w_instructionsDone, .int 0, .int 0, .int 0])), (w_given, .inl (cgv, 4, .inl (upd fgv (a : Int32).toNatClampNeg b)))] := hD
  generalize (upd fgv (a : Int32).toNatClampNeg b) = f1 at hP hD
  have hP9 := hP.sub (ws' := []) [] rfl
  have hD9 := hD.sub (ws' := []) [] (by decide) rfl
  have hK9 := hK.sub (tys' := []) [] rfl
  refine W.widen (k := 0) (n := 0) (by decide) (by decide) ?_
  exact W.vret hx hb hr (fun t ht hW => ⟨⟨(), rfl, trivial, by rw [ht]; exact hP9, va_K.moved hW.alike hK9, hD9⟩, hS.F ht⟩) hS.2.2 d_V_give_29

set_option maxHeartbeats 4000000 in
set_option maxRecDepth 100000 in
theorem t_V_start (l : Launch) (htr : l.stackTraces = false) (dC : Nat → ClassId) (dI : Nat → Nat → Nat) (x : Nat) (a : Int32) (g : Nat) (an : Nat) (tr : Nat) (w : Nat) (an_leads : Nat) (an_ranking : Nat) (an_sequences : Nat) (sz : Nat) : vq_T l y_V_start WS ({ frames := 7, cells := 1, slots := 6, locals := 102 }) (va_Pc [.ref x, .int a] (vq_Pre (dC, dI) CL sz [(x, .inr (0, [.ref g, .ref an, .ref tr, .ref w])), (an, .inr (2, [.ref g, .ref an_leads, .ref an_ranking, .ref an_sequences, .int 0, .int 0, .int (-1), .int (-1)]))] [])) "java/lang/IllegalStateException" (va_A [(x, .inr (0, [.ref g, .ref an, .ref tr, .ref w])), (an, .inr (2, [.ref g, .ref an_leads, .ref an_ranking, .ref an_sequences, .int 0, .int 0, .int (-1), .int (-1)]))] sz) 1 6 := by
  refine vq_ofT (cc := prog_1_method_13_code) (maxL := 2) (ret := (Option.none : Option Jvm.ClassFile.FieldType)) (by decide) (vq_his k_185) ?_
  intro p e s m args below meth c s₁ B hml hv
  obtain ⟨rfl, hst, hsz, hP, hK, hD0⟩ := hv
  have hx := B.exec
  have hb := B.bytes
  have hr := B.returns
  have hts := atoms_spec (ws := WS) B.pre
  have hown : s.vm.findClass R_V = some m.cls := findClass_of_methodNamed B.named
  have hlocks := B.notSynchronized
  have hno := vq_noH B (hts _ k_185)
  subst hsz
  have hN := vq_ns hP
  have hD := hD0.self (sz := s.heap.size)
  generalize hAe : va_A [(x, .inr (0, [.ref g, .ref an, .ref tr, .ref w])), (an, .inr (2, [.ref g, .ref an_leads, .ref an_ranking, .ref an_sequences, .int 0, .int 0, .int (-1), .int (-1)]))] s.heap.size = A at hD hN ⊢
  have hA : ∀ q : Nat, s.heap.size ≤ q → A q := fun q h => by rw [← hAe]; exact Or.inr h
  have hS : va_S A s.heap s.heap [] := va_S.rf
  have hP : va_P (dC, dI) CL [(x, .inr (0, [.ref g, .ref an, .ref tr, .ref w])), (an, .inr (2, [.ref g, .ref an_leads, .ref an_ranking, .ref an_sequences, .int 0, .int 0, .int (-1), .int (-1)]))] s.heap := hP
  have hD : va_D A [(x, .inr (0, [.ref g, .ref an, .ref tr, .ref w])), (an, .inr (2, [.ref g, .ref an_leads, .ref an_ranking, .ref an_sequences, .int 0, .int 0, .int (-1), .int (-1)]))] := hD
  have hl := lv_entry ([.ref x, .int a]) (n := 2) (Nat.le_of_ble_eq_true rfl)
  rw [lg_entry_eq]
  generalize (lg_sl ([.ref x, .int a]) ++ List.replicate (2 - (lg_sl ([.ref x, .int a])).length) Slot.unset).toArray = ls at hl ⊢
  have hl : lv_has ls 2 [(0, .ref x), (1, .int a)] := hl
  refine lv_aload_n hx hb d_V_start_0 rfl (lv_at hl 0 rfl) ?_
  have hPc := hP.sub (ws' := [(x, .inr (0, [.ref g, .ref an, .ref tr, .ref w])), (an, .inr (2, [.ref g, .ref an_leads, .ref an_ranking, .ref an_sequences, .int 0, .int 0, .int (-1), .int (-1)]))]) [0, 1] rfl
  have hDc := hD.sub (ws' := [(x, .inr (0, [.ref g, .ref an, .ref tr, .ref w])), (an, .inr (2, [.ref g, .ref an_leads, .ref an_ranking, .ref an_sequences, .int 0, .int 0, .int (-1), .int (-1)]))]) [0, 1] (by decide) rfl
  have hKc := hK.sub (tys' := []) [] rfl
  have hFc := va_free (wc := [(x, .inr (0, [.ref g, .ref an, .ref tr, .ref w])), (an, .inr (2, [.ref g, .ref an_leads, .ref an_ranking, .ref an_sequences, .int 0, .int 0, .int (-1), .int (-1)]))]) hD hS hA [0, 1] rfl
  exact vq_pass (vq_runT (As := []) (rest := []) ⟨hx, hb, hml, hown, hts⟩ (t_V_reqA l htr dC dI x g an tr w an_leads an_ranking an_sequences s.heap.size) (vq_cV WSk hts 0 rfl rfl ⟨by decide, by decide⟩ k_108 k_143 k_171 k_172 k_173 (by decide +kernel)) ⟨vq_blind, va_recv hK hP (ci := 0) (q0 := 0) rfl rfl, vq_here hst hS hN hPc hKc hDc⟩ rfl rfl hl.1 rfl (lv_room (Nat.le_of_ble_eq_true rfl)) d_V_start_1 ⟨by decide, by decide⟩) hS hFc hno hlocks (by decide) (by decide)

set_option maxHeartbeats 4000000 in
set_option maxRecDepth 100000 in
theorem t_V_runL (l : Launch) (htr : l.stackTraces = false) (dC : Nat → ClassId) (dI : Nat → Nat → Nat) (x : Nat) (a : Int32) (g : Nat) (an : Nat) (tr : Nat) (w : Nat) (sz : Nat) (h0 : a < 0) : vq_T l y_V_run WS ({ frames := 6, cells := 1, slots := 6, locals := 82 }) (va_Pc [.ref x, .int a] (vq_Pre (dC, dI) CL sz [(x, .inr (0, [.ref g, .ref an, .ref tr, .ref w]))] [])) "java/lang/IllegalArgumentException" (va_A [(x, .inr (0, [.ref g, .ref an, .ref tr, .ref w]))] sz) 1 6 := by
  refine vq_ofT (cc := prog_1_method_14_code) (maxL := 2) (ret := (Option.some Jvm.ClassFile.FieldType.int)) (by decide) (vq_his k_186) ?_
  intro p e s m args below meth c s₁ B hml hv
  obtain ⟨rfl, hst, hsz, hP, hK, hD0⟩ := hv
  have hx := B.exec
  have hb := B.bytes
  have hr := B.returns
  have hts := atoms_spec (ws := WS) B.pre
  have hown : s.vm.findClass R_V = some m.cls := findClass_of_methodNamed B.named
  have hlocks := B.notSynchronized
  have hno := vq_noH B (hts _ k_186)
  subst hsz
  have hN := vq_ns hP
  have hD := hD0.self (sz := s.heap.size)
  generalize hAe : va_A [(x, .inr (0, [.ref g, .ref an, .ref tr, .ref w]))] s.heap.size = A at hD hN ⊢
  have hA : ∀ q : Nat, s.heap.size ≤ q → A q := fun q h => by rw [← hAe]; exact Or.inr h
  have hS : va_S A s.heap s.heap [] := va_S.rf
  have hP : va_P (dC, dI) CL [(x, .inr (0, [.ref g, .ref an, .ref tr, .ref w]))] s.heap := hP
  have hD : va_D A [(x, .inr (0, [.ref g, .ref an, .ref tr, .ref w]))] := hD
  have hl := lv_entry ([.ref x, .int a]) (n := 2) (Nat.le_of_ble_eq_true rfl)
  rw [lg_entry_eq]
  generalize (lg_sl ([.ref x, .int a]) ++ List.replicate (2 - (lg_sl ([.ref x, .int a])).length) Slot.unset).toArray = ls at hl ⊢
  have hl : lv_has ls 2 [(0, .ref x), (1, .int a)] := hl
  refine lv_iload_n hx hb d_V_run_0 rfl (lv_at hl 1 rfl) ?_
  refine lv_if_lt (tgt := 11) hx hb d_V_run_1 (by decide) (fun _ => ?_) (fun h9 => absurd (h0) h9)
  exact vq_throw (names := up_names) hx hb htr hown (by decide +kernel) (by decide +kernel) (at_V_IllegalArgumentException hts hst) (hts _ k_151) (hts _ k_152) (hts _ k_187) hS hA hN hno hlocks (by decide) (hl.1.trans hml.symm) d_V_run_11 d_V_run_14 d_V_run_15 d_V_run_17 d_V_run_20

set_option maxHeartbeats 4000000 in
set_option maxRecDepth 100000 in
theorem t_V_runG (l : Launch) (htr : l.stackTraces = false) (dC : Nat → ClassId) (dI : Nat → Nat → Nat) (x : Nat) (a : Int32) (g : Nat) (an : Nat) (tr : Nat) (w : Nat) (sz : Nat) (h0 : ¬ a < 0) (h4 : ¬ a ≤ 500) : vq_T l y_V_run WS ({ frames := 6, cells := 1, slots := 6, locals := 82 }) (va_Pc [.ref x, .int a] (vq_Pre (dC, dI) CL sz [(x, .inr (0, [.ref g, .ref an, .ref tr, .ref w]))] [])) "java/lang/IllegalArgumentException" (va_A [(x, .inr (0, [.ref g, .ref an, .ref tr, .ref w]))] sz) 1 6 := by
  refine vq_ofT (cc := prog_1_method_14_code) (maxL := 2) (ret := (Option.some Jvm.ClassFile.FieldType.int)) (by decide) (vq_his k_186) ?_
  intro p e s m args below meth c s₁ B hml hv
  obtain ⟨rfl, hst, hsz, hP, hK, hD0⟩ := hv
  have hx := B.exec
  have hb := B.bytes
  have hr := B.returns
  have hts := atoms_spec (ws := WS) B.pre
  have hown : s.vm.findClass R_V = some m.cls := findClass_of_methodNamed B.named
  have hlocks := B.notSynchronized
  have hno := vq_noH B (hts _ k_186)
  subst hsz
  have hN := vq_ns hP
  have hD := hD0.self (sz := s.heap.size)
  generalize hAe : va_A [(x, .inr (0, [.ref g, .ref an, .ref tr, .ref w]))] s.heap.size = A at hD hN ⊢
  have hA : ∀ q : Nat, s.heap.size ≤ q → A q := fun q h => by rw [← hAe]; exact Or.inr h
  have hS : va_S A s.heap s.heap [] := va_S.rf
  have hP : va_P (dC, dI) CL [(x, .inr (0, [.ref g, .ref an, .ref tr, .ref w]))] s.heap := hP
  have hD : va_D A [(x, .inr (0, [.ref g, .ref an, .ref tr, .ref w]))] := hD
  have hl := lv_entry ([.ref x, .int a]) (n := 2) (Nat.le_of_ble_eq_true rfl)
  rw [lg_entry_eq]
  generalize (lg_sl ([.ref x, .int a]) ++ List.replicate (2 - (lg_sl ([.ref x, .int a])).length) Slot.unset).toArray = ls at hl ⊢
  have hl : lv_has ls 2 [(0, .ref x), (1, .int a)] := hl
  refine lv_iload_n hx hb d_V_run_0 rfl (lv_at hl 1 rfl) ?_
  refine lv_if_lt (tgt := 11) hx hb d_V_run_1 (by decide) (fun h9 => absurd h9 (h0)) (fun _ => ?_)
  refine lv_iload_n hx hb d_V_run_4 rfl (lv_at hl 1 rfl) ?_
  refine lv_sipush (v := 500) hx hb d_V_run_5 (by decide) ?_
  refine lv_icmp_le (tgt := 21) hx hb d_V_run_8 (by decide) (fun h9 => absurd h9 (h4)) (fun _ => ?_)
  exact vq_throw (names := up_names) hx hb htr hown (by decide +kernel) (by decide +kernel) (at_V_IllegalArgumentException hts hst) (hts _ k_151) (hts _ k_152) (hts _ k_187) hS hA hN hno hlocks (by decide) (hl.1.trans hml.symm) d_V_run_11 d_V_run_14 d_V_run_15 d_V_run_17 d_V_run_20

set_option maxHeartbeats 4000000 in
set_option maxRecDepth 100000 in
theorem t_V_run (l : Launch) (htr : l.stackTraces = false) (dC : Nat → ClassId) (dI : Nat → Nat → Nat) (x : Nat) (a : Int32) (g : Nat) (an : Nat) (tr : Nat) (w : Nat) (an_sequences : Nat) (w_given : Nat) (w_values : Nat) (w_knownBits : Nat) (w_instructionsDone : Nat) (sz : Nat) (h0 : ¬ a < 0) (h4 : a ≤ 500) : vq_T l y_V_run WS ({ frames := 6, cells := 1, slots := 6, locals := 82 }) (va_Pc [.ref x, .int a] (vq_Pre (dC, dI) CL sz [(x, .inr (0, [.ref g, .ref an, .ref tr, .ref w])), (w, .inr (7, [.ref g, .ref an_sequences, .ref tr, .ref w_given, .ref w_values, .ref w_knownBits, .ref w_instructionsDone, .int 0, .int 0, .int 0]))] [])) "java/lang/IllegalStateException" (va_A [(x, .inr (0, [.ref g, .ref an, .ref tr, .ref w])), (w, .inr (7, [.ref g, .ref an_sequences, .ref tr, .ref w_given, .ref w_values, .ref w_knownBits, .ref w_instructionsDone, .int 0, .int 0, .int 0]))] sz) 1 6 := by
  refine vq_ofT (cc := prog_1_method_14_code) (maxL := 2) (ret := (Option.some Jvm.ClassFile.FieldType.int)) (by decide) (vq_his k_186) ?_
  intro p e s m args below meth c s₁ B hml hv
  obtain ⟨rfl, hst, hsz, hP, hK, hD0⟩ := hv
  have hx := B.exec
  have hb := B.bytes
  have hr := B.returns
  have hts := atoms_spec (ws := WS) B.pre
  have hown : s.vm.findClass R_V = some m.cls := findClass_of_methodNamed B.named
  have hlocks := B.notSynchronized
  have hno := vq_noH B (hts _ k_186)
  subst hsz
  have hN := vq_ns hP
  have hD := hD0.self (sz := s.heap.size)
  generalize hAe : va_A [(x, .inr (0, [.ref g, .ref an, .ref tr, .ref w])), (w, .inr (7, [.ref g, .ref an_sequences, .ref tr, .ref w_given, .ref w_values, .ref w_knownBits, .ref w_instructionsDone, .int 0, .int 0, .int 0]))] s.heap.size = A at hD hN ⊢
  have hA : ∀ q : Nat, s.heap.size ≤ q → A q := fun q h => by rw [← hAe]; exact Or.inr h
  have hS : va_S A s.heap s.heap [] := va_S.rf
  have hP : va_P (dC, dI) CL [(x, .inr (0, [.ref g, .ref an, .ref tr, .ref w])), (w, .inr (7, [.ref g, .ref an_sequences, .ref tr, .ref w_given, .ref w_values, .ref w_knownBits, .ref w_instructionsDone, .int 0, .int 0, .int 0]))] s.heap := hP
  have hD : va_D A [(x, .inr (0, [.ref g, .ref an, .ref tr, .ref w])), (w, .inr (7, [.ref g, .ref an_sequences, .ref tr, .ref w_given, .ref w_values, .ref w_knownBits, .ref w_instructionsDone, .int 0, .int 0, .int 0]))] := hD
  have hl := lv_entry ([.ref x, .int a]) (n := 2) (Nat.le_of_ble_eq_true rfl)
  rw [lg_entry_eq]
  generalize (lg_sl ([.ref x, .int a]) ++ List.replicate (2 - (lg_sl ([.ref x, .int a])).length) Slot.unset).toArray = ls at hl ⊢
  have hl : lv_has ls 2 [(0, .ref x), (1, .int a)] := hl
  refine lv_iload_n hx hb d_V_run_0 rfl (lv_at hl 1 rfl) ?_
  refine lv_if_lt (tgt := 11) hx hb d_V_run_1 (by decide) (fun h9 => absurd h9 (h0)) (fun _ => ?_)
  refine lv_iload_n hx hb d_V_run_4 rfl (lv_at hl 1 rfl) ?_
  refine lv_sipush (v := 500) hx hb d_V_run_5 (by decide) ?_
  refine lv_icmp_le (tgt := 21) hx hb d_V_run_8 (by decide) (fun _ => ?_) (fun h9 => absurd (h4) h9)
  refine lv_aload_n hx hb d_V_run_21 rfl (lv_at hl 0 rfl) ?_
  refine va_get (D := (dC, dI)) (ci := 0) (v := .ref w) (C := R_V) (T := F_V) (N := 4) hx hb hts u_V hown hK hP 0 rfl rfl 3 (by decide) (hts _ k_100) (fun _ h9 => h9) rfl d_V_run_22 ?_
  refine va_getN (D := (dC, dI)) (ci := 7) (v := .int 0) (C := R_U) (T := F_U) (N := 10) hx hb hts u_U hown hK hP 1 rfl rfl 7 (by decide) (hts _ k_188) (fun _ h9 => h9) rfl d_V_run_25 ?_
  refine lv_if_ne (tgt := 41) hx hb d_V_run_28 (by decide) (fun h9 => absurd (by decide) h9) (fun _ => ?_)
  exact vq_throw (names := up_names) hx hb htr hown (by decide +kernel) (by decide +kernel) (at_V_IllegalStateException hts hst) (hts _ k_110) (hts _ k_111) (hts _ k_189) hS hA hN hno hlocks (by decide) (hl.1.trans hml.symm) d_V_run_31 d_V_run_34 d_V_run_35 d_V_run_37 d_V_run_40

set_option maxHeartbeats 4000000 in
set_option maxRecDepth 100000 in
theorem c_V_status (l : Launch) (htr : l.stackTraces = false) (dC : Nat → ClassId) (dI : Nat → Nat → Nat) (x : Nat) (g : Nat) (an : Nat) (tr : Nat) (w : Nat) (an_sequences : Nat) (w_given : Nat) (w_values : Nat) (w_knownBits : Nat) (w_instructionsDone : Nat) (sz : Nat) : Met l y_V_status WS ({ frames := 0, cells := 0, slots := 0, locals := 0 }) (va_Pc [.ref x] (vq_Pre (dC, dI) CL sz [(x, .inr (0, [.ref g, .ref an, .ref tr, .ref w])), (w, .inr (7, [.ref g, .ref an_sequences, .ref tr, .ref w_given, .ref w_values, .ref w_knownBits, .ref w_instructionsDone, .int 0, .int 0, .int 0]))] [])) (va_Qi (fun (r : Int32) (_ : Unit) => r = 0) (fun _ t => vq_Post (dC, dI) CL (va_A [(x, .inr (0, [.ref g, .ref an, .ref tr, .ref w])), (w, .inr (7, [.ref g, .ref an_sequences, .ref tr, .ref w_given, .ref w_values, .ref w_knownBits, .ref w_instructionsDone, .int 0, .int 0, .int 0]))] sz) [(x, .inr (0, [.ref g, .ref an, .ref tr, .ref w])), (w, .inr (7, [.ref g, .ref an_sequences, .ref tr, .ref w_given, .ref w_values, .ref w_knownBits, .ref w_instructionsDone, .int 0, .int 0, .int 0]))] [] t) (va_A [(x, .inr (0, [.ref g, .ref an, .ref tr, .ref w])), (w, .inr (7, [.ref g, .ref an_sequences, .ref tr, .ref w_given, .ref w_values, .ref w_knownBits, .ref w_instructionsDone, .int 0, .int 0, .int 0]))] sz)) 0 0 (va_A [(x, .inr (0, [.ref g, .ref an, .ref tr, .ref w])), (w, .inr (7, [.ref g, .ref an_sequences, .ref tr, .ref w_given, .ref w_values, .ref w_knownBits, .ref w_instructionsDone, .int 0, .int 0, .int 0]))] sz) := by
  refine vq_ofW (cc := prog_1_method_15_code) (maxL := 1) (ret := (Option.some Jvm.ClassFile.FieldType.int)) (by decide) (vq_his k_190) ?_
  intro p e s m args below meth c s₁ B hml hv
  obtain ⟨rfl, hst, hsz, hP, hK, hD0⟩ := hv
  have hx := B.exec
  have hb := B.bytes
  have hr := B.returns
  have hts := atoms_spec (ws := WS) B.pre
  have hown : s.vm.findClass R_V = some m.cls := findClass_of_methodNamed B.named
  have hlocks := B.notSynchronized
  have hno := vq_noH B (hts _ k_190)
  subst hsz
  have hN := vq_ns hP
  have hD := hD0.self (sz := s.heap.size)
  generalize hAe : va_A [(x, .inr (0, [.ref g, .ref an, .ref tr, .ref w])), (w, .inr (7, [.ref g, .ref an_sequences, .ref tr, .ref w_given, .ref w_values, .ref w_knownBits, .ref w_instructionsDone, .int 0, .int 0, .int 0]))] s.heap.size = A at hD hN ⊢
  have hA : ∀ q : Nat, s.heap.size ≤ q → A q := fun q h => by rw [← hAe]; exact Or.inr h
  have hS : va_S A s.heap s.heap [] := va_S.rf
  have hP : va_P (dC, dI) CL [(x, .inr (0, [.ref g, .ref an, .ref tr, .ref w])), (w, .inr (7, [.ref g, .ref an_sequences, .ref tr, .ref w_given, .ref w_values, .ref w_knownBits, .ref w_instructionsDone, .int 0, .int 0, .int 0]))] s.heap := hP
  have hD : va_D A [(x, .inr (0, [.ref g, .ref an, .ref tr, .ref w])), (w, .inr (7, [.ref g, .ref an_sequences, .ref tr, .ref w_given, .ref w_values, .ref w_knownBits, .ref w_instructionsDone, .int 0, .int 0, .int 0]))] := hD
  have hl := lv_entry ([.ref x]) (n := 1) (Nat.le_of_ble_eq_true rfl)
  rw [lg_entry_eq]
  generalize (lg_sl ([.ref x]) ++ List.replicate (1 - (lg_sl ([.ref x])).length) Slot.unset).toArray = ls at hl ⊢
  have hl : lv_has ls 1 [(0, .ref x)] := hl
  refine lv_aload_n hx hb d_V_status_0 rfl (lv_at hl 0 rfl) ?_
  refine va_get (D := (dC, dI)) (ci := 0) (v := .ref w) (C := R_V) (T := F_V) (N := 4) hx hb hts u_V hown hK hP 0 rfl rfl 3 (by decide) (hts _ k_100) (fun _ h9 => h9) rfl d_V_status_1 ?_
  refine va_getN (D := (dC, dI)) (ci := 7) (v := .int 0) (C := R_U) (T := F_U) (N := 10) hx hb hts u_U hown hK hP 1 rfl rfl 7 (by decide) (hts _ k_188) (fun _ h9 => h9) rfl d_V_status_4 ?_
  have hP9 := hP.sub (ws' := [(x, .inr (0, [.ref g, .ref an, .ref tr, .ref w])), (w, .inr (7, [.ref g, .ref an_sequences, .ref tr, .ref w_given, .ref w_values, .ref w_knownBits, .ref w_instructionsDone, .int 0, .int 0, .int 0]))]) [0, 1] rfl
  have hD9 := hD.sub (ws' := [(x, .inr (0, [.ref g, .ref an, .ref tr, .ref w])), (w, .inr (7, [.ref g, .ref an_sequences, .ref tr, .ref w_given, .ref w_values, .ref w_knownBits, .ref w_instructionsDone, .int 0, .int 0, .int 0]))]) [0, 1] (by decide) rfl
  have hK9 := hK.sub (tys' := []) [] rfl
  refine W.widen (k := 0) (n := 0) (by decide) (by decide) ?_
  exact W.iret (v := 0) hx hb hr (fun t ht hW => ⟨⟨0, (), rfl, rfl, by rw [ht]; exact hP9, va_K.moved hW.alike hK9, hD9⟩, hS.F ht⟩) hS.2.2 d_V_status_7

set_option maxHeartbeats 4000000 in
set_option maxRecDepth 100000 in
theorem c_V_atHand (l : Launch) (htr : l.stackTraces = false) (dC : Nat → ClassId) (dI : Nat → Nat → Nat) (x : Nat) (g : Nat) (an : Nat) (tr : Nat) (w : Nat) (an_sequences : Nat) (w_given : Nat) (w_values : Nat) (w_knownBits : Nat) (w_instructionsDone : Nat) (sz : Nat) : Met l y_V_atHand WS ({ frames := 0, cells := 0, slots := 0, locals := 0 }) (va_Pc [.ref x] (vq_Pre (dC, dI) CL sz [(x, .inr (0, [.ref g, .ref an, .ref tr, .ref w])), (w, .inr (7, [.ref g, .ref an_sequences, .ref tr, .ref w_given, .ref w_values, .ref w_knownBits, .ref w_instructionsDone, .int 0, .int 0, .int 0]))] [])) (va_Qi (fun (r : Int32) (_ : Unit) => r = (-1)) (fun _ t => vq_Post (dC, dI) CL (va_A [(x, .inr (0, [.ref g, .ref an, .ref tr, .ref w])), (w, .inr (7, [.ref g, .ref an_sequences, .ref tr, .ref w_given, .ref w_values, .ref w_knownBits, .ref w_instructionsDone, .int 0, .int 0, .int 0]))] sz) [(x, .inr (0, [.ref g, .ref an, .ref tr, .ref w])), (w, .inr (7, [.ref g, .ref an_sequences, .ref tr, .ref w_given, .ref w_values, .ref w_knownBits, .ref w_instructionsDone, .int 0, .int 0, .int 0]))] [] t) (va_A [(x, .inr (0, [.ref g, .ref an, .ref tr, .ref w])), (w, .inr (7, [.ref g, .ref an_sequences, .ref tr, .ref w_given, .ref w_values, .ref w_knownBits, .ref w_instructionsDone, .int 0, .int 0, .int 0]))] sz)) 0 0 (va_A [(x, .inr (0, [.ref g, .ref an, .ref tr, .ref w])), (w, .inr (7, [.ref g, .ref an_sequences, .ref tr, .ref w_given, .ref w_values, .ref w_knownBits, .ref w_instructionsDone, .int 0, .int 0, .int 0]))] sz) := by
  refine vq_ofW (cc := prog_1_method_16_code) (maxL := 1) (ret := (Option.some Jvm.ClassFile.FieldType.int)) (by decide) (vq_his k_191) ?_
  intro p e s m args below meth c s₁ B hml hv
  obtain ⟨rfl, hst, hsz, hP, hK, hD0⟩ := hv
  have hx := B.exec
  have hb := B.bytes
  have hr := B.returns
  have hts := atoms_spec (ws := WS) B.pre
  have hown : s.vm.findClass R_V = some m.cls := findClass_of_methodNamed B.named
  have hlocks := B.notSynchronized
  have hno := vq_noH B (hts _ k_191)
  subst hsz
  have hN := vq_ns hP
  have hD := hD0.self (sz := s.heap.size)
  generalize hAe : va_A [(x, .inr (0, [.ref g, .ref an, .ref tr, .ref w])), (w, .inr (7, [.ref g, .ref an_sequences, .ref tr, .ref w_given, .ref w_values, .ref w_knownBits, .ref w_instructionsDone, .int 0, .int 0, .int 0]))] s.heap.size = A at hD hN ⊢
  have hA : ∀ q : Nat, s.heap.size ≤ q → A q := fun q h => by rw [← hAe]; exact Or.inr h
  have hS : va_S A s.heap s.heap [] := va_S.rf
  have hP : va_P (dC, dI) CL [(x, .inr (0, [.ref g, .ref an, .ref tr, .ref w])), (w, .inr (7, [.ref g, .ref an_sequences, .ref tr, .ref w_given, .ref w_values, .ref w_knownBits, .ref w_instructionsDone, .int 0, .int 0, .int 0]))] s.heap := hP
  have hD : va_D A [(x, .inr (0, [.ref g, .ref an, .ref tr, .ref w])), (w, .inr (7, [.ref g, .ref an_sequences, .ref tr, .ref w_given, .ref w_values, .ref w_knownBits, .ref w_instructionsDone, .int 0, .int 0, .int 0]))] := hD
  have hl := lv_entry ([.ref x]) (n := 1) (Nat.le_of_ble_eq_true rfl)
  rw [lg_entry_eq]
  generalize (lg_sl ([.ref x]) ++ List.replicate (1 - (lg_sl ([.ref x])).length) Slot.unset).toArray = ls at hl ⊢
  have hl : lv_has ls 1 [(0, .ref x)] := hl
  refine lv_aload_n hx hb d_V_atHand_0 rfl (lv_at hl 0 rfl) ?_
  refine va_get (D := (dC, dI)) (ci := 0) (v := .ref w) (C := R_V) (T := F_V) (N := 4) hx hb hts u_V hown hK hP 0 rfl rfl 3 (by decide) (hts _ k_100) (fun _ h9 => h9) rfl d_V_atHand_1 ?_
  refine va_getN (D := (dC, dI)) (ci := 7) (v := .int 0) (C := R_U) (T := F_U) (N := 10) hx hb hts u_U hown hK hP 1 rfl rfl 7 (by decide) (hts _ k_188) (fun _ h9 => h9) rfl d_V_atHand_4 ?_
  refine lv_iconst (v := 1) hx hb d_V_atHand_7 (by decide) ?_
  refine lv_icmp_ne (tgt := 21) hx hb d_V_atHand_8 (by decide) (fun _ => ?_) (fun h9 => absurd h9 (by decide))
  refine lv_iconst (v := (-1)) hx hb d_V_atHand_21 (by decide) ?_
  have hP9 := hP.sub (ws' := [(x, .inr (0, [.ref g, .ref an, .ref tr, .ref w])), (w, .inr (7, [.ref g, .ref an_sequences, .ref tr, .ref w_given, .ref w_values, .ref w_knownBits, .ref w_instructionsDone, .int 0, .int 0, .int 0]))]) [0, 1] rfl
  have hD9 := hD.sub (ws' := [(x, .inr (0, [.ref g, .ref an, .ref tr, .ref w])), (w, .inr (7, [.ref g, .ref an_sequences, .ref tr, .ref w_given, .ref w_values, .ref w_knownBits, .ref w_instructionsDone, .int 0, .int 0, .int 0]))]) [0, 1] (by decide) rfl
  have hK9 := hK.sub (tys' := []) [] rfl
  refine W.widen (k := 0) (n := 0) (by decide) (by decide) ?_
  exact W.iret (v := (-1)) hx hb hr (fun t ht hW => ⟨⟨(-1), (), rfl, rfl, by rw [ht]; exact hP9, va_K.moved hW.alike hK9, hD9⟩, hS.F ht⟩) hS.2.2 d_V_atHand_22

set_option maxHeartbeats 4000000 in
set_option maxRecDepth 100000 in
theorem t_V_knows (l : Launch) (htr : l.stackTraces = false) (dC : Nat → ClassId) (dI : Nat → Nat → Nat) (x : Nat) (a : Int32) (b : Int32) (g : Nat) (an : Nat) (tr : Nat) (w : Nat) (tr_productions : Nat) (tr_tokens : Nat) (tr_parents : Nat) (tr_nodesAt : Nat) (sz : Nat) : vq_T l y_V_knows WS ({ frames := 7, cells := 1, slots := 6, locals := 104 }) (va_Pc [.ref x, .int a, .int b] (vq_Pre (dC, dI) CL sz [(x, .inr (0, [.ref g, .ref an, .ref tr, .ref w])), (tr, .inr (6, [.ref g, .ref tr_productions, .ref tr_tokens, .ref tr_parents, .ref tr_nodesAt, .int 0]))] [])) "java/lang/IndexOutOfBoundsException" (va_A [(x, .inr (0, [.ref g, .ref an, .ref tr, .ref w])), (tr, .inr (6, [.ref g, .ref tr_productions, .ref tr_tokens, .ref tr_parents, .ref tr_nodesAt, .int 0]))] sz) 1 6 := by
  refine vq_ofT (cc := prog_1_method_17_code) (maxL := 3) (ret := (Option.some Jvm.ClassFile.FieldType.boolean)) (by decide) (vq_his k_192) ?_
  intro p e s m args below meth c s₁ B hml hv
  obtain ⟨rfl, hst, hsz, hP, hK, hD0⟩ := hv
  have hx := B.exec
  have hb := B.bytes
  have hr := B.returns
  have hts := atoms_spec (ws := WS) B.pre
  have hown : s.vm.findClass R_V = some m.cls := findClass_of_methodNamed B.named
  have hlocks := B.notSynchronized
  have hno := vq_noH B (hts _ k_192)
  subst hsz
  have hN := vq_ns hP
  have hD := hD0.self (sz := s.heap.size)
  generalize hAe : va_A [(x, .inr (0, [.ref g, .ref an, .ref tr, .ref w])), (tr, .inr (6, [.ref g, .ref tr_productions, .ref tr_tokens, .ref tr_parents, .ref tr_nodesAt, .int 0]))] s.heap.size = A at hD hN ⊢
  have hA : ∀ q : Nat, s.heap.size ≤ q → A q := fun q h => by rw [← hAe]; exact Or.inr h
  have hS : va_S A s.heap s.heap [] := va_S.rf
  have hP : va_P (dC, dI) CL [(x, .inr (0, [.ref g, .ref an, .ref tr, .ref w])), (tr, .inr (6, [.ref g, .ref tr_productions, .ref tr_tokens, .ref tr_parents, .ref tr_nodesAt, .int 0]))] s.heap := hP
  have hD : va_D A [(x, .inr (0, [.ref g, .ref an, .ref tr, .ref w])), (tr, .inr (6, [.ref g, .ref tr_productions, .ref tr_tokens, .ref tr_parents, .ref tr_nodesAt, .int 0]))] := hD
  have hl := lv_entry ([.ref x, .int a, .int b]) (n := 3) (Nat.le_of_ble_eq_true rfl)
  rw [lg_entry_eq]
  generalize (lg_sl ([.ref x, .int a, .int b]) ++ List.replicate (3 - (lg_sl ([.ref x, .int a, .int b])).length) Slot.unset).toArray = ls at hl ⊢
  have hl : lv_has ls 3 [(0, .ref x), (1, .int a), (2, .int b)] := hl
  refine lv_aload_n hx hb d_V_knows_0 rfl (lv_at hl 0 rfl) ?_
  refine lv_iload_n hx hb d_V_knows_1 rfl (lv_at hl 1 rfl) ?_
  refine lv_iload_n hx hb d_V_knows_2 rfl (lv_at hl 2 rfl) ?_
  have hPc := hP.sub (ws' := [(x, .inr (0, [.ref g, .ref an, .ref tr, .ref w])), (tr, .inr (6, [.ref g, .ref tr_productions, .ref tr_tokens, .ref tr_parents, .ref tr_nodesAt, .int 0]))]) [0, 1] rfl
  have hDc := hD.sub (ws' := [(x, .inr (0, [.ref g, .ref an, .ref tr, .ref w])), (tr, .inr (6, [.ref g, .ref tr_productions, .ref tr_tokens, .ref tr_parents, .ref tr_nodesAt, .int 0]))]) [0, 1] (by decide) rfl
  have hKc := hK.sub (tys' := []) [] rfl
  have hFc := va_free (wc := [(x, .inr (0, [.ref g, .ref an, .ref tr, .ref w])), (tr, .inr (6, [.ref g, .ref tr_productions, .ref tr_tokens, .ref tr_parents, .ref tr_nodesAt, .int 0]))]) hD hS hA [0, 1] rfl
  exact vq_pass (vq_runT (As := [.int a, .int b]) (rest := []) ⟨hx, hb, hml, hown, hts⟩ (t_V_reqT l htr dC dI x a b g an tr w tr_productions tr_tokens tr_parents tr_nodesAt s.heap.size) (vq_cV WSk hts 2 rfl rfl ⟨by decide, by decide⟩ k_133 k_143 k_193 k_194 k_195 (by decide +kernel)) ⟨vq_blind, va_recv hK hP (ci := 0) (q0 := 0) rfl rfl, vq_here hst hS hN hPc hKc hDc⟩ rfl rfl hl.1 rfl (lv_room (Nat.le_of_ble_eq_true rfl)) d_V_knows_3 ⟨by decide, by decide⟩) hS hFc hno hlocks (by decide) (by decide)

set_option maxHeartbeats 4000000 in
set_option maxRecDepth 100000 in
theorem t_V_value (l : Launch) (htr : l.stackTraces = false) (dC : Nat → ClassId) (dI : Nat → Nat → Nat) (x : Nat) (a : Int32) (b : Int32) (g : Nat) (an : Nat) (tr : Nat) (w : Nat) (tr_productions : Nat) (tr_tokens : Nat) (tr_parents : Nat) (tr_nodesAt : Nat) (sz : Nat) : vq_T l y_V_value WS ({ frames := 7, cells := 1, slots := 6, locals := 104 }) (va_Pc [.ref x, .int a, .int b] (vq_Pre (dC, dI) CL sz [(x, .inr (0, [.ref g, .ref an, .ref tr, .ref w])), (tr, .inr (6, [.ref g, .ref tr_productions, .ref tr_tokens, .ref tr_parents, .ref tr_nodesAt, .int 0]))] [])) "java/lang/IndexOutOfBoundsException" (va_A [(x, .inr (0, [.ref g, .ref an, .ref tr, .ref w])), (tr, .inr (6, [.ref g, .ref tr_productions, .ref tr_tokens, .ref tr_parents, .ref tr_nodesAt, .int 0]))] sz) 1 6 := by
  refine vq_ofT (cc := prog_1_method_18_code) (maxL := 3) (ret := (Option.some Jvm.ClassFile.FieldType.int)) (by decide) (vq_his k_196) ?_
  intro p e s m args below meth c s₁ B hml hv
  obtain ⟨rfl, hst, hsz, hP, hK, hD0⟩ := hv
  have hx := B.exec
  have hb := B.bytes
  have hr := B.returns
  have hts := atoms_spec (ws := WS) B.pre
  have hown : s.vm.findClass R_V = some m.cls := findClass_of_methodNamed B.named
  have hlocks := B.notSynchronized
  have hno := vq_noH B (hts _ k_196)
  subst hsz
  have hN := vq_ns hP
  have hD := hD0.self (sz := s.heap.size)
  generalize hAe : va_A [(x, .inr (0, [.ref g, .ref an, .ref tr, .ref w])), (tr, .inr (6, [.ref g, .ref tr_productions, .ref tr_tokens, .ref tr_parents, .ref tr_nodesAt, .int 0]))] s.heap.size = A at hD hN ⊢
  have hA : ∀ q : Nat, s.heap.size ≤ q → A q := fun q h => by rw [← hAe]; exact Or.inr h
  have hS : va_S A s.heap s.heap [] := va_S.rf
  have hP : va_P (dC, dI) CL [(x, .inr (0, [.ref g, .ref an, .ref tr, .ref w])), (tr, .inr (6, [.ref g, .ref tr_productions, .ref tr_tokens, .ref tr_parents, .ref tr_nodesAt, .int 0]))] s.heap := hP
  have hD : va_D A [(x, .inr (0, [.ref g, .ref an, .ref tr, .ref w])), (tr, .inr (6, [.ref g, .ref tr_productions, .ref tr_tokens, .ref tr_parents, .ref tr_nodesAt, .int 0]))] := hD
  have hl := lv_entry ([.ref x, .int a, .int b]) (n := 3) (Nat.le_of_ble_eq_true rfl)
  rw [lg_entry_eq]
  generalize (lg_sl ([.ref x, .int a, .int b]) ++ List.replicate (3 - (lg_sl ([.ref x, .int a, .int b])).length) Slot.unset).toArray = ls at hl ⊢
  have hl : lv_has ls 3 [(0, .ref x), (1, .int a), (2, .int b)] := hl
  refine lv_aload_n hx hb d_V_value_0 rfl (lv_at hl 0 rfl) ?_
  refine lv_iload_n hx hb d_V_value_1 rfl (lv_at hl 1 rfl) ?_
  refine lv_iload_n hx hb d_V_value_2 rfl (lv_at hl 2 rfl) ?_
  have hPc := hP.sub (ws' := [(x, .inr (0, [.ref g, .ref an, .ref tr, .ref w])), (tr, .inr (6, [.ref g, .ref tr_productions, .ref tr_tokens, .ref tr_parents, .ref tr_nodesAt, .int 0]))]) [0, 1] rfl
  have hDc := hD.sub (ws' := [(x, .inr (0, [.ref g, .ref an, .ref tr, .ref w])), (tr, .inr (6, [.ref g, .ref tr_productions, .ref tr_tokens, .ref tr_parents, .ref tr_nodesAt, .int 0]))]) [0, 1] (by decide) rfl
  have hKc := hK.sub (tys' := []) [] rfl
  have hFc := va_free (wc := [(x, .inr (0, [.ref g, .ref an, .ref tr, .ref w])), (tr, .inr (6, [.ref g, .ref tr_productions, .ref tr_tokens, .ref tr_parents, .ref tr_nodesAt, .int 0]))]) hD hS hA [0, 1] rfl
  exact vq_pass (vq_runT (As := [.int a, .int b]) (rest := []) ⟨hx, hb, hml, hown, hts⟩ (t_V_reqT l htr dC dI x a b g an tr w tr_productions tr_tokens tr_parents tr_nodesAt s.heap.size) (vq_cV WSk hts 2 rfl rfl ⟨by decide, by decide⟩ k_133 k_143 k_193 k_194 k_195 (by decide +kernel)) ⟨vq_blind, va_recv hK hP (ci := 0) (q0 := 0) rfl rfl, vq_here hst hS hN hPc hKc hDc⟩ rfl rfl hl.1 rfl (lv_room (Nat.le_of_ble_eq_true rfl)) d_V_value_3 ⟨by decide, by decide⟩) hS hFc hno hlocks (by decide) (by decide)

set_option maxHeartbeats 4000000 in
set_option maxRecDepth 100000 in
theorem c_V_fault0 (l : Launch) (htr : l.stackTraces = false) (dC : Nat → ClassId) (dI : Nat → Nat → Nat) (x : Nat) (g : Nat) (an : Nat) (tr : Nat) (w : Nat) (an_leads : Nat) (an_ranking : Nat) (an_sequences : Nat) (sz : Nat) : Met l y_V_fault WS ({ frames := 0, cells := 0, slots := 0, locals := 0 }) (va_Pc [.ref x, .int 0] (vq_Pre (dC, dI) CL sz [(x, .inr (0, [.ref g, .ref an, .ref tr, .ref w])), (an, .inr (2, [.ref g, .ref an_leads, .ref an_ranking, .ref an_sequences, .int 0, .int 0, .int (-1), .int (-1)]))] [])) (va_Qi (fun (r : Int32) (_ : Unit) => r = 0) (fun _ t => vq_Post (dC, dI) CL (va_A [(x, .inr (0, [.ref g, .ref an, .ref tr, .ref w])), (an, .inr (2, [.ref g, .ref an_leads, .ref an_ranking, .ref an_sequences, .int 0, .int 0, .int (-1), .int (-1)]))] sz) [(x, .inr (0, [.ref g, .ref an, .ref tr, .ref w])), (an, .inr (2, [.ref g, .ref an_leads, .ref an_ranking, .ref an_sequences, .int 0, .int 0, .int (-1), .int (-1)]))] [] t) (va_A [(x, .inr (0, [.ref g, .ref an, .ref tr, .ref w])), (an, .inr (2, [.ref g, .ref an_leads, .ref an_ranking, .ref an_sequences, .int 0, .int 0, .int (-1), .int (-1)]))] sz)) 0 0 (va_A [(x, .inr (0, [.ref g, .ref an, .ref tr, .ref w])), (an, .inr (2, [.ref g, .ref an_leads, .ref an_ranking, .ref an_sequences, .int 0, .int 0, .int (-1), .int (-1)]))] sz) := by
  refine vq_ofW (cc := prog_1_method_6_code) (maxL := 2) (ret := (Option.some Jvm.ClassFile.FieldType.int)) (by decide) (vq_his k_197) ?_
  intro p e s m args below meth c s₁ B hml hv
  obtain ⟨rfl, hst, hsz, hP, hK, hD0⟩ := hv
  have hx := B.exec
  have hb := B.bytes
  have hr := B.returns
  have hts := atoms_spec (ws := WS) B.pre
  have hown : s.vm.findClass R_V = some m.cls := findClass_of_methodNamed B.named
  have hlocks := B.notSynchronized
  have hno := vq_noH B (hts _ k_197)
  subst hsz
  have hN := vq_ns hP
  have hD := hD0.self (sz := s.heap.size)
  generalize hAe : va_A [(x, .inr (0, [.ref g, .ref an, .ref tr, .ref w])), (an, .inr (2, [.ref g, .ref an_leads, .ref an_ranking, .ref an_sequences, .int 0, .int 0, .int (-1), .int (-1)]))] s.heap.size = A at hD hN ⊢
  have hA : ∀ q : Nat, s.heap.size ≤ q → A q := fun q h => by rw [← hAe]; exact Or.inr h
  have hS : va_S A s.heap s.heap [] := va_S.rf
  have hP : va_P (dC, dI) CL [(x, .inr (0, [.ref g, .ref an, .ref tr, .ref w])), (an, .inr (2, [.ref g, .ref an_leads, .ref an_ranking, .ref an_sequences, .int 0, .int 0, .int (-1), .int (-1)]))] s.heap := hP
  have hD : va_D A [(x, .inr (0, [.ref g, .ref an, .ref tr, .ref w])), (an, .inr (2, [.ref g, .ref an_leads, .ref an_ranking, .ref an_sequences, .int 0, .int 0, .int (-1), .int (-1)]))] := hD
  have hl := lv_entry ([.ref x, .int 0]) (n := 2) (Nat.le_of_ble_eq_true rfl)
  rw [lg_entry_eq]
  generalize (lg_sl ([.ref x, .int 0]) ++ List.replicate (2 - (lg_sl ([.ref x, .int 0])).length) Slot.unset).toArray = ls at hl ⊢
  have hl : lv_has ls 2 [(0, .ref x), (1, .int 0)] := hl
  refine lv_iload_n hx hb d_V_fault_0 rfl (lv_at hl 1 rfl) ?_
  refine lv_tableIn (x := 0) (off := 27) (tgt := 28) hx hb d_V_fault_1 (by decide) (by decide) (by decide) (by decide) ?_
  refine lv_aload_n hx hb d_V_fault_28 rfl (lv_at hl 0 rfl) ?_
  refine va_get (D := (dC, dI)) (ci := 0) (v := .ref an) (C := R_V) (T := F_V) (N := 4) hx hb hts u_V hown hK hP 0 rfl rfl 1 (by decide) (hts _ k_87) (fun _ h9 => h9) rfl d_V_fault_29 ?_
  refine va_getN (D := (dC, dI)) (ci := 2) (v := .int 0) (C := R_A) (T := F_A) (N := 8) hx hb hts u_A hown hK hP 1 rfl rfl 5 (by decide) (hts _ k_168) (fun _ h9 => h9) rfl d_V_fault_32 ?_
  have hP9 := hP.sub (ws' := [(x, .inr (0, [.ref g, .ref an, .ref tr, .ref w])), (an, .inr (2, [.ref g, .ref an_leads, .ref an_ranking, .ref an_sequences, .int 0, .int 0, .int (-1), .int (-1)]))]) [0, 1] rfl
  have hD9 := hD.sub (ws' := [(x, .inr (0, [.ref g, .ref an, .ref tr, .ref w])), (an, .inr (2, [.ref g, .ref an_leads, .ref an_ranking, .ref an_sequences, .int 0, .int 0, .int (-1), .int (-1)]))]) [0, 1] (by decide) rfl
  have hK9 := hK.sub (tys' := []) [] rfl
  refine W.widen (k := 0) (n := 0) (by decide) (by decide) ?_
  exact W.iret (v := 0) hx hb hr (fun t ht hW => ⟨⟨0, (), rfl, rfl, by rw [ht]; exact hP9, va_K.moved hW.alike hK9, hD9⟩, hS.F ht⟩) hS.2.2 d_V_fault_35

set_option maxHeartbeats 4000000 in
set_option maxRecDepth 100000 in
theorem c_V_fault1 (l : Launch) (htr : l.stackTraces = false) (dC : Nat → ClassId) (dI : Nat → Nat → Nat) (x : Nat) (g : Nat) (an : Nat) (tr : Nat) (w : Nat) (an_leads : Nat) (an_ranking : Nat) (an_sequences : Nat) (sz : Nat) : Met l y_V_fault WS ({ frames := 0, cells := 0, slots := 0, locals := 0 }) (va_Pc [.ref x, .int 1] (vq_Pre (dC, dI) CL sz [(x, .inr (0, [.ref g, .ref an, .ref tr, .ref w])), (an, .inr (2, [.ref g, .ref an_leads, .ref an_ranking, .ref an_sequences, .int 0, .int 0, .int (-1), .int (-1)]))] [])) (va_Qi (fun (r : Int32) (_ : Unit) => r = (-1)) (fun _ t => vq_Post (dC, dI) CL (va_A [(x, .inr (0, [.ref g, .ref an, .ref tr, .ref w])), (an, .inr (2, [.ref g, .ref an_leads, .ref an_ranking, .ref an_sequences, .int 0, .int 0, .int (-1), .int (-1)]))] sz) [(x, .inr (0, [.ref g, .ref an, .ref tr, .ref w])), (an, .inr (2, [.ref g, .ref an_leads, .ref an_ranking, .ref an_sequences, .int 0, .int 0, .int (-1), .int (-1)]))] [] t) (va_A [(x, .inr (0, [.ref g, .ref an, .ref tr, .ref w])), (an, .inr (2, [.ref g, .ref an_leads, .ref an_ranking, .ref an_sequences, .int 0, .int 0, .int (-1), .int (-1)]))] sz)) 0 0 (va_A [(x, .inr (0, [.ref g, .ref an, .ref tr, .ref w])), (an, .inr (2, [.ref g, .ref an_leads, .ref an_ranking, .ref an_sequences, .int 0, .int 0, .int (-1), .int (-1)]))] sz) := by
  refine vq_ofW (cc := prog_1_method_6_code) (maxL := 2) (ret := (Option.some Jvm.ClassFile.FieldType.int)) (by decide) (vq_his k_197) ?_
  intro p e s m args below meth c s₁ B hml hv
  obtain ⟨rfl, hst, hsz, hP, hK, hD0⟩ := hv
  have hx := B.exec
  have hb := B.bytes
  have hr := B.returns
  have hts := atoms_spec (ws := WS) B.pre
  have hown : s.vm.findClass R_V = some m.cls := findClass_of_methodNamed B.named
  have hlocks := B.notSynchronized
  have hno := vq_noH B (hts _ k_197)
  subst hsz
  have hN := vq_ns hP
  have hD := hD0.self (sz := s.heap.size)
  generalize hAe : va_A [(x, .inr (0, [.ref g, .ref an, .ref tr, .ref w])), (an, .inr (2, [.ref g, .ref an_leads, .ref an_ranking, .ref an_sequences, .int 0, .int 0, .int (-1), .int (-1)]))] s.heap.size = A at hD hN ⊢
  have hA : ∀ q : Nat, s.heap.size ≤ q → A q := fun q h => by rw [← hAe]; exact Or.inr h
  have hS : va_S A s.heap s.heap [] := va_S.rf
  have hP : va_P (dC, dI) CL [(x, .inr (0, [.ref g, .ref an, .ref tr, .ref w])), (an, .inr (2, [.ref g, .ref an_leads, .ref an_ranking, .ref an_sequences, .int 0, .int 0, .int (-1), .int (-1)]))] s.heap := hP
  have hD : va_D A [(x, .inr (0, [.ref g, .ref an, .ref tr, .ref w])), (an, .inr (2, [.ref g, .ref an_leads, .ref an_ranking, .ref an_sequences, .int 0, .int 0, .int (-1), .int (-1)]))] := hD
  have hl := lv_entry ([.ref x, .int 1]) (n := 2) (Nat.le_of_ble_eq_true rfl)
  rw [lg_entry_eq]
  generalize (lg_sl ([.ref x, .int 1]) ++ List.replicate (2 - (lg_sl ([.ref x, .int 1])).length) Slot.unset).toArray = ls at hl ⊢
  have hl : lv_has ls 2 [(0, .ref x), (1, .int 1)] := hl
  refine lv_iload_n hx hb d_V_fault_0 rfl (lv_at hl 1 rfl) ?_
  refine lv_tableIn (x := 1) (off := 35) (tgt := 36) hx hb d_V_fault_1 (by decide) (by decide) (by decide) (by decide) ?_
  refine lv_aload_n hx hb d_V_fault_36 rfl (lv_at hl 0 rfl) ?_
  refine va_get (D := (dC, dI)) (ci := 0) (v := .ref an) (C := R_V) (T := F_V) (N := 4) hx hb hts u_V hown hK hP 0 rfl rfl 1 (by decide) (hts _ k_87) (fun _ h9 => h9) rfl d_V_fault_37 ?_
  refine va_getN (D := (dC, dI)) (ci := 2) (v := .int (-1)) (C := R_A) (T := F_A) (N := 8) hx hb hts u_A hown hK hP 1 rfl rfl 6 (by decide) (hts _ k_198) (fun _ h9 => h9) rfl d_V_fault_40 ?_
  have hP9 := hP.sub (ws' := [(x, .inr (0, [.ref g, .ref an, .ref tr, .ref w])), (an, .inr (2, [.ref g, .ref an_leads, .ref an_ranking, .ref an_sequences, .int 0, .int 0, .int (-1), .int (-1)]))]) [0, 1] rfl
  have hD9 := hD.sub (ws' := [(x, .inr (0, [.ref g, .ref an, .ref tr, .ref w])), (an, .inr (2, [.ref g, .ref an_leads, .ref an_ranking, .ref an_sequences, .int 0, .int 0, .int (-1), .int (-1)]))]) [0, 1] (by decide) rfl
  have hK9 := hK.sub (tys' := []) [] rfl
  refine W.widen (k := 0) (n := 0) (by decide) (by decide) ?_
  exact W.iret (v := (-1)) hx hb hr (fun t ht hW => ⟨⟨(-1), (), rfl, rfl, by rw [ht]; exact hP9, va_K.moved hW.alike hK9, hD9⟩, hS.F ht⟩) hS.2.2 d_V_fault_43

set_option maxHeartbeats 4000000 in
set_option maxRecDepth 100000 in
theorem c_V_fault2 (l : Launch) (htr : l.stackTraces = false) (dC : Nat → ClassId) (dI : Nat → Nat → Nat) (x : Nat) (g : Nat) (an : Nat) (tr : Nat) (w : Nat) (an_leads : Nat) (an_ranking : Nat) (an_sequences : Nat) (sz : Nat) : Met l y_V_fault WS ({ frames := 0, cells := 0, slots := 0, locals := 0 }) (va_Pc [.ref x, .int 2] (vq_Pre (dC, dI) CL sz [(x, .inr (0, [.ref g, .ref an, .ref tr, .ref w])), (an, .inr (2, [.ref g, .ref an_leads, .ref an_ranking, .ref an_sequences, .int 0, .int 0, .int (-1), .int (-1)]))] [])) (va_Qi (fun (r : Int32) (_ : Unit) => r = (-1)) (fun _ t => vq_Post (dC, dI) CL (va_A [(x, .inr (0, [.ref g, .ref an, .ref tr, .ref w])), (an, .inr (2, [.ref g, .ref an_leads, .ref an_ranking, .ref an_sequences, .int 0, .int 0, .int (-1), .int (-1)]))] sz) [(x, .inr (0, [.ref g, .ref an, .ref tr, .ref w])), (an, .inr (2, [.ref g, .ref an_leads, .ref an_ranking, .ref an_sequences, .int 0, .int 0, .int (-1), .int (-1)]))] [] t) (va_A [(x, .inr (0, [.ref g, .ref an, .ref tr, .ref w])), (an, .inr (2, [.ref g, .ref an_leads, .ref an_ranking, .ref an_sequences, .int 0, .int 0, .int (-1), .int (-1)]))] sz)) 0 0 (va_A [(x, .inr (0, [.ref g, .ref an, .ref tr, .ref w])), (an, .inr (2, [.ref g, .ref an_leads, .ref an_ranking, .ref an_sequences, .int 0, .int 0, .int (-1), .int (-1)]))] sz) := by
  refine vq_ofW (cc := prog_1_method_6_code) (maxL := 2) (ret := (Option.some Jvm.ClassFile.FieldType.int)) (by decide) (vq_his k_197) ?_
  intro p e s m args below meth c s₁ B hml hv
  obtain ⟨rfl, hst, hsz, hP, hK, hD0⟩ := hv
  have hx := B.exec
  have hb := B.bytes
  have hr := B.returns
  have hts := atoms_spec (ws := WS) B.pre
  have hown : s.vm.findClass R_V = some m.cls := findClass_of_methodNamed B.named
  have hlocks := B.notSynchronized
  have hno := vq_noH B (hts _ k_197)
  subst hsz
  have hN := vq_ns hP
  have hD := hD0.self (sz := s.heap.size)
  generalize hAe : va_A [(x, .inr (0, [.ref g, .ref an, .ref tr, .ref w])), (an, .inr (2, [.ref g, .ref an_leads, .ref an_ranking, .ref an_sequences, .int 0, .int 0, .int (-1), .int (-1)]))] s.heap.size = A at hD hN ⊢
  have hA : ∀ q : Nat, s.heap.size ≤ q → A q := fun q h => by rw [← hAe]; exact Or.inr h
  have hS : va_S A s.heap s.heap [] := va_S.rf
  have hP : va_P (dC, dI) CL [(x, .inr (0, [.ref g, .ref an, .ref tr, .ref w])), (an, .inr (2, [.ref g, .ref an_leads, .ref an_ranking, .ref an_sequences, .int 0, .int 0, .int (-1), .int (-1)]))] s.heap := hP
  have hD : va_D A [(x, .inr (0, [.ref g, .ref an, .ref tr, .ref w])), (an, .inr (2, [.ref g, .ref an_leads, .ref an_ranking, .ref an_sequences, .int 0, .int 0, .int (-1), .int (-1)]))] := hD
  have hl := lv_entry ([.ref x, .int 2]) (n := 2) (Nat.le_of_ble_eq_true rfl)
  rw [lg_entry_eq]
  generalize (lg_sl ([.ref x, .int 2]) ++ List.replicate (2 - (lg_sl ([.ref x, .int 2])).length) Slot.unset).toArray = ls at hl ⊢
  have hl : lv_has ls 2 [(0, .ref x), (1, .int 2)] := hl
  refine lv_iload_n hx hb d_V_fault_0 rfl (lv_at hl 1 rfl) ?_
  refine lv_tableIn (x := 2) (off := 43) (tgt := 44) hx hb d_V_fault_1 (by decide) (by decide) (by decide) (by decide) ?_
  refine lv_aload_n hx hb d_V_fault_44 rfl (lv_at hl 0 rfl) ?_
  refine va_get (D := (dC, dI)) (ci := 0) (v := .ref an) (C := R_V) (T := F_V) (N := 4) hx hb hts u_V hown hK hP 0 rfl rfl 1 (by decide) (hts _ k_87) (fun _ h9 => h9) rfl d_V_fault_45 ?_
  refine va_getN (D := (dC, dI)) (ci := 2) (v := .int (-1)) (C := R_A) (T := F_A) (N := 8) hx hb hts u_A hown hK hP 1 rfl rfl 7 (by decide) (hts _ k_199) (fun _ h9 => h9) rfl d_V_fault_48 ?_
  have hP9 := hP.sub (ws' := [(x, .inr (0, [.ref g, .ref an, .ref tr, .ref w])), (an, .inr (2, [.ref g, .ref an_leads, .ref an_ranking, .ref an_sequences, .int 0, .int 0, .int (-1), .int (-1)]))]) [0, 1] rfl
  have hD9 := hD.sub (ws' := [(x, .inr (0, [.ref g, .ref an, .ref tr, .ref w])), (an, .inr (2, [.ref g, .ref an_leads, .ref an_ranking, .ref an_sequences, .int 0, .int 0, .int (-1), .int (-1)]))]) [0, 1] (by decide) rfl
  have hK9 := hK.sub (tys' := []) [] rfl
  refine W.widen (k := 0) (n := 0) (by decide) (by decide) ?_
  exact W.iret (v := (-1)) hx hb hr (fun t ht hW => ⟨⟨(-1), (), rfl, rfl, by rw [ht]; exact hP9, va_K.moved hW.alike hK9, hD9⟩, hS.F ht⟩) hS.2.2 d_V_fault_51

set_option maxHeartbeats 4000000 in
set_option maxRecDepth 100000 in
theorem c_V_faultD (l : Launch) (htr : l.stackTraces = false) (dC : Nat → ClassId) (dI : Nat → Nat → Nat) (x : Nat) (a : Int32) (g : Nat) (an : Nat) (tr : Nat) (w : Nat) (an_leads : Nat) (an_ranking : Nat) (an_sequences : Nat) (sz : Nat) (ho : a.toInt < 0 ∨ 2 < a.toInt) : Met l y_V_fault WS ({ frames := 0, cells := 0, slots := 0, locals := 0 }) (va_Pc [.ref x, .int a] (vq_Pre (dC, dI) CL sz [(x, .inr (0, [.ref g, .ref an, .ref tr, .ref w])), (an, .inr (2, [.ref g, .ref an_leads, .ref an_ranking, .ref an_sequences, .int 0, .int 0, .int (-1), .int (-1)]))] [])) (va_Qi (fun (r : Int32) (_ : Unit) => r = (-1)) (fun _ t => vq_Post (dC, dI) CL (va_A [(x, .inr (0, [.ref g, .ref an, .ref tr, .ref w])), (an, .inr (2, [.ref g, .ref an_leads, .ref an_ranking, .ref an_sequences, .int 0, .int 0, .int (-1), .int (-1)]))] sz) [(x, .inr (0, [.ref g, .ref an, .ref tr, .ref w])), (an, .inr (2, [.ref g, .ref an_leads, .ref an_ranking, .ref an_sequences, .int 0, .int 0, .int (-1), .int (-1)]))] [] t) (va_A [(x, .inr (0, [.ref g, .ref an, .ref tr, .ref w])), (an, .inr (2, [.ref g, .ref an_leads, .ref an_ranking, .ref an_sequences, .int 0, .int 0, .int (-1), .int (-1)]))] sz)) 0 0 (va_A [(x, .inr (0, [.ref g, .ref an, .ref tr, .ref w])), (an, .inr (2, [.ref g, .ref an_leads, .ref an_ranking, .ref an_sequences, .int 0, .int 0, .int (-1), .int (-1)]))] sz) := by
  refine vq_ofW (cc := prog_1_method_6_code) (maxL := 2) (ret := (Option.some Jvm.ClassFile.FieldType.int)) (by decide) (vq_his k_197) ?_
  intro p e s m args below meth c s₁ B hml hv
  obtain ⟨rfl, hst, hsz, hP, hK, hD0⟩ := hv
  have hx := B.exec
  have hb := B.bytes
  have hr := B.returns
  have hts := atoms_spec (ws := WS) B.pre
  have hown : s.vm.findClass R_V = some m.cls := findClass_of_methodNamed B.named
  have hlocks := B.notSynchronized
  have hno := vq_noH B (hts _ k_197)
  subst hsz
  have hN := vq_ns hP
  have hD := hD0.self (sz := s.heap.size)
  generalize hAe : va_A [(x, .inr (0, [.ref g, .ref an, .ref tr, .ref w])), (an, .inr (2, [.ref g, .ref an_leads, .ref an_ranking, .ref an_sequences, .int 0, .int 0, .int (-1), .int (-1)]))] s.heap.size = A at hD hN ⊢
  have hA : ∀ q : Nat, s.heap.size ≤ q → A q := fun q h => by rw [← hAe]; exact Or.inr h
  have hS : va_S A s.heap s.heap [] := va_S.rf
  have hP : va_P (dC, dI) CL [(x, .inr (0, [.ref g, .ref an, .ref tr, .ref w])), (an, .inr (2, [.ref g, .ref an_leads, .ref an_ranking, .ref an_sequences, .int 0, .int 0, .int (-1), .int (-1)]))] s.heap := hP
  have hD : va_D A [(x, .inr (0, [.ref g, .ref an, .ref tr, .ref w])), (an, .inr (2, [.ref g, .ref an_leads, .ref an_ranking, .ref an_sequences, .int 0, .int 0, .int (-1), .int (-1)]))] := hD
  have hl := lv_entry ([.ref x, .int a]) (n := 2) (Nat.le_of_ble_eq_true rfl)
  rw [lg_entry_eq]
  generalize (lg_sl ([.ref x, .int a]) ++ List.replicate (2 - (lg_sl ([.ref x, .int a])).length) Slot.unset).toArray = ls at hl ⊢
  have hl : lv_has ls 2 [(0, .ref x), (1, .int a)] := hl
  refine lv_iload_n hx hb d_V_fault_0 rfl (lv_at hl 1 rfl) ?_
  refine lv_tableOut (tgt := 52) hx hb d_V_fault_1 ho (by decide) ?_
  refine lv_iconst (v := (-1)) hx hb d_V_fault_52 (by decide) ?_
  have hP9 := hP.sub (ws' := [(x, .inr (0, [.ref g, .ref an, .ref tr, .ref w])), (an, .inr (2, [.ref g, .ref an_leads, .ref an_ranking, .ref an_sequences, .int 0, .int 0, .int (-1), .int (-1)]))]) [0, 1] rfl
  have hD9 := hD.sub (ws' := [(x, .inr (0, [.ref g, .ref an, .ref tr, .ref w])), (an, .inr (2, [.ref g, .ref an_leads, .ref an_ranking, .ref an_sequences, .int 0, .int 0, .int (-1), .int (-1)]))]) [0, 1] (by decide) rfl
  have hK9 := hK.sub (tys' := []) [] rfl
  refine W.widen (k := 0) (n := 0) (by decide) (by decide) ?_
  exact W.iret (v := (-1)) hx hb hr (fun t ht hW => ⟨⟨(-1), (), rfl, rfl, by rw [ht]; exact hP9, va_K.moved hW.alike hK9, hD9⟩, hS.F ht⟩) hS.2.2 d_V_fault_53

