set_option maxHeartbeats 4000000 in
set_option maxRecDepth 100000 in
theorem arm_0 {p : Program} {e : Env} {s : State} {m : MethodId} {below : List Frame} {meth : Method} {c : Code} (l : Launch) (htr : l.stackTraces = false) {b : Nat} {xs : Nat → Int32} {A : Nat → Prop} (dC : Nat → ClassId) (dI : Nat → Nat → Nat) (out : Nat) (mo : Nat) (x : Nat) (g : Nat) (an : Nat) (tr : Nat) (w : Nat) (g_attributeCounts : Nat) (g_inheritedBits : Nat) (g_symbolsAt : Nat) (g_lastPositions : Nat) (g_presentBits : Nat) (g_toDefineBits : Nat) (g_ruledBits : Nat) (g_forms : Nat) (g_firsts : Nat) (g_seconds : Nat) (g_usedBits : Nat) (an_leads : Nat) (an_ranking : Nat) (an_sequences : Nat) (w_given : Nat) (w_values : Nat) (w_knownBits : Nat) (w_instructionsDone : Nat) (cac : ClassId) (fac : Nat → Int32) (cib : ClassId) (fib : Nat → Int32) (cout : ClassId) (fo : Nat → Int64) (m_attributes : Nat) (m_inherits : Nat) (m_positions : Nat) (m_symbolAt : Nat) (m_form : Nat) (m_ruleX : Nat) (m_ruleY : Nat) (m_uses : Nat) (m_leads : Nat) (m_symbolLeads : Nat) (m_order : Nat) (m_rank : Nat) (m_visits : Nat) (m_length : Nat) (m_sequence : Nat) (m_set : Nat) (m_visited : Nat) (m_production : Nat) (m_token : Nat) (m_child : Nat) (m_parent : Nat) (m_next : Nat) (m_known : Nat) (m_value : Nat) (m_given : Nat) (cat : ClassId) (fat : Nat → Int32) (cih : ClassId) (fih : Nat → Int32) (ckn : ClassId) (fkn : Nat → Int32) {H : Heap} {locs : List Loc} {ls : Array Slot} (h0 : ¬ xs 1 < 0) (h4 : xs 1 ≤ 4) (hAt : lw_At p s m meth c b 6 xs) (hst : vq_st s) (hA : ∀ q : Nat, s.heap.size ≤ q → A q) (hA2 : ∀ q : Nat, A q → s.heap.size ≤ q) (hbA : ¬ A b) (hK : va_K (dC, dI) CL [(cac, .int), (cib, .int), (cout, .long), (cat, .int), (cih, .boolean), (ckn, .boolean)] s) (hP : va_P (dC, dI) CL [(x, .inr (0, [.ref g, .ref an, .ref tr, .ref w])), (g, .inr (1, [.ref g_attributeCounts, .ref g_inheritedBits, .int 0, .ref g_symbolsAt, .ref g_lastPositions, .ref g_presentBits, .ref g_toDefineBits, .int 0, .ref g_ruledBits, .ref g_forms, .ref g_firsts, .ref g_seconds, .ref g_usedBits])), (an, .inr (2, [.ref g, .ref an_leads, .ref an_ranking, .ref an_sequences, .int 0, .int 0, .int (-1), .int (-1)])), (w, .inr (7, [.ref g, .ref an_sequences, .ref tr, .ref w_given, .ref w_values, .ref w_knownBits, .ref w_instructionsDone, .int 0, .int 0, .int 0])), (g_attributeCounts, .inl (cac, 6, .inl fac)), (g_inheritedBits, .inl (cib, 6, .inl fib)), (out, .inl (cout, 1, .inr (.inl fo))), (mo, .inr (8, [.int 0, .int 0, .ref m_attributes, .ref m_inherits, .int 0, .ref m_positions, .ref m_symbolAt, .ref m_form, .ref m_ruleX, .ref m_ruleY, .int 0, .int 0, .int (-1), .int (-1), .ref m_uses, .ref m_leads, .ref m_symbolLeads, .ref m_order, .ref m_rank, .ref m_visits, .ref m_length, .ref m_sequence, .ref m_set, .ref m_visited, .int 0, .ref m_production, .ref m_token, .ref m_child, .ref m_parent, .ref m_next, .ref m_known, .ref m_value, .ref m_given, .int (-1), .int (-1)])), (m_attributes, .inl (cat, 6, .inl fat)), (m_inherits, .inl (cih, 24, .inl fih)), (m_known, .inl (ckn, 160, .inl fkn))] H) (hD : va_D A [(x, .inr (0, [.ref g, .ref an, .ref tr, .ref w])), (g, .inr (1, [.ref g_attributeCounts, .ref g_inheritedBits, .int 0, .ref g_symbolsAt, .ref g_lastPositions, .ref g_presentBits, .ref g_toDefineBits, .int 0, .ref g_ruledBits, .ref g_forms, .ref g_firsts, .ref g_seconds, .ref g_usedBits])), (an, .inr (2, [.ref g, .ref an_leads, .ref an_ranking, .ref an_sequences, .int 0, .int 0, .int (-1), .int (-1)])), (w, .inr (7, [.ref g, .ref an_sequences, .ref tr, .ref w_given, .ref w_values, .ref w_knownBits, .ref w_instructionsDone, .int 0, .int 0, .int 0])), (g_attributeCounts, .inl (cac, 6, .inl fac)), (g_inheritedBits, .inl (cib, 6, .inl fib)), (out, .inl (cout, 1, .inr (.inl fo))), (mo, .inr (8, [.int 0, .int 0, .ref m_attributes, .ref m_inherits, .int 0, .ref m_positions, .ref m_symbolAt, .ref m_form, .ref m_ruleX, .ref m_ruleY, .int 0, .int 0, .int (-1), .int (-1), .ref m_uses, .ref m_leads, .ref m_symbolLeads, .ref m_order, .ref m_rank, .ref m_visits, .ref m_length, .ref m_sequence, .ref m_set, .ref m_visited, .int 0, .ref m_production, .ref m_token, .ref m_child, .ref m_parent, .ref m_next, .ref m_known, .ref m_value, .ref m_given, .int (-1), .int (-1)])), (m_attributes, .inl (cat, 6, .inl fat)), (m_inherits, .inl (cih, 24, .inl fih)), (m_known, .inl (ckn, 160, .inl fkn))]) (hS : va_S A s.heap H locs) (hl : lv_has ls 7 [(4, .int 0), (3, .ref out), (2, .ref mo), (1, .ref x), (0, .ref b)]) : W p l e room_1 s m #[Value.ref b] below meth c H locs 62 9096 (lw_Z below #[Value.ref b] s) (F0 m 124 ls []) := by
  obtain ⟨hx, hb, hr, hml, hown, hts0, hX, hbl, hlocks, -⟩ := hAt
  have hts : ∀ w ∈ WS, w.before #[Value.ref b] s = true := fun w hw => hts0 w (WS_tbl w hw)
  have hN : ∀ q : Nat, A q → ∀ cell : Cell, s.heap[q]? = some cell → cell.vm.isStatics = false := fun q hq cell hc => absurd (Array.getElem?_eq_some_iff.mp hc).1 (Nat.not_lt.mpr (hA2 q hq))
  refine lv_aload_n hx hb d_L_law_124 rfl (lv_at hl 3 rfl) ?_
  refine lv_aload_n hx hb d_L_law_125 rfl (lv_at hl 4 rfl) ?_
  refine lv_iload hx hb d_L_law_126 (lv_at hl 0 rfl) ?_
  refine lv_iconst (v := 1) hx hb d_L_law_128 (by decide) ?_
  refine lv_iadd hx hb d_L_law_129 ?_
  refine vq_top (y := 1) (by decide) ?_
  refine va_sld (i := 1) hx hb hX hbl hbA hS (show ¬ ((1 : Int32) < 0 ∨ 6 ≤ Int32.toNatClampNeg 1) by decide) d_L_law_130 ?_
  refine vq_top (y := xs 1) rfl ?_
  refine lv_aload_n hx hb d_L_law_131 rfl (lv_at hl 4 rfl) ?_
  refine lv_iload hx hb d_L_law_132 (lv_at hl 0 rfl) ?_
  refine lv_iconst (v := 2) hx hb d_L_law_134 (by decide) ?_
  refine lv_iadd hx hb d_L_law_135 ?_
  refine vq_top (y := 2) (by decide) ?_
  refine va_sld (i := 2) hx hb hX hbl hbA hS (show ¬ ((2 : Int32) < 0 ∨ 6 ≤ Int32.toNatClampNeg 2) by decide) d_L_law_136 ?_
  refine vq_top (y := xs 2) rfl ?_
  refine lv_aload_n hx hb d_L_law_137 rfl (lv_at hl 1 rfl) ?_
  have hPc := hP.sub (ws' := [(x, .inr (0, [.ref g, .ref an, .ref tr, .ref w])), (g, .inr (1, [.ref g_attributeCounts, .ref g_inheritedBits, .int 0, .ref g_symbolsAt, .ref g_lastPositions, .ref g_presentBits, .ref g_toDefineBits, .int 0, .ref g_ruledBits, .ref g_forms, .ref g_firsts, .ref g_seconds, .ref g_usedBits])), (an, .inr (2, [.ref g, .ref an_leads, .ref an_ranking, .ref an_sequences, .int 0, .int 0, .int (-1), .int (-1)])), (w, .inr (7, [.ref g, .ref an_sequences, .ref tr, .ref w_given, .ref w_values, .ref w_knownBits, .ref w_instructionsDone, .int 0, .int 0, .int 0])), (g_attributeCounts, .inl (cac, 6, .inl fac)), (g_inheritedBits, .inl (cib, 6, .inl fib)), (out, .inl (cout, 1, .inr (.inl fo)))]) [0, 1, 2, 3, 4, 5, 6] rfl
  have hDc := hD.sub (ws' := [(x, .inr (0, [.ref g, .ref an, .ref tr, .ref w])), (g, .inr (1, [.ref g_attributeCounts, .ref g_inheritedBits, .int 0, .ref g_symbolsAt, .ref g_lastPositions, .ref g_presentBits, .ref g_toDefineBits, .int 0, .ref g_ruledBits, .ref g_forms, .ref g_firsts, .ref g_seconds, .ref g_usedBits])), (an, .inr (2, [.ref g, .ref an_leads, .ref an_ranking, .ref an_sequences, .int 0, .int 0, .int (-1), .int (-1)])), (w, .inr (7, [.ref g, .ref an_sequences, .ref tr, .ref w_given, .ref w_values, .ref w_knownBits, .ref w_instructionsDone, .int 0, .int 0, .int 0])), (g_attributeCounts, .inl (cac, 6, .inl fac)), (g_inheritedBits, .inl (cib, 6, .inl fib)), (out, .inl (cout, 1, .inr (.inl fo)))]) [0, 1, 2, 3, 4, 5, 6] (by decide) rfl
  have hKc := hK.sub (tys' := [(cac, .int), (cib, .int), (cout, .long)]) [0, 1, 2] rfl
  have hFc := va_free (wc := [(x, .inr (0, [.ref g, .ref an, .ref tr, .ref w])), (g, .inr (1, [.ref g_attributeCounts, .ref g_inheritedBits, .int 0, .ref g_symbolsAt, .ref g_lastPositions, .ref g_presentBits, .ref g_toDefineBits, .int 0, .ref g_ruledBits, .ref g_forms, .ref g_firsts, .ref g_seconds, .ref g_usedBits])), (an, .inr (2, [.ref g, .ref an_leads, .ref an_ranking, .ref an_sequences, .int 0, .int 0, .int (-1), .int (-1)])), (w, .inr (7, [.ref g, .ref an_sequences, .ref tr, .ref w_given, .ref w_values, .ref w_knownBits, .ref w_instructionsDone, .int 0, .int 0, .int 0])), (g_attributeCounts, .inl (cac, 6, .inl fac)), (g_inheritedBits, .inl (cib, 6, .inl fib)), (out, .inl (cout, 1, .inr (.inl fo)))]) hD hS hA [0, 1, 2, 3, 4, 5, 6] rfl
  refine va_calli (vq_runSH (n := 4) (As := [.ref x, .int (xs 1), .int (xs 2), .ref out]) (rest := []) ⟨hx, hb, hml, hown, hts⟩ (w_symbol l htr dC dI x (xs 1) (xs 2) out g an tr w g_attributeCounts g_inheritedBits g_symbolsAt g_lastPositions g_presentBits g_toDefineBits g_ruledBits g_forms g_firsts g_seconds g_usedBits an_leads an_ranking an_sequences w_given w_values w_knownBits w_instructionsDone cac fac cib fib cout fo H.size h0 h4) WSk rfl rfl ⟨by decide, by decide⟩ k_289 k_347 k_348 k_349 (by decide +kernel) ⟨vq_blind, vq_here hst hS hN hPc hKc hDc⟩ rfl rfl hl.1 rfl (lv_room (Nat.le_of_ble_eq_true rfl)) d_L_law_138 ⟨by decide, by decide⟩) hS (fun q _ h => hFc q h) hFc (fun r1 u t H1 locs ht hvm hw hB hz1 hk1 hS => ?_)
  obtain ⟨hP1, hK1, hD1⟩ := hB
  rw [ht] at hP1
  have hK1 := va_K.moved hvm.symm hK1
  have hw : r1 = 0 := hw
  subst hw
  obtain ⟨hP, hD⟩ := va_join (wr := [(mo, .inr (8, [.int 0, .int 0, .ref m_attributes, .ref m_inherits, .int 0, .ref m_positions, .ref m_symbolAt, .ref m_form, .ref m_ruleX, .ref m_ruleY, .int 0, .int 0, .int (-1), .int (-1), .ref m_uses, .ref m_leads, .ref m_symbolLeads, .ref m_order, .ref m_rank, .ref m_visits, .ref m_length, .ref m_sequence, .ref m_set, .ref m_visited, .int 0, .ref m_production, .ref m_token, .ref m_child, .ref m_parent, .ref m_next, .ref m_known, .ref m_value, .ref m_given, .int (-1), .int (-1)])), (m_attributes, .inl (cat, 6, .inl fat)), (m_inherits, .inl (cih, 24, .inl fih)), (m_known, .inl (ckn, 160, .inl fkn))]) (w1 := [(out, .inl (cout, 1, .inr (.inl (vp_updL fo (0 : Int32).toNatClampNeg 0))))]) hP hD [0, 1, 2, 3, 4, 5, 6] [7, 8, 9, 10] rfl rfl (by decide) (by decide) hk1 hFc hP1 hD1
  have hK := (hK.sub (tys' := [(cat, .int), (cih, .boolean), (ckn, .boolean)]) [3, 4, 5] rfl).app hK1
  generalize H1 = H at hP hS ⊢
  have hP : va_P (dC, dI) CL [(mo, .inr (8, [.int 0, .int 0, .ref m_attributes, .ref m_inherits, .int 0, .ref m_positions, .ref m_symbolAt, .ref m_form, .ref m_ruleX, .ref m_ruleY, .int 0, .int 0, .int (-1), .int (-1), .ref m_uses, .ref m_leads, .ref m_symbolLeads, .ref m_order, .ref m_rank, .ref m_visits, .ref m_length, .ref m_sequence, .ref m_set, .ref m_visited, .int 0, .ref m_production, .ref m_token, .ref m_child, .ref m_parent, .ref m_next, .ref m_known, .ref m_value, .ref m_given, .int (-1), .int (-1)])), (m_attributes, .inl (cat, 6, .inl fat)), (m_inherits, .inl (cih, 24, .inl fih)), (m_known, .inl (ckn, 160, .inl fkn)), (out, .inl (cout, 1, .inr (.inl (vp_updL fo (0 : Int32).toNatClampNeg 0))))] H := hP
  have hD : va_D A [(mo, .inr (8, [.int 0, .int 0, .ref m_attributes, .ref m_inherits, .int 0, .ref m_positions, .ref m_symbolAt, .ref m_form, .ref m_ruleX, .ref m_ruleY, .int 0, .int 0, .int (-1), .int (-1), .ref m_uses, .ref m_leads, .ref m_symbolLeads, .ref m_order, .ref m_rank, .ref m_visits, .ref m_length, .ref m_sequence, .ref m_set, .ref m_visited, .int 0, .ref m_production, .ref m_token, .ref m_child, .ref m_parent, .ref m_next, .ref m_known, .ref m_value, .ref m_given, .int (-1), .int (-1)])), (m_attributes, .inl (cat, 6, .inl fat)), (m_inherits, .inl (cih, 24, .inl fih)), (m_known, .inl (ckn, 160, .inl fkn)), (out, .inl (cout, 1, .inr (.inl (vp_updL fo (0 : Int32).toNatClampNeg 0))))] := hD
  have hK : va_K (dC, dI) CL [(cat, .int), (cih, .boolean), (ckn, .boolean), (cout, .long)] s := hK
  refine W.widen (k := 62) (n := 9096) (by decide) (by decide) ?_
  refine lv_istore (lv' := [(5, .int 0), (4, .int 0), (3, .ref out), (2, .ref mo), (1, .ref x), (0, .ref b)]) hx hb d_L_law_141 hl (by decide) rfl (fun ls hl => ?_)
  refine lv_aload_n hx hb d_L_law_143 rfl (lv_at hl 3 rfl) ?_
  refine lv_aload_n hx hb d_L_law_144 rfl (lv_at hl 5 rfl) ?_
  refine lv_iload hx hb d_L_law_145 (lv_at hl 1 rfl) ?_
  refine lv_iconst (v := 1) hx hb d_L_law_147 (by decide) ?_
  refine lv_iadd hx hb d_L_law_148 ?_
  refine vq_top (y := 1) (by decide) ?_
  refine va_sld (i := 1) hx hb hX hbl hbA hS (show ¬ ((1 : Int32) < 0 ∨ 6 ≤ Int32.toNatClampNeg 1) by decide) d_L_law_149 ?_
  refine vq_top (y := xs 1) rfl ?_
  refine lv_aload_n hx hb d_L_law_150 rfl (lv_at hl 5 rfl) ?_
  refine lv_iload hx hb d_L_law_151 (lv_at hl 1 rfl) ?_
  refine lv_iconst (v := 2) hx hb d_L_law_153 (by decide) ?_
  refine lv_iadd hx hb d_L_law_154 ?_
  refine vq_top (y := 2) (by decide) ?_
  refine va_sld (i := 2) hx hb hX hbl hbA hS (show ¬ ((2 : Int32) < 0 ∨ 6 ≤ Int32.toNatClampNeg 2) by decide) d_L_law_155 ?_
  refine vq_top (y := xs 2) rfl ?_
  have hPc := hP.sub (ws' := [(mo, .inr (8, [.int 0, .int 0, .ref m_attributes, .ref m_inherits, .int 0, .ref m_positions, .ref m_symbolAt, .ref m_form, .ref m_ruleX, .ref m_ruleY, .int 0, .int 0, .int (-1), .int (-1), .ref m_uses, .ref m_leads, .ref m_symbolLeads, .ref m_order, .ref m_rank, .ref m_visits, .ref m_length, .ref m_sequence, .ref m_set, .ref m_visited, .int 0, .ref m_production, .ref m_token, .ref m_child, .ref m_parent, .ref m_next, .ref m_known, .ref m_value, .ref m_given, .int (-1), .int (-1)])), (m_attributes, .inl (cat, 6, .inl fat)), (m_inherits, .inl (cih, 24, .inl fih)), (m_known, .inl (ckn, 160, .inl fkn))]) [0, 1, 2, 3] rfl
  have hDc := hD.sub (ws' := [(mo, .inr (8, [.int 0, .int 0, .ref m_attributes, .ref m_inherits, .int 0, .ref m_positions, .ref m_symbolAt, .ref m_form, .ref m_ruleX, .ref m_ruleY, .int 0, .int 0, .int (-1), .int (-1), .ref m_uses, .ref m_leads, .ref m_symbolLeads, .ref m_order, .ref m_rank, .ref m_visits, .ref m_length, .ref m_sequence, .ref m_set, .ref m_visited, .int 0, .ref m_production, .ref m_token, .ref m_child, .ref m_parent, .ref m_next, .ref m_known, .ref m_value, .ref m_given, .int (-1), .int (-1)])), (m_attributes, .inl (cat, 6, .inl fat)), (m_inherits, .inl (cih, 24, .inl fih)), (m_known, .inl (ckn, 160, .inl fkn))]) [0, 1, 2, 3] (by decide) rfl
  have hKc := hK.sub (tys' := [(cat, .int), (cih, .boolean), (ckn, .boolean)]) [0, 1, 2] rfl
  have hFc := va_free (wc := [(mo, .inr (8, [.int 0, .int 0, .ref m_attributes, .ref m_inherits, .int 0, .ref m_positions, .ref m_symbolAt, .ref m_form, .ref m_ruleX, .ref m_ruleY, .int 0, .int 0, .int (-1), .int (-1), .ref m_uses, .ref m_leads, .ref m_symbolLeads, .ref m_order, .ref m_rank, .ref m_visits, .ref m_length, .ref m_sequence, .ref m_set, .ref m_visited, .int 0, .ref m_production, .ref m_token, .ref m_child, .ref m_parent, .ref m_next, .ref m_known, .ref m_value, .ref m_given, .int (-1), .int (-1)])), (m_attributes, .inl (cat, 6, .inl fat)), (m_inherits, .inl (cih, 24, .inl fih)), (m_known, .inl (ckn, 160, .inl fkn))]) hD hS hA [0, 1, 2, 3] rfl
  refine va_calli (va_runV (As := [.int (xs 1), .int (xs 2)]) (rest := []) ⟨hx, hb, hml, hown, hts⟩ (c_M_symbol l htr dC dI mo (xs 1) (xs 2) m_attributes m_inherits m_positions m_symbolAt m_form m_ruleX m_ruleY m_uses m_leads m_symbolLeads m_order m_rank m_visits m_length m_sequence m_set m_visited m_production m_token m_child m_parent m_next m_known m_value m_given cat fat cih fih ckn fkn H.size h0 h4) (vq_cV WSk hts 2 rfl rfl ⟨by decide, by decide⟩ k_254 k_235 k_350 k_351 k_352 (by decide +kernel)) ⟨vq_blind, va_recv hK hP (ci := 8) (q0 := 0) rfl rfl, vq_here hst hS hN hPc hKc hDc⟩ rfl rfl hl.1 rfl (lv_room (Nat.le_of_ble_eq_true rfl)) d_L_law_156 ⟨by decide, by decide⟩) hS (fun q _ h => hFc q h) hFc (fun r2 u t H1 locs ht hvm hw hB hz1 hk1 hS => ?_)
  obtain ⟨hP1, hK1, hD1⟩ := hB
  rw [ht] at hP1
  have hK1 := va_K.moved hvm.symm hK1
  have hw : r2 = 0 := hw
  subst hw
  obtain ⟨hP, hD⟩ := va_join (wr := [(out, .inl (cout, 1, .inr (.inl (vp_updL fo (0 : Int32).toNatClampNeg 0))))]) (w1 := [(mo, .inr (8, [.int 0, .int 1, .ref m_attributes, .ref m_inherits, .int 0, .ref m_positions, .ref m_symbolAt, .ref m_form, .ref m_ruleX, .ref m_ruleY, .int 0, .int 0, .int (-1), .int (-1), .ref m_uses, .ref m_leads, .ref m_symbolLeads, .ref m_order, .ref m_rank, .ref m_visits, .ref m_length, .ref m_sequence, .ref m_set, .ref m_visited, .int 0, .ref m_production, .ref m_token, .ref m_child, .ref m_parent, .ref m_next, .ref m_known, .ref m_value, .ref m_given, .int (-1), .int (-1)]))]) hP hD [0, 1, 2, 3] [4] rfl rfl (by decide) (by decide) hk1 hFc hP1 hD1
  have hK := (hK.sub (tys' := [(cout, .long)]) [3] rfl).app hK1
  generalize H1 = H at hP hS ⊢
  have hP : va_P (dC, dI) CL [(out, .inl (cout, 1, .inr (.inl (vp_updL fo (0 : Int32).toNatClampNeg 0)))), (mo, .inr (8, [.int 0, .int 1, .ref m_attributes, .ref m_inherits, .int 0, .ref m_positions, .ref m_symbolAt, .ref m_form, .ref m_ruleX, .ref m_ruleY, .int 0, .int 0, .int (-1), .int (-1), .ref m_uses, .ref m_leads, .ref m_symbolLeads, .ref m_order, .ref m_rank, .ref m_visits, .ref m_length, .ref m_sequence, .ref m_set, .ref m_visited, .int 0, .ref m_production, .ref m_token, .ref m_child, .ref m_parent, .ref m_next, .ref m_known, .ref m_value, .ref m_given, .int (-1), .int (-1)]))] H := hP
  have hD : va_D A [(out, .inl (cout, 1, .inr (.inl (vp_updL fo (0 : Int32).toNatClampNeg 0)))), (mo, .inr (8, [.int 0, .int 1, .ref m_attributes, .ref m_inherits, .int 0, .ref m_positions, .ref m_symbolAt, .ref m_form, .ref m_ruleX, .ref m_ruleY, .int 0, .int 0, .int (-1), .int (-1), .ref m_uses, .ref m_leads, .ref m_symbolLeads, .ref m_order, .ref m_rank, .ref m_visits, .ref m_length, .ref m_sequence, .ref m_set, .ref m_visited, .int 0, .ref m_production, .ref m_token, .ref m_child, .ref m_parent, .ref m_next, .ref m_known, .ref m_value, .ref m_given, .int (-1), .int (-1)]))] := hD
  have hK : va_K (dC, dI) CL [(cout, .long)] s := hK
  refine W.widen (k := 62) (n := 9096) (by decide) (by decide) ?_
  refine lv_istore (lv' := [(6, .int 0), (5, .int 0), (4, .int 0), (3, .ref out), (2, .ref mo), (1, .ref x), (0, .ref b)]) hx hb d_L_law_159 hl (by decide) rfl (fun ls hl => ?_)
  refine lv_aload_n hx hb d_L_law_161 rfl (lv_at hl 4 rfl) ?_
  have hPc := hP.sub (ws' := [(mo, .inr (8, [.int 0, .int 1, .ref m_attributes, .ref m_inherits, .int 0, .ref m_positions, .ref m_symbolAt, .ref m_form, .ref m_ruleX, .ref m_ruleY, .int 0, .int 0, .int (-1), .int (-1), .ref m_uses, .ref m_leads, .ref m_symbolLeads, .ref m_order, .ref m_rank, .ref m_visits, .ref m_length, .ref m_sequence, .ref m_set, .ref m_visited, .int 0, .ref m_production, .ref m_token, .ref m_child, .ref m_parent, .ref m_next, .ref m_known, .ref m_value, .ref m_given, .int (-1), .int (-1)]))]) [1] rfl
  have hDc := hD.sub (ws' := [(mo, .inr (8, [.int 0, .int 1, .ref m_attributes, .ref m_inherits, .int 0, .ref m_positions, .ref m_symbolAt, .ref m_form, .ref m_ruleX, .ref m_ruleY, .int 0, .int 0, .int (-1), .int (-1), .ref m_uses, .ref m_leads, .ref m_symbolLeads, .ref m_order, .ref m_rank, .ref m_visits, .ref m_length, .ref m_sequence, .ref m_set, .ref m_visited, .int 0, .ref m_production, .ref m_token, .ref m_child, .ref m_parent, .ref m_next, .ref m_known, .ref m_value, .ref m_given, .int (-1), .int (-1)]))]) [1] (by decide) rfl
  have hKc := hK.sub (tys' := []) [] rfl
  have hFc := va_free (wc := [(mo, .inr (8, [.int 0, .int 1, .ref m_attributes, .ref m_inherits, .int 0, .ref m_positions, .ref m_symbolAt, .ref m_form, .ref m_ruleX, .ref m_ruleY, .int 0, .int 0, .int (-1), .int (-1), .ref m_uses, .ref m_leads, .ref m_symbolLeads, .ref m_order, .ref m_rank, .ref m_visits, .ref m_length, .ref m_sequence, .ref m_set, .ref m_visited, .int 0, .ref m_production, .ref m_token, .ref m_child, .ref m_parent, .ref m_next, .ref m_known, .ref m_value, .ref m_given, .int (-1), .int (-1)]))]) hD hS hA [1] rfl
  refine va_calli (va_runV (As := []) (rest := []) ⟨hx, hb, hml, hown, hts⟩ (c_M_thrown l htr dC dI mo 0 1 m_attributes m_inherits 0 m_positions m_symbolAt m_form m_ruleX m_ruleY 0 0 (-1) (-1) m_uses m_leads m_symbolLeads m_order m_rank m_visits m_length m_sequence m_set m_visited 0 m_production m_token m_child m_parent m_next m_known m_value m_given (-1) (-1) H.size) (vq_cV WSk hts 0 rfl rfl ⟨by decide, by decide⟩ k_239 k_235 k_353 k_354 k_355 (by decide +kernel)) ⟨vq_blind, va_recv hK hP (ci := 8) (q0 := 1) rfl rfl, vq_here hst hS hN hPc hKc hDc⟩ rfl rfl hl.1 rfl (lv_room (Nat.le_of_ble_eq_true rfl)) d_L_law_162 ⟨by decide, by decide⟩) hS (fun q _ h => hFc q h) hFc (fun r3 u t H1 locs ht hvm hw hB hz1 hk1 hS => ?_)
  obtain ⟨hP1, hK1, hD1⟩ := hB
  rw [ht] at hP1
  have hK1 := va_K.moved hvm.symm hK1
  have hw : r3 = 0 := hw
  subst hw
  obtain ⟨hP, hD⟩ := va_join (wr := [(out, .inl (cout, 1, .inr (.inl (vp_updL fo (0 : Int32).toNatClampNeg 0))))]) (w1 := [(mo, .inr (8, [.int 0, .int 1, .ref m_attributes, .ref m_inherits, .int 0, .ref m_positions, .ref m_symbolAt, .ref m_form, .ref m_ruleX, .ref m_ruleY, .int 0, .int 0, .int (-1), .int (-1), .ref m_uses, .ref m_leads, .ref m_symbolLeads, .ref m_order, .ref m_rank, .ref m_visits, .ref m_length, .ref m_sequence, .ref m_set, .ref m_visited, .int 0, .ref m_production, .ref m_token, .ref m_child, .ref m_parent, .ref m_next, .ref m_known, .ref m_value, .ref m_given, .int (-1), .int (-1)]))]) hP hD [1] [0] rfl rfl (by decide) (by decide) hk1 hFc hP1 hD1
  have hK := (hK.sub (tys' := [(cout, .long)]) [0] rfl).app hK1
  generalize H1 = H at hP hS ⊢
  have hP : va_P (dC, dI) CL [(out, .inl (cout, 1, .inr (.inl (vp_updL fo (0 : Int32).toNatClampNeg 0)))), (mo, .inr (8, [.int 0, .int 1, .ref m_attributes, .ref m_inherits, .int 0, .ref m_positions, .ref m_symbolAt, .ref m_form, .ref m_ruleX, .ref m_ruleY, .int 0, .int 0, .int (-1), .int (-1), .ref m_uses, .ref m_leads, .ref m_symbolLeads, .ref m_order, .ref m_rank, .ref m_visits, .ref m_length, .ref m_sequence, .ref m_set, .ref m_visited, .int 0, .ref m_production, .ref m_token, .ref m_child, .ref m_parent, .ref m_next, .ref m_known, .ref m_value, .ref m_given, .int (-1), .int (-1)]))] H := hP
  have hD : va_D A [(out, .inl (cout, 1, .inr (.inl (vp_updL fo (0 : Int32).toNatClampNeg 0)))), (mo, .inr (8, [.int 0, .int 1, .ref m_attributes, .ref m_inherits, .int 0, .ref m_positions, .ref m_symbolAt, .ref m_form, .ref m_ruleX, .ref m_ruleY, .int 0, .int 0, .int (-1), .int (-1), .ref m_uses, .ref m_leads, .ref m_symbolLeads, .ref m_order, .ref m_rank, .ref m_visits, .ref m_length, .ref m_sequence, .ref m_set, .ref m_visited, .int 0, .ref m_production, .ref m_token, .ref m_child, .ref m_parent, .ref m_next, .ref m_known, .ref m_value, .ref m_given, .int (-1), .int (-1)]))] := hD
  have hK : va_K (dC, dI) CL [(cout, .long)] s := hK
  refine W.widen (k := 62) (n := 9096) (by decide) (by decide) ?_
  refine lv_iload hx hb d_L_law_165 (lv_at hl 1 rfl) ?_
  refine lv_icmp_eq (tgt := 172) hx hb d_L_law_167 (by decide) (fun _ => ?_) (fun h9 => absurd (by decide) h9)
  refine lv_iload hx hb d_L_law_172 (lv_at hl 1 rfl) ?_
  refine lv_if_ne (tgt := 189) hx hb d_L_law_174 (by decide) (fun h9 => absurd (by decide) h9) (fun _ => ?_)
  refine lv_aload_n hx hb d_L_law_177 rfl (lv_at hl 3 rfl) ?_
  refine lv_iconst (v := 0) hx hb d_L_law_178 (by decide) ?_
  refine va_lald (n := 1) (f := vp_updL fo (0 : Int32).toNatClampNeg 0) hx hb hK hP 0 0 rfl rfl (show ¬ ((0 : Int32) < 0 ∨ 1 ≤ Int32.toNatClampNeg 0) by decide) d_L_law_179 ?_
  refine vq_topl (y := 0) pk_uLs ?_
  refine lv_iload hx hb d_L_law_180 (lv_at hl 0 rfl) ?_
  refine lv_i2l (v := 0) hx hb d_L_law_182 (by decide) ?_
  refine W.lcmp hx hb d_L_law_183 ?_
  refine vq_top (y := 0) (by decide) ?_
  refine lv_if_eq (tgt := 189) hx hb d_L_law_184 (by decide) (fun _ => ?_) (fun h9 => absurd (by decide) h9)
  refine lv_goto (tgt := 1053) hx hb d_L_law_189 (by decide) ?_
  refine lv_iinc (k := 2) (v := 6) (lv' := [(4, .int 6), (6, .int 0), (5, .int 0), (3, .ref out), (2, .ref mo), (1, .ref x), (0, .ref b)]) hx hb d_L_law_1053 hl rfl (by decide) (by decide) rfl (fun ls hl => ?_)
  refine lv_goto (tgt := 23) hx hb d_L_law_1056 (by decide) ?_
  refine lv_iload hx hb d_L_law_23 (lv_at hl 0 rfl) ?_
  refine lv_aload_n hx hb d_L_law_25 rfl (lv_at hl 6 rfl) ?_
  refine va_slen hx hb hX hbl hbA hS d_L_law_26 ?_
  refine vq_top (y := 6) (by decide) ?_
  refine lv_bipush (v := 6) hx hb d_L_law_27 (by decide) ?_
  refine lv_isub hx hb d_L_law_29 ?_
  refine vq_top (y := 0) (by decide) ?_
  refine lv_icmp_gt (tgt := 1059) hx hb d_L_law_30 (by decide) (fun _ => ?_) (fun h9 => absurd (by decide) h9)
  refine lv_iconst (v := 1) hx hb d_L_law_1059 (by decide) ?_
  refine va_forget (fun q hq => hA2 _ (hS.2.2 q hq)) ?_
  refine W.widen (k := 85) (n := 9238) (by decide) (by decide) ?_
  exact lw_ret hx hb hr hlocks d_L_law_1060

set_option maxHeartbeats 4000000 in
set_option maxRecDepth 100000 in
theorem arm_0L {p : Program} {e : Env} {s : State} {m : MethodId} {below : List Frame} {meth : Method} {c : Code} (l : Launch) (htr : l.stackTraces = false) {b : Nat} {xs : Nat → Int32} {A : Nat → Prop} (dC : Nat → ClassId) (dI : Nat → Nat → Nat) (out : Nat) (mo : Nat) (x : Nat) (g : Nat) (an : Nat) (tr : Nat) (w : Nat) (m_attributes : Nat) (m_inherits : Nat) (m_positions : Nat) (m_symbolAt : Nat) (m_form : Nat) (m_ruleX : Nat) (m_ruleY : Nat) (m_uses : Nat) (m_leads : Nat) (m_symbolLeads : Nat) (m_order : Nat) (m_rank : Nat) (m_visits : Nat) (m_length : Nat) (m_sequence : Nat) (m_set : Nat) (m_visited : Nat) (m_production : Nat) (m_token : Nat) (m_child : Nat) (m_parent : Nat) (m_next : Nat) (m_known : Nat) (m_value : Nat) (m_given : Nat) {H : Heap} {locs : List Loc} {ls : Array Slot} (h0 : xs 1 < 0) (hAt : lw_At p s m meth c b 6 xs) (hst : vq_st s) (hA : ∀ q : Nat, s.heap.size ≤ q → A q) (hA2 : ∀ q : Nat, A q → s.heap.size ≤ q) (hbA : ¬ A b) (hK : va_K (dC, dI) CL [] s) (hP : va_P (dC, dI) CL [(x, .inr (0, [.ref g, .ref an, .ref tr, .ref w])), (mo, .inr (8, [.int 0, .int 0, .ref m_attributes, .ref m_inherits, .int 0, .ref m_positions, .ref m_symbolAt, .ref m_form, .ref m_ruleX, .ref m_ruleY, .int 0, .int 0, .int (-1), .int (-1), .ref m_uses, .ref m_leads, .ref m_symbolLeads, .ref m_order, .ref m_rank, .ref m_visits, .ref m_length, .ref m_sequence, .ref m_set, .ref m_visited, .int 0, .ref m_production, .ref m_token, .ref m_child, .ref m_parent, .ref m_next, .ref m_known, .ref m_value, .ref m_given, .int (-1), .int (-1)]))] H) (hD : va_D A [(x, .inr (0, [.ref g, .ref an, .ref tr, .ref w])), (mo, .inr (8, [.int 0, .int 0, .ref m_attributes, .ref m_inherits, .int 0, .ref m_positions, .ref m_symbolAt, .ref m_form, .ref m_ruleX, .ref m_ruleY, .int 0, .int 0, .int (-1), .int (-1), .ref m_uses, .ref m_leads, .ref m_symbolLeads, .ref m_order, .ref m_rank, .ref m_visits, .ref m_length, .ref m_sequence, .ref m_set, .ref m_visited, .int 0, .ref m_production, .ref m_token, .ref m_child, .ref m_parent, .ref m_next, .ref m_known, .ref m_value, .ref m_given, .int (-1), .int (-1)]))]) (hS : va_S A s.heap H locs) (hl : lv_has ls 7 [(4, .int 0), (3, .ref out), (2, .ref mo), (1, .ref x), (0, .ref b)]) : W p l e room_1 s m #[Value.ref b] below meth c H locs 62 9096 (lw_Z below #[Value.ref b] s) (F0 m 124 ls []) := by
  obtain ⟨hx, hb, hr, hml, hown, hts0, hX, hbl, hlocks, -⟩ := hAt
  have hts : ∀ w ∈ WS, w.before #[Value.ref b] s = true := fun w hw => hts0 w (WS_tbl w hw)
  have hN : ∀ q : Nat, A q → ∀ cell : Cell, s.heap[q]? = some cell → cell.vm.isStatics = false := fun q hq cell hc => absurd (Array.getElem?_eq_some_iff.mp hc).1 (Nat.not_lt.mpr (hA2 q hq))
  refine lv_aload_n hx hb d_L_law_124 rfl (lv_at hl 3 rfl) ?_
  refine lv_aload_n hx hb d_L_law_125 rfl (lv_at hl 4 rfl) ?_
  refine lv_iload hx hb d_L_law_126 (lv_at hl 0 rfl) ?_
  refine lv_iconst (v := 1) hx hb d_L_law_128 (by decide) ?_
  refine lv_iadd hx hb d_L_law_129 ?_
  refine vq_top (y := 1) (by decide) ?_
  refine va_sld (i := 1) hx hb hX hbl hbA hS (show ¬ ((1 : Int32) < 0 ∨ 6 ≤ Int32.toNatClampNeg 1) by decide) d_L_law_130 ?_
  refine vq_top (y := xs 1) rfl ?_
  refine lv_aload_n hx hb d_L_law_131 rfl (lv_at hl 4 rfl) ?_
  refine lv_iload hx hb d_L_law_132 (lv_at hl 0 rfl) ?_
  refine lv_iconst (v := 2) hx hb d_L_law_134 (by decide) ?_
  refine lv_iadd hx hb d_L_law_135 ?_
  refine vq_top (y := 2) (by decide) ?_
  refine va_sld (i := 2) hx hb hX hbl hbA hS (show ¬ ((2 : Int32) < 0 ∨ 6 ≤ Int32.toNatClampNeg 2) by decide) d_L_law_136 ?_
  refine vq_top (y := xs 2) rfl ?_
  refine lv_aload_n hx hb d_L_law_137 rfl (lv_at hl 1 rfl) ?_
  have hPc := hP.sub (ws' := [(x, .inr (0, [.ref g, .ref an, .ref tr, .ref w]))]) [0] rfl
  have hDc := hD.sub (ws' := [(x, .inr (0, [.ref g, .ref an, .ref tr, .ref w]))]) [0] (by decide) rfl
  have hKc := hK.sub (tys' := []) [] rfl
  have hFc := va_free (wc := [(x, .inr (0, [.ref g, .ref an, .ref tr, .ref w]))]) hD hS hA [0] rfl
  refine va_calli (vq_runSH (n := 4) (As := [.ref x, .int (xs 1), .int (xs 2), .ref out]) (rest := []) ⟨hx, hb, hml, hown, hts⟩ (w_symbolL l htr dC dI x (xs 1) (xs 2) out g an tr w H.size h0) WSk rfl rfl ⟨by decide, by decide⟩ k_289 k_347 k_348 k_349 (by decide +kernel) ⟨vq_blind, vq_here hst hS hN hPc hKc hDc⟩ rfl rfl hl.1 rfl (lv_room (Nat.le_of_ble_eq_true rfl)) d_L_law_138 ⟨by decide, by decide⟩) hS (fun q _ h => hFc q h) hFc (fun r1 u t H1 locs ht hvm hw hB hz1 hk1 hS => ?_)
  obtain ⟨hP1, hK1, hD1⟩ := hB
  rw [ht] at hP1
  have hK1 := va_K.moved hvm.symm hK1
  have hw : r1 = 1 := hw
  subst hw
  obtain ⟨hP, hD⟩ := va_join (wr := [(mo, .inr (8, [.int 0, .int 0, .ref m_attributes, .ref m_inherits, .int 0, .ref m_positions, .ref m_symbolAt, .ref m_form, .ref m_ruleX, .ref m_ruleY, .int 0, .int 0, .int (-1), .int (-1), .ref m_uses, .ref m_leads, .ref m_symbolLeads, .ref m_order, .ref m_rank, .ref m_visits, .ref m_length, .ref m_sequence, .ref m_set, .ref m_visited, .int 0, .ref m_production, .ref m_token, .ref m_child, .ref m_parent, .ref m_next, .ref m_known, .ref m_value, .ref m_given, .int (-1), .int (-1)]))]) (w1 := []) hP hD [0] [1] rfl rfl (by decide) (by decide) hk1 hFc hP1 hD1
  have hK := (hK.sub (tys' := []) [] rfl).app hK1
  generalize H1 = H at hP hS ⊢
  have hP : va_P (dC, dI) CL [(mo, .inr (8, [.int 0, .int 0, .ref m_attributes, .ref m_inherits, .int 0, .ref m_positions, .ref m_symbolAt, .ref m_form, .ref m_ruleX, .ref m_ruleY, .int 0, .int 0, .int (-1), .int (-1), .ref m_uses, .ref m_leads, .ref m_symbolLeads, .ref m_order, .ref m_rank, .ref m_visits, .ref m_length, .ref m_sequence, .ref m_set, .ref m_visited, .int 0, .ref m_production, .ref m_token, .ref m_child, .ref m_parent, .ref m_next, .ref m_known, .ref m_value, .ref m_given, .int (-1), .int (-1)]))] H := hP
  have hD : va_D A [(mo, .inr (8, [.int 0, .int 0, .ref m_attributes, .ref m_inherits, .int 0, .ref m_positions, .ref m_symbolAt, .ref m_form, .ref m_ruleX, .ref m_ruleY, .int 0, .int 0, .int (-1), .int (-1), .ref m_uses, .ref m_leads, .ref m_symbolLeads, .ref m_order, .ref m_rank, .ref m_visits, .ref m_length, .ref m_sequence, .ref m_set, .ref m_visited, .int 0, .ref m_production, .ref m_token, .ref m_child, .ref m_parent, .ref m_next, .ref m_known, .ref m_value, .ref m_given, .int (-1), .int (-1)]))] := hD
  have hK : va_K (dC, dI) CL [] s := hK
  refine W.widen (k := 63) (n := 9102) (by decide) (by decide) ?_
  refine lv_istore (lv' := [(5, .int 1), (4, .int 0), (3, .ref out), (2, .ref mo), (1, .ref x), (0, .ref b)]) hx hb d_L_law_141 hl (by decide) rfl (fun ls hl => ?_)
  refine lv_aload_n hx hb d_L_law_143 rfl (lv_at hl 3 rfl) ?_
  refine lv_aload_n hx hb d_L_law_144 rfl (lv_at hl 5 rfl) ?_
  refine lv_iload hx hb d_L_law_145 (lv_at hl 1 rfl) ?_
  refine lv_iconst (v := 1) hx hb d_L_law_147 (by decide) ?_
  refine lv_iadd hx hb d_L_law_148 ?_
  refine vq_top (y := 1) (by decide) ?_
  refine va_sld (i := 1) hx hb hX hbl hbA hS (show ¬ ((1 : Int32) < 0 ∨ 6 ≤ Int32.toNatClampNeg 1) by decide) d_L_law_149 ?_
  refine vq_top (y := xs 1) rfl ?_
  refine lv_aload_n hx hb d_L_law_150 rfl (lv_at hl 5 rfl) ?_
  refine lv_iload hx hb d_L_law_151 (lv_at hl 1 rfl) ?_
  refine lv_iconst (v := 2) hx hb d_L_law_153 (by decide) ?_
  refine lv_iadd hx hb d_L_law_154 ?_
  refine vq_top (y := 2) (by decide) ?_
  refine va_sld (i := 2) hx hb hX hbl hbA hS (show ¬ ((2 : Int32) < 0 ∨ 6 ≤ Int32.toNatClampNeg 2) by decide) d_L_law_155 ?_
  refine vq_top (y := xs 2) rfl ?_
  have hPc := hP.sub (ws' := [(mo, .inr (8, [.int 0, .int 0, .ref m_attributes, .ref m_inherits, .int 0, .ref m_positions, .ref m_symbolAt, .ref m_form, .ref m_ruleX, .ref m_ruleY, .int 0, .int 0, .int (-1), .int (-1), .ref m_uses, .ref m_leads, .ref m_symbolLeads, .ref m_order, .ref m_rank, .ref m_visits, .ref m_length, .ref m_sequence, .ref m_set, .ref m_visited, .int 0, .ref m_production, .ref m_token, .ref m_child, .ref m_parent, .ref m_next, .ref m_known, .ref m_value, .ref m_given, .int (-1), .int (-1)]))]) [0] rfl
  have hDc := hD.sub (ws' := [(mo, .inr (8, [.int 0, .int 0, .ref m_attributes, .ref m_inherits, .int 0, .ref m_positions, .ref m_symbolAt, .ref m_form, .ref m_ruleX, .ref m_ruleY, .int 0, .int 0, .int (-1), .int (-1), .ref m_uses, .ref m_leads, .ref m_symbolLeads, .ref m_order, .ref m_rank, .ref m_visits, .ref m_length, .ref m_sequence, .ref m_set, .ref m_visited, .int 0, .ref m_production, .ref m_token, .ref m_child, .ref m_parent, .ref m_next, .ref m_known, .ref m_value, .ref m_given, .int (-1), .int (-1)]))]) [0] (by decide) rfl
  have hKc := hK.sub (tys' := []) [] rfl
  have hFc := va_free (wc := [(mo, .inr (8, [.int 0, .int 0, .ref m_attributes, .ref m_inherits, .int 0, .ref m_positions, .ref m_symbolAt, .ref m_form, .ref m_ruleX, .ref m_ruleY, .int 0, .int 0, .int (-1), .int (-1), .ref m_uses, .ref m_leads, .ref m_symbolLeads, .ref m_order, .ref m_rank, .ref m_visits, .ref m_length, .ref m_sequence, .ref m_set, .ref m_visited, .int 0, .ref m_production, .ref m_token, .ref m_child, .ref m_parent, .ref m_next, .ref m_known, .ref m_value, .ref m_given, .int (-1), .int (-1)]))]) hD hS hA [0] rfl
  refine va_calli (va_runV (As := [.int (xs 1), .int (xs 2)]) (rest := []) ⟨hx, hb, hml, hown, hts⟩ (c_M_symbolL l htr dC dI mo (xs 1) (xs 2) m_attributes m_inherits m_positions m_symbolAt m_form m_ruleX m_ruleY m_uses m_leads m_symbolLeads m_order m_rank m_visits m_length m_sequence m_set m_visited m_production m_token m_child m_parent m_next m_known m_value m_given H.size h0) (vq_cV WSk hts 2 rfl rfl ⟨by decide, by decide⟩ k_254 k_235 k_350 k_351 k_352 (by decide +kernel)) ⟨vq_blind, va_recv hK hP (ci := 8) (q0 := 0) rfl rfl, vq_here hst hS hN hPc hKc hDc⟩ rfl rfl hl.1 rfl (lv_room (Nat.le_of_ble_eq_true rfl)) d_L_law_156 ⟨by decide, by decide⟩) hS (fun q _ h => hFc q h) hFc (fun r2 u t H1 locs ht hvm hw hB hz1 hk1 hS => ?_)
  obtain ⟨hP1, hK1, hD1⟩ := hB
  rw [ht] at hP1
  have hK1 := va_K.moved hvm.symm hK1
  have hw : r2 = 0 := hw
  subst hw
  obtain ⟨hP, hD⟩ := va_join (wr := []) (w1 := [(mo, .inr (8, [.int 1, .int 0, .ref m_attributes, .ref m_inherits, .int 0, .ref m_positions, .ref m_symbolAt, .ref m_form, .ref m_ruleX, .ref m_ruleY, .int 0, .int 0, .int (-1), .int (-1), .ref m_uses, .ref m_leads, .ref m_symbolLeads, .ref m_order, .ref m_rank, .ref m_visits, .ref m_length, .ref m_sequence, .ref m_set, .ref m_visited, .int 0, .ref m_production, .ref m_token, .ref m_child, .ref m_parent, .ref m_next, .ref m_known, .ref m_value, .ref m_given, .int (-1), .int (-1)]))]) hP hD [0] [] rfl rfl (by decide) (by decide) hk1 hFc hP1 hD1
  have hK := (hK.sub (tys' := []) [] rfl).app hK1
  generalize H1 = H at hP hS ⊢
  have hP : va_P (dC, dI) CL [(mo, .inr (8, [.int 1, .int 0, .ref m_attributes, .ref m_inherits, .int 0, .ref m_positions, .ref m_symbolAt, .ref m_form, .ref m_ruleX, .ref m_ruleY, .int 0, .int 0, .int (-1), .int (-1), .ref m_uses, .ref m_leads, .ref m_symbolLeads, .ref m_order, .ref m_rank, .ref m_visits, .ref m_length, .ref m_sequence, .ref m_set, .ref m_visited, .int 0, .ref m_production, .ref m_token, .ref m_child, .ref m_parent, .ref m_next, .ref m_known, .ref m_value, .ref m_given, .int (-1), .int (-1)]))] H := hP
  have hD : va_D A [(mo, .inr (8, [.int 1, .int 0, .ref m_attributes, .ref m_inherits, .int 0, .ref m_positions, .ref m_symbolAt, .ref m_form, .ref m_ruleX, .ref m_ruleY, .int 0, .int 0, .int (-1), .int (-1), .ref m_uses, .ref m_leads, .ref m_symbolLeads, .ref m_order, .ref m_rank, .ref m_visits, .ref m_length, .ref m_sequence, .ref m_set, .ref m_visited, .int 0, .ref m_production, .ref m_token, .ref m_child, .ref m_parent, .ref m_next, .ref m_known, .ref m_value, .ref m_given, .int (-1), .int (-1)]))] := hD
  have hK : va_K (dC, dI) CL [] s := hK
  refine W.widen (k := 63) (n := 9102) (by decide) (by decide) ?_
  refine lv_istore (lv' := [(6, .int 0), (5, .int 1), (4, .int 0), (3, .ref out), (2, .ref mo), (1, .ref x), (0, .ref b)]) hx hb d_L_law_159 hl (by decide) rfl (fun ls hl => ?_)
  refine lv_aload_n hx hb d_L_law_161 rfl (lv_at hl 4 rfl) ?_
  have hPc := hP.sub (ws' := [(mo, .inr (8, [.int 1, .int 0, .ref m_attributes, .ref m_inherits, .int 0, .ref m_positions, .ref m_symbolAt, .ref m_form, .ref m_ruleX, .ref m_ruleY, .int 0, .int 0, .int (-1), .int (-1), .ref m_uses, .ref m_leads, .ref m_symbolLeads, .ref m_order, .ref m_rank, .ref m_visits, .ref m_length, .ref m_sequence, .ref m_set, .ref m_visited, .int 0, .ref m_production, .ref m_token, .ref m_child, .ref m_parent, .ref m_next, .ref m_known, .ref m_value, .ref m_given, .int (-1), .int (-1)]))]) [0] rfl
  have hDc := hD.sub (ws' := [(mo, .inr (8, [.int 1, .int 0, .ref m_attributes, .ref m_inherits, .int 0, .ref m_positions, .ref m_symbolAt, .ref m_form, .ref m_ruleX, .ref m_ruleY, .int 0, .int 0, .int (-1), .int (-1), .ref m_uses, .ref m_leads, .ref m_symbolLeads, .ref m_order, .ref m_rank, .ref m_visits, .ref m_length, .ref m_sequence, .ref m_set, .ref m_visited, .int 0, .ref m_production, .ref m_token, .ref m_child, .ref m_parent, .ref m_next, .ref m_known, .ref m_value, .ref m_given, .int (-1), .int (-1)]))]) [0] (by decide) rfl
  have hKc := hK.sub (tys' := []) [] rfl
  have hFc := va_free (wc := [(mo, .inr (8, [.int 1, .int 0, .ref m_attributes, .ref m_inherits, .int 0, .ref m_positions, .ref m_symbolAt, .ref m_form, .ref m_ruleX, .ref m_ruleY, .int 0, .int 0, .int (-1), .int (-1), .ref m_uses, .ref m_leads, .ref m_symbolLeads, .ref m_order, .ref m_rank, .ref m_visits, .ref m_length, .ref m_sequence, .ref m_set, .ref m_visited, .int 0, .ref m_production, .ref m_token, .ref m_child, .ref m_parent, .ref m_next, .ref m_known, .ref m_value, .ref m_given, .int (-1), .int (-1)]))]) hD hS hA [0] rfl
  refine va_calli (va_runV (As := []) (rest := []) ⟨hx, hb, hml, hown, hts⟩ (c_M_thrown l htr dC dI mo 1 0 m_attributes m_inherits 0 m_positions m_symbolAt m_form m_ruleX m_ruleY 0 0 (-1) (-1) m_uses m_leads m_symbolLeads m_order m_rank m_visits m_length m_sequence m_set m_visited 0 m_production m_token m_child m_parent m_next m_known m_value m_given (-1) (-1) H.size) (vq_cV WSk hts 0 rfl rfl ⟨by decide, by decide⟩ k_239 k_235 k_353 k_354 k_355 (by decide +kernel)) ⟨vq_blind, va_recv hK hP (ci := 8) (q0 := 0) rfl rfl, vq_here hst hS hN hPc hKc hDc⟩ rfl rfl hl.1 rfl (lv_room (Nat.le_of_ble_eq_true rfl)) d_L_law_162 ⟨by decide, by decide⟩) hS (fun q _ h => hFc q h) hFc (fun r3 u t H1 locs ht hvm hw hB hz1 hk1 hS => ?_)
  obtain ⟨hP1, hK1, hD1⟩ := hB
  rw [ht] at hP1
  have hK1 := va_K.moved hvm.symm hK1
  have hw : r3 = 1 := hw
  subst hw
  obtain ⟨hP, hD⟩ := va_join (wr := []) (w1 := [(mo, .inr (8, [.int 1, .int 0, .ref m_attributes, .ref m_inherits, .int 0, .ref m_positions, .ref m_symbolAt, .ref m_form, .ref m_ruleX, .ref m_ruleY, .int 0, .int 0, .int (-1), .int (-1), .ref m_uses, .ref m_leads, .ref m_symbolLeads, .ref m_order, .ref m_rank, .ref m_visits, .ref m_length, .ref m_sequence, .ref m_set, .ref m_visited, .int 0, .ref m_production, .ref m_token, .ref m_child, .ref m_parent, .ref m_next, .ref m_known, .ref m_value, .ref m_given, .int (-1), .int (-1)]))]) hP hD [0] [] rfl rfl (by decide) (by decide) hk1 hFc hP1 hD1
  have hK := (hK.sub (tys' := []) [] rfl).app hK1
  generalize H1 = H at hP hS ⊢
  have hP : va_P (dC, dI) CL [(mo, .inr (8, [.int 1, .int 0, .ref m_attributes, .ref m_inherits, .int 0, .ref m_positions, .ref m_symbolAt, .ref m_form, .ref m_ruleX, .ref m_ruleY, .int 0, .int 0, .int (-1), .int (-1), .ref m_uses, .ref m_leads, .ref m_symbolLeads, .ref m_order, .ref m_rank, .ref m_visits, .ref m_length, .ref m_sequence, .ref m_set, .ref m_visited, .int 0, .ref m_production, .ref m_token, .ref m_child, .ref m_parent, .ref m_next, .ref m_known, .ref m_value, .ref m_given, .int (-1), .int (-1)]))] H := hP
  have hD : va_D A [(mo, .inr (8, [.int 1, .int 0, .ref m_attributes, .ref m_inherits, .int 0, .ref m_positions, .ref m_symbolAt, .ref m_form, .ref m_ruleX, .ref m_ruleY, .int 0, .int 0, .int (-1), .int (-1), .ref m_uses, .ref m_leads, .ref m_symbolLeads, .ref m_order, .ref m_rank, .ref m_visits, .ref m_length, .ref m_sequence, .ref m_set, .ref m_visited, .int 0, .ref m_production, .ref m_token, .ref m_child, .ref m_parent, .ref m_next, .ref m_known, .ref m_value, .ref m_given, .int (-1), .int (-1)]))] := hD
  have hK : va_K (dC, dI) CL [] s := hK
  refine W.widen (k := 63) (n := 9102) (by decide) (by decide) ?_
  refine lv_iload hx hb d_L_law_165 (lv_at hl 1 rfl) ?_
  refine lv_icmp_eq (tgt := 172) hx hb d_L_law_167 (by decide) (fun _ => ?_) (fun h9 => absurd (by decide) h9)
  refine lv_iload hx hb d_L_law_172 (lv_at hl 1 rfl) ?_
  refine lv_if_ne (tgt := 189) hx hb d_L_law_174 (by decide) (fun _ => ?_) (fun h9 => absurd h9 (by decide))
  refine lv_goto (tgt := 1053) hx hb d_L_law_189 (by decide) ?_
  refine lv_iinc (k := 2) (v := 6) (lv' := [(4, .int 6), (6, .int 0), (5, .int 1), (3, .ref out), (2, .ref mo), (1, .ref x), (0, .ref b)]) hx hb d_L_law_1053 hl rfl (by decide) (by decide) rfl (fun ls hl => ?_)
  refine lv_goto (tgt := 23) hx hb d_L_law_1056 (by decide) ?_
  refine lv_iload hx hb d_L_law_23 (lv_at hl 0 rfl) ?_
  refine lv_aload_n hx hb d_L_law_25 rfl (lv_at hl 6 rfl) ?_
  refine va_slen hx hb hX hbl hbA hS d_L_law_26 ?_
  refine vq_top (y := 6) (by decide) ?_
  refine lv_bipush (v := 6) hx hb d_L_law_27 (by decide) ?_
  refine lv_isub hx hb d_L_law_29 ?_
  refine vq_top (y := 0) (by decide) ?_
  refine lv_icmp_gt (tgt := 1059) hx hb d_L_law_30 (by decide) (fun _ => ?_) (fun h9 => absurd (by decide) h9)
  refine lv_iconst (v := 1) hx hb d_L_law_1059 (by decide) ?_
  refine va_forget (fun q hq => hA2 _ (hS.2.2 q hq)) ?_
  refine W.widen (k := 85) (n := 9238) (by decide) (by decide) ?_
  exact lw_ret hx hb hr hlocks d_L_law_1060

set_option maxHeartbeats 4000000 in
set_option maxRecDepth 100000 in
theorem arm_0G {p : Program} {e : Env} {s : State} {m : MethodId} {below : List Frame} {meth : Method} {c : Code} (l : Launch) (htr : l.stackTraces = false) {b : Nat} {xs : Nat → Int32} {A : Nat → Prop} (dC : Nat → ClassId) (dI : Nat → Nat → Nat) (out : Nat) (mo : Nat) (x : Nat) (g : Nat) (an : Nat) (tr : Nat) (w : Nat) (m_attributes : Nat) (m_inherits : Nat) (m_positions : Nat) (m_symbolAt : Nat) (m_form : Nat) (m_ruleX : Nat) (m_ruleY : Nat) (m_uses : Nat) (m_leads : Nat) (m_symbolLeads : Nat) (m_order : Nat) (m_rank : Nat) (m_visits : Nat) (m_length : Nat) (m_sequence : Nat) (m_set : Nat) (m_visited : Nat) (m_production : Nat) (m_token : Nat) (m_child : Nat) (m_parent : Nat) (m_next : Nat) (m_known : Nat) (m_value : Nat) (m_given : Nat) {H : Heap} {locs : List Loc} {ls : Array Slot} (h0 : ¬ xs 1 < 0) (h4 : ¬ xs 1 ≤ 4) (hAt : lw_At p s m meth c b 6 xs) (hst : vq_st s) (hA : ∀ q : Nat, s.heap.size ≤ q → A q) (hA2 : ∀ q : Nat, A q → s.heap.size ≤ q) (hbA : ¬ A b) (hK : va_K (dC, dI) CL [] s) (hP : va_P (dC, dI) CL [(x, .inr (0, [.ref g, .ref an, .ref tr, .ref w])), (mo, .inr (8, [.int 0, .int 0, .ref m_attributes, .ref m_inherits, .int 0, .ref m_positions, .ref m_symbolAt, .ref m_form, .ref m_ruleX, .ref m_ruleY, .int 0, .int 0, .int (-1), .int (-1), .ref m_uses, .ref m_leads, .ref m_symbolLeads, .ref m_order, .ref m_rank, .ref m_visits, .ref m_length, .ref m_sequence, .ref m_set, .ref m_visited, .int 0, .ref m_production, .ref m_token, .ref m_child, .ref m_parent, .ref m_next, .ref m_known, .ref m_value, .ref m_given, .int (-1), .int (-1)]))] H) (hD : va_D A [(x, .inr (0, [.ref g, .ref an, .ref tr, .ref w])), (mo, .inr (8, [.int 0, .int 0, .ref m_attributes, .ref m_inherits, .int 0, .ref m_positions, .ref m_symbolAt, .ref m_form, .ref m_ruleX, .ref m_ruleY, .int 0, .int 0, .int (-1), .int (-1), .ref m_uses, .ref m_leads, .ref m_symbolLeads, .ref m_order, .ref m_rank, .ref m_visits, .ref m_length, .ref m_sequence, .ref m_set, .ref m_visited, .int 0, .ref m_production, .ref m_token, .ref m_child, .ref m_parent, .ref m_next, .ref m_known, .ref m_value, .ref m_given, .int (-1), .int (-1)]))]) (hS : va_S A s.heap H locs) (hl : lv_has ls 7 [(4, .int 0), (3, .ref out), (2, .ref mo), (1, .ref x), (0, .ref b)]) : W p l e room_1 s m #[Value.ref b] below meth c H locs 62 9096 (lw_Z below #[Value.ref b] s) (F0 m 124 ls []) := by
  obtain ⟨hx, hb, hr, hml, hown, hts0, hX, hbl, hlocks, -⟩ := hAt
  have hts : ∀ w ∈ WS, w.before #[Value.ref b] s = true := fun w hw => hts0 w (WS_tbl w hw)
  have hN : ∀ q : Nat, A q → ∀ cell : Cell, s.heap[q]? = some cell → cell.vm.isStatics = false := fun q hq cell hc => absurd (Array.getElem?_eq_some_iff.mp hc).1 (Nat.not_lt.mpr (hA2 q hq))
  refine lv_aload_n hx hb d_L_law_124 rfl (lv_at hl 3 rfl) ?_
  refine lv_aload_n hx hb d_L_law_125 rfl (lv_at hl 4 rfl) ?_
  refine lv_iload hx hb d_L_law_126 (lv_at hl 0 rfl) ?_
  refine lv_iconst (v := 1) hx hb d_L_law_128 (by decide) ?_
  refine lv_iadd hx hb d_L_law_129 ?_
  refine vq_top (y := 1) (by decide) ?_
  refine va_sld (i := 1) hx hb hX hbl hbA hS (show ¬ ((1 : Int32) < 0 ∨ 6 ≤ Int32.toNatClampNeg 1) by decide) d_L_law_130 ?_
  refine vq_top (y := xs 1) rfl ?_
  refine lv_aload_n hx hb d_L_law_131 rfl (lv_at hl 4 rfl) ?_
  refine lv_iload hx hb d_L_law_132 (lv_at hl 0 rfl) ?_
  refine lv_iconst (v := 2) hx hb d_L_law_134 (by decide) ?_
  refine lv_iadd hx hb d_L_law_135 ?_
  refine vq_top (y := 2) (by decide) ?_
  refine va_sld (i := 2) hx hb hX hbl hbA hS (show ¬ ((2 : Int32) < 0 ∨ 6 ≤ Int32.toNatClampNeg 2) by decide) d_L_law_136 ?_
  refine vq_top (y := xs 2) rfl ?_
  refine lv_aload_n hx hb d_L_law_137 rfl (lv_at hl 1 rfl) ?_
  have hPc := hP.sub (ws' := [(x, .inr (0, [.ref g, .ref an, .ref tr, .ref w]))]) [0] rfl
  have hDc := hD.sub (ws' := [(x, .inr (0, [.ref g, .ref an, .ref tr, .ref w]))]) [0] (by decide) rfl
  have hKc := hK.sub (tys' := []) [] rfl
  have hFc := va_free (wc := [(x, .inr (0, [.ref g, .ref an, .ref tr, .ref w]))]) hD hS hA [0] rfl
  refine va_calli (vq_runSH (n := 4) (As := [.ref x, .int (xs 1), .int (xs 2), .ref out]) (rest := []) ⟨hx, hb, hml, hown, hts⟩ (w_symbolG l htr dC dI x (xs 1) (xs 2) out g an tr w H.size h0 h4) WSk rfl rfl ⟨by decide, by decide⟩ k_289 k_347 k_348 k_349 (by decide +kernel) ⟨vq_blind, vq_here hst hS hN hPc hKc hDc⟩ rfl rfl hl.1 rfl (lv_room (Nat.le_of_ble_eq_true rfl)) d_L_law_138 ⟨by decide, by decide⟩) hS (fun q _ h => hFc q h) hFc (fun r1 u t H1 locs ht hvm hw hB hz1 hk1 hS => ?_)
  obtain ⟨hP1, hK1, hD1⟩ := hB
  rw [ht] at hP1
  have hK1 := va_K.moved hvm.symm hK1
  have hw : r1 = 1 := hw
  subst hw
  obtain ⟨hP, hD⟩ := va_join (wr := [(mo, .inr (8, [.int 0, .int 0, .ref m_attributes, .ref m_inherits, .int 0, .ref m_positions, .ref m_symbolAt, .ref m_form, .ref m_ruleX, .ref m_ruleY, .int 0, .int 0, .int (-1), .int (-1), .ref m_uses, .ref m_leads, .ref m_symbolLeads, .ref m_order, .ref m_rank, .ref m_visits, .ref m_length, .ref m_sequence, .ref m_set, .ref m_visited, .int 0, .ref m_production, .ref m_token, .ref m_child, .ref m_parent, .ref m_next, .ref m_known, .ref m_value, .ref m_given, .int (-1), .int (-1)]))]) (w1 := []) hP hD [0] [1] rfl rfl (by decide) (by decide) hk1 hFc hP1 hD1
  have hK := (hK.sub (tys' := []) [] rfl).app hK1
  generalize H1 = H at hP hS ⊢
  have hP : va_P (dC, dI) CL [(mo, .inr (8, [.int 0, .int 0, .ref m_attributes, .ref m_inherits, .int 0, .ref m_positions, .ref m_symbolAt, .ref m_form, .ref m_ruleX, .ref m_ruleY, .int 0, .int 0, .int (-1), .int (-1), .ref m_uses, .ref m_leads, .ref m_symbolLeads, .ref m_order, .ref m_rank, .ref m_visits, .ref m_length, .ref m_sequence, .ref m_set, .ref m_visited, .int 0, .ref m_production, .ref m_token, .ref m_child, .ref m_parent, .ref m_next, .ref m_known, .ref m_value, .ref m_given, .int (-1), .int (-1)]))] H := hP
  have hD : va_D A [(mo, .inr (8, [.int 0, .int 0, .ref m_attributes, .ref m_inherits, .int 0, .ref m_positions, .ref m_symbolAt, .ref m_form, .ref m_ruleX, .ref m_ruleY, .int 0, .int 0, .int (-1), .int (-1), .ref m_uses, .ref m_leads, .ref m_symbolLeads, .ref m_order, .ref m_rank, .ref m_visits, .ref m_length, .ref m_sequence, .ref m_set, .ref m_visited, .int 0, .ref m_production, .ref m_token, .ref m_child, .ref m_parent, .ref m_next, .ref m_known, .ref m_value, .ref m_given, .int (-1), .int (-1)]))] := hD
  have hK : va_K (dC, dI) CL [] s := hK
  refine W.widen (k := 63) (n := 9102) (by decide) (by decide) ?_
  refine lv_istore (lv' := [(5, .int 1), (4, .int 0), (3, .ref out), (2, .ref mo), (1, .ref x), (0, .ref b)]) hx hb d_L_law_141 hl (by decide) rfl (fun ls hl => ?_)
  refine lv_aload_n hx hb d_L_law_143 rfl (lv_at hl 3 rfl) ?_
  refine lv_aload_n hx hb d_L_law_144 rfl (lv_at hl 5 rfl) ?_
  refine lv_iload hx hb d_L_law_145 (lv_at hl 1 rfl) ?_
  refine lv_iconst (v := 1) hx hb d_L_law_147 (by decide) ?_
  refine lv_iadd hx hb d_L_law_148 ?_
  refine vq_top (y := 1) (by decide) ?_
  refine va_sld (i := 1) hx hb hX hbl hbA hS (show ¬ ((1 : Int32) < 0 ∨ 6 ≤ Int32.toNatClampNeg 1) by decide) d_L_law_149 ?_
  refine vq_top (y := xs 1) rfl ?_
  refine lv_aload_n hx hb d_L_law_150 rfl (lv_at hl 5 rfl) ?_
  refine lv_iload hx hb d_L_law_151 (lv_at hl 1 rfl) ?_
  refine lv_iconst (v := 2) hx hb d_L_law_153 (by decide) ?_
  refine lv_iadd hx hb d_L_law_154 ?_
  refine vq_top (y := 2) (by decide) ?_
  refine va_sld (i := 2) hx hb hX hbl hbA hS (show ¬ ((2 : Int32) < 0 ∨ 6 ≤ Int32.toNatClampNeg 2) by decide) d_L_law_155 ?_
  refine vq_top (y := xs 2) rfl ?_
  have hPc := hP.sub (ws' := [(mo, .inr (8, [.int 0, .int 0, .ref m_attributes, .ref m_inherits, .int 0, .ref m_positions, .ref m_symbolAt, .ref m_form, .ref m_ruleX, .ref m_ruleY, .int 0, .int 0, .int (-1), .int (-1), .ref m_uses, .ref m_leads, .ref m_symbolLeads, .ref m_order, .ref m_rank, .ref m_visits, .ref m_length, .ref m_sequence, .ref m_set, .ref m_visited, .int 0, .ref m_production, .ref m_token, .ref m_child, .ref m_parent, .ref m_next, .ref m_known, .ref m_value, .ref m_given, .int (-1), .int (-1)]))]) [0] rfl
  have hDc := hD.sub (ws' := [(mo, .inr (8, [.int 0, .int 0, .ref m_attributes, .ref m_inherits, .int 0, .ref m_positions, .ref m_symbolAt, .ref m_form, .ref m_ruleX, .ref m_ruleY, .int 0, .int 0, .int (-1), .int (-1), .ref m_uses, .ref m_leads, .ref m_symbolLeads, .ref m_order, .ref m_rank, .ref m_visits, .ref m_length, .ref m_sequence, .ref m_set, .ref m_visited, .int 0, .ref m_production, .ref m_token, .ref m_child, .ref m_parent, .ref m_next, .ref m_known, .ref m_value, .ref m_given, .int (-1), .int (-1)]))]) [0] (by decide) rfl
  have hKc := hK.sub (tys' := []) [] rfl
  have hFc := va_free (wc := [(mo, .inr (8, [.int 0, .int 0, .ref m_attributes, .ref m_inherits, .int 0, .ref m_positions, .ref m_symbolAt, .ref m_form, .ref m_ruleX, .ref m_ruleY, .int 0, .int 0, .int (-1), .int (-1), .ref m_uses, .ref m_leads, .ref m_symbolLeads, .ref m_order, .ref m_rank, .ref m_visits, .ref m_length, .ref m_sequence, .ref m_set, .ref m_visited, .int 0, .ref m_production, .ref m_token, .ref m_child, .ref m_parent, .ref m_next, .ref m_known, .ref m_value, .ref m_given, .int (-1), .int (-1)]))]) hD hS hA [0] rfl
  refine va_calli (va_runV (As := [.int (xs 1), .int (xs 2)]) (rest := []) ⟨hx, hb, hml, hown, hts⟩ (c_M_symbolG l htr dC dI mo (xs 1) (xs 2) m_attributes m_inherits m_positions m_symbolAt m_form m_ruleX m_ruleY m_uses m_leads m_symbolLeads m_order m_rank m_visits m_length m_sequence m_set m_visited m_production m_token m_child m_parent m_next m_known m_value m_given H.size h0 h4) (vq_cV WSk hts 2 rfl rfl ⟨by decide, by decide⟩ k_254 k_235 k_350 k_351 k_352 (by decide +kernel)) ⟨vq_blind, va_recv hK hP (ci := 8) (q0 := 0) rfl rfl, vq_here hst hS hN hPc hKc hDc⟩ rfl rfl hl.1 rfl (lv_room (Nat.le_of_ble_eq_true rfl)) d_L_law_156 ⟨by decide, by decide⟩) hS (fun q _ h => hFc q h) hFc (fun r2 u t H1 locs ht hvm hw hB hz1 hk1 hS => ?_)
  obtain ⟨hP1, hK1, hD1⟩ := hB
  rw [ht] at hP1
  have hK1 := va_K.moved hvm.symm hK1
  have hw : r2 = 0 := hw
  subst hw
  obtain ⟨hP, hD⟩ := va_join (wr := []) (w1 := [(mo, .inr (8, [.int 1, .int 0, .ref m_attributes, .ref m_inherits, .int 0, .ref m_positions, .ref m_symbolAt, .ref m_form, .ref m_ruleX, .ref m_ruleY, .int 0, .int 0, .int (-1), .int (-1), .ref m_uses, .ref m_leads, .ref m_symbolLeads, .ref m_order, .ref m_rank, .ref m_visits, .ref m_length, .ref m_sequence, .ref m_set, .ref m_visited, .int 0, .ref m_production, .ref m_token, .ref m_child, .ref m_parent, .ref m_next, .ref m_known, .ref m_value, .ref m_given, .int (-1), .int (-1)]))]) hP hD [0] [] rfl rfl (by decide) (by decide) hk1 hFc hP1 hD1
  have hK := (hK.sub (tys' := []) [] rfl).app hK1
  generalize H1 = H at hP hS ⊢
  have hP : va_P (dC, dI) CL [(mo, .inr (8, [.int 1, .int 0, .ref m_attributes, .ref m_inherits, .int 0, .ref m_positions, .ref m_symbolAt, .ref m_form, .ref m_ruleX, .ref m_ruleY, .int 0, .int 0, .int (-1), .int (-1), .ref m_uses, .ref m_leads, .ref m_symbolLeads, .ref m_order, .ref m_rank, .ref m_visits, .ref m_length, .ref m_sequence, .ref m_set, .ref m_visited, .int 0, .ref m_production, .ref m_token, .ref m_child, .ref m_parent, .ref m_next, .ref m_known, .ref m_value, .ref m_given, .int (-1), .int (-1)]))] H := hP
  have hD : va_D A [(mo, .inr (8, [.int 1, .int 0, .ref m_attributes, .ref m_inherits, .int 0, .ref m_positions, .ref m_symbolAt, .ref m_form, .ref m_ruleX, .ref m_ruleY, .int 0, .int 0, .int (-1), .int (-1), .ref m_uses, .ref m_leads, .ref m_symbolLeads, .ref m_order, .ref m_rank, .ref m_visits, .ref m_length, .ref m_sequence, .ref m_set, .ref m_visited, .int 0, .ref m_production, .ref m_token, .ref m_child, .ref m_parent, .ref m_next, .ref m_known, .ref m_value, .ref m_given, .int (-1), .int (-1)]))] := hD
  have hK : va_K (dC, dI) CL [] s := hK
  refine W.widen (k := 63) (n := 9102) (by decide) (by decide) ?_
  refine lv_istore (lv' := [(6, .int 0), (5, .int 1), (4, .int 0), (3, .ref out), (2, .ref mo), (1, .ref x), (0, .ref b)]) hx hb d_L_law_159 hl (by decide) rfl (fun ls hl => ?_)
  refine lv_aload_n hx hb d_L_law_161 rfl (lv_at hl 4 rfl) ?_
  have hPc := hP.sub (ws' := [(mo, .inr (8, [.int 1, .int 0, .ref m_attributes, .ref m_inherits, .int 0, .ref m_positions, .ref m_symbolAt, .ref m_form, .ref m_ruleX, .ref m_ruleY, .int 0, .int 0, .int (-1), .int (-1), .ref m_uses, .ref m_leads, .ref m_symbolLeads, .ref m_order, .ref m_rank, .ref m_visits, .ref m_length, .ref m_sequence, .ref m_set, .ref m_visited, .int 0, .ref m_production, .ref m_token, .ref m_child, .ref m_parent, .ref m_next, .ref m_known, .ref m_value, .ref m_given, .int (-1), .int (-1)]))]) [0] rfl
  have hDc := hD.sub (ws' := [(mo, .inr (8, [.int 1, .int 0, .ref m_attributes, .ref m_inherits, .int 0, .ref m_positions, .ref m_symbolAt, .ref m_form, .ref m_ruleX, .ref m_ruleY, .int 0, .int 0, .int (-1), .int (-1), .ref m_uses, .ref m_leads, .ref m_symbolLeads, .ref m_order, .ref m_rank, .ref m_visits, .ref m_length, .ref m_sequence, .ref m_set, .ref m_visited, .int 0, .ref m_production, .ref m_token, .ref m_child, .ref m_parent, .ref m_next, .ref m_known, .ref m_value, .ref m_given, .int (-1), .int (-1)]))]) [0] (by decide) rfl
  have hKc := hK.sub (tys' := []) [] rfl
  have hFc := va_free (wc := [(mo, .inr (8, [.int 1, .int 0, .ref m_attributes, .ref m_inherits, .int 0, .ref m_positions, .ref m_symbolAt, .ref m_form, .ref m_ruleX, .ref m_ruleY, .int 0, .int 0, .int (-1), .int (-1), .ref m_uses, .ref m_leads, .ref m_symbolLeads, .ref m_order, .ref m_rank, .ref m_visits, .ref m_length, .ref m_sequence, .ref m_set, .ref m_visited, .int 0, .ref m_production, .ref m_token, .ref m_child, .ref m_parent, .ref m_next, .ref m_known, .ref m_value, .ref m_given, .int (-1), .int (-1)]))]) hD hS hA [0] rfl
  refine va_calli (va_runV (As := []) (rest := []) ⟨hx, hb, hml, hown, hts⟩ (c_M_thrown l htr dC dI mo 1 0 m_attributes m_inherits 0 m_positions m_symbolAt m_form m_ruleX m_ruleY 0 0 (-1) (-1) m_uses m_leads m_symbolLeads m_order m_rank m_visits m_length m_sequence m_set m_visited 0 m_production m_token m_child m_parent m_next m_known m_value m_given (-1) (-1) H.size) (vq_cV WSk hts 0 rfl rfl ⟨by decide, by decide⟩ k_239 k_235 k_353 k_354 k_355 (by decide +kernel)) ⟨vq_blind, va_recv hK hP (ci := 8) (q0 := 0) rfl rfl, vq_here hst hS hN hPc hKc hDc⟩ rfl rfl hl.1 rfl (lv_room (Nat.le_of_ble_eq_true rfl)) d_L_law_162 ⟨by decide, by decide⟩) hS (fun q _ h => hFc q h) hFc (fun r3 u t H1 locs ht hvm hw hB hz1 hk1 hS => ?_)
  obtain ⟨hP1, hK1, hD1⟩ := hB
  rw [ht] at hP1
  have hK1 := va_K.moved hvm.symm hK1
  have hw : r3 = 1 := hw
  subst hw
  obtain ⟨hP, hD⟩ := va_join (wr := []) (w1 := [(mo, .inr (8, [.int 1, .int 0, .ref m_attributes, .ref m_inherits, .int 0, .ref m_positions, .ref m_symbolAt, .ref m_form, .ref m_ruleX, .ref m_ruleY, .int 0, .int 0, .int (-1), .int (-1), .ref m_uses, .ref m_leads, .ref m_symbolLeads, .ref m_order, .ref m_rank, .ref m_visits, .ref m_length, .ref m_sequence, .ref m_set, .ref m_visited, .int 0, .ref m_production, .ref m_token, .ref m_child, .ref m_parent, .ref m_next, .ref m_known, .ref m_value, .ref m_given, .int (-1), .int (-1)]))]) hP hD [0] [] rfl rfl (by decide) (by decide) hk1 hFc hP1 hD1
  have hK := (hK.sub (tys' := []) [] rfl).app hK1
  generalize H1 = H at hP hS ⊢
  have hP : va_P (dC, dI) CL [(mo, .inr (8, [.int 1, .int 0, .ref m_attributes, .ref m_inherits, .int 0, .ref m_positions, .ref m_symbolAt, .ref m_form, .ref m_ruleX, .ref m_ruleY, .int 0, .int 0, .int (-1), .int (-1), .ref m_uses, .ref m_leads, .ref m_symbolLeads, .ref m_order, .ref m_rank, .ref m_visits, .ref m_length, .ref m_sequence, .ref m_set, .ref m_visited, .int 0, .ref m_production, .ref m_token, .ref m_child, .ref m_parent, .ref m_next, .ref m_known, .ref m_value, .ref m_given, .int (-1), .int (-1)]))] H := hP
  have hD : va_D A [(mo, .inr (8, [.int 1, .int 0, .ref m_attributes, .ref m_inherits, .int 0, .ref m_positions, .ref m_symbolAt, .ref m_form, .ref m_ruleX, .ref m_ruleY, .int 0, .int 0, .int (-1), .int (-1), .ref m_uses, .ref m_leads, .ref m_symbolLeads, .ref m_order, .ref m_rank, .ref m_visits, .ref m_length, .ref m_sequence, .ref m_set, .ref m_visited, .int 0, .ref m_production, .ref m_token, .ref m_child, .ref m_parent, .ref m_next, .ref m_known, .ref m_value, .ref m_given, .int (-1), .int (-1)]))] := hD
  have hK : va_K (dC, dI) CL [] s := hK
  refine W.widen (k := 63) (n := 9102) (by decide) (by decide) ?_
  refine lv_iload hx hb d_L_law_165 (lv_at hl 1 rfl) ?_
  refine lv_icmp_eq (tgt := 172) hx hb d_L_law_167 (by decide) (fun _ => ?_) (fun h9 => absurd (by decide) h9)
  refine lv_iload hx hb d_L_law_172 (lv_at hl 1 rfl) ?_
  refine lv_if_ne (tgt := 189) hx hb d_L_law_174 (by decide) (fun _ => ?_) (fun h9 => absurd h9 (by decide))
  refine lv_goto (tgt := 1053) hx hb d_L_law_189 (by decide) ?_
  refine lv_iinc (k := 2) (v := 6) (lv' := [(4, .int 6), (6, .int 0), (5, .int 1), (3, .ref out), (2, .ref mo), (1, .ref x), (0, .ref b)]) hx hb d_L_law_1053 hl rfl (by decide) (by decide) rfl (fun ls hl => ?_)
  refine lv_goto (tgt := 23) hx hb d_L_law_1056 (by decide) ?_
  refine lv_iload hx hb d_L_law_23 (lv_at hl 0 rfl) ?_
  refine lv_aload_n hx hb d_L_law_25 rfl (lv_at hl 6 rfl) ?_
  refine va_slen hx hb hX hbl hbA hS d_L_law_26 ?_
  refine vq_top (y := 6) (by decide) ?_
  refine lv_bipush (v := 6) hx hb d_L_law_27 (by decide) ?_
  refine lv_isub hx hb d_L_law_29 ?_
  refine vq_top (y := 0) (by decide) ?_
  refine lv_icmp_gt (tgt := 1059) hx hb d_L_law_30 (by decide) (fun _ => ?_) (fun h9 => absurd (by decide) h9)
  refine lv_iconst (v := 1) hx hb d_L_law_1059 (by decide) ?_
  refine va_forget (fun q hq => hA2 _ (hS.2.2 q hq)) ?_
  refine W.widen (k := 85) (n := 9238) (by decide) (by decide) ?_
  exact lw_ret hx hb hr hlocks d_L_law_1060

set_option maxHeartbeats 4000000 in
set_option maxRecDepth 100000 in
theorem arm_1 {p : Program} {e : Env} {s : State} {m : MethodId} {below : List Frame} {meth : Method} {c : Code} (l : Launch) (htr : l.stackTraces = false) {b : Nat} {xs : Nat → Int32} {A : Nat → Prop} (dC : Nat → ClassId) (dI : Nat → Nat → Nat) (out : Nat) (mo : Nat) (x : Nat) (g : Nat) (an : Nat) (tr : Nat) (w : Nat) (g_attributeCounts : Nat) (g_inheritedBits : Nat) (g_symbolsAt : Nat) (g_lastPositions : Nat) (g_presentBits : Nat) (g_toDefineBits : Nat) (g_ruledBits : Nat) (g_forms : Nat) (g_firsts : Nat) (g_seconds : Nat) (g_usedBits : Nat) (m_attributes : Nat) (m_inherits : Nat) (m_positions : Nat) (m_symbolAt : Nat) (m_form : Nat) (m_ruleX : Nat) (m_ruleY : Nat) (m_uses : Nat) (m_leads : Nat) (m_symbolLeads : Nat) (m_order : Nat) (m_rank : Nat) (m_visits : Nat) (m_length : Nat) (m_sequence : Nat) (m_set : Nat) (m_visited : Nat) (m_production : Nat) (m_token : Nat) (m_child : Nat) (m_parent : Nat) (m_next : Nat) (m_known : Nat) (m_value : Nat) (m_given : Nat) {H : Heap} {locs : List Loc} {ls : Array Slot} (hAt : lw_At p s m meth c b 6 xs) (hst : vq_st s) (hA : ∀ q : Nat, s.heap.size ≤ q → A q) (hA2 : ∀ q : Nat, A q → s.heap.size ≤ q) (hbA : ¬ A b) (hK : va_K (dC, dI) CL [] s) (hP : va_P (dC, dI) CL [(x, .inr (0, [.ref g, .ref an, .ref tr, .ref w])), (g, .inr (1, [.ref g_attributeCounts, .ref g_inheritedBits, .int 0, .ref g_symbolsAt, .ref g_lastPositions, .ref g_presentBits, .ref g_toDefineBits, .int 0, .ref g_ruledBits, .ref g_forms, .ref g_firsts, .ref g_seconds, .ref g_usedBits])), (mo, .inr (8, [.int 0, .int 0, .ref m_attributes, .ref m_inherits, .int 0, .ref m_positions, .ref m_symbolAt, .ref m_form, .ref m_ruleX, .ref m_ruleY, .int 0, .int 0, .int (-1), .int (-1), .ref m_uses, .ref m_leads, .ref m_symbolLeads, .ref m_order, .ref m_rank, .ref m_visits, .ref m_length, .ref m_sequence, .ref m_set, .ref m_visited, .int 0, .ref m_production, .ref m_token, .ref m_child, .ref m_parent, .ref m_next, .ref m_known, .ref m_value, .ref m_given, .int (-1), .int (-1)]))] H) (hD : va_D A [(x, .inr (0, [.ref g, .ref an, .ref tr, .ref w])), (g, .inr (1, [.ref g_attributeCounts, .ref g_inheritedBits, .int 0, .ref g_symbolsAt, .ref g_lastPositions, .ref g_presentBits, .ref g_toDefineBits, .int 0, .ref g_ruledBits, .ref g_forms, .ref g_firsts, .ref g_seconds, .ref g_usedBits])), (mo, .inr (8, [.int 0, .int 0, .ref m_attributes, .ref m_inherits, .int 0, .ref m_positions, .ref m_symbolAt, .ref m_form, .ref m_ruleX, .ref m_ruleY, .int 0, .int 0, .int (-1), .int (-1), .ref m_uses, .ref m_leads, .ref m_symbolLeads, .ref m_order, .ref m_rank, .ref m_visits, .ref m_length, .ref m_sequence, .ref m_set, .ref m_visited, .int 0, .ref m_production, .ref m_token, .ref m_child, .ref m_parent, .ref m_next, .ref m_known, .ref m_value, .ref m_given, .int (-1), .int (-1)]))]) (hS : va_S A s.heap H locs) (hl : lv_has ls 7 [(4, .int 0), (3, .ref out), (2, .ref mo), (1, .ref x), (0, .ref b)]) : W p l e room_1 s m #[Value.ref b] below meth c H locs 62 9096 (lw_Z below #[Value.ref b] s) (F0 m 192 ls []) := by
  obtain ⟨hx, hb, hr, hml, hown, hts0, hX, hbl, hlocks, -⟩ := hAt
  have hts : ∀ w ∈ WS, w.before #[Value.ref b] s = true := fun w hw => hts0 w (WS_tbl w hw)
  have hN : ∀ q : Nat, A q → ∀ cell : Cell, s.heap[q]? = some cell → cell.vm.isStatics = false := fun q hq cell hc => absurd (Array.getElem?_eq_some_iff.mp hc).1 (Nat.not_lt.mpr (hA2 q hq))
  refine lv_aload_n hx hb d_L_law_192 rfl (lv_at hl 3 rfl) ?_
  refine lv_aload_n hx hb d_L_law_193 rfl (lv_at hl 4 rfl) ?_
  refine lv_iload hx hb d_L_law_194 (lv_at hl 0 rfl) ?_
  refine lv_iconst (v := 1) hx hb d_L_law_196 (by decide) ?_
  refine lv_iadd hx hb d_L_law_197 ?_
  refine vq_top (y := 1) (by decide) ?_
  refine va_sld (i := 1) hx hb hX hbl hbA hS (show ¬ ((1 : Int32) < 0 ∨ 6 ≤ Int32.toNatClampNeg 1) by decide) d_L_law_198 ?_
  refine vq_top (y := xs 1) rfl ?_
  refine lv_aload_n hx hb d_L_law_199 rfl (lv_at hl 4 rfl) ?_
  refine lv_iload hx hb d_L_law_200 (lv_at hl 0 rfl) ?_
  refine lv_iconst (v := 2) hx hb d_L_law_202 (by decide) ?_
  refine lv_iadd hx hb d_L_law_203 ?_
  refine vq_top (y := 2) (by decide) ?_
  refine va_sld (i := 2) hx hb hX hbl hbA hS (show ¬ ((2 : Int32) < 0 ∨ 6 ≤ Int32.toNatClampNeg 2) by decide) d_L_law_204 ?_
  refine vq_top (y := xs 2) rfl ?_
  refine lv_aload_n hx hb d_L_law_205 rfl (lv_at hl 4 rfl) ?_
  refine lv_iload hx hb d_L_law_206 (lv_at hl 0 rfl) ?_
  refine lv_iconst (v := 3) hx hb d_L_law_208 (by decide) ?_
  refine lv_iadd hx hb d_L_law_209 ?_
  refine vq_top (y := 3) (by decide) ?_
  refine va_sld (i := 3) hx hb hX hbl hbA hS (show ¬ ((3 : Int32) < 0 ∨ 6 ≤ Int32.toNatClampNeg 3) by decide) d_L_law_210 ?_
  refine vq_top (y := xs 3) rfl ?_
  refine lv_aload_n hx hb d_L_law_211 rfl (lv_at hl 4 rfl) ?_
  refine lv_iload hx hb d_L_law_212 (lv_at hl 0 rfl) ?_
  refine lv_iconst (v := 4) hx hb d_L_law_214 (by decide) ?_
  refine lv_iadd hx hb d_L_law_215 ?_
  refine vq_top (y := 4) (by decide) ?_
  refine va_sld (i := 4) hx hb hX hbl hbA hS (show ¬ ((4 : Int32) < 0 ∨ 6 ≤ Int32.toNatClampNeg 4) by decide) d_L_law_216 ?_
  refine vq_top (y := xs 4) rfl ?_
  refine lv_aload_n hx hb d_L_law_217 rfl (lv_at hl 1 rfl) ?_
  have hPc := hP.sub (ws' := [(x, .inr (0, [.ref g, .ref an, .ref tr, .ref w])), (g, .inr (1, [.ref g_attributeCounts, .ref g_inheritedBits, .int 0, .ref g_symbolsAt, .ref g_lastPositions, .ref g_presentBits, .ref g_toDefineBits, .int 0, .ref g_ruledBits, .ref g_forms, .ref g_firsts, .ref g_seconds, .ref g_usedBits]))]) [0, 1] rfl
  have hDc := hD.sub (ws' := [(x, .inr (0, [.ref g, .ref an, .ref tr, .ref w])), (g, .inr (1, [.ref g_attributeCounts, .ref g_inheritedBits, .int 0, .ref g_symbolsAt, .ref g_lastPositions, .ref g_presentBits, .ref g_toDefineBits, .int 0, .ref g_ruledBits, .ref g_forms, .ref g_firsts, .ref g_seconds, .ref g_usedBits]))]) [0, 1] (by decide) rfl
  have hKc := hK.sub (tys' := []) [] rfl
  have hFc := va_free (wc := [(x, .inr (0, [.ref g, .ref an, .ref tr, .ref w])), (g, .inr (1, [.ref g_attributeCounts, .ref g_inheritedBits, .int 0, .ref g_symbolsAt, .ref g_lastPositions, .ref g_presentBits, .ref g_toDefineBits, .int 0, .ref g_ruledBits, .ref g_forms, .ref g_firsts, .ref g_seconds, .ref g_usedBits]))]) hD hS hA [0, 1] rfl
  refine va_calli (vq_runSH (n := 6) (As := [.ref x, .int (xs 1), .int (xs 2), .int (xs 3), .int (xs 4), .ref out]) (rest := []) ⟨hx, hb, hml, hown, hts⟩ (w_production l htr dC dI x (xs 1) (xs 2) (xs 3) (xs 4) out g an tr w g_attributeCounts g_inheritedBits g_symbolsAt g_lastPositions g_presentBits g_toDefineBits g_ruledBits g_forms g_firsts g_seconds g_usedBits H.size) WSk rfl rfl ⟨by decide, by decide⟩ k_295 k_347 k_356 k_357 (by decide +kernel) ⟨vq_blind, vq_here hst hS hN hPc hKc hDc⟩ rfl rfl hl.1 rfl (lv_room (Nat.le_of_ble_eq_true rfl)) d_L_law_218 ⟨by decide, by decide⟩) hS (fun q _ h => hFc q h) hFc (fun r1 u t H1 locs ht hvm hw hB hz1 hk1 hS => ?_)
  obtain ⟨hP1, hK1, hD1⟩ := hB
  rw [ht] at hP1
  have hK1 := va_K.moved hvm.symm hK1
  have hw : r1 = 1 := hw
  subst hw
  obtain ⟨hP, hD⟩ := va_join (wr := [(mo, .inr (8, [.int 0, .int 0, .ref m_attributes, .ref m_inherits, .int 0, .ref m_positions, .ref m_symbolAt, .ref m_form, .ref m_ruleX, .ref m_ruleY, .int 0, .int 0, .int (-1), .int (-1), .ref m_uses, .ref m_leads, .ref m_symbolLeads, .ref m_order, .ref m_rank, .ref m_visits, .ref m_length, .ref m_sequence, .ref m_set, .ref m_visited, .int 0, .ref m_production, .ref m_token, .ref m_child, .ref m_parent, .ref m_next, .ref m_known, .ref m_value, .ref m_given, .int (-1), .int (-1)]))]) (w1 := []) hP hD [0, 1] [2] rfl rfl (by decide) (by decide) hk1 hFc hP1 hD1
  have hK := (hK.sub (tys' := []) [] rfl).app hK1
  generalize H1 = H at hP hS ⊢
  have hP : va_P (dC, dI) CL [(mo, .inr (8, [.int 0, .int 0, .ref m_attributes, .ref m_inherits, .int 0, .ref m_positions, .ref m_symbolAt, .ref m_form, .ref m_ruleX, .ref m_ruleY, .int 0, .int 0, .int (-1), .int (-1), .ref m_uses, .ref m_leads, .ref m_symbolLeads, .ref m_order, .ref m_rank, .ref m_visits, .ref m_length, .ref m_sequence, .ref m_set, .ref m_visited, .int 0, .ref m_production, .ref m_token, .ref m_child, .ref m_parent, .ref m_next, .ref m_known, .ref m_value, .ref m_given, .int (-1), .int (-1)]))] H := hP
  have hD : va_D A [(mo, .inr (8, [.int 0, .int 0, .ref m_attributes, .ref m_inherits, .int 0, .ref m_positions, .ref m_symbolAt, .ref m_form, .ref m_ruleX, .ref m_ruleY, .int 0, .int 0, .int (-1), .int (-1), .ref m_uses, .ref m_leads, .ref m_symbolLeads, .ref m_order, .ref m_rank, .ref m_visits, .ref m_length, .ref m_sequence, .ref m_set, .ref m_visited, .int 0, .ref m_production, .ref m_token, .ref m_child, .ref m_parent, .ref m_next, .ref m_known, .ref m_value, .ref m_given, .int (-1), .int (-1)]))] := hD
  have hK : va_K (dC, dI) CL [] s := hK
  refine W.widen (k := 63) (n := 9102) (by decide) (by decide) ?_
  refine lv_istore (lv' := [(5, .int 1), (4, .int 0), (3, .ref out), (2, .ref mo), (1, .ref x), (0, .ref b)]) hx hb d_L_law_221 hl (by decide) rfl (fun ls hl => ?_)
  refine lv_aload_n hx hb d_L_law_223 rfl (lv_at hl 3 rfl) ?_
  refine lv_aload_n hx hb d_L_law_224 rfl (lv_at hl 5 rfl) ?_
  refine lv_iload hx hb d_L_law_225 (lv_at hl 1 rfl) ?_
  refine lv_iconst (v := 1) hx hb d_L_law_227 (by decide) ?_
  refine lv_iadd hx hb d_L_law_228 ?_
  refine vq_top (y := 1) (by decide) ?_
  refine va_sld (i := 1) hx hb hX hbl hbA hS (show ¬ ((1 : Int32) < 0 ∨ 6 ≤ Int32.toNatClampNeg 1) by decide) d_L_law_229 ?_
  refine vq_top (y := xs 1) rfl ?_
  refine lv_aload_n hx hb d_L_law_230 rfl (lv_at hl 5 rfl) ?_
  refine lv_iload hx hb d_L_law_231 (lv_at hl 1 rfl) ?_
  refine lv_iconst (v := 2) hx hb d_L_law_233 (by decide) ?_
  refine lv_iadd hx hb d_L_law_234 ?_
  refine vq_top (y := 2) (by decide) ?_
  refine va_sld (i := 2) hx hb hX hbl hbA hS (show ¬ ((2 : Int32) < 0 ∨ 6 ≤ Int32.toNatClampNeg 2) by decide) d_L_law_235 ?_
  refine vq_top (y := xs 2) rfl ?_
  refine lv_aload_n hx hb d_L_law_236 rfl (lv_at hl 5 rfl) ?_
  refine lv_iload hx hb d_L_law_237 (lv_at hl 1 rfl) ?_
  refine lv_iconst (v := 3) hx hb d_L_law_239 (by decide) ?_
  refine lv_iadd hx hb d_L_law_240 ?_
  refine vq_top (y := 3) (by decide) ?_
  refine va_sld (i := 3) hx hb hX hbl hbA hS (show ¬ ((3 : Int32) < 0 ∨ 6 ≤ Int32.toNatClampNeg 3) by decide) d_L_law_241 ?_
  refine vq_top (y := xs 3) rfl ?_
  refine lv_aload_n hx hb d_L_law_242 rfl (lv_at hl 5 rfl) ?_
  refine lv_iload hx hb d_L_law_243 (lv_at hl 1 rfl) ?_
  refine lv_iconst (v := 4) hx hb d_L_law_245 (by decide) ?_
  refine lv_iadd hx hb d_L_law_246 ?_
  refine vq_top (y := 4) (by decide) ?_
  refine va_sld (i := 4) hx hb hX hbl hbA hS (show ¬ ((4 : Int32) < 0 ∨ 6 ≤ Int32.toNatClampNeg 4) by decide) d_L_law_247 ?_
  refine vq_top (y := xs 4) rfl ?_
  have hPc := hP.sub (ws' := [(mo, .inr (8, [.int 0, .int 0, .ref m_attributes, .ref m_inherits, .int 0, .ref m_positions, .ref m_symbolAt, .ref m_form, .ref m_ruleX, .ref m_ruleY, .int 0, .int 0, .int (-1), .int (-1), .ref m_uses, .ref m_leads, .ref m_symbolLeads, .ref m_order, .ref m_rank, .ref m_visits, .ref m_length, .ref m_sequence, .ref m_set, .ref m_visited, .int 0, .ref m_production, .ref m_token, .ref m_child, .ref m_parent, .ref m_next, .ref m_known, .ref m_value, .ref m_given, .int (-1), .int (-1)]))]) [0] rfl
  have hDc := hD.sub (ws' := [(mo, .inr (8, [.int 0, .int 0, .ref m_attributes, .ref m_inherits, .int 0, .ref m_positions, .ref m_symbolAt, .ref m_form, .ref m_ruleX, .ref m_ruleY, .int 0, .int 0, .int (-1), .int (-1), .ref m_uses, .ref m_leads, .ref m_symbolLeads, .ref m_order, .ref m_rank, .ref m_visits, .ref m_length, .ref m_sequence, .ref m_set, .ref m_visited, .int 0, .ref m_production, .ref m_token, .ref m_child, .ref m_parent, .ref m_next, .ref m_known, .ref m_value, .ref m_given, .int (-1), .int (-1)]))]) [0] (by decide) rfl
  have hKc := hK.sub (tys' := []) [] rfl
  have hFc := va_free (wc := [(mo, .inr (8, [.int 0, .int 0, .ref m_attributes, .ref m_inherits, .int 0, .ref m_positions, .ref m_symbolAt, .ref m_form, .ref m_ruleX, .ref m_ruleY, .int 0, .int 0, .int (-1), .int (-1), .ref m_uses, .ref m_leads, .ref m_symbolLeads, .ref m_order, .ref m_rank, .ref m_visits, .ref m_length, .ref m_sequence, .ref m_set, .ref m_visited, .int 0, .ref m_production, .ref m_token, .ref m_child, .ref m_parent, .ref m_next, .ref m_known, .ref m_value, .ref m_given, .int (-1), .int (-1)]))]) hD hS hA [0] rfl
  refine va_calli (va_runV (As := [.int (xs 1), .int (xs 2), .int (xs 3), .int (xs 4)]) (rest := []) ⟨hx, hb, hml, hown, hts⟩ (c_M_production l htr dC dI mo (xs 1) (xs 2) (xs 3) (xs 4) m_attributes m_inherits m_positions m_symbolAt m_form m_ruleX m_ruleY m_uses m_leads m_symbolLeads m_order m_rank m_visits m_length m_sequence m_set m_visited m_production m_token m_child m_parent m_next m_known m_value m_given H.size) (vq_cV WSk hts 4 rfl rfl ⟨by decide, by decide⟩ k_258 k_235 k_358 k_359 k_360 (by decide +kernel)) ⟨vq_blind, va_recv hK hP (ci := 8) (q0 := 0) rfl rfl, vq_here hst hS hN hPc hKc hDc⟩ rfl rfl hl.1 rfl (lv_room (Nat.le_of_ble_eq_true rfl)) d_L_law_248 ⟨by decide, by decide⟩) hS (fun q _ h => hFc q h) hFc (fun r2 u t H1 locs ht hvm hw hB hz1 hk1 hS => ?_)
  obtain ⟨hP1, hK1, hD1⟩ := hB
  rw [ht] at hP1
  have hK1 := va_K.moved hvm.symm hK1
  have hw : r2 = 0 := hw
  subst hw
  obtain ⟨hP, hD⟩ := va_join (wr := []) (w1 := [(mo, .inr (8, [.int 1, .int 0, .ref m_attributes, .ref m_inherits, .int 0, .ref m_positions, .ref m_symbolAt, .ref m_form, .ref m_ruleX, .ref m_ruleY, .int 0, .int 0, .int (-1), .int (-1), .ref m_uses, .ref m_leads, .ref m_symbolLeads, .ref m_order, .ref m_rank, .ref m_visits, .ref m_length, .ref m_sequence, .ref m_set, .ref m_visited, .int 0, .ref m_production, .ref m_token, .ref m_child, .ref m_parent, .ref m_next, .ref m_known, .ref m_value, .ref m_given, .int (-1), .int (-1)]))]) hP hD [0] [] rfl rfl (by decide) (by decide) hk1 hFc hP1 hD1
  have hK := (hK.sub (tys' := []) [] rfl).app hK1
  generalize H1 = H at hP hS ⊢
  have hP : va_P (dC, dI) CL [(mo, .inr (8, [.int 1, .int 0, .ref m_attributes, .ref m_inherits, .int 0, .ref m_positions, .ref m_symbolAt, .ref m_form, .ref m_ruleX, .ref m_ruleY, .int 0, .int 0, .int (-1), .int (-1), .ref m_uses, .ref m_leads, .ref m_symbolLeads, .ref m_order, .ref m_rank, .ref m_visits, .ref m_length, .ref m_sequence, .ref m_set, .ref m_visited, .int 0, .ref m_production, .ref m_token, .ref m_child, .ref m_parent, .ref m_next, .ref m_known, .ref m_value, .ref m_given, .int (-1), .int (-1)]))] H := hP
  have hD : va_D A [(mo, .inr (8, [.int 1, .int 0, .ref m_attributes, .ref m_inherits, .int 0, .ref m_positions, .ref m_symbolAt, .ref m_form, .ref m_ruleX, .ref m_ruleY, .int 0, .int 0, .int (-1), .int (-1), .ref m_uses, .ref m_leads, .ref m_symbolLeads, .ref m_order, .ref m_rank, .ref m_visits, .ref m_length, .ref m_sequence, .ref m_set, .ref m_visited, .int 0, .ref m_production, .ref m_token, .ref m_child, .ref m_parent, .ref m_next, .ref m_known, .ref m_value, .ref m_given, .int (-1), .int (-1)]))] := hD
  have hK : va_K (dC, dI) CL [] s := hK
  refine W.widen (k := 63) (n := 9102) (by decide) (by decide) ?_
  refine lv_istore (lv' := [(6, .int 0), (5, .int 1), (4, .int 0), (3, .ref out), (2, .ref mo), (1, .ref x), (0, .ref b)]) hx hb d_L_law_251 hl (by decide) rfl (fun ls hl => ?_)
  refine lv_aload_n hx hb d_L_law_253 rfl (lv_at hl 4 rfl) ?_
  have hPc := hP.sub (ws' := [(mo, .inr (8, [.int 1, .int 0, .ref m_attributes, .ref m_inherits, .int 0, .ref m_positions, .ref m_symbolAt, .ref m_form, .ref m_ruleX, .ref m_ruleY, .int 0, .int 0, .int (-1), .int (-1), .ref m_uses, .ref m_leads, .ref m_symbolLeads, .ref m_order, .ref m_rank, .ref m_visits, .ref m_length, .ref m_sequence, .ref m_set, .ref m_visited, .int 0, .ref m_production, .ref m_token, .ref m_child, .ref m_parent, .ref m_next, .ref m_known, .ref m_value, .ref m_given, .int (-1), .int (-1)]))]) [0] rfl
  have hDc := hD.sub (ws' := [(mo, .inr (8, [.int 1, .int 0, .ref m_attributes, .ref m_inherits, .int 0, .ref m_positions, .ref m_symbolAt, .ref m_form, .ref m_ruleX, .ref m_ruleY, .int 0, .int 0, .int (-1), .int (-1), .ref m_uses, .ref m_leads, .ref m_symbolLeads, .ref m_order, .ref m_rank, .ref m_visits, .ref m_length, .ref m_sequence, .ref m_set, .ref m_visited, .int 0, .ref m_production, .ref m_token, .ref m_child, .ref m_parent, .ref m_next, .ref m_known, .ref m_value, .ref m_given, .int (-1), .int (-1)]))]) [0] (by decide) rfl
  have hKc := hK.sub (tys' := []) [] rfl
  have hFc := va_free (wc := [(mo, .inr (8, [.int 1, .int 0, .ref m_attributes, .ref m_inherits, .int 0, .ref m_positions, .ref m_symbolAt, .ref m_form, .ref m_ruleX, .ref m_ruleY, .int 0, .int 0, .int (-1), .int (-1), .ref m_uses, .ref m_leads, .ref m_symbolLeads, .ref m_order, .ref m_rank, .ref m_visits, .ref m_length, .ref m_sequence, .ref m_set, .ref m_visited, .int 0, .ref m_production, .ref m_token, .ref m_child, .ref m_parent, .ref m_next, .ref m_known, .ref m_value, .ref m_given, .int (-1), .int (-1)]))]) hD hS hA [0] rfl
  refine va_calli (va_runV (As := []) (rest := []) ⟨hx, hb, hml, hown, hts⟩ (c_M_thrown l htr dC dI mo 1 0 m_attributes m_inherits 0 m_positions m_symbolAt m_form m_ruleX m_ruleY 0 0 (-1) (-1) m_uses m_leads m_symbolLeads m_order m_rank m_visits m_length m_sequence m_set m_visited 0 m_production m_token m_child m_parent m_next m_known m_value m_given (-1) (-1) H.size) (vq_cV WSk hts 0 rfl rfl ⟨by decide, by decide⟩ k_239 k_235 k_353 k_354 k_355 (by decide +kernel)) ⟨vq_blind, va_recv hK hP (ci := 8) (q0 := 0) rfl rfl, vq_here hst hS hN hPc hKc hDc⟩ rfl rfl hl.1 rfl (lv_room (Nat.le_of_ble_eq_true rfl)) d_L_law_254 ⟨by decide, by decide⟩) hS (fun q _ h => hFc q h) hFc (fun r3 u t H1 locs ht hvm hw hB hz1 hk1 hS => ?_)
  obtain ⟨hP1, hK1, hD1⟩ := hB
  rw [ht] at hP1
  have hK1 := va_K.moved hvm.symm hK1
  have hw : r3 = 1 := hw
  subst hw
  obtain ⟨hP, hD⟩ := va_join (wr := []) (w1 := [(mo, .inr (8, [.int 1, .int 0, .ref m_attributes, .ref m_inherits, .int 0, .ref m_positions, .ref m_symbolAt, .ref m_form, .ref m_ruleX, .ref m_ruleY, .int 0, .int 0, .int (-1), .int (-1), .ref m_uses, .ref m_leads, .ref m_symbolLeads, .ref m_order, .ref m_rank, .ref m_visits, .ref m_length, .ref m_sequence, .ref m_set, .ref m_visited, .int 0, .ref m_production, .ref m_token, .ref m_child, .ref m_parent, .ref m_next, .ref m_known, .ref m_value, .ref m_given, .int (-1), .int (-1)]))]) hP hD [0] [] rfl rfl (by decide) (by decide) hk1 hFc hP1 hD1
  have hK := (hK.sub (tys' := []) [] rfl).app hK1
  generalize H1 = H at hP hS ⊢
  have hP : va_P (dC, dI) CL [(mo, .inr (8, [.int 1, .int 0, .ref m_attributes, .ref m_inherits, .int 0, .ref m_positions, .ref m_symbolAt, .ref m_form, .ref m_ruleX, .ref m_ruleY, .int 0, .int 0, .int (-1), .int (-1), .ref m_uses, .ref m_leads, .ref m_symbolLeads, .ref m_order, .ref m_rank, .ref m_visits, .ref m_length, .ref m_sequence, .ref m_set, .ref m_visited, .int 0, .ref m_production, .ref m_token, .ref m_child, .ref m_parent, .ref m_next, .ref m_known, .ref m_value, .ref m_given, .int (-1), .int (-1)]))] H := hP
  have hD : va_D A [(mo, .inr (8, [.int 1, .int 0, .ref m_attributes, .ref m_inherits, .int 0, .ref m_positions, .ref m_symbolAt, .ref m_form, .ref m_ruleX, .ref m_ruleY, .int 0, .int 0, .int (-1), .int (-1), .ref m_uses, .ref m_leads, .ref m_symbolLeads, .ref m_order, .ref m_rank, .ref m_visits, .ref m_length, .ref m_sequence, .ref m_set, .ref m_visited, .int 0, .ref m_production, .ref m_token, .ref m_child, .ref m_parent, .ref m_next, .ref m_known, .ref m_value, .ref m_given, .int (-1), .int (-1)]))] := hD
  have hK : va_K (dC, dI) CL [] s := hK
  refine W.widen (k := 63) (n := 9102) (by decide) (by decide) ?_
  refine lv_iload hx hb d_L_law_257 (lv_at hl 1 rfl) ?_
  refine lv_icmp_eq (tgt := 264) hx hb d_L_law_259 (by decide) (fun _ => ?_) (fun h9 => absurd (by decide) h9)
  refine lv_iload hx hb d_L_law_264 (lv_at hl 1 rfl) ?_
  refine lv_if_ne (tgt := 281) hx hb d_L_law_266 (by decide) (fun _ => ?_) (fun h9 => absurd h9 (by decide))
  refine lv_goto (tgt := 1053) hx hb d_L_law_281 (by decide) ?_
  refine lv_iinc (k := 2) (v := 6) (lv' := [(4, .int 6), (6, .int 0), (5, .int 1), (3, .ref out), (2, .ref mo), (1, .ref x), (0, .ref b)]) hx hb d_L_law_1053 hl rfl (by decide) (by decide) rfl (fun ls hl => ?_)
  refine lv_goto (tgt := 23) hx hb d_L_law_1056 (by decide) ?_
  refine lv_iload hx hb d_L_law_23 (lv_at hl 0 rfl) ?_
  refine lv_aload_n hx hb d_L_law_25 rfl (lv_at hl 6 rfl) ?_
  refine va_slen hx hb hX hbl hbA hS d_L_law_26 ?_
  refine vq_top (y := 6) (by decide) ?_
  refine lv_bipush (v := 6) hx hb d_L_law_27 (by decide) ?_
  refine lv_isub hx hb d_L_law_29 ?_
  refine vq_top (y := 0) (by decide) ?_
  refine lv_icmp_gt (tgt := 1059) hx hb d_L_law_30 (by decide) (fun _ => ?_) (fun h9 => absurd (by decide) h9)
  refine lv_iconst (v := 1) hx hb d_L_law_1059 (by decide) ?_
  refine va_forget (fun q hq => hA2 _ (hS.2.2 q hq)) ?_
  refine W.widen (k := 85) (n := 9238) (by decide) (by decide) ?_
  exact lw_ret hx hb hr hlocks d_L_law_1060

set_option maxHeartbeats 4000000 in
set_option maxRecDepth 100000 in
theorem arm_2 {p : Program} {e : Env} {s : State} {m : MethodId} {below : List Frame} {meth : Method} {c : Code} (l : Launch) (htr : l.stackTraces = false) {b : Nat} {xs : Nat → Int32} {A : Nat → Prop} (dC : Nat → ClassId) (dI : Nat → Nat → Nat) (out : Nat) (mo : Nat) (x : Nat) (g : Nat) (an : Nat) (tr : Nat) (w : Nat) (g_attributeCounts : Nat) (g_inheritedBits : Nat) (g_symbolsAt : Nat) (g_lastPositions : Nat) (g_presentBits : Nat) (g_toDefineBits : Nat) (g_ruledBits : Nat) (g_forms : Nat) (g_firsts : Nat) (g_seconds : Nat) (g_usedBits : Nat) (m_attributes : Nat) (m_inherits : Nat) (m_positions : Nat) (m_symbolAt : Nat) (m_form : Nat) (m_ruleX : Nat) (m_ruleY : Nat) (m_uses : Nat) (m_leads : Nat) (m_symbolLeads : Nat) (m_order : Nat) (m_rank : Nat) (m_visits : Nat) (m_length : Nat) (m_sequence : Nat) (m_set : Nat) (m_visited : Nat) (m_production : Nat) (m_token : Nat) (m_child : Nat) (m_parent : Nat) (m_next : Nat) (m_known : Nat) (m_value : Nat) (m_given : Nat) {H : Heap} {locs : List Loc} {ls : Array Slot} (hAt : lw_At p s m meth c b 6 xs) (hst : vq_st s) (hA : ∀ q : Nat, s.heap.size ≤ q → A q) (hA2 : ∀ q : Nat, A q → s.heap.size ≤ q) (hbA : ¬ A b) (hK : va_K (dC, dI) CL [] s) (hP : va_P (dC, dI) CL [(x, .inr (0, [.ref g, .ref an, .ref tr, .ref w])), (g, .inr (1, [.ref g_attributeCounts, .ref g_inheritedBits, .int 0, .ref g_symbolsAt, .ref g_lastPositions, .ref g_presentBits, .ref g_toDefineBits, .int 0, .ref g_ruledBits, .ref g_forms, .ref g_firsts, .ref g_seconds, .ref g_usedBits])), (mo, .inr (8, [.int 0, .int 0, .ref m_attributes, .ref m_inherits, .int 0, .ref m_positions, .ref m_symbolAt, .ref m_form, .ref m_ruleX, .ref m_ruleY, .int 0, .int 0, .int (-1), .int (-1), .ref m_uses, .ref m_leads, .ref m_symbolLeads, .ref m_order, .ref m_rank, .ref m_visits, .ref m_length, .ref m_sequence, .ref m_set, .ref m_visited, .int 0, .ref m_production, .ref m_token, .ref m_child, .ref m_parent, .ref m_next, .ref m_known, .ref m_value, .ref m_given, .int (-1), .int (-1)]))] H) (hD : va_D A [(x, .inr (0, [.ref g, .ref an, .ref tr, .ref w])), (g, .inr (1, [.ref g_attributeCounts, .ref g_inheritedBits, .int 0, .ref g_symbolsAt, .ref g_lastPositions, .ref g_presentBits, .ref g_toDefineBits, .int 0, .ref g_ruledBits, .ref g_forms, .ref g_firsts, .ref g_seconds, .ref g_usedBits])), (mo, .inr (8, [.int 0, .int 0, .ref m_attributes, .ref m_inherits, .int 0, .ref m_positions, .ref m_symbolAt, .ref m_form, .ref m_ruleX, .ref m_ruleY, .int 0, .int 0, .int (-1), .int (-1), .ref m_uses, .ref m_leads, .ref m_symbolLeads, .ref m_order, .ref m_rank, .ref m_visits, .ref m_length, .ref m_sequence, .ref m_set, .ref m_visited, .int 0, .ref m_production, .ref m_token, .ref m_child, .ref m_parent, .ref m_next, .ref m_known, .ref m_value, .ref m_given, .int (-1), .int (-1)]))]) (hS : va_S A s.heap H locs) (hl : lv_has ls 7 [(4, .int 0), (3, .ref out), (2, .ref mo), (1, .ref x), (0, .ref b)]) : W p l e room_1 s m #[Value.ref b] below meth c H locs 62 9096 (lw_Z below #[Value.ref b] s) (F0 m 284 ls []) := by
  obtain ⟨hx, hb, hr, hml, hown, hts0, hX, hbl, hlocks, -⟩ := hAt
  have hts : ∀ w ∈ WS, w.before #[Value.ref b] s = true := fun w hw => hts0 w (WS_tbl w hw)
  have hN : ∀ q : Nat, A q → ∀ cell : Cell, s.heap[q]? = some cell → cell.vm.isStatics = false := fun q hq cell hc => absurd (Array.getElem?_eq_some_iff.mp hc).1 (Nat.not_lt.mpr (hA2 q hq))
  refine lv_aload_n hx hb d_L_law_284 rfl (lv_at hl 3 rfl) ?_
  refine lv_aload_n hx hb d_L_law_285 rfl (lv_at hl 4 rfl) ?_
  refine lv_iload hx hb d_L_law_286 (lv_at hl 0 rfl) ?_
  refine lv_iconst (v := 1) hx hb d_L_law_288 (by decide) ?_
  refine lv_iadd hx hb d_L_law_289 ?_
  refine vq_top (y := 1) (by decide) ?_
  refine va_sld (i := 1) hx hb hX hbl hbA hS (show ¬ ((1 : Int32) < 0 ∨ 6 ≤ Int32.toNatClampNeg 1) by decide) d_L_law_290 ?_
  refine vq_top (y := xs 1) rfl ?_
  refine lv_aload_n hx hb d_L_law_291 rfl (lv_at hl 4 rfl) ?_
  refine lv_iload hx hb d_L_law_292 (lv_at hl 0 rfl) ?_
  refine lv_iconst (v := 2) hx hb d_L_law_294 (by decide) ?_
  refine lv_iadd hx hb d_L_law_295 ?_
  refine vq_top (y := 2) (by decide) ?_
  refine va_sld (i := 2) hx hb hX hbl hbA hS (show ¬ ((2 : Int32) < 0 ∨ 6 ≤ Int32.toNatClampNeg 2) by decide) d_L_law_296 ?_
  refine vq_top (y := xs 2) rfl ?_
  refine lv_aload_n hx hb d_L_law_297 rfl (lv_at hl 4 rfl) ?_
  refine lv_iload hx hb d_L_law_298 (lv_at hl 0 rfl) ?_
  refine lv_iconst (v := 3) hx hb d_L_law_300 (by decide) ?_
  refine lv_iadd hx hb d_L_law_301 ?_
  refine vq_top (y := 3) (by decide) ?_
  refine va_sld (i := 3) hx hb hX hbl hbA hS (show ¬ ((3 : Int32) < 0 ∨ 6 ≤ Int32.toNatClampNeg 3) by decide) d_L_law_302 ?_
  refine vq_top (y := xs 3) rfl ?_
  refine lv_aload_n hx hb d_L_law_303 rfl (lv_at hl 4 rfl) ?_
  refine lv_iload hx hb d_L_law_304 (lv_at hl 0 rfl) ?_
  refine lv_iconst (v := 4) hx hb d_L_law_306 (by decide) ?_
  refine lv_iadd hx hb d_L_law_307 ?_
  refine vq_top (y := 4) (by decide) ?_
  refine va_sld (i := 4) hx hb hX hbl hbA hS (show ¬ ((4 : Int32) < 0 ∨ 6 ≤ Int32.toNatClampNeg 4) by decide) d_L_law_308 ?_
  refine vq_top (y := xs 4) rfl ?_
  refine lv_aload_n hx hb d_L_law_309 rfl (lv_at hl 4 rfl) ?_
  refine lv_iload hx hb d_L_law_310 (lv_at hl 0 rfl) ?_
  refine lv_iconst (v := 5) hx hb d_L_law_312 (by decide) ?_
  refine lv_iadd hx hb d_L_law_313 ?_
  refine vq_top (y := 5) (by decide) ?_
  refine va_sld (i := 5) hx hb hX hbl hbA hS (show ¬ ((5 : Int32) < 0 ∨ 6 ≤ Int32.toNatClampNeg 5) by decide) d_L_law_314 ?_
  refine vq_top (y := xs 5) rfl ?_
  have hPc := hP.sub (ws' := [(x, .inr (0, [.ref g, .ref an, .ref tr, .ref w])), (g, .inr (1, [.ref g_attributeCounts, .ref g_inheritedBits, .int 0, .ref g_symbolsAt, .ref g_lastPositions, .ref g_presentBits, .ref g_toDefineBits, .int 0, .ref g_ruledBits, .ref g_forms, .ref g_firsts, .ref g_seconds, .ref g_usedBits]))]) [0, 1] rfl
  have hDc := hD.sub (ws' := [(x, .inr (0, [.ref g, .ref an, .ref tr, .ref w])), (g, .inr (1, [.ref g_attributeCounts, .ref g_inheritedBits, .int 0, .ref g_symbolsAt, .ref g_lastPositions, .ref g_presentBits, .ref g_toDefineBits, .int 0, .ref g_ruledBits, .ref g_forms, .ref g_firsts, .ref g_seconds, .ref g_usedBits]))]) [0, 1] (by decide) rfl
  have hKc := hK.sub (tys' := []) [] rfl
  have hFc := va_free (wc := [(x, .inr (0, [.ref g, .ref an, .ref tr, .ref w])), (g, .inr (1, [.ref g_attributeCounts, .ref g_inheritedBits, .int 0, .ref g_symbolsAt, .ref g_lastPositions, .ref g_presentBits, .ref g_toDefineBits, .int 0, .ref g_ruledBits, .ref g_forms, .ref g_firsts, .ref g_seconds, .ref g_usedBits]))]) hD hS hA [0, 1] rfl
  refine va_calli (vq_runSH (n := 6) (As := [.ref x, .int (xs 1), .int (xs 2), .int (xs 3), .int (xs 4), .int (xs 5)]) (rest := []) ⟨hx, hb, hml, hown, hts⟩ (w_rule l htr dC dI x (xs 1) (xs 2) (xs 3) (xs 4) (xs 5) g an tr w g_attributeCounts g_inheritedBits g_symbolsAt g_lastPositions g_presentBits g_toDefineBits g_ruledBits g_forms g_firsts g_seconds g_usedBits H.size) WSk rfl rfl ⟨by decide, by decide⟩ k_299 k_347 k_361 k_362 (by decide +kernel) ⟨vq_blind, vq_here hst hS hN hPc hKc hDc⟩ rfl rfl hl.1 rfl (lv_room (Nat.le_of_ble_eq_true rfl)) d_L_law_315 ⟨by decide, by decide⟩) hS (fun q _ h => hFc q h) hFc (fun r1 u t H1 locs ht hvm hw hB hz1 hk1 hS => ?_)
  obtain ⟨hP1, hK1, hD1⟩ := hB
  rw [ht] at hP1
  have hK1 := va_K.moved hvm.symm hK1
  have hw : r1 = 1 := hw
  subst hw
  obtain ⟨hP, hD⟩ := va_join (wr := [(mo, .inr (8, [.int 0, .int 0, .ref m_attributes, .ref m_inherits, .int 0, .ref m_positions, .ref m_symbolAt, .ref m_form, .ref m_ruleX, .ref m_ruleY, .int 0, .int 0, .int (-1), .int (-1), .ref m_uses, .ref m_leads, .ref m_symbolLeads, .ref m_order, .ref m_rank, .ref m_visits, .ref m_length, .ref m_sequence, .ref m_set, .ref m_visited, .int 0, .ref m_production, .ref m_token, .ref m_child, .ref m_parent, .ref m_next, .ref m_known, .ref m_value, .ref m_given, .int (-1), .int (-1)]))]) (w1 := []) hP hD [0, 1] [2] rfl rfl (by decide) (by decide) hk1 hFc hP1 hD1
  have hK := (hK.sub (tys' := []) [] rfl).app hK1
  generalize H1 = H at hP hS ⊢
  have hP : va_P (dC, dI) CL [(mo, .inr (8, [.int 0, .int 0, .ref m_attributes, .ref m_inherits, .int 0, .ref m_positions, .ref m_symbolAt, .ref m_form, .ref m_ruleX, .ref m_ruleY, .int 0, .int 0, .int (-1), .int (-1), .ref m_uses, .ref m_leads, .ref m_symbolLeads, .ref m_order, .ref m_rank, .ref m_visits, .ref m_length, .ref m_sequence, .ref m_set, .ref m_visited, .int 0, .ref m_production, .ref m_token, .ref m_child, .ref m_parent, .ref m_next, .ref m_known, .ref m_value, .ref m_given, .int (-1), .int (-1)]))] H := hP
  have hD : va_D A [(mo, .inr (8, [.int 0, .int 0, .ref m_attributes, .ref m_inherits, .int 0, .ref m_positions, .ref m_symbolAt, .ref m_form, .ref m_ruleX, .ref m_ruleY, .int 0, .int 0, .int (-1), .int (-1), .ref m_uses, .ref m_leads, .ref m_symbolLeads, .ref m_order, .ref m_rank, .ref m_visits, .ref m_length, .ref m_sequence, .ref m_set, .ref m_visited, .int 0, .ref m_production, .ref m_token, .ref m_child, .ref m_parent, .ref m_next, .ref m_known, .ref m_value, .ref m_given, .int (-1), .int (-1)]))] := hD
  have hK : va_K (dC, dI) CL [] s := hK
  refine W.widen (k := 63) (n := 9102) (by decide) (by decide) ?_
  refine lv_istore (lv' := [(5, .int 1), (4, .int 0), (3, .ref out), (2, .ref mo), (1, .ref x), (0, .ref b)]) hx hb d_L_law_318 hl (by decide) rfl (fun ls hl => ?_)
  refine lv_aload_n hx hb d_L_law_320 rfl (lv_at hl 3 rfl) ?_
  refine lv_aload_n hx hb d_L_law_321 rfl (lv_at hl 5 rfl) ?_
  refine lv_iload hx hb d_L_law_322 (lv_at hl 1 rfl) ?_
  refine lv_iconst (v := 1) hx hb d_L_law_324 (by decide) ?_
  refine lv_iadd hx hb d_L_law_325 ?_
  refine vq_top (y := 1) (by decide) ?_
  refine va_sld (i := 1) hx hb hX hbl hbA hS (show ¬ ((1 : Int32) < 0 ∨ 6 ≤ Int32.toNatClampNeg 1) by decide) d_L_law_326 ?_
  refine vq_top (y := xs 1) rfl ?_
  refine lv_aload_n hx hb d_L_law_327 rfl (lv_at hl 5 rfl) ?_
  refine lv_iload hx hb d_L_law_328 (lv_at hl 1 rfl) ?_
  refine lv_iconst (v := 2) hx hb d_L_law_330 (by decide) ?_
  refine lv_iadd hx hb d_L_law_331 ?_
  refine vq_top (y := 2) (by decide) ?_
  refine va_sld (i := 2) hx hb hX hbl hbA hS (show ¬ ((2 : Int32) < 0 ∨ 6 ≤ Int32.toNatClampNeg 2) by decide) d_L_law_332 ?_
  refine vq_top (y := xs 2) rfl ?_
  refine lv_aload_n hx hb d_L_law_333 rfl (lv_at hl 5 rfl) ?_
  refine lv_iload hx hb d_L_law_334 (lv_at hl 1 rfl) ?_
  refine lv_iconst (v := 3) hx hb d_L_law_336 (by decide) ?_
  refine lv_iadd hx hb d_L_law_337 ?_
  refine vq_top (y := 3) (by decide) ?_
  refine va_sld (i := 3) hx hb hX hbl hbA hS (show ¬ ((3 : Int32) < 0 ∨ 6 ≤ Int32.toNatClampNeg 3) by decide) d_L_law_338 ?_
  refine vq_top (y := xs 3) rfl ?_
  refine lv_aload_n hx hb d_L_law_339 rfl (lv_at hl 5 rfl) ?_
  refine lv_iload hx hb d_L_law_340 (lv_at hl 1 rfl) ?_
  refine lv_iconst (v := 4) hx hb d_L_law_342 (by decide) ?_
  refine lv_iadd hx hb d_L_law_343 ?_
  refine vq_top (y := 4) (by decide) ?_
  refine va_sld (i := 4) hx hb hX hbl hbA hS (show ¬ ((4 : Int32) < 0 ∨ 6 ≤ Int32.toNatClampNeg 4) by decide) d_L_law_344 ?_
  refine vq_top (y := xs 4) rfl ?_
  refine lv_aload_n hx hb d_L_law_345 rfl (lv_at hl 5 rfl) ?_
  refine lv_iload hx hb d_L_law_346 (lv_at hl 1 rfl) ?_
  refine lv_iconst (v := 5) hx hb d_L_law_348 (by decide) ?_
  refine lv_iadd hx hb d_L_law_349 ?_
  refine vq_top (y := 5) (by decide) ?_
  refine va_sld (i := 5) hx hb hX hbl hbA hS (show ¬ ((5 : Int32) < 0 ∨ 6 ≤ Int32.toNatClampNeg 5) by decide) d_L_law_350 ?_
  refine vq_top (y := xs 5) rfl ?_
  have hPc := hP.sub (ws' := [(mo, .inr (8, [.int 0, .int 0, .ref m_attributes, .ref m_inherits, .int 0, .ref m_positions, .ref m_symbolAt, .ref m_form, .ref m_ruleX, .ref m_ruleY, .int 0, .int 0, .int (-1), .int (-1), .ref m_uses, .ref m_leads, .ref m_symbolLeads, .ref m_order, .ref m_rank, .ref m_visits, .ref m_length, .ref m_sequence, .ref m_set, .ref m_visited, .int 0, .ref m_production, .ref m_token, .ref m_child, .ref m_parent, .ref m_next, .ref m_known, .ref m_value, .ref m_given, .int (-1), .int (-1)]))]) [0] rfl
  have hDc := hD.sub (ws' := [(mo, .inr (8, [.int 0, .int 0, .ref m_attributes, .ref m_inherits, .int 0, .ref m_positions, .ref m_symbolAt, .ref m_form, .ref m_ruleX, .ref m_ruleY, .int 0, .int 0, .int (-1), .int (-1), .ref m_uses, .ref m_leads, .ref m_symbolLeads, .ref m_order, .ref m_rank, .ref m_visits, .ref m_length, .ref m_sequence, .ref m_set, .ref m_visited, .int 0, .ref m_production, .ref m_token, .ref m_child, .ref m_parent, .ref m_next, .ref m_known, .ref m_value, .ref m_given, .int (-1), .int (-1)]))]) [0] (by decide) rfl
  have hKc := hK.sub (tys' := []) [] rfl
  have hFc := va_free (wc := [(mo, .inr (8, [.int 0, .int 0, .ref m_attributes, .ref m_inherits, .int 0, .ref m_positions, .ref m_symbolAt, .ref m_form, .ref m_ruleX, .ref m_ruleY, .int 0, .int 0, .int (-1), .int (-1), .ref m_uses, .ref m_leads, .ref m_symbolLeads, .ref m_order, .ref m_rank, .ref m_visits, .ref m_length, .ref m_sequence, .ref m_set, .ref m_visited, .int 0, .ref m_production, .ref m_token, .ref m_child, .ref m_parent, .ref m_next, .ref m_known, .ref m_value, .ref m_given, .int (-1), .int (-1)]))]) hD hS hA [0] rfl
  refine va_callv (va_runV (As := [.int (xs 1), .int (xs 2), .int (xs 3), .int (xs 4), .int (xs 5)]) (rest := []) ⟨hx, hb, hml, hown, hts⟩ (c_M_rule l htr dC dI mo (xs 1) (xs 2) (xs 3) (xs 4) (xs 5) m_attributes m_inherits m_positions m_symbolAt m_form m_ruleX m_ruleY m_uses m_leads m_symbolLeads m_order m_rank m_visits m_length m_sequence m_set m_visited m_production m_token m_child m_parent m_next m_known m_value m_given H.size) (vq_cV WSk hts 5 rfl rfl ⟨by decide, by decide⟩ k_262 k_235 k_363 k_364 k_365 (by decide +kernel)) ⟨vq_blind, va_recv hK hP (ci := 8) (q0 := 0) rfl rfl, vq_here hst hS hN hPc hKc hDc⟩ rfl rfl hl.1 rfl (lv_room (Nat.le_of_ble_eq_true rfl)) d_L_law_351 ⟨by decide, by decide⟩) hS (fun q _ h => hFc q h) hFc (fun u t H1 locs ht hvm hw hB hz1 hk1 hS => ?_)
  obtain ⟨hP1, hK1, hD1⟩ := hB
  rw [ht] at hP1
  have hK1 := va_K.moved hvm.symm hK1
  obtain ⟨hP, hD⟩ := va_join (wr := []) (w1 := [(mo, .inr (8, [.int 1, .int 0, .ref m_attributes, .ref m_inherits, .int 0, .ref m_positions, .ref m_symbolAt, .ref m_form, .ref m_ruleX, .ref m_ruleY, .int 0, .int 0, .int (-1), .int (-1), .ref m_uses, .ref m_leads, .ref m_symbolLeads, .ref m_order, .ref m_rank, .ref m_visits, .ref m_length, .ref m_sequence, .ref m_set, .ref m_visited, .int 0, .ref m_production, .ref m_token, .ref m_child, .ref m_parent, .ref m_next, .ref m_known, .ref m_value, .ref m_given, .int (-1), .int (-1)]))]) hP hD [0] [] rfl rfl (by decide) (by decide) hk1 hFc hP1 hD1
  have hK := (hK.sub (tys' := []) [] rfl).app hK1
  generalize H1 = H at hP hS ⊢
  have hP : va_P (dC, dI) CL [(mo, .inr (8, [.int 1, .int 0, .ref m_attributes, .ref m_inherits, .int 0, .ref m_positions, .ref m_symbolAt, .ref m_form, .ref m_ruleX, .ref m_ruleY, .int 0, .int 0, .int (-1), .int (-1), .ref m_uses, .ref m_leads, .ref m_symbolLeads, .ref m_order, .ref m_rank, .ref m_visits, .ref m_length, .ref m_sequence, .ref m_set, .ref m_visited, .int 0, .ref m_production, .ref m_token, .ref m_child, .ref m_parent, .ref m_next, .ref m_known, .ref m_value, .ref m_given, .int (-1), .int (-1)]))] H := hP
  have hD : va_D A [(mo, .inr (8, [.int 1, .int 0, .ref m_attributes, .ref m_inherits, .int 0, .ref m_positions, .ref m_symbolAt, .ref m_form, .ref m_ruleX, .ref m_ruleY, .int 0, .int 0, .int (-1), .int (-1), .ref m_uses, .ref m_leads, .ref m_symbolLeads, .ref m_order, .ref m_rank, .ref m_visits, .ref m_length, .ref m_sequence, .ref m_set, .ref m_visited, .int 0, .ref m_production, .ref m_token, .ref m_child, .ref m_parent, .ref m_next, .ref m_known, .ref m_value, .ref m_given, .int (-1), .int (-1)]))] := hD
  have hK : va_K (dC, dI) CL [] s := hK
  refine W.widen (k := 63) (n := 9102) (by decide) (by decide) ?_
  refine lv_aload_n hx hb d_L_law_354 rfl (lv_at hl 3 rfl) ?_
  have hPc := hP.sub (ws' := [(mo, .inr (8, [.int 1, .int 0, .ref m_attributes, .ref m_inherits, .int 0, .ref m_positions, .ref m_symbolAt, .ref m_form, .ref m_ruleX, .ref m_ruleY, .int 0, .int 0, .int (-1), .int (-1), .ref m_uses, .ref m_leads, .ref m_symbolLeads, .ref m_order, .ref m_rank, .ref m_visits, .ref m_length, .ref m_sequence, .ref m_set, .ref m_visited, .int 0, .ref m_production, .ref m_token, .ref m_child, .ref m_parent, .ref m_next, .ref m_known, .ref m_value, .ref m_given, .int (-1), .int (-1)]))]) [0] rfl
  have hDc := hD.sub (ws' := [(mo, .inr (8, [.int 1, .int 0, .ref m_attributes, .ref m_inherits, .int 0, .ref m_positions, .ref m_symbolAt, .ref m_form, .ref m_ruleX, .ref m_ruleY, .int 0, .int 0, .int (-1), .int (-1), .ref m_uses, .ref m_leads, .ref m_symbolLeads, .ref m_order, .ref m_rank, .ref m_visits, .ref m_length, .ref m_sequence, .ref m_set, .ref m_visited, .int 0, .ref m_production, .ref m_token, .ref m_child, .ref m_parent, .ref m_next, .ref m_known, .ref m_value, .ref m_given, .int (-1), .int (-1)]))]) [0] (by decide) rfl
  have hKc := hK.sub (tys' := []) [] rfl
  have hFc := va_free (wc := [(mo, .inr (8, [.int 1, .int 0, .ref m_attributes, .ref m_inherits, .int 0, .ref m_positions, .ref m_symbolAt, .ref m_form, .ref m_ruleX, .ref m_ruleY, .int 0, .int 0, .int (-1), .int (-1), .ref m_uses, .ref m_leads, .ref m_symbolLeads, .ref m_order, .ref m_rank, .ref m_visits, .ref m_length, .ref m_sequence, .ref m_set, .ref m_visited, .int 0, .ref m_production, .ref m_token, .ref m_child, .ref m_parent, .ref m_next, .ref m_known, .ref m_value, .ref m_given, .int (-1), .int (-1)]))]) hD hS hA [0] rfl
  refine va_calli (va_runV (As := []) (rest := []) ⟨hx, hb, hml, hown, hts⟩ (c_M_thrown l htr dC dI mo 1 0 m_attributes m_inherits 0 m_positions m_symbolAt m_form m_ruleX m_ruleY 0 0 (-1) (-1) m_uses m_leads m_symbolLeads m_order m_rank m_visits m_length m_sequence m_set m_visited 0 m_production m_token m_child m_parent m_next m_known m_value m_given (-1) (-1) H.size) (vq_cV WSk hts 0 rfl rfl ⟨by decide, by decide⟩ k_239 k_235 k_353 k_354 k_355 (by decide +kernel)) ⟨vq_blind, va_recv hK hP (ci := 8) (q0 := 0) rfl rfl, vq_here hst hS hN hPc hKc hDc⟩ rfl rfl hl.1 rfl (lv_room (Nat.le_of_ble_eq_true rfl)) d_L_law_355 ⟨by decide, by decide⟩) hS (fun q _ h => hFc q h) hFc (fun r3 u t H1 locs ht hvm hw hB hz1 hk1 hS => ?_)
  obtain ⟨hP1, hK1, hD1⟩ := hB
  rw [ht] at hP1
  have hK1 := va_K.moved hvm.symm hK1
  have hw : r3 = 1 := hw
  subst hw
  obtain ⟨hP, hD⟩ := va_join (wr := []) (w1 := [(mo, .inr (8, [.int 1, .int 0, .ref m_attributes, .ref m_inherits, .int 0, .ref m_positions, .ref m_symbolAt, .ref m_form, .ref m_ruleX, .ref m_ruleY, .int 0, .int 0, .int (-1), .int (-1), .ref m_uses, .ref m_leads, .ref m_symbolLeads, .ref m_order, .ref m_rank, .ref m_visits, .ref m_length, .ref m_sequence, .ref m_set, .ref m_visited, .int 0, .ref m_production, .ref m_token, .ref m_child, .ref m_parent, .ref m_next, .ref m_known, .ref m_value, .ref m_given, .int (-1), .int (-1)]))]) hP hD [0] [] rfl rfl (by decide) (by decide) hk1 hFc hP1 hD1
  have hK := (hK.sub (tys' := []) [] rfl).app hK1
  generalize H1 = H at hP hS ⊢
  have hP : va_P (dC, dI) CL [(mo, .inr (8, [.int 1, .int 0, .ref m_attributes, .ref m_inherits, .int 0, .ref m_positions, .ref m_symbolAt, .ref m_form, .ref m_ruleX, .ref m_ruleY, .int 0, .int 0, .int (-1), .int (-1), .ref m_uses, .ref m_leads, .ref m_symbolLeads, .ref m_order, .ref m_rank, .ref m_visits, .ref m_length, .ref m_sequence, .ref m_set, .ref m_visited, .int 0, .ref m_production, .ref m_token, .ref m_child, .ref m_parent, .ref m_next, .ref m_known, .ref m_value, .ref m_given, .int (-1), .int (-1)]))] H := hP
  have hD : va_D A [(mo, .inr (8, [.int 1, .int 0, .ref m_attributes, .ref m_inherits, .int 0, .ref m_positions, .ref m_symbolAt, .ref m_form, .ref m_ruleX, .ref m_ruleY, .int 0, .int 0, .int (-1), .int (-1), .ref m_uses, .ref m_leads, .ref m_symbolLeads, .ref m_order, .ref m_rank, .ref m_visits, .ref m_length, .ref m_sequence, .ref m_set, .ref m_visited, .int 0, .ref m_production, .ref m_token, .ref m_child, .ref m_parent, .ref m_next, .ref m_known, .ref m_value, .ref m_given, .int (-1), .int (-1)]))] := hD
  have hK : va_K (dC, dI) CL [] s := hK
  refine W.widen (k := 63) (n := 9102) (by decide) (by decide) ?_
  refine lv_iload hx hb d_L_law_358 (lv_at hl 0 rfl) ?_
  refine lv_icmp_eq (tgt := 365) hx hb d_L_law_360 (by decide) (fun _ => ?_) (fun h9 => absurd (by decide) h9)
  refine lv_goto (tgt := 1053) hx hb d_L_law_365 (by decide) ?_
  refine lv_iinc (k := 1) (v := 6) (lv' := [(4, .int 6), (5, .int 1), (3, .ref out), (2, .ref mo), (1, .ref x), (0, .ref b)]) hx hb d_L_law_1053 hl rfl (by decide) (by decide) rfl (fun ls hl => ?_)
  refine lv_goto (tgt := 23) hx hb d_L_law_1056 (by decide) ?_
  refine lv_iload hx hb d_L_law_23 (lv_at hl 0 rfl) ?_
  refine lv_aload_n hx hb d_L_law_25 rfl (lv_at hl 5 rfl) ?_
  refine va_slen hx hb hX hbl hbA hS d_L_law_26 ?_
  refine vq_top (y := 6) (by decide) ?_
  refine lv_bipush (v := 6) hx hb d_L_law_27 (by decide) ?_
  refine lv_isub hx hb d_L_law_29 ?_
  refine vq_top (y := 0) (by decide) ?_
  refine lv_icmp_gt (tgt := 1059) hx hb d_L_law_30 (by decide) (fun _ => ?_) (fun h9 => absurd (by decide) h9)
  refine lv_iconst (v := 1) hx hb d_L_law_1059 (by decide) ?_
  refine va_forget (fun q hq => hA2 _ (hS.2.2 q hq)) ?_
  refine W.widen (k := 85) (n := 9238) (by decide) (by decide) ?_
  exact lw_ret hx hb hr hlocks d_L_law_1060

set_option maxHeartbeats 4000000 in
set_option maxRecDepth 100000 in
theorem arm_3 {p : Program} {e : Env} {s : State} {m : MethodId} {below : List Frame} {meth : Method} {c : Code} (l : Launch) (htr : l.stackTraces = false) {b : Nat} {xs : Nat → Int32} {A : Nat → Prop} (dC : Nat → ClassId) (dI : Nat → Nat → Nat) (out : Nat) (mo : Nat) (x : Nat) (g : Nat) (an : Nat) (tr : Nat) (w : Nat) (g_attributeCounts : Nat) (g_inheritedBits : Nat) (g_symbolsAt : Nat) (g_lastPositions : Nat) (g_presentBits : Nat) (g_toDefineBits : Nat) (g_ruledBits : Nat) (g_forms : Nat) (g_firsts : Nat) (g_seconds : Nat) (g_usedBits : Nat) (an_leads : Nat) (an_ranking : Nat) (an_sequences : Nat) (w_given : Nat) (w_values : Nat) (w_knownBits : Nat) (w_instructionsDone : Nat) (m_attributes : Nat) (m_inherits : Nat) (m_positions : Nat) (m_symbolAt : Nat) (m_form : Nat) (m_ruleX : Nat) (m_ruleY : Nat) (m_uses : Nat) (m_leads : Nat) (m_symbolLeads : Nat) (m_order : Nat) (m_rank : Nat) (m_visits : Nat) (m_length : Nat) (m_sequence : Nat) (m_set : Nat) (m_visited : Nat) (m_production : Nat) (m_token : Nat) (m_child : Nat) (m_parent : Nat) (m_next : Nat) (m_known : Nat) (m_value : Nat) (m_given : Nat) (ckn : ClassId) (fkn : Nat → Int32) {H : Heap} {locs : List Loc} {ls : Array Slot} (hAt : lw_At p s m meth c b 6 xs) (hst : vq_st s) (hA : ∀ q : Nat, s.heap.size ≤ q → A q) (hA2 : ∀ q : Nat, A q → s.heap.size ≤ q) (hbA : ¬ A b) (hK : va_K (dC, dI) CL [(ckn, .boolean)] s) (hP : va_P (dC, dI) CL [(x, .inr (0, [.ref g, .ref an, .ref tr, .ref w])), (g, .inr (1, [.ref g_attributeCounts, .ref g_inheritedBits, .int 0, .ref g_symbolsAt, .ref g_lastPositions, .ref g_presentBits, .ref g_toDefineBits, .int 0, .ref g_ruledBits, .ref g_forms, .ref g_firsts, .ref g_seconds, .ref g_usedBits])), (an, .inr (2, [.ref g, .ref an_leads, .ref an_ranking, .ref an_sequences, .int 0, .int 0, .int (-1), .int (-1)])), (w, .inr (7, [.ref g, .ref an_sequences, .ref tr, .ref w_given, .ref w_values, .ref w_knownBits, .ref w_instructionsDone, .int 0, .int 0, .int 0])), (mo, .inr (8, [.int 0, .int 0, .ref m_attributes, .ref m_inherits, .int 0, .ref m_positions, .ref m_symbolAt, .ref m_form, .ref m_ruleX, .ref m_ruleY, .int 0, .int 0, .int (-1), .int (-1), .ref m_uses, .ref m_leads, .ref m_symbolLeads, .ref m_order, .ref m_rank, .ref m_visits, .ref m_length, .ref m_sequence, .ref m_set, .ref m_visited, .int 0, .ref m_production, .ref m_token, .ref m_child, .ref m_parent, .ref m_next, .ref m_known, .ref m_value, .ref m_given, .int (-1), .int (-1)])), (m_known, .inl (ckn, 160, .inl fkn))] H) (hD : va_D A [(x, .inr (0, [.ref g, .ref an, .ref tr, .ref w])), (g, .inr (1, [.ref g_attributeCounts, .ref g_inheritedBits, .int 0, .ref g_symbolsAt, .ref g_lastPositions, .ref g_presentBits, .ref g_toDefineBits, .int 0, .ref g_ruledBits, .ref g_forms, .ref g_firsts, .ref g_seconds, .ref g_usedBits])), (an, .inr (2, [.ref g, .ref an_leads, .ref an_ranking, .ref an_sequences, .int 0, .int 0, .int (-1), .int (-1)])), (w, .inr (7, [.ref g, .ref an_sequences, .ref tr, .ref w_given, .ref w_values, .ref w_knownBits, .ref w_instructionsDone, .int 0, .int 0, .int 0])), (mo, .inr (8, [.int 0, .int 0, .ref m_attributes, .ref m_inherits, .int 0, .ref m_positions, .ref m_symbolAt, .ref m_form, .ref m_ruleX, .ref m_ruleY, .int 0, .int 0, .int (-1), .int (-1), .ref m_uses, .ref m_leads, .ref m_symbolLeads, .ref m_order, .ref m_rank, .ref m_visits, .ref m_length, .ref m_sequence, .ref m_set, .ref m_visited, .int 0, .ref m_production, .ref m_token, .ref m_child, .ref m_parent, .ref m_next, .ref m_known, .ref m_value, .ref m_given, .int (-1), .int (-1)])), (m_known, .inl (ckn, 160, .inl fkn))]) (hS : va_S A s.heap H locs) (hl : lv_has ls 7 [(4, .int 0), (3, .ref out), (2, .ref mo), (1, .ref x), (0, .ref b)]) : W p l e room_1 s m #[Value.ref b] below meth c H locs 62 9096 (lw_Z below #[Value.ref b] s) (F0 m 368 ls []) := by
  obtain ⟨hx, hb, hr, hml, hown, hts0, hX, hbl, hlocks, -⟩ := hAt
  have hts : ∀ w ∈ WS, w.before #[Value.ref b] s = true := fun w hw => hts0 w (WS_tbl w hw)
  have hN : ∀ q : Nat, A q → ∀ cell : Cell, s.heap[q]? = some cell → cell.vm.isStatics = false := fun q hq cell hc => absurd (Array.getElem?_eq_some_iff.mp hc).1 (Nat.not_lt.mpr (hA2 q hq))
  refine lv_aload_n hx hb d_L_law_368 rfl (lv_at hl 3 rfl) ?_
  refine lv_aload_n hx hb d_L_law_369 rfl (lv_at hl 1 rfl) ?_
  have hPc := hP.sub (ws' := [(x, .inr (0, [.ref g, .ref an, .ref tr, .ref w])), (g, .inr (1, [.ref g_attributeCounts, .ref g_inheritedBits, .int 0, .ref g_symbolsAt, .ref g_lastPositions, .ref g_presentBits, .ref g_toDefineBits, .int 0, .ref g_ruledBits, .ref g_forms, .ref g_firsts, .ref g_seconds, .ref g_usedBits])), (an, .inr (2, [.ref g, .ref an_leads, .ref an_ranking, .ref an_sequences, .int 0, .int 0, .int (-1), .int (-1)])), (w, .inr (7, [.ref g, .ref an_sequences, .ref tr, .ref w_given, .ref w_values, .ref w_knownBits, .ref w_instructionsDone, .int 0, .int 0, .int 0]))]) [0, 1, 2, 3] rfl
  have hDc := hD.sub (ws' := [(x, .inr (0, [.ref g, .ref an, .ref tr, .ref w])), (g, .inr (1, [.ref g_attributeCounts, .ref g_inheritedBits, .int 0, .ref g_symbolsAt, .ref g_lastPositions, .ref g_presentBits, .ref g_toDefineBits, .int 0, .ref g_ruledBits, .ref g_forms, .ref g_firsts, .ref g_seconds, .ref g_usedBits])), (an, .inr (2, [.ref g, .ref an_leads, .ref an_ranking, .ref an_sequences, .int 0, .int 0, .int (-1), .int (-1)])), (w, .inr (7, [.ref g, .ref an_sequences, .ref tr, .ref w_given, .ref w_values, .ref w_knownBits, .ref w_instructionsDone, .int 0, .int 0, .int 0]))]) [0, 1, 2, 3] (by decide) rfl
  have hKc := hK.sub (tys' := []) [] rfl
  have hFc := va_free (wc := [(x, .inr (0, [.ref g, .ref an, .ref tr, .ref w])), (g, .inr (1, [.ref g_attributeCounts, .ref g_inheritedBits, .int 0, .ref g_symbolsAt, .ref g_lastPositions, .ref g_presentBits, .ref g_toDefineBits, .int 0, .ref g_ruledBits, .ref g_forms, .ref g_firsts, .ref g_seconds, .ref g_usedBits])), (an, .inr (2, [.ref g, .ref an_leads, .ref an_ranking, .ref an_sequences, .int 0, .int 0, .int (-1), .int (-1)])), (w, .inr (7, [.ref g, .ref an_sequences, .ref tr, .ref w_given, .ref w_values, .ref w_knownBits, .ref w_instructionsDone, .int 0, .int 0, .int 0]))]) hD hS hA [0, 1, 2, 3] rfl
  refine va_calli (vq_runSH (n := 2) (As := [.ref x, .ref out]) (rest := []) ⟨hx, hb, hml, hown, hts⟩ (w_analyse l htr dC dI x out g an tr w g_attributeCounts g_inheritedBits g_symbolsAt g_lastPositions g_presentBits g_toDefineBits g_ruledBits g_forms g_firsts g_seconds g_usedBits an_leads an_ranking an_sequences w_given w_values w_knownBits w_instructionsDone H.size) WSk rfl rfl ⟨by decide, by decide⟩ k_305 k_347 k_366 k_367 (by decide +kernel) ⟨vq_blind, vq_here hst hS hN hPc hKc hDc⟩ rfl rfl hl.1 rfl (lv_room (Nat.le_of_ble_eq_true rfl)) d_L_law_370 ⟨by decide, by decide⟩) hS (fun q _ h => hFc q h) hFc (fun r1 u t H1 locs ht hvm hw hB hz1 hk1 hS => ?_)
  obtain ⟨hP1, hK1, hD1⟩ := hB
  rw [ht] at hP1
  have hK1 := va_K.moved hvm.symm hK1
  have hw : r1 = 1 := hw
  subst hw
  obtain ⟨hP, hD⟩ := va_join (wr := [(mo, .inr (8, [.int 0, .int 0, .ref m_attributes, .ref m_inherits, .int 0, .ref m_positions, .ref m_symbolAt, .ref m_form, .ref m_ruleX, .ref m_ruleY, .int 0, .int 0, .int (-1), .int (-1), .ref m_uses, .ref m_leads, .ref m_symbolLeads, .ref m_order, .ref m_rank, .ref m_visits, .ref m_length, .ref m_sequence, .ref m_set, .ref m_visited, .int 0, .ref m_production, .ref m_token, .ref m_child, .ref m_parent, .ref m_next, .ref m_known, .ref m_value, .ref m_given, .int (-1), .int (-1)])), (m_known, .inl (ckn, 160, .inl fkn))]) (w1 := []) hP hD [0, 1, 2, 3] [4, 5] rfl rfl (by decide) (by decide) hk1 hFc hP1 hD1
  have hK := (hK.sub (tys' := [(ckn, .boolean)]) [0] rfl).app hK1
  generalize H1 = H at hP hS ⊢
  have hP : va_P (dC, dI) CL [(mo, .inr (8, [.int 0, .int 0, .ref m_attributes, .ref m_inherits, .int 0, .ref m_positions, .ref m_symbolAt, .ref m_form, .ref m_ruleX, .ref m_ruleY, .int 0, .int 0, .int (-1), .int (-1), .ref m_uses, .ref m_leads, .ref m_symbolLeads, .ref m_order, .ref m_rank, .ref m_visits, .ref m_length, .ref m_sequence, .ref m_set, .ref m_visited, .int 0, .ref m_production, .ref m_token, .ref m_child, .ref m_parent, .ref m_next, .ref m_known, .ref m_value, .ref m_given, .int (-1), .int (-1)])), (m_known, .inl (ckn, 160, .inl fkn))] H := hP
  have hD : va_D A [(mo, .inr (8, [.int 0, .int 0, .ref m_attributes, .ref m_inherits, .int 0, .ref m_positions, .ref m_symbolAt, .ref m_form, .ref m_ruleX, .ref m_ruleY, .int 0, .int 0, .int (-1), .int (-1), .ref m_uses, .ref m_leads, .ref m_symbolLeads, .ref m_order, .ref m_rank, .ref m_visits, .ref m_length, .ref m_sequence, .ref m_set, .ref m_visited, .int 0, .ref m_production, .ref m_token, .ref m_child, .ref m_parent, .ref m_next, .ref m_known, .ref m_value, .ref m_given, .int (-1), .int (-1)])), (m_known, .inl (ckn, 160, .inl fkn))] := hD
  have hK : va_K (dC, dI) CL [(ckn, .boolean)] s := hK
  refine W.widen (k := 63) (n := 9102) (by decide) (by decide) ?_
  refine lv_istore (lv' := [(5, .int 1), (4, .int 0), (3, .ref out), (2, .ref mo), (1, .ref x), (0, .ref b)]) hx hb d_L_law_373 hl (by decide) rfl (fun ls hl => ?_)
  refine lv_aload_n hx hb d_L_law_375 rfl (lv_at hl 3 rfl) ?_
  have hPc := hP.sub (ws' := [(mo, .inr (8, [.int 0, .int 0, .ref m_attributes, .ref m_inherits, .int 0, .ref m_positions, .ref m_symbolAt, .ref m_form, .ref m_ruleX, .ref m_ruleY, .int 0, .int 0, .int (-1), .int (-1), .ref m_uses, .ref m_leads, .ref m_symbolLeads, .ref m_order, .ref m_rank, .ref m_visits, .ref m_length, .ref m_sequence, .ref m_set, .ref m_visited, .int 0, .ref m_production, .ref m_token, .ref m_child, .ref m_parent, .ref m_next, .ref m_known, .ref m_value, .ref m_given, .int (-1), .int (-1)])), (m_known, .inl (ckn, 160, .inl fkn))]) [0, 1] rfl
  have hDc := hD.sub (ws' := [(mo, .inr (8, [.int 0, .int 0, .ref m_attributes, .ref m_inherits, .int 0, .ref m_positions, .ref m_symbolAt, .ref m_form, .ref m_ruleX, .ref m_ruleY, .int 0, .int 0, .int (-1), .int (-1), .ref m_uses, .ref m_leads, .ref m_symbolLeads, .ref m_order, .ref m_rank, .ref m_visits, .ref m_length, .ref m_sequence, .ref m_set, .ref m_visited, .int 0, .ref m_production, .ref m_token, .ref m_child, .ref m_parent, .ref m_next, .ref m_known, .ref m_value, .ref m_given, .int (-1), .int (-1)])), (m_known, .inl (ckn, 160, .inl fkn))]) [0, 1] (by decide) rfl
  have hKc := hK.sub (tys' := [(ckn, .boolean)]) [0] rfl
  have hFc := va_free (wc := [(mo, .inr (8, [.int 0, .int 0, .ref m_attributes, .ref m_inherits, .int 0, .ref m_positions, .ref m_symbolAt, .ref m_form, .ref m_ruleX, .ref m_ruleY, .int 0, .int 0, .int (-1), .int (-1), .ref m_uses, .ref m_leads, .ref m_symbolLeads, .ref m_order, .ref m_rank, .ref m_visits, .ref m_length, .ref m_sequence, .ref m_set, .ref m_visited, .int 0, .ref m_production, .ref m_token, .ref m_child, .ref m_parent, .ref m_next, .ref m_known, .ref m_value, .ref m_given, .int (-1), .int (-1)])), (m_known, .inl (ckn, 160, .inl fkn))]) hD hS hA [0, 1] rfl
  refine va_calli (va_runV (As := []) (rest := []) ⟨hx, hb, hml, hown, hts⟩ (c_M_analyse l htr dC dI mo m_attributes m_inherits m_positions m_symbolAt m_form m_ruleX m_ruleY m_uses m_leads m_symbolLeads m_order m_rank m_visits m_length m_sequence m_set m_visited m_production m_token m_child m_parent m_next m_known m_value m_given ckn fkn H.size) (vq_cV WSk hts 0 rfl rfl ⟨by decide, by decide⟩ k_263 k_235 k_368 k_369 k_370 (by decide +kernel)) ⟨vq_blind, va_recv hK hP (ci := 8) (q0 := 0) rfl rfl, vq_here hst hS hN hPc hKc hDc⟩ rfl rfl hl.1 rfl (lv_room (Nat.le_of_ble_eq_true rfl)) d_L_law_376 ⟨by decide, by decide⟩) hS (fun q _ h => hFc q h) hFc (fun r2 u t H1 locs ht hvm hw hB hz1 hk1 hS => ?_)
  obtain ⟨hP1, hK1, hD1⟩ := hB
  rw [ht] at hP1
  have hK1 := va_K.moved hvm.symm hK1
  have hw : r2 = 0 := hw
  subst hw
  obtain ⟨hP, hD⟩ := va_join (wr := []) (w1 := [(mo, .inr (8, [.int 1, .int 0, .ref m_attributes, .ref m_inherits, .int 0, .ref m_positions, .ref m_symbolAt, .ref m_form, .ref m_ruleX, .ref m_ruleY, .int 0, .int 0, .int (-1), .int (-1), .ref m_uses, .ref m_leads, .ref m_symbolLeads, .ref m_order, .ref m_rank, .ref m_visits, .ref m_length, .ref m_sequence, .ref m_set, .ref m_visited, .int 0, .ref m_production, .ref m_token, .ref m_child, .ref m_parent, .ref m_next, .ref m_known, .ref m_value, .ref m_given, .int (-1), .int (-1)]))]) hP hD [0, 1] [] rfl rfl (by decide) (by decide) hk1 hFc hP1 hD1
  have hK := (hK.sub (tys' := []) [] rfl).app hK1
  generalize H1 = H at hP hS ⊢
  have hP : va_P (dC, dI) CL [(mo, .inr (8, [.int 1, .int 0, .ref m_attributes, .ref m_inherits, .int 0, .ref m_positions, .ref m_symbolAt, .ref m_form, .ref m_ruleX, .ref m_ruleY, .int 0, .int 0, .int (-1), .int (-1), .ref m_uses, .ref m_leads, .ref m_symbolLeads, .ref m_order, .ref m_rank, .ref m_visits, .ref m_length, .ref m_sequence, .ref m_set, .ref m_visited, .int 0, .ref m_production, .ref m_token, .ref m_child, .ref m_parent, .ref m_next, .ref m_known, .ref m_value, .ref m_given, .int (-1), .int (-1)]))] H := hP
  have hD : va_D A [(mo, .inr (8, [.int 1, .int 0, .ref m_attributes, .ref m_inherits, .int 0, .ref m_positions, .ref m_symbolAt, .ref m_form, .ref m_ruleX, .ref m_ruleY, .int 0, .int 0, .int (-1), .int (-1), .ref m_uses, .ref m_leads, .ref m_symbolLeads, .ref m_order, .ref m_rank, .ref m_visits, .ref m_length, .ref m_sequence, .ref m_set, .ref m_visited, .int 0, .ref m_production, .ref m_token, .ref m_child, .ref m_parent, .ref m_next, .ref m_known, .ref m_value, .ref m_given, .int (-1), .int (-1)]))] := hD
  have hK : va_K (dC, dI) CL [] s := hK
  refine W.widen (k := 63) (n := 9102) (by decide) (by decide) ?_
  refine lv_istore (lv' := [(6, .int 0), (5, .int 1), (4, .int 0), (3, .ref out), (2, .ref mo), (1, .ref x), (0, .ref b)]) hx hb d_L_law_379 hl (by decide) rfl (fun ls hl => ?_)
  refine lv_aload_n hx hb d_L_law_381 rfl (lv_at hl 4 rfl) ?_
  have hPc := hP.sub (ws' := [(mo, .inr (8, [.int 1, .int 0, .ref m_attributes, .ref m_inherits, .int 0, .ref m_positions, .ref m_symbolAt, .ref m_form, .ref m_ruleX, .ref m_ruleY, .int 0, .int 0, .int (-1), .int (-1), .ref m_uses, .ref m_leads, .ref m_symbolLeads, .ref m_order, .ref m_rank, .ref m_visits, .ref m_length, .ref m_sequence, .ref m_set, .ref m_visited, .int 0, .ref m_production, .ref m_token, .ref m_child, .ref m_parent, .ref m_next, .ref m_known, .ref m_value, .ref m_given, .int (-1), .int (-1)]))]) [0] rfl
  have hDc := hD.sub (ws' := [(mo, .inr (8, [.int 1, .int 0, .ref m_attributes, .ref m_inherits, .int 0, .ref m_positions, .ref m_symbolAt, .ref m_form, .ref m_ruleX, .ref m_ruleY, .int 0, .int 0, .int (-1), .int (-1), .ref m_uses, .ref m_leads, .ref m_symbolLeads, .ref m_order, .ref m_rank, .ref m_visits, .ref m_length, .ref m_sequence, .ref m_set, .ref m_visited, .int 0, .ref m_production, .ref m_token, .ref m_child, .ref m_parent, .ref m_next, .ref m_known, .ref m_value, .ref m_given, .int (-1), .int (-1)]))]) [0] (by decide) rfl
  have hKc := hK.sub (tys' := []) [] rfl
  have hFc := va_free (wc := [(mo, .inr (8, [.int 1, .int 0, .ref m_attributes, .ref m_inherits, .int 0, .ref m_positions, .ref m_symbolAt, .ref m_form, .ref m_ruleX, .ref m_ruleY, .int 0, .int 0, .int (-1), .int (-1), .ref m_uses, .ref m_leads, .ref m_symbolLeads, .ref m_order, .ref m_rank, .ref m_visits, .ref m_length, .ref m_sequence, .ref m_set, .ref m_visited, .int 0, .ref m_production, .ref m_token, .ref m_child, .ref m_parent, .ref m_next, .ref m_known, .ref m_value, .ref m_given, .int (-1), .int (-1)]))]) hD hS hA [0] rfl
  refine va_calli (va_runV (As := []) (rest := []) ⟨hx, hb, hml, hown, hts⟩ (c_M_thrown l htr dC dI mo 1 0 m_attributes m_inherits 0 m_positions m_symbolAt m_form m_ruleX m_ruleY 0 0 (-1) (-1) m_uses m_leads m_symbolLeads m_order m_rank m_visits m_length m_sequence m_set m_visited 0 m_production m_token m_child m_parent m_next m_known m_value m_given (-1) (-1) H.size) (vq_cV WSk hts 0 rfl rfl ⟨by decide, by decide⟩ k_239 k_235 k_353 k_354 k_355 (by decide +kernel)) ⟨vq_blind, va_recv hK hP (ci := 8) (q0 := 0) rfl rfl, vq_here hst hS hN hPc hKc hDc⟩ rfl rfl hl.1 rfl (lv_room (Nat.le_of_ble_eq_true rfl)) d_L_law_382 ⟨by decide, by decide⟩) hS (fun q _ h => hFc q h) hFc (fun r3 u t H1 locs ht hvm hw hB hz1 hk1 hS => ?_)
  obtain ⟨hP1, hK1, hD1⟩ := hB
  rw [ht] at hP1
  have hK1 := va_K.moved hvm.symm hK1
  have hw : r3 = 1 := hw
  subst hw
  obtain ⟨hP, hD⟩ := va_join (wr := []) (w1 := [(mo, .inr (8, [.int 1, .int 0, .ref m_attributes, .ref m_inherits, .int 0, .ref m_positions, .ref m_symbolAt, .ref m_form, .ref m_ruleX, .ref m_ruleY, .int 0, .int 0, .int (-1), .int (-1), .ref m_uses, .ref m_leads, .ref m_symbolLeads, .ref m_order, .ref m_rank, .ref m_visits, .ref m_length, .ref m_sequence, .ref m_set, .ref m_visited, .int 0, .ref m_production, .ref m_token, .ref m_child, .ref m_parent, .ref m_next, .ref m_known, .ref m_value, .ref m_given, .int (-1), .int (-1)]))]) hP hD [0] [] rfl rfl (by decide) (by decide) hk1 hFc hP1 hD1
  have hK := (hK.sub (tys' := []) [] rfl).app hK1
  generalize H1 = H at hP hS ⊢
  have hP : va_P (dC, dI) CL [(mo, .inr (8, [.int 1, .int 0, .ref m_attributes, .ref m_inherits, .int 0, .ref m_positions, .ref m_symbolAt, .ref m_form, .ref m_ruleX, .ref m_ruleY, .int 0, .int 0, .int (-1), .int (-1), .ref m_uses, .ref m_leads, .ref m_symbolLeads, .ref m_order, .ref m_rank, .ref m_visits, .ref m_length, .ref m_sequence, .ref m_set, .ref m_visited, .int 0, .ref m_production, .ref m_token, .ref m_child, .ref m_parent, .ref m_next, .ref m_known, .ref m_value, .ref m_given, .int (-1), .int (-1)]))] H := hP
  have hD : va_D A [(mo, .inr (8, [.int 1, .int 0, .ref m_attributes, .ref m_inherits, .int 0, .ref m_positions, .ref m_symbolAt, .ref m_form, .ref m_ruleX, .ref m_ruleY, .int 0, .int 0, .int (-1), .int (-1), .ref m_uses, .ref m_leads, .ref m_symbolLeads, .ref m_order, .ref m_rank, .ref m_visits, .ref m_length, .ref m_sequence, .ref m_set, .ref m_visited, .int 0, .ref m_production, .ref m_token, .ref m_child, .ref m_parent, .ref m_next, .ref m_known, .ref m_value, .ref m_given, .int (-1), .int (-1)]))] := hD
  have hK : va_K (dC, dI) CL [] s := hK
  refine W.widen (k := 63) (n := 9102) (by decide) (by decide) ?_
  refine lv_iload hx hb d_L_law_385 (lv_at hl 1 rfl) ?_
  refine lv_icmp_eq (tgt := 392) hx hb d_L_law_387 (by decide) (fun _ => ?_) (fun h9 => absurd (by decide) h9)
  refine lv_iload hx hb d_L_law_392 (lv_at hl 1 rfl) ?_
  refine lv_if_ne (tgt := 409) hx hb d_L_law_394 (by decide) (fun _ => ?_) (fun h9 => absurd h9 (by decide))
  refine lv_goto (tgt := 1053) hx hb d_L_law_409 (by decide) ?_
  refine lv_iinc (k := 2) (v := 6) (lv' := [(4, .int 6), (6, .int 0), (5, .int 1), (3, .ref out), (2, .ref mo), (1, .ref x), (0, .ref b)]) hx hb d_L_law_1053 hl rfl (by decide) (by decide) rfl (fun ls hl => ?_)
  refine lv_goto (tgt := 23) hx hb d_L_law_1056 (by decide) ?_
  refine lv_iload hx hb d_L_law_23 (lv_at hl 0 rfl) ?_
  refine lv_aload_n hx hb d_L_law_25 rfl (lv_at hl 6 rfl) ?_
  refine va_slen hx hb hX hbl hbA hS d_L_law_26 ?_
  refine vq_top (y := 6) (by decide) ?_
  refine lv_bipush (v := 6) hx hb d_L_law_27 (by decide) ?_
  refine lv_isub hx hb d_L_law_29 ?_
  refine vq_top (y := 0) (by decide) ?_
  refine lv_icmp_gt (tgt := 1059) hx hb d_L_law_30 (by decide) (fun _ => ?_) (fun h9 => absurd (by decide) h9)
  refine lv_iconst (v := 1) hx hb d_L_law_1059 (by decide) ?_
  refine va_forget (fun q hq => hA2 _ (hS.2.2 q hq)) ?_
  refine W.widen (k := 85) (n := 9238) (by decide) (by decide) ?_
  exact lw_ret hx hb hr hlocks d_L_law_1060

set_option maxHeartbeats 4000000 in
set_option maxRecDepth 100000 in
theorem arm_5 {p : Program} {e : Env} {s : State} {m : MethodId} {below : List Frame} {meth : Method} {c : Code} (l : Launch) (htr : l.stackTraces = false) {b : Nat} {xs : Nat → Int32} {A : Nat → Prop} (dC : Nat → ClassId) (dI : Nat → Nat → Nat) (out : Nat) (mo : Nat) (x : Nat) (g : Nat) (an : Nat) (tr : Nat) (w : Nat) (an_leads : Nat) (an_ranking : Nat) (an_sequences : Nat) (m_attributes : Nat) (m_inherits : Nat) (m_positions : Nat) (m_symbolAt : Nat) (m_form : Nat) (m_ruleX : Nat) (m_ruleY : Nat) (m_uses : Nat) (m_leads : Nat) (m_symbolLeads : Nat) (m_order : Nat) (m_rank : Nat) (m_visits : Nat) (m_length : Nat) (m_sequence : Nat) (m_set : Nat) (m_visited : Nat) (m_production : Nat) (m_token : Nat) (m_child : Nat) (m_parent : Nat) (m_next : Nat) (m_known : Nat) (m_value : Nat) (m_given : Nat) {H : Heap} {locs : List Loc} {ls : Array Slot} (hAt : lw_At p s m meth c b 6 xs) (hst : vq_st s) (hA : ∀ q : Nat, s.heap.size ≤ q → A q) (hA2 : ∀ q : Nat, A q → s.heap.size ≤ q) (hbA : ¬ A b) (hK : va_K (dC, dI) CL [] s) (hP : va_P (dC, dI) CL [(x, .inr (0, [.ref g, .ref an, .ref tr, .ref w])), (an, .inr (2, [.ref g, .ref an_leads, .ref an_ranking, .ref an_sequences, .int 0, .int 0, .int (-1), .int (-1)])), (mo, .inr (8, [.int 0, .int 0, .ref m_attributes, .ref m_inherits, .int 0, .ref m_positions, .ref m_symbolAt, .ref m_form, .ref m_ruleX, .ref m_ruleY, .int 0, .int 0, .int (-1), .int (-1), .ref m_uses, .ref m_leads, .ref m_symbolLeads, .ref m_order, .ref m_rank, .ref m_visits, .ref m_length, .ref m_sequence, .ref m_set, .ref m_visited, .int 0, .ref m_production, .ref m_token, .ref m_child, .ref m_parent, .ref m_next, .ref m_known, .ref m_value, .ref m_given, .int (-1), .int (-1)]))] H) (hD : va_D A [(x, .inr (0, [.ref g, .ref an, .ref tr, .ref w])), (an, .inr (2, [.ref g, .ref an_leads, .ref an_ranking, .ref an_sequences, .int 0, .int 0, .int (-1), .int (-1)])), (mo, .inr (8, [.int 0, .int 0, .ref m_attributes, .ref m_inherits, .int 0, .ref m_positions, .ref m_symbolAt, .ref m_form, .ref m_ruleX, .ref m_ruleY, .int 0, .int 0, .int (-1), .int (-1), .ref m_uses, .ref m_leads, .ref m_symbolLeads, .ref m_order, .ref m_rank, .ref m_visits, .ref m_length, .ref m_sequence, .ref m_set, .ref m_visited, .int 0, .ref m_production, .ref m_token, .ref m_child, .ref m_parent, .ref m_next, .ref m_known, .ref m_value, .ref m_given, .int (-1), .int (-1)]))]) (hS : va_S A s.heap H locs) (hl : lv_has ls 7 [(4, .int 0), (3, .ref out), (2, .ref mo), (1, .ref x), (0, .ref b)]) : W p l e room_1 s m #[Value.ref b] below meth c H locs 62 9096 (lw_Z below #[Value.ref b] s) (F0 m 437 ls []) := by
  obtain ⟨hx, hb, hr, hml, hown, hts0, hX, hbl, hlocks, -⟩ := hAt
  have hts : ∀ w ∈ WS, w.before #[Value.ref b] s = true := fun w hw => hts0 w (WS_tbl w hw)
  have hN : ∀ q : Nat, A q → ∀ cell : Cell, s.heap[q]? = some cell → cell.vm.isStatics = false := fun q hq cell hc => absurd (Array.getElem?_eq_some_iff.mp hc).1 (Nat.not_lt.mpr (hA2 q hq))
  refine lv_aload_n hx hb d_L_law_437 rfl (lv_at hl 3 rfl) ?_
  refine lv_aload_n hx hb d_L_law_438 rfl (lv_at hl 4 rfl) ?_
  refine lv_iload hx hb d_L_law_439 (lv_at hl 0 rfl) ?_
  refine lv_iconst (v := 1) hx hb d_L_law_441 (by decide) ?_
  refine lv_iadd hx hb d_L_law_442 ?_
  refine vq_top (y := 1) (by decide) ?_
  refine va_sld (i := 1) hx hb hX hbl hbA hS (show ¬ ((1 : Int32) < 0 ∨ 6 ≤ Int32.toNatClampNeg 1) by decide) d_L_law_443 ?_
  refine vq_top (y := xs 1) rfl ?_
  refine lv_aload_n hx hb d_L_law_444 rfl (lv_at hl 1 rfl) ?_
  have hPc := hP.sub (ws' := [(x, .inr (0, [.ref g, .ref an, .ref tr, .ref w])), (an, .inr (2, [.ref g, .ref an_leads, .ref an_ranking, .ref an_sequences, .int 0, .int 0, .int (-1), .int (-1)]))]) [0, 1] rfl
  have hDc := hD.sub (ws' := [(x, .inr (0, [.ref g, .ref an, .ref tr, .ref w])), (an, .inr (2, [.ref g, .ref an_leads, .ref an_ranking, .ref an_sequences, .int 0, .int 0, .int (-1), .int (-1)]))]) [0, 1] (by decide) rfl
  have hKc := hK.sub (tys' := []) [] rfl
  have hFc := va_free (wc := [(x, .inr (0, [.ref g, .ref an, .ref tr, .ref w])), (an, .inr (2, [.ref g, .ref an_leads, .ref an_ranking, .ref an_sequences, .int 0, .int 0, .int (-1), .int (-1)]))]) hD hS hA [0, 1] rfl
  refine va_calli (vq_runSH (n := 3) (As := [.ref x, .int (xs 1), .ref out]) (rest := []) ⟨hx, hb, hml, hown, hts⟩ (w_visits l htr dC dI x (xs 1) out g an tr w an_leads an_ranking an_sequences H.size) WSk rfl rfl ⟨by decide, by decide⟩ k_311 k_347 k_371 k_372 (by decide +kernel) ⟨vq_blind, vq_here hst hS hN hPc hKc hDc⟩ rfl rfl hl.1 rfl (lv_room (Nat.le_of_ble_eq_true rfl)) d_L_law_445 ⟨by decide, by decide⟩) hS (fun q _ h => hFc q h) hFc (fun r1 u t H1 locs ht hvm hw hB hz1 hk1 hS => ?_)
  obtain ⟨hP1, hK1, hD1⟩ := hB
  rw [ht] at hP1
  have hK1 := va_K.moved hvm.symm hK1
  have hw : r1 = 1 := hw
  subst hw
  obtain ⟨hP, hD⟩ := va_join (wr := [(mo, .inr (8, [.int 0, .int 0, .ref m_attributes, .ref m_inherits, .int 0, .ref m_positions, .ref m_symbolAt, .ref m_form, .ref m_ruleX, .ref m_ruleY, .int 0, .int 0, .int (-1), .int (-1), .ref m_uses, .ref m_leads, .ref m_symbolLeads, .ref m_order, .ref m_rank, .ref m_visits, .ref m_length, .ref m_sequence, .ref m_set, .ref m_visited, .int 0, .ref m_production, .ref m_token, .ref m_child, .ref m_parent, .ref m_next, .ref m_known, .ref m_value, .ref m_given, .int (-1), .int (-1)]))]) (w1 := []) hP hD [0, 1] [2] rfl rfl (by decide) (by decide) hk1 hFc hP1 hD1
  have hK := (hK.sub (tys' := []) [] rfl).app hK1
  generalize H1 = H at hP hS ⊢
  have hP : va_P (dC, dI) CL [(mo, .inr (8, [.int 0, .int 0, .ref m_attributes, .ref m_inherits, .int 0, .ref m_positions, .ref m_symbolAt, .ref m_form, .ref m_ruleX, .ref m_ruleY, .int 0, .int 0, .int (-1), .int (-1), .ref m_uses, .ref m_leads, .ref m_symbolLeads, .ref m_order, .ref m_rank, .ref m_visits, .ref m_length, .ref m_sequence, .ref m_set, .ref m_visited, .int 0, .ref m_production, .ref m_token, .ref m_child, .ref m_parent, .ref m_next, .ref m_known, .ref m_value, .ref m_given, .int (-1), .int (-1)]))] H := hP
  have hD : va_D A [(mo, .inr (8, [.int 0, .int 0, .ref m_attributes, .ref m_inherits, .int 0, .ref m_positions, .ref m_symbolAt, .ref m_form, .ref m_ruleX, .ref m_ruleY, .int 0, .int 0, .int (-1), .int (-1), .ref m_uses, .ref m_leads, .ref m_symbolLeads, .ref m_order, .ref m_rank, .ref m_visits, .ref m_length, .ref m_sequence, .ref m_set, .ref m_visited, .int 0, .ref m_production, .ref m_token, .ref m_child, .ref m_parent, .ref m_next, .ref m_known, .ref m_value, .ref m_given, .int (-1), .int (-1)]))] := hD
  have hK : va_K (dC, dI) CL [] s := hK
  refine W.widen (k := 63) (n := 9102) (by decide) (by decide) ?_
  refine lv_istore (lv' := [(5, .int 1), (4, .int 0), (3, .ref out), (2, .ref mo), (1, .ref x), (0, .ref b)]) hx hb d_L_law_448 hl (by decide) rfl (fun ls hl => ?_)
  refine lv_aload_n hx hb d_L_law_450 rfl (lv_at hl 3 rfl) ?_
  refine lv_aload_n hx hb d_L_law_451 rfl (lv_at hl 5 rfl) ?_
  refine lv_iload hx hb d_L_law_452 (lv_at hl 1 rfl) ?_
  refine lv_iconst (v := 1) hx hb d_L_law_454 (by decide) ?_
  refine lv_iadd hx hb d_L_law_455 ?_
  refine vq_top (y := 1) (by decide) ?_
  refine va_sld (i := 1) hx hb hX hbl hbA hS (show ¬ ((1 : Int32) < 0 ∨ 6 ≤ Int32.toNatClampNeg 1) by decide) d_L_law_456 ?_
  refine vq_top (y := xs 1) rfl ?_
  have hPc := hP.sub (ws' := [(mo, .inr (8, [.int 0, .int 0, .ref m_attributes, .ref m_inherits, .int 0, .ref m_positions, .ref m_symbolAt, .ref m_form, .ref m_ruleX, .ref m_ruleY, .int 0, .int 0, .int (-1), .int (-1), .ref m_uses, .ref m_leads, .ref m_symbolLeads, .ref m_order, .ref m_rank, .ref m_visits, .ref m_length, .ref m_sequence, .ref m_set, .ref m_visited, .int 0, .ref m_production, .ref m_token, .ref m_child, .ref m_parent, .ref m_next, .ref m_known, .ref m_value, .ref m_given, .int (-1), .int (-1)]))]) [0] rfl
  have hDc := hD.sub (ws' := [(mo, .inr (8, [.int 0, .int 0, .ref m_attributes, .ref m_inherits, .int 0, .ref m_positions, .ref m_symbolAt, .ref m_form, .ref m_ruleX, .ref m_ruleY, .int 0, .int 0, .int (-1), .int (-1), .ref m_uses, .ref m_leads, .ref m_symbolLeads, .ref m_order, .ref m_rank, .ref m_visits, .ref m_length, .ref m_sequence, .ref m_set, .ref m_visited, .int 0, .ref m_production, .ref m_token, .ref m_child, .ref m_parent, .ref m_next, .ref m_known, .ref m_value, .ref m_given, .int (-1), .int (-1)]))]) [0] (by decide) rfl
  have hKc := hK.sub (tys' := []) [] rfl
  have hFc := va_free (wc := [(mo, .inr (8, [.int 0, .int 0, .ref m_attributes, .ref m_inherits, .int 0, .ref m_positions, .ref m_symbolAt, .ref m_form, .ref m_ruleX, .ref m_ruleY, .int 0, .int 0, .int (-1), .int (-1), .ref m_uses, .ref m_leads, .ref m_symbolLeads, .ref m_order, .ref m_rank, .ref m_visits, .ref m_length, .ref m_sequence, .ref m_set, .ref m_visited, .int 0, .ref m_production, .ref m_token, .ref m_child, .ref m_parent, .ref m_next, .ref m_known, .ref m_value, .ref m_given, .int (-1), .int (-1)]))]) hD hS hA [0] rfl
  refine va_calli (va_runV (As := [.int (xs 1)]) (rest := []) ⟨hx, hb, hml, hown, hts⟩ (c_M_visits l htr dC dI mo (xs 1) m_attributes m_inherits m_positions m_symbolAt m_form m_ruleX m_ruleY m_uses m_leads m_symbolLeads m_order m_rank m_visits m_length m_sequence m_set m_visited m_production m_token m_child m_parent m_next m_known m_value m_given H.size) (vq_cV WSk hts 1 rfl rfl ⟨by decide, by decide⟩ k_274 k_235 k_373 k_374 k_375 (by decide +kernel)) ⟨vq_blind, va_recv hK hP (ci := 8) (q0 := 0) rfl rfl, vq_here hst hS hN hPc hKc hDc⟩ rfl rfl hl.1 rfl (lv_room (Nat.le_of_ble_eq_true rfl)) d_L_law_457 ⟨by decide, by decide⟩) hS (fun q _ h => hFc q h) hFc (fun r2 u t H1 locs ht hvm hw hB hz1 hk1 hS => ?_)
  obtain ⟨hP1, hK1, hD1⟩ := hB
  rw [ht] at hP1
  have hK1 := va_K.moved hvm.symm hK1
  have hw : r2 = 0 := hw
  subst hw
  obtain ⟨hP, hD⟩ := va_join (wr := []) (w1 := [(mo, .inr (8, [.int 1, .int 0, .ref m_attributes, .ref m_inherits, .int 0, .ref m_positions, .ref m_symbolAt, .ref m_form, .ref m_ruleX, .ref m_ruleY, .int 0, .int 0, .int (-1), .int (-1), .ref m_uses, .ref m_leads, .ref m_symbolLeads, .ref m_order, .ref m_rank, .ref m_visits, .ref m_length, .ref m_sequence, .ref m_set, .ref m_visited, .int 0, .ref m_production, .ref m_token, .ref m_child, .ref m_parent, .ref m_next, .ref m_known, .ref m_value, .ref m_given, .int (-1), .int (-1)]))]) hP hD [0] [] rfl rfl (by decide) (by decide) hk1 hFc hP1 hD1
  have hK := (hK.sub (tys' := []) [] rfl).app hK1
  generalize H1 = H at hP hS ⊢
  have hP : va_P (dC, dI) CL [(mo, .inr (8, [.int 1, .int 0, .ref m_attributes, .ref m_inherits, .int 0, .ref m_positions, .ref m_symbolAt, .ref m_form, .ref m_ruleX, .ref m_ruleY, .int 0, .int 0, .int (-1), .int (-1), .ref m_uses, .ref m_leads, .ref m_symbolLeads, .ref m_order, .ref m_rank, .ref m_visits, .ref m_length, .ref m_sequence, .ref m_set, .ref m_visited, .int 0, .ref m_production, .ref m_token, .ref m_child, .ref m_parent, .ref m_next, .ref m_known, .ref m_value, .ref m_given, .int (-1), .int (-1)]))] H := hP
  have hD : va_D A [(mo, .inr (8, [.int 1, .int 0, .ref m_attributes, .ref m_inherits, .int 0, .ref m_positions, .ref m_symbolAt, .ref m_form, .ref m_ruleX, .ref m_ruleY, .int 0, .int 0, .int (-1), .int (-1), .ref m_uses, .ref m_leads, .ref m_symbolLeads, .ref m_order, .ref m_rank, .ref m_visits, .ref m_length, .ref m_sequence, .ref m_set, .ref m_visited, .int 0, .ref m_production, .ref m_token, .ref m_child, .ref m_parent, .ref m_next, .ref m_known, .ref m_value, .ref m_given, .int (-1), .int (-1)]))] := hD
  have hK : va_K (dC, dI) CL [] s := hK
  refine W.widen (k := 63) (n := 9102) (by decide) (by decide) ?_
  refine lv_istore (lv' := [(6, .int 0), (5, .int 1), (4, .int 0), (3, .ref out), (2, .ref mo), (1, .ref x), (0, .ref b)]) hx hb d_L_law_460 hl (by decide) rfl (fun ls hl => ?_)
  refine lv_aload_n hx hb d_L_law_462 rfl (lv_at hl 4 rfl) ?_
  have hPc := hP.sub (ws' := [(mo, .inr (8, [.int 1, .int 0, .ref m_attributes, .ref m_inherits, .int 0, .ref m_positions, .ref m_symbolAt, .ref m_form, .ref m_ruleX, .ref m_ruleY, .int 0, .int 0, .int (-1), .int (-1), .ref m_uses, .ref m_leads, .ref m_symbolLeads, .ref m_order, .ref m_rank, .ref m_visits, .ref m_length, .ref m_sequence, .ref m_set, .ref m_visited, .int 0, .ref m_production, .ref m_token, .ref m_child, .ref m_parent, .ref m_next, .ref m_known, .ref m_value, .ref m_given, .int (-1), .int (-1)]))]) [0] rfl
  have hDc := hD.sub (ws' := [(mo, .inr (8, [.int 1, .int 0, .ref m_attributes, .ref m_inherits, .int 0, .ref m_positions, .ref m_symbolAt, .ref m_form, .ref m_ruleX, .ref m_ruleY, .int 0, .int 0, .int (-1), .int (-1), .ref m_uses, .ref m_leads, .ref m_symbolLeads, .ref m_order, .ref m_rank, .ref m_visits, .ref m_length, .ref m_sequence, .ref m_set, .ref m_visited, .int 0, .ref m_production, .ref m_token, .ref m_child, .ref m_parent, .ref m_next, .ref m_known, .ref m_value, .ref m_given, .int (-1), .int (-1)]))]) [0] (by decide) rfl
  have hKc := hK.sub (tys' := []) [] rfl
  have hFc := va_free (wc := [(mo, .inr (8, [.int 1, .int 0, .ref m_attributes, .ref m_inherits, .int 0, .ref m_positions, .ref m_symbolAt, .ref m_form, .ref m_ruleX, .ref m_ruleY, .int 0, .int 0, .int (-1), .int (-1), .ref m_uses, .ref m_leads, .ref m_symbolLeads, .ref m_order, .ref m_rank, .ref m_visits, .ref m_length, .ref m_sequence, .ref m_set, .ref m_visited, .int 0, .ref m_production, .ref m_token, .ref m_child, .ref m_parent, .ref m_next, .ref m_known, .ref m_value, .ref m_given, .int (-1), .int (-1)]))]) hD hS hA [0] rfl
  refine va_calli (va_runV (As := []) (rest := []) ⟨hx, hb, hml, hown, hts⟩ (c_M_thrown l htr dC dI mo 1 0 m_attributes m_inherits 0 m_positions m_symbolAt m_form m_ruleX m_ruleY 0 0 (-1) (-1) m_uses m_leads m_symbolLeads m_order m_rank m_visits m_length m_sequence m_set m_visited 0 m_production m_token m_child m_parent m_next m_known m_value m_given (-1) (-1) H.size) (vq_cV WSk hts 0 rfl rfl ⟨by decide, by decide⟩ k_239 k_235 k_353 k_354 k_355 (by decide +kernel)) ⟨vq_blind, va_recv hK hP (ci := 8) (q0 := 0) rfl rfl, vq_here hst hS hN hPc hKc hDc⟩ rfl rfl hl.1 rfl (lv_room (Nat.le_of_ble_eq_true rfl)) d_L_law_463 ⟨by decide, by decide⟩) hS (fun q _ h => hFc q h) hFc (fun r3 u t H1 locs ht hvm hw hB hz1 hk1 hS => ?_)
  obtain ⟨hP1, hK1, hD1⟩ := hB
  rw [ht] at hP1
  have hK1 := va_K.moved hvm.symm hK1
  have hw : r3 = 1 := hw
  subst hw
  obtain ⟨hP, hD⟩ := va_join (wr := []) (w1 := [(mo, .inr (8, [.int 1, .int 0, .ref m_attributes, .ref m_inherits, .int 0, .ref m_positions, .ref m_symbolAt, .ref m_form, .ref m_ruleX, .ref m_ruleY, .int 0, .int 0, .int (-1), .int (-1), .ref m_uses, .ref m_leads, .ref m_symbolLeads, .ref m_order, .ref m_rank, .ref m_visits, .ref m_length, .ref m_sequence, .ref m_set, .ref m_visited, .int 0, .ref m_production, .ref m_token, .ref m_child, .ref m_parent, .ref m_next, .ref m_known, .ref m_value, .ref m_given, .int (-1), .int (-1)]))]) hP hD [0] [] rfl rfl (by decide) (by decide) hk1 hFc hP1 hD1
  have hK := (hK.sub (tys' := []) [] rfl).app hK1
  generalize H1 = H at hP hS ⊢
  have hP : va_P (dC, dI) CL [(mo, .inr (8, [.int 1, .int 0, .ref m_attributes, .ref m_inherits, .int 0, .ref m_positions, .ref m_symbolAt, .ref m_form, .ref m_ruleX, .ref m_ruleY, .int 0, .int 0, .int (-1), .int (-1), .ref m_uses, .ref m_leads, .ref m_symbolLeads, .ref m_order, .ref m_rank, .ref m_visits, .ref m_length, .ref m_sequence, .ref m_set, .ref m_visited, .int 0, .ref m_production, .ref m_token, .ref m_child, .ref m_parent, .ref m_next, .ref m_known, .ref m_value, .ref m_given, .int (-1), .int (-1)]))] H := hP
  have hD : va_D A [(mo, .inr (8, [.int 1, .int 0, .ref m_attributes, .ref m_inherits, .int 0, .ref m_positions, .ref m_symbolAt, .ref m_form, .ref m_ruleX, .ref m_ruleY, .int 0, .int 0, .int (-1), .int (-1), .ref m_uses, .ref m_leads, .ref m_symbolLeads, .ref m_order, .ref m_rank, .ref m_visits, .ref m_length, .ref m_sequence, .ref m_set, .ref m_visited, .int 0, .ref m_production, .ref m_token, .ref m_child, .ref m_parent, .ref m_next, .ref m_known, .ref m_value, .ref m_given, .int (-1), .int (-1)]))] := hD
  have hK : va_K (dC, dI) CL [] s := hK
  refine W.widen (k := 63) (n := 9102) (by decide) (by decide) ?_
  refine lv_iload hx hb d_L_law_466 (lv_at hl 1 rfl) ?_
  refine lv_icmp_eq (tgt := 473) hx hb d_L_law_468 (by decide) (fun _ => ?_) (fun h9 => absurd (by decide) h9)
  refine lv_iload hx hb d_L_law_473 (lv_at hl 1 rfl) ?_
  refine lv_if_ne (tgt := 490) hx hb d_L_law_475 (by decide) (fun _ => ?_) (fun h9 => absurd h9 (by decide))
  refine lv_goto (tgt := 1053) hx hb d_L_law_490 (by decide) ?_
  refine lv_iinc (k := 2) (v := 6) (lv' := [(4, .int 6), (6, .int 0), (5, .int 1), (3, .ref out), (2, .ref mo), (1, .ref x), (0, .ref b)]) hx hb d_L_law_1053 hl rfl (by decide) (by decide) rfl (fun ls hl => ?_)
  refine lv_goto (tgt := 23) hx hb d_L_law_1056 (by decide) ?_
  refine lv_iload hx hb d_L_law_23 (lv_at hl 0 rfl) ?_
  refine lv_aload_n hx hb d_L_law_25 rfl (lv_at hl 6 rfl) ?_
  refine va_slen hx hb hX hbl hbA hS d_L_law_26 ?_
  refine vq_top (y := 6) (by decide) ?_
  refine lv_bipush (v := 6) hx hb d_L_law_27 (by decide) ?_
  refine lv_isub hx hb d_L_law_29 ?_
  refine vq_top (y := 0) (by decide) ?_
  refine lv_icmp_gt (tgt := 1059) hx hb d_L_law_30 (by decide) (fun _ => ?_) (fun h9 => absurd (by decide) h9)
  refine lv_iconst (v := 1) hx hb d_L_law_1059 (by decide) ?_
  refine va_forget (fun q hq => hA2 _ (hS.2.2 q hq)) ?_
  refine W.widen (k := 85) (n := 9238) (by decide) (by decide) ?_
  exact lw_ret hx hb hr hlocks d_L_law_1060

set_option maxHeartbeats 4000000 in
set_option maxRecDepth 100000 in
theorem arm_6 {p : Program} {e : Env} {s : State} {m : MethodId} {below : List Frame} {meth : Method} {c : Code} (l : Launch) (htr : l.stackTraces = false) {b : Nat} {xs : Nat → Int32} {A : Nat → Prop} (dC : Nat → ClassId) (dI : Nat → Nat → Nat) (out : Nat) (mo : Nat) (x : Nat) (g : Nat) (an : Nat) (tr : Nat) (w : Nat) (an_leads : Nat) (an_ranking : Nat) (an_sequences : Nat) (m_attributes : Nat) (m_inherits : Nat) (m_positions : Nat) (m_symbolAt : Nat) (m_form : Nat) (m_ruleX : Nat) (m_ruleY : Nat) (m_uses : Nat) (m_leads : Nat) (m_symbolLeads : Nat) (m_order : Nat) (m_rank : Nat) (m_visits : Nat) (m_length : Nat) (m_sequence : Nat) (m_set : Nat) (m_visited : Nat) (m_production : Nat) (m_token : Nat) (m_child : Nat) (m_parent : Nat) (m_next : Nat) (m_known : Nat) (m_value : Nat) (m_given : Nat) {H : Heap} {locs : List Loc} {ls : Array Slot} (hAt : lw_At p s m meth c b 6 xs) (hst : vq_st s) (hA : ∀ q : Nat, s.heap.size ≤ q → A q) (hA2 : ∀ q : Nat, A q → s.heap.size ≤ q) (hbA : ¬ A b) (hK : va_K (dC, dI) CL [] s) (hP : va_P (dC, dI) CL [(x, .inr (0, [.ref g, .ref an, .ref tr, .ref w])), (an, .inr (2, [.ref g, .ref an_leads, .ref an_ranking, .ref an_sequences, .int 0, .int 0, .int (-1), .int (-1)])), (mo, .inr (8, [.int 0, .int 0, .ref m_attributes, .ref m_inherits, .int 0, .ref m_positions, .ref m_symbolAt, .ref m_form, .ref m_ruleX, .ref m_ruleY, .int 0, .int 0, .int (-1), .int (-1), .ref m_uses, .ref m_leads, .ref m_symbolLeads, .ref m_order, .ref m_rank, .ref m_visits, .ref m_length, .ref m_sequence, .ref m_set, .ref m_visited, .int 0, .ref m_production, .ref m_token, .ref m_child, .ref m_parent, .ref m_next, .ref m_known, .ref m_value, .ref m_given, .int (-1), .int (-1)]))] H) (hD : va_D A [(x, .inr (0, [.ref g, .ref an, .ref tr, .ref w])), (an, .inr (2, [.ref g, .ref an_leads, .ref an_ranking, .ref an_sequences, .int 0, .int 0, .int (-1), .int (-1)])), (mo, .inr (8, [.int 0, .int 0, .ref m_attributes, .ref m_inherits, .int 0, .ref m_positions, .ref m_symbolAt, .ref m_form, .ref m_ruleX, .ref m_ruleY, .int 0, .int 0, .int (-1), .int (-1), .ref m_uses, .ref m_leads, .ref m_symbolLeads, .ref m_order, .ref m_rank, .ref m_visits, .ref m_length, .ref m_sequence, .ref m_set, .ref m_visited, .int 0, .ref m_production, .ref m_token, .ref m_child, .ref m_parent, .ref m_next, .ref m_known, .ref m_value, .ref m_given, .int (-1), .int (-1)]))]) (hS : va_S A s.heap H locs) (hl : lv_has ls 7 [(4, .int 0), (3, .ref out), (2, .ref mo), (1, .ref x), (0, .ref b)]) : W p l e room_1 s m #[Value.ref b] below meth c H locs 62 9096 (lw_Z below #[Value.ref b] s) (F0 m 493 ls []) := by
  obtain ⟨hx, hb, hr, hml, hown, hts0, hX, hbl, hlocks, -⟩ := hAt
  have hts : ∀ w ∈ WS, w.before #[Value.ref b] s = true := fun w hw => hts0 w (WS_tbl w hw)
  have hN : ∀ q : Nat, A q → ∀ cell : Cell, s.heap[q]? = some cell → cell.vm.isStatics = false := fun q hq cell hc => absurd (Array.getElem?_eq_some_iff.mp hc).1 (Nat.not_lt.mpr (hA2 q hq))
  refine lv_aload_n hx hb d_L_law_493 rfl (lv_at hl 3 rfl) ?_
  refine lv_aload_n hx hb d_L_law_494 rfl (lv_at hl 4 rfl) ?_
  refine lv_iload hx hb d_L_law_495 (lv_at hl 0 rfl) ?_
  refine lv_iconst (v := 1) hx hb d_L_law_497 (by decide) ?_
  refine lv_iadd hx hb d_L_law_498 ?_
  refine vq_top (y := 1) (by decide) ?_
  refine va_sld (i := 1) hx hb hX hbl hbA hS (show ¬ ((1 : Int32) < 0 ∨ 6 ≤ Int32.toNatClampNeg 1) by decide) d_L_law_499 ?_
  refine vq_top (y := xs 1) rfl ?_
  refine lv_aload_n hx hb d_L_law_500 rfl (lv_at hl 4 rfl) ?_
  refine lv_iload hx hb d_L_law_501 (lv_at hl 0 rfl) ?_
  refine lv_iconst (v := 2) hx hb d_L_law_503 (by decide) ?_
  refine lv_iadd hx hb d_L_law_504 ?_
  refine vq_top (y := 2) (by decide) ?_
  refine va_sld (i := 2) hx hb hX hbl hbA hS (show ¬ ((2 : Int32) < 0 ∨ 6 ≤ Int32.toNatClampNeg 2) by decide) d_L_law_505 ?_
  refine vq_top (y := xs 2) rfl ?_
  refine lv_aload_n hx hb d_L_law_506 rfl (lv_at hl 1 rfl) ?_
  have hPc := hP.sub (ws' := [(x, .inr (0, [.ref g, .ref an, .ref tr, .ref w])), (an, .inr (2, [.ref g, .ref an_leads, .ref an_ranking, .ref an_sequences, .int 0, .int 0, .int (-1), .int (-1)]))]) [0, 1] rfl
  have hDc := hD.sub (ws' := [(x, .inr (0, [.ref g, .ref an, .ref tr, .ref w])), (an, .inr (2, [.ref g, .ref an_leads, .ref an_ranking, .ref an_sequences, .int 0, .int 0, .int (-1), .int (-1)]))]) [0, 1] (by decide) rfl
  have hKc := hK.sub (tys' := []) [] rfl
  have hFc := va_free (wc := [(x, .inr (0, [.ref g, .ref an, .ref tr, .ref w])), (an, .inr (2, [.ref g, .ref an_leads, .ref an_ranking, .ref an_sequences, .int 0, .int 0, .int (-1), .int (-1)]))]) hD hS hA [0, 1] rfl
  refine va_calli (vq_runSH (n := 4) (As := [.ref x, .int (xs 1), .int (xs 2), .ref out]) (rest := []) ⟨hx, hb, hml, hown, hts⟩ (w_rank l htr dC dI x (xs 1) (xs 2) out g an tr w an_leads an_ranking an_sequences H.size) WSk rfl rfl ⟨by decide, by decide⟩ k_315 k_347 k_376 k_377 (by decide +kernel) ⟨vq_blind, vq_here hst hS hN hPc hKc hDc⟩ rfl rfl hl.1 rfl (lv_room (Nat.le_of_ble_eq_true rfl)) d_L_law_507 ⟨by decide, by decide⟩) hS (fun q _ h => hFc q h) hFc (fun r1 u t H1 locs ht hvm hw hB hz1 hk1 hS => ?_)
  obtain ⟨hP1, hK1, hD1⟩ := hB
  rw [ht] at hP1
  have hK1 := va_K.moved hvm.symm hK1
  have hw : r1 = 1 := hw
  subst hw
  obtain ⟨hP, hD⟩ := va_join (wr := [(mo, .inr (8, [.int 0, .int 0, .ref m_attributes, .ref m_inherits, .int 0, .ref m_positions, .ref m_symbolAt, .ref m_form, .ref m_ruleX, .ref m_ruleY, .int 0, .int 0, .int (-1), .int (-1), .ref m_uses, .ref m_leads, .ref m_symbolLeads, .ref m_order, .ref m_rank, .ref m_visits, .ref m_length, .ref m_sequence, .ref m_set, .ref m_visited, .int 0, .ref m_production, .ref m_token, .ref m_child, .ref m_parent, .ref m_next, .ref m_known, .ref m_value, .ref m_given, .int (-1), .int (-1)]))]) (w1 := []) hP hD [0, 1] [2] rfl rfl (by decide) (by decide) hk1 hFc hP1 hD1
  have hK := (hK.sub (tys' := []) [] rfl).app hK1
  generalize H1 = H at hP hS ⊢
  have hP : va_P (dC, dI) CL [(mo, .inr (8, [.int 0, .int 0, .ref m_attributes, .ref m_inherits, .int 0, .ref m_positions, .ref m_symbolAt, .ref m_form, .ref m_ruleX, .ref m_ruleY, .int 0, .int 0, .int (-1), .int (-1), .ref m_uses, .ref m_leads, .ref m_symbolLeads, .ref m_order, .ref m_rank, .ref m_visits, .ref m_length, .ref m_sequence, .ref m_set, .ref m_visited, .int 0, .ref m_production, .ref m_token, .ref m_child, .ref m_parent, .ref m_next, .ref m_known, .ref m_value, .ref m_given, .int (-1), .int (-1)]))] H := hP
  have hD : va_D A [(mo, .inr (8, [.int 0, .int 0, .ref m_attributes, .ref m_inherits, .int 0, .ref m_positions, .ref m_symbolAt, .ref m_form, .ref m_ruleX, .ref m_ruleY, .int 0, .int 0, .int (-1), .int (-1), .ref m_uses, .ref m_leads, .ref m_symbolLeads, .ref m_order, .ref m_rank, .ref m_visits, .ref m_length, .ref m_sequence, .ref m_set, .ref m_visited, .int 0, .ref m_production, .ref m_token, .ref m_child, .ref m_parent, .ref m_next, .ref m_known, .ref m_value, .ref m_given, .int (-1), .int (-1)]))] := hD
  have hK : va_K (dC, dI) CL [] s := hK
  refine W.widen (k := 63) (n := 9102) (by decide) (by decide) ?_
  refine lv_istore (lv' := [(5, .int 1), (4, .int 0), (3, .ref out), (2, .ref mo), (1, .ref x), (0, .ref b)]) hx hb d_L_law_510 hl (by decide) rfl (fun ls hl => ?_)
  refine lv_aload_n hx hb d_L_law_512 rfl (lv_at hl 3 rfl) ?_
  refine lv_aload_n hx hb d_L_law_513 rfl (lv_at hl 5 rfl) ?_
  refine lv_iload hx hb d_L_law_514 (lv_at hl 1 rfl) ?_
  refine lv_iconst (v := 1) hx hb d_L_law_516 (by decide) ?_
  refine lv_iadd hx hb d_L_law_517 ?_
  refine vq_top (y := 1) (by decide) ?_
  refine va_sld (i := 1) hx hb hX hbl hbA hS (show ¬ ((1 : Int32) < 0 ∨ 6 ≤ Int32.toNatClampNeg 1) by decide) d_L_law_518 ?_
  refine vq_top (y := xs 1) rfl ?_
  refine lv_aload_n hx hb d_L_law_519 rfl (lv_at hl 5 rfl) ?_
  refine lv_iload hx hb d_L_law_520 (lv_at hl 1 rfl) ?_
  refine lv_iconst (v := 2) hx hb d_L_law_522 (by decide) ?_
  refine lv_iadd hx hb d_L_law_523 ?_
  refine vq_top (y := 2) (by decide) ?_
  refine va_sld (i := 2) hx hb hX hbl hbA hS (show ¬ ((2 : Int32) < 0 ∨ 6 ≤ Int32.toNatClampNeg 2) by decide) d_L_law_524 ?_
  refine vq_top (y := xs 2) rfl ?_
  have hPc := hP.sub (ws' := [(mo, .inr (8, [.int 0, .int 0, .ref m_attributes, .ref m_inherits, .int 0, .ref m_positions, .ref m_symbolAt, .ref m_form, .ref m_ruleX, .ref m_ruleY, .int 0, .int 0, .int (-1), .int (-1), .ref m_uses, .ref m_leads, .ref m_symbolLeads, .ref m_order, .ref m_rank, .ref m_visits, .ref m_length, .ref m_sequence, .ref m_set, .ref m_visited, .int 0, .ref m_production, .ref m_token, .ref m_child, .ref m_parent, .ref m_next, .ref m_known, .ref m_value, .ref m_given, .int (-1), .int (-1)]))]) [0] rfl
  have hDc := hD.sub (ws' := [(mo, .inr (8, [.int 0, .int 0, .ref m_attributes, .ref m_inherits, .int 0, .ref m_positions, .ref m_symbolAt, .ref m_form, .ref m_ruleX, .ref m_ruleY, .int 0, .int 0, .int (-1), .int (-1), .ref m_uses, .ref m_leads, .ref m_symbolLeads, .ref m_order, .ref m_rank, .ref m_visits, .ref m_length, .ref m_sequence, .ref m_set, .ref m_visited, .int 0, .ref m_production, .ref m_token, .ref m_child, .ref m_parent, .ref m_next, .ref m_known, .ref m_value, .ref m_given, .int (-1), .int (-1)]))]) [0] (by decide) rfl
  have hKc := hK.sub (tys' := []) [] rfl
  have hFc := va_free (wc := [(mo, .inr (8, [.int 0, .int 0, .ref m_attributes, .ref m_inherits, .int 0, .ref m_positions, .ref m_symbolAt, .ref m_form, .ref m_ruleX, .ref m_ruleY, .int 0, .int 0, .int (-1), .int (-1), .ref m_uses, .ref m_leads, .ref m_symbolLeads, .ref m_order, .ref m_rank, .ref m_visits, .ref m_length, .ref m_sequence, .ref m_set, .ref m_visited, .int 0, .ref m_production, .ref m_token, .ref m_child, .ref m_parent, .ref m_next, .ref m_known, .ref m_value, .ref m_given, .int (-1), .int (-1)]))]) hD hS hA [0] rfl
  refine va_calli (va_runV (As := [.int (xs 1), .int (xs 2)]) (rest := []) ⟨hx, hb, hml, hown, hts⟩ (c_M_rank l htr dC dI mo (xs 1) (xs 2) m_attributes m_inherits m_positions m_symbolAt m_form m_ruleX m_ruleY m_uses m_leads m_symbolLeads m_order m_rank m_visits m_length m_sequence m_set m_visited m_production m_token m_child m_parent m_next m_known m_value m_given H.size) (vq_cV WSk hts 2 rfl rfl ⟨by decide, by decide⟩ k_275 k_235 k_378 k_379 k_380 (by decide +kernel)) ⟨vq_blind, va_recv hK hP (ci := 8) (q0 := 0) rfl rfl, vq_here hst hS hN hPc hKc hDc⟩ rfl rfl hl.1 rfl (lv_room (Nat.le_of_ble_eq_true rfl)) d_L_law_525 ⟨by decide, by decide⟩) hS (fun q _ h => hFc q h) hFc (fun r2 u t H1 locs ht hvm hw hB hz1 hk1 hS => ?_)
  obtain ⟨hP1, hK1, hD1⟩ := hB
  rw [ht] at hP1
  have hK1 := va_K.moved hvm.symm hK1
  have hw : r2 = 0 := hw
  subst hw
  obtain ⟨hP, hD⟩ := va_join (wr := []) (w1 := [(mo, .inr (8, [.int 1, .int 0, .ref m_attributes, .ref m_inherits, .int 0, .ref m_positions, .ref m_symbolAt, .ref m_form, .ref m_ruleX, .ref m_ruleY, .int 0, .int 0, .int (-1), .int (-1), .ref m_uses, .ref m_leads, .ref m_symbolLeads, .ref m_order, .ref m_rank, .ref m_visits, .ref m_length, .ref m_sequence, .ref m_set, .ref m_visited, .int 0, .ref m_production, .ref m_token, .ref m_child, .ref m_parent, .ref m_next, .ref m_known, .ref m_value, .ref m_given, .int (-1), .int (-1)]))]) hP hD [0] [] rfl rfl (by decide) (by decide) hk1 hFc hP1 hD1
  have hK := (hK.sub (tys' := []) [] rfl).app hK1
  generalize H1 = H at hP hS ⊢
  have hP : va_P (dC, dI) CL [(mo, .inr (8, [.int 1, .int 0, .ref m_attributes, .ref m_inherits, .int 0, .ref m_positions, .ref m_symbolAt, .ref m_form, .ref m_ruleX, .ref m_ruleY, .int 0, .int 0, .int (-1), .int (-1), .ref m_uses, .ref m_leads, .ref m_symbolLeads, .ref m_order, .ref m_rank, .ref m_visits, .ref m_length, .ref m_sequence, .ref m_set, .ref m_visited, .int 0, .ref m_production, .ref m_token, .ref m_child, .ref m_parent, .ref m_next, .ref m_known, .ref m_value, .ref m_given, .int (-1), .int (-1)]))] H := hP
  have hD : va_D A [(mo, .inr (8, [.int 1, .int 0, .ref m_attributes, .ref m_inherits, .int 0, .ref m_positions, .ref m_symbolAt, .ref m_form, .ref m_ruleX, .ref m_ruleY, .int 0, .int 0, .int (-1), .int (-1), .ref m_uses, .ref m_leads, .ref m_symbolLeads, .ref m_order, .ref m_rank, .ref m_visits, .ref m_length, .ref m_sequence, .ref m_set, .ref m_visited, .int 0, .ref m_production, .ref m_token, .ref m_child, .ref m_parent, .ref m_next, .ref m_known, .ref m_value, .ref m_given, .int (-1), .int (-1)]))] := hD
  have hK : va_K (dC, dI) CL [] s := hK
  refine W.widen (k := 63) (n := 9102) (by decide) (by decide) ?_
  refine lv_istore (lv' := [(6, .int 0), (5, .int 1), (4, .int 0), (3, .ref out), (2, .ref mo), (1, .ref x), (0, .ref b)]) hx hb d_L_law_528 hl (by decide) rfl (fun ls hl => ?_)
  refine lv_aload_n hx hb d_L_law_530 rfl (lv_at hl 4 rfl) ?_
  have hPc := hP.sub (ws' := [(mo, .inr (8, [.int 1, .int 0, .ref m_attributes, .ref m_inherits, .int 0, .ref m_positions, .ref m_symbolAt, .ref m_form, .ref m_ruleX, .ref m_ruleY, .int 0, .int 0, .int (-1), .int (-1), .ref m_uses, .ref m_leads, .ref m_symbolLeads, .ref m_order, .ref m_rank, .ref m_visits, .ref m_length, .ref m_sequence, .ref m_set, .ref m_visited, .int 0, .ref m_production, .ref m_token, .ref m_child, .ref m_parent, .ref m_next, .ref m_known, .ref m_value, .ref m_given, .int (-1), .int (-1)]))]) [0] rfl
  have hDc := hD.sub (ws' := [(mo, .inr (8, [.int 1, .int 0, .ref m_attributes, .ref m_inherits, .int 0, .ref m_positions, .ref m_symbolAt, .ref m_form, .ref m_ruleX, .ref m_ruleY, .int 0, .int 0, .int (-1), .int (-1), .ref m_uses, .ref m_leads, .ref m_symbolLeads, .ref m_order, .ref m_rank, .ref m_visits, .ref m_length, .ref m_sequence, .ref m_set, .ref m_visited, .int 0, .ref m_production, .ref m_token, .ref m_child, .ref m_parent, .ref m_next, .ref m_known, .ref m_value, .ref m_given, .int (-1), .int (-1)]))]) [0] (by decide) rfl
  have hKc := hK.sub (tys' := []) [] rfl
  have hFc := va_free (wc := [(mo, .inr (8, [.int 1, .int 0, .ref m_attributes, .ref m_inherits, .int 0, .ref m_positions, .ref m_symbolAt, .ref m_form, .ref m_ruleX, .ref m_ruleY, .int 0, .int 0, .int (-1), .int (-1), .ref m_uses, .ref m_leads, .ref m_symbolLeads, .ref m_order, .ref m_rank, .ref m_visits, .ref m_length, .ref m_sequence, .ref m_set, .ref m_visited, .int 0, .ref m_production, .ref m_token, .ref m_child, .ref m_parent, .ref m_next, .ref m_known, .ref m_value, .ref m_given, .int (-1), .int (-1)]))]) hD hS hA [0] rfl
  refine va_calli (va_runV (As := []) (rest := []) ⟨hx, hb, hml, hown, hts⟩ (c_M_thrown l htr dC dI mo 1 0 m_attributes m_inherits 0 m_positions m_symbolAt m_form m_ruleX m_ruleY 0 0 (-1) (-1) m_uses m_leads m_symbolLeads m_order m_rank m_visits m_length m_sequence m_set m_visited 0 m_production m_token m_child m_parent m_next m_known m_value m_given (-1) (-1) H.size) (vq_cV WSk hts 0 rfl rfl ⟨by decide, by decide⟩ k_239 k_235 k_353 k_354 k_355 (by decide +kernel)) ⟨vq_blind, va_recv hK hP (ci := 8) (q0 := 0) rfl rfl, vq_here hst hS hN hPc hKc hDc⟩ rfl rfl hl.1 rfl (lv_room (Nat.le_of_ble_eq_true rfl)) d_L_law_531 ⟨by decide, by decide⟩) hS (fun q _ h => hFc q h) hFc (fun r3 u t H1 locs ht hvm hw hB hz1 hk1 hS => ?_)
  obtain ⟨hP1, hK1, hD1⟩ := hB
  rw [ht] at hP1
  have hK1 := va_K.moved hvm.symm hK1
  have hw : r3 = 1 := hw
  subst hw
  obtain ⟨hP, hD⟩ := va_join (wr := []) (w1 := [(mo, .inr (8, [.int 1, .int 0, .ref m_attributes, .ref m_inherits, .int 0, .ref m_positions, .ref m_symbolAt, .ref m_form, .ref m_ruleX, .ref m_ruleY, .int 0, .int 0, .int (-1), .int (-1), .ref m_uses, .ref m_leads, .ref m_symbolLeads, .ref m_order, .ref m_rank, .ref m_visits, .ref m_length, .ref m_sequence, .ref m_set, .ref m_visited, .int 0, .ref m_production, .ref m_token, .ref m_child, .ref m_parent, .ref m_next, .ref m_known, .ref m_value, .ref m_given, .int (-1), .int (-1)]))]) hP hD [0] [] rfl rfl (by decide) (by decide) hk1 hFc hP1 hD1
  have hK := (hK.sub (tys' := []) [] rfl).app hK1
  generalize H1 = H at hP hS ⊢
  have hP : va_P (dC, dI) CL [(mo, .inr (8, [.int 1, .int 0, .ref m_attributes, .ref m_inherits, .int 0, .ref m_positions, .ref m_symbolAt, .ref m_form, .ref m_ruleX, .ref m_ruleY, .int 0, .int 0, .int (-1), .int (-1), .ref m_uses, .ref m_leads, .ref m_symbolLeads, .ref m_order, .ref m_rank, .ref m_visits, .ref m_length, .ref m_sequence, .ref m_set, .ref m_visited, .int 0, .ref m_production, .ref m_token, .ref m_child, .ref m_parent, .ref m_next, .ref m_known, .ref m_value, .ref m_given, .int (-1), .int (-1)]))] H := hP
  have hD : va_D A [(mo, .inr (8, [.int 1, .int 0, .ref m_attributes, .ref m_inherits, .int 0, .ref m_positions, .ref m_symbolAt, .ref m_form, .ref m_ruleX, .ref m_ruleY, .int 0, .int 0, .int (-1), .int (-1), .ref m_uses, .ref m_leads, .ref m_symbolLeads, .ref m_order, .ref m_rank, .ref m_visits, .ref m_length, .ref m_sequence, .ref m_set, .ref m_visited, .int 0, .ref m_production, .ref m_token, .ref m_child, .ref m_parent, .ref m_next, .ref m_known, .ref m_value, .ref m_given, .int (-1), .int (-1)]))] := hD
  have hK : va_K (dC, dI) CL [] s := hK
  refine W.widen (k := 63) (n := 9102) (by decide) (by decide) ?_
  refine lv_iload hx hb d_L_law_534 (lv_at hl 1 rfl) ?_
  refine lv_icmp_eq (tgt := 541) hx hb d_L_law_536 (by decide) (fun _ => ?_) (fun h9 => absurd (by decide) h9)
  refine lv_iload hx hb d_L_law_541 (lv_at hl 1 rfl) ?_
  refine lv_if_ne (tgt := 558) hx hb d_L_law_543 (by decide) (fun _ => ?_) (fun h9 => absurd h9 (by decide))
  refine lv_goto (tgt := 1053) hx hb d_L_law_558 (by decide) ?_
  refine lv_iinc (k := 2) (v := 6) (lv' := [(4, .int 6), (6, .int 0), (5, .int 1), (3, .ref out), (2, .ref mo), (1, .ref x), (0, .ref b)]) hx hb d_L_law_1053 hl rfl (by decide) (by decide) rfl (fun ls hl => ?_)
  refine lv_goto (tgt := 23) hx hb d_L_law_1056 (by decide) ?_
  refine lv_iload hx hb d_L_law_23 (lv_at hl 0 rfl) ?_
  refine lv_aload_n hx hb d_L_law_25 rfl (lv_at hl 6 rfl) ?_
  refine va_slen hx hb hX hbl hbA hS d_L_law_26 ?_
  refine vq_top (y := 6) (by decide) ?_
  refine lv_bipush (v := 6) hx hb d_L_law_27 (by decide) ?_
  refine lv_isub hx hb d_L_law_29 ?_
  refine vq_top (y := 0) (by decide) ?_
  refine lv_icmp_gt (tgt := 1059) hx hb d_L_law_30 (by decide) (fun _ => ?_) (fun h9 => absurd (by decide) h9)
  refine lv_iconst (v := 1) hx hb d_L_law_1059 (by decide) ?_
  refine va_forget (fun q hq => hA2 _ (hS.2.2 q hq)) ?_
  refine W.widen (k := 85) (n := 9238) (by decide) (by decide) ?_
  exact lw_ret hx hb hr hlocks d_L_law_1060

set_option maxHeartbeats 4000000 in
set_option maxRecDepth 100000 in
theorem arm_7 {p : Program} {e : Env} {s : State} {m : MethodId} {below : List Frame} {meth : Method} {c : Code} (l : Launch) (htr : l.stackTraces = false) {b : Nat} {xs : Nat → Int32} {A : Nat → Prop} (dC : Nat → ClassId) (dI : Nat → Nat → Nat) (out : Nat) (mo : Nat) (x : Nat) (g : Nat) (an : Nat) (tr : Nat) (w : Nat) (an_leads : Nat) (an_ranking : Nat) (an_sequences : Nat) (m_attributes : Nat) (m_inherits : Nat) (m_positions : Nat) (m_symbolAt : Nat) (m_form : Nat) (m_ruleX : Nat) (m_ruleY : Nat) (m_uses : Nat) (m_leads : Nat) (m_symbolLeads : Nat) (m_order : Nat) (m_rank : Nat) (m_visits : Nat) (m_length : Nat) (m_sequence : Nat) (m_set : Nat) (m_visited : Nat) (m_production : Nat) (m_token : Nat) (m_child : Nat) (m_parent : Nat) (m_next : Nat) (m_known : Nat) (m_value : Nat) (m_given : Nat) {H : Heap} {locs : List Loc} {ls : Array Slot} (hAt : lw_At p s m meth c b 6 xs) (hst : vq_st s) (hA : ∀ q : Nat, s.heap.size ≤ q → A q) (hA2 : ∀ q : Nat, A q → s.heap.size ≤ q) (hbA : ¬ A b) (hK : va_K (dC, dI) CL [] s) (hP : va_P (dC, dI) CL [(x, .inr (0, [.ref g, .ref an, .ref tr, .ref w])), (an, .inr (2, [.ref g, .ref an_leads, .ref an_ranking, .ref an_sequences, .int 0, .int 0, .int (-1), .int (-1)])), (mo, .inr (8, [.int 0, .int 0, .ref m_attributes, .ref m_inherits, .int 0, .ref m_positions, .ref m_symbolAt, .ref m_form, .ref m_ruleX, .ref m_ruleY, .int 0, .int 0, .int (-1), .int (-1), .ref m_uses, .ref m_leads, .ref m_symbolLeads, .ref m_order, .ref m_rank, .ref m_visits, .ref m_length, .ref m_sequence, .ref m_set, .ref m_visited, .int 0, .ref m_production, .ref m_token, .ref m_child, .ref m_parent, .ref m_next, .ref m_known, .ref m_value, .ref m_given, .int (-1), .int (-1)]))] H) (hD : va_D A [(x, .inr (0, [.ref g, .ref an, .ref tr, .ref w])), (an, .inr (2, [.ref g, .ref an_leads, .ref an_ranking, .ref an_sequences, .int 0, .int 0, .int (-1), .int (-1)])), (mo, .inr (8, [.int 0, .int 0, .ref m_attributes, .ref m_inherits, .int 0, .ref m_positions, .ref m_symbolAt, .ref m_form, .ref m_ruleX, .ref m_ruleY, .int 0, .int 0, .int (-1), .int (-1), .ref m_uses, .ref m_leads, .ref m_symbolLeads, .ref m_order, .ref m_rank, .ref m_visits, .ref m_length, .ref m_sequence, .ref m_set, .ref m_visited, .int 0, .ref m_production, .ref m_token, .ref m_child, .ref m_parent, .ref m_next, .ref m_known, .ref m_value, .ref m_given, .int (-1), .int (-1)]))]) (hS : va_S A s.heap H locs) (hl : lv_has ls 7 [(4, .int 0), (3, .ref out), (2, .ref mo), (1, .ref x), (0, .ref b)]) : W p l e room_1 s m #[Value.ref b] below meth c H locs 62 9096 (lw_Z below #[Value.ref b] s) (F0 m 561 ls []) := by
  obtain ⟨hx, hb, hr, hml, hown, hts0, hX, hbl, hlocks, -⟩ := hAt
  have hts : ∀ w ∈ WS, w.before #[Value.ref b] s = true := fun w hw => hts0 w (WS_tbl w hw)
  have hN : ∀ q : Nat, A q → ∀ cell : Cell, s.heap[q]? = some cell → cell.vm.isStatics = false := fun q hq cell hc => absurd (Array.getElem?_eq_some_iff.mp hc).1 (Nat.not_lt.mpr (hA2 q hq))
  refine lv_aload_n hx hb d_L_law_561 rfl (lv_at hl 3 rfl) ?_
  refine lv_aload_n hx hb d_L_law_562 rfl (lv_at hl 4 rfl) ?_
  refine lv_iload hx hb d_L_law_563 (lv_at hl 0 rfl) ?_
  refine lv_iconst (v := 1) hx hb d_L_law_565 (by decide) ?_
  refine lv_iadd hx hb d_L_law_566 ?_
  refine vq_top (y := 1) (by decide) ?_
  refine va_sld (i := 1) hx hb hX hbl hbA hS (show ¬ ((1 : Int32) < 0 ∨ 6 ≤ Int32.toNatClampNeg 1) by decide) d_L_law_567 ?_
  refine vq_top (y := xs 1) rfl ?_
  refine lv_aload_n hx hb d_L_law_568 rfl (lv_at hl 4 rfl) ?_
  refine lv_iload hx hb d_L_law_569 (lv_at hl 0 rfl) ?_
  refine lv_iconst (v := 2) hx hb d_L_law_571 (by decide) ?_
  refine lv_iadd hx hb d_L_law_572 ?_
  refine vq_top (y := 2) (by decide) ?_
  refine va_sld (i := 2) hx hb hX hbl hbA hS (show ¬ ((2 : Int32) < 0 ∨ 6 ≤ Int32.toNatClampNeg 2) by decide) d_L_law_573 ?_
  refine vq_top (y := xs 2) rfl ?_
  refine lv_aload_n hx hb d_L_law_574 rfl (lv_at hl 1 rfl) ?_
  have hPc := hP.sub (ws' := [(x, .inr (0, [.ref g, .ref an, .ref tr, .ref w])), (an, .inr (2, [.ref g, .ref an_leads, .ref an_ranking, .ref an_sequences, .int 0, .int 0, .int (-1), .int (-1)]))]) [0, 1] rfl
  have hDc := hD.sub (ws' := [(x, .inr (0, [.ref g, .ref an, .ref tr, .ref w])), (an, .inr (2, [.ref g, .ref an_leads, .ref an_ranking, .ref an_sequences, .int 0, .int 0, .int (-1), .int (-1)]))]) [0, 1] (by decide) rfl
  have hKc := hK.sub (tys' := []) [] rfl
  have hFc := va_free (wc := [(x, .inr (0, [.ref g, .ref an, .ref tr, .ref w])), (an, .inr (2, [.ref g, .ref an_leads, .ref an_ranking, .ref an_sequences, .int 0, .int 0, .int (-1), .int (-1)]))]) hD hS hA [0, 1] rfl
  refine va_calli (vq_runSH (n := 4) (As := [.ref x, .int (xs 1), .int (xs 2), .ref out]) (rest := []) ⟨hx, hb, hml, hown, hts⟩ (w_instruction l htr dC dI x (xs 1) (xs 2) out g an tr w an_leads an_ranking an_sequences H.size) WSk rfl rfl ⟨by decide, by decide⟩ k_319 k_347 k_381 k_382 (by decide +kernel) ⟨vq_blind, vq_here hst hS hN hPc hKc hDc⟩ rfl rfl hl.1 rfl (lv_room (Nat.le_of_ble_eq_true rfl)) d_L_law_575 ⟨by decide, by decide⟩) hS (fun q _ h => hFc q h) hFc (fun r1 u t H1 locs ht hvm hw hB hz1 hk1 hS => ?_)
  obtain ⟨hP1, hK1, hD1⟩ := hB
  rw [ht] at hP1
  have hK1 := va_K.moved hvm.symm hK1
  have hw : r1 = 1 := hw
  subst hw
  obtain ⟨hP, hD⟩ := va_join (wr := [(mo, .inr (8, [.int 0, .int 0, .ref m_attributes, .ref m_inherits, .int 0, .ref m_positions, .ref m_symbolAt, .ref m_form, .ref m_ruleX, .ref m_ruleY, .int 0, .int 0, .int (-1), .int (-1), .ref m_uses, .ref m_leads, .ref m_symbolLeads, .ref m_order, .ref m_rank, .ref m_visits, .ref m_length, .ref m_sequence, .ref m_set, .ref m_visited, .int 0, .ref m_production, .ref m_token, .ref m_child, .ref m_parent, .ref m_next, .ref m_known, .ref m_value, .ref m_given, .int (-1), .int (-1)]))]) (w1 := []) hP hD [0, 1] [2] rfl rfl (by decide) (by decide) hk1 hFc hP1 hD1
  have hK := (hK.sub (tys' := []) [] rfl).app hK1
  generalize H1 = H at hP hS ⊢
  have hP : va_P (dC, dI) CL [(mo, .inr (8, [.int 0, .int 0, .ref m_attributes, .ref m_inherits, .int 0, .ref m_positions, .ref m_symbolAt, .ref m_form, .ref m_ruleX, .ref m_ruleY, .int 0, .int 0, .int (-1), .int (-1), .ref m_uses, .ref m_leads, .ref m_symbolLeads, .ref m_order, .ref m_rank, .ref m_visits, .ref m_length, .ref m_sequence, .ref m_set, .ref m_visited, .int 0, .ref m_production, .ref m_token, .ref m_child, .ref m_parent, .ref m_next, .ref m_known, .ref m_value, .ref m_given, .int (-1), .int (-1)]))] H := hP
  have hD : va_D A [(mo, .inr (8, [.int 0, .int 0, .ref m_attributes, .ref m_inherits, .int 0, .ref m_positions, .ref m_symbolAt, .ref m_form, .ref m_ruleX, .ref m_ruleY, .int 0, .int 0, .int (-1), .int (-1), .ref m_uses, .ref m_leads, .ref m_symbolLeads, .ref m_order, .ref m_rank, .ref m_visits, .ref m_length, .ref m_sequence, .ref m_set, .ref m_visited, .int 0, .ref m_production, .ref m_token, .ref m_child, .ref m_parent, .ref m_next, .ref m_known, .ref m_value, .ref m_given, .int (-1), .int (-1)]))] := hD
  have hK : va_K (dC, dI) CL [] s := hK
  refine W.widen (k := 63) (n := 9102) (by decide) (by decide) ?_
  refine lv_istore (lv' := [(5, .int 1), (4, .int 0), (3, .ref out), (2, .ref mo), (1, .ref x), (0, .ref b)]) hx hb d_L_law_578 hl (by decide) rfl (fun ls hl => ?_)
  refine lv_aload_n hx hb d_L_law_580 rfl (lv_at hl 3 rfl) ?_
  refine lv_aload_n hx hb d_L_law_581 rfl (lv_at hl 5 rfl) ?_
  refine lv_iload hx hb d_L_law_582 (lv_at hl 1 rfl) ?_
  refine lv_iconst (v := 1) hx hb d_L_law_584 (by decide) ?_
  refine lv_iadd hx hb d_L_law_585 ?_
  refine vq_top (y := 1) (by decide) ?_
  refine va_sld (i := 1) hx hb hX hbl hbA hS (show ¬ ((1 : Int32) < 0 ∨ 6 ≤ Int32.toNatClampNeg 1) by decide) d_L_law_586 ?_
  refine vq_top (y := xs 1) rfl ?_
  refine lv_aload_n hx hb d_L_law_587 rfl (lv_at hl 5 rfl) ?_
  refine lv_iload hx hb d_L_law_588 (lv_at hl 1 rfl) ?_
  refine lv_iconst (v := 2) hx hb d_L_law_590 (by decide) ?_
  refine lv_iadd hx hb d_L_law_591 ?_
  refine vq_top (y := 2) (by decide) ?_
  refine va_sld (i := 2) hx hb hX hbl hbA hS (show ¬ ((2 : Int32) < 0 ∨ 6 ≤ Int32.toNatClampNeg 2) by decide) d_L_law_592 ?_
  refine vq_top (y := xs 2) rfl ?_
  have hPc := hP.sub (ws' := [(mo, .inr (8, [.int 0, .int 0, .ref m_attributes, .ref m_inherits, .int 0, .ref m_positions, .ref m_symbolAt, .ref m_form, .ref m_ruleX, .ref m_ruleY, .int 0, .int 0, .int (-1), .int (-1), .ref m_uses, .ref m_leads, .ref m_symbolLeads, .ref m_order, .ref m_rank, .ref m_visits, .ref m_length, .ref m_sequence, .ref m_set, .ref m_visited, .int 0, .ref m_production, .ref m_token, .ref m_child, .ref m_parent, .ref m_next, .ref m_known, .ref m_value, .ref m_given, .int (-1), .int (-1)]))]) [0] rfl
  have hDc := hD.sub (ws' := [(mo, .inr (8, [.int 0, .int 0, .ref m_attributes, .ref m_inherits, .int 0, .ref m_positions, .ref m_symbolAt, .ref m_form, .ref m_ruleX, .ref m_ruleY, .int 0, .int 0, .int (-1), .int (-1), .ref m_uses, .ref m_leads, .ref m_symbolLeads, .ref m_order, .ref m_rank, .ref m_visits, .ref m_length, .ref m_sequence, .ref m_set, .ref m_visited, .int 0, .ref m_production, .ref m_token, .ref m_child, .ref m_parent, .ref m_next, .ref m_known, .ref m_value, .ref m_given, .int (-1), .int (-1)]))]) [0] (by decide) rfl
  have hKc := hK.sub (tys' := []) [] rfl
  have hFc := va_free (wc := [(mo, .inr (8, [.int 0, .int 0, .ref m_attributes, .ref m_inherits, .int 0, .ref m_positions, .ref m_symbolAt, .ref m_form, .ref m_ruleX, .ref m_ruleY, .int 0, .int 0, .int (-1), .int (-1), .ref m_uses, .ref m_leads, .ref m_symbolLeads, .ref m_order, .ref m_rank, .ref m_visits, .ref m_length, .ref m_sequence, .ref m_set, .ref m_visited, .int 0, .ref m_production, .ref m_token, .ref m_child, .ref m_parent, .ref m_next, .ref m_known, .ref m_value, .ref m_given, .int (-1), .int (-1)]))]) hD hS hA [0] rfl
  refine va_calli (va_runV (As := [.int (xs 1), .int (xs 2)]) (rest := []) ⟨hx, hb, hml, hown, hts⟩ (c_M_instruction l htr dC dI mo (xs 1) (xs 2) m_attributes m_inherits m_positions m_symbolAt m_form m_ruleX m_ruleY m_uses m_leads m_symbolLeads m_order m_rank m_visits m_length m_sequence m_set m_visited m_production m_token m_child m_parent m_next m_known m_value m_given H.size) (vq_cV WSk hts 2 rfl rfl ⟨by decide, by decide⟩ k_276 k_235 k_383 k_384 k_385 (by decide +kernel)) ⟨vq_blind, va_recv hK hP (ci := 8) (q0 := 0) rfl rfl, vq_here hst hS hN hPc hKc hDc⟩ rfl rfl hl.1 rfl (lv_room (Nat.le_of_ble_eq_true rfl)) d_L_law_593 ⟨by decide, by decide⟩) hS (fun q _ h => hFc q h) hFc (fun r2 u t H1 locs ht hvm hw hB hz1 hk1 hS => ?_)
  obtain ⟨hP1, hK1, hD1⟩ := hB
  rw [ht] at hP1
  have hK1 := va_K.moved hvm.symm hK1
  have hw : r2 = 0 := hw
  subst hw
  obtain ⟨hP, hD⟩ := va_join (wr := []) (w1 := [(mo, .inr (8, [.int 1, .int 0, .ref m_attributes, .ref m_inherits, .int 0, .ref m_positions, .ref m_symbolAt, .ref m_form, .ref m_ruleX, .ref m_ruleY, .int 0, .int 0, .int (-1), .int (-1), .ref m_uses, .ref m_leads, .ref m_symbolLeads, .ref m_order, .ref m_rank, .ref m_visits, .ref m_length, .ref m_sequence, .ref m_set, .ref m_visited, .int 0, .ref m_production, .ref m_token, .ref m_child, .ref m_parent, .ref m_next, .ref m_known, .ref m_value, .ref m_given, .int (-1), .int (-1)]))]) hP hD [0] [] rfl rfl (by decide) (by decide) hk1 hFc hP1 hD1
  have hK := (hK.sub (tys' := []) [] rfl).app hK1
  generalize H1 = H at hP hS ⊢
  have hP : va_P (dC, dI) CL [(mo, .inr (8, [.int 1, .int 0, .ref m_attributes, .ref m_inherits, .int 0, .ref m_positions, .ref m_symbolAt, .ref m_form, .ref m_ruleX, .ref m_ruleY, .int 0, .int 0, .int (-1), .int (-1), .ref m_uses, .ref m_leads, .ref m_symbolLeads, .ref m_order, .ref m_rank, .ref m_visits, .ref m_length, .ref m_sequence, .ref m_set, .ref m_visited, .int 0, .ref m_production, .ref m_token, .ref m_child, .ref m_parent, .ref m_next, .ref m_known, .ref m_value, .ref m_given, .int (-1), .int (-1)]))] H := hP
  have hD : va_D A [(mo, .inr (8, [.int 1, .int 0, .ref m_attributes, .ref m_inherits, .int 0, .ref m_positions, .ref m_symbolAt, .ref m_form, .ref m_ruleX, .ref m_ruleY, .int 0, .int 0, .int (-1), .int (-1), .ref m_uses, .ref m_leads, .ref m_symbolLeads, .ref m_order, .ref m_rank, .ref m_visits, .ref m_length, .ref m_sequence, .ref m_set, .ref m_visited, .int 0, .ref m_production, .ref m_token, .ref m_child, .ref m_parent, .ref m_next, .ref m_known, .ref m_value, .ref m_given, .int (-1), .int (-1)]))] := hD
  have hK : va_K (dC, dI) CL [] s := hK
  refine W.widen (k := 63) (n := 9102) (by decide) (by decide) ?_
  refine lv_istore (lv' := [(6, .int 0), (5, .int 1), (4, .int 0), (3, .ref out), (2, .ref mo), (1, .ref x), (0, .ref b)]) hx hb d_L_law_596 hl (by decide) rfl (fun ls hl => ?_)
  refine lv_aload_n hx hb d_L_law_598 rfl (lv_at hl 4 rfl) ?_
  have hPc := hP.sub (ws' := [(mo, .inr (8, [.int 1, .int 0, .ref m_attributes, .ref m_inherits, .int 0, .ref m_positions, .ref m_symbolAt, .ref m_form, .ref m_ruleX, .ref m_ruleY, .int 0, .int 0, .int (-1), .int (-1), .ref m_uses, .ref m_leads, .ref m_symbolLeads, .ref m_order, .ref m_rank, .ref m_visits, .ref m_length, .ref m_sequence, .ref m_set, .ref m_visited, .int 0, .ref m_production, .ref m_token, .ref m_child, .ref m_parent, .ref m_next, .ref m_known, .ref m_value, .ref m_given, .int (-1), .int (-1)]))]) [0] rfl
  have hDc := hD.sub (ws' := [(mo, .inr (8, [.int 1, .int 0, .ref m_attributes, .ref m_inherits, .int 0, .ref m_positions, .ref m_symbolAt, .ref m_form, .ref m_ruleX, .ref m_ruleY, .int 0, .int 0, .int (-1), .int (-1), .ref m_uses, .ref m_leads, .ref m_symbolLeads, .ref m_order, .ref m_rank, .ref m_visits, .ref m_length, .ref m_sequence, .ref m_set, .ref m_visited, .int 0, .ref m_production, .ref m_token, .ref m_child, .ref m_parent, .ref m_next, .ref m_known, .ref m_value, .ref m_given, .int (-1), .int (-1)]))]) [0] (by decide) rfl
  have hKc := hK.sub (tys' := []) [] rfl
  have hFc := va_free (wc := [(mo, .inr (8, [.int 1, .int 0, .ref m_attributes, .ref m_inherits, .int 0, .ref m_positions, .ref m_symbolAt, .ref m_form, .ref m_ruleX, .ref m_ruleY, .int 0, .int 0, .int (-1), .int (-1), .ref m_uses, .ref m_leads, .ref m_symbolLeads, .ref m_order, .ref m_rank, .ref m_visits, .ref m_length, .ref m_sequence, .ref m_set, .ref m_visited, .int 0, .ref m_production, .ref m_token, .ref m_child, .ref m_parent, .ref m_next, .ref m_known, .ref m_value, .ref m_given, .int (-1), .int (-1)]))]) hD hS hA [0] rfl
  refine va_calli (va_runV (As := []) (rest := []) ⟨hx, hb, hml, hown, hts⟩ (c_M_thrown l htr dC dI mo 1 0 m_attributes m_inherits 0 m_positions m_symbolAt m_form m_ruleX m_ruleY 0 0 (-1) (-1) m_uses m_leads m_symbolLeads m_order m_rank m_visits m_length m_sequence m_set m_visited 0 m_production m_token m_child m_parent m_next m_known m_value m_given (-1) (-1) H.size) (vq_cV WSk hts 0 rfl rfl ⟨by decide, by decide⟩ k_239 k_235 k_353 k_354 k_355 (by decide +kernel)) ⟨vq_blind, va_recv hK hP (ci := 8) (q0 := 0) rfl rfl, vq_here hst hS hN hPc hKc hDc⟩ rfl rfl hl.1 rfl (lv_room (Nat.le_of_ble_eq_true rfl)) d_L_law_599 ⟨by decide, by decide⟩) hS (fun q _ h => hFc q h) hFc (fun r3 u t H1 locs ht hvm hw hB hz1 hk1 hS => ?_)
  obtain ⟨hP1, hK1, hD1⟩ := hB
  rw [ht] at hP1
  have hK1 := va_K.moved hvm.symm hK1
  have hw : r3 = 1 := hw
  subst hw
  obtain ⟨hP, hD⟩ := va_join (wr := []) (w1 := [(mo, .inr (8, [.int 1, .int 0, .ref m_attributes, .ref m_inherits, .int 0, .ref m_positions, .ref m_symbolAt, .ref m_form, .ref m_ruleX, .ref m_ruleY, .int 0, .int 0, .int (-1), .int (-1), .ref m_uses, .ref m_leads, .ref m_symbolLeads, .ref m_order, .ref m_rank, .ref m_visits, .ref m_length, .ref m_sequence, .ref m_set, .ref m_visited, .int 0, .ref m_production, .ref m_token, .ref m_child, .ref m_parent, .ref m_next, .ref m_known, .ref m_value, .ref m_given, .int (-1), .int (-1)]))]) hP hD [0] [] rfl rfl (by decide) (by decide) hk1 hFc hP1 hD1
  have hK := (hK.sub (tys' := []) [] rfl).app hK1
  generalize H1 = H at hP hS ⊢
  have hP : va_P (dC, dI) CL [(mo, .inr (8, [.int 1, .int 0, .ref m_attributes, .ref m_inherits, .int 0, .ref m_positions, .ref m_symbolAt, .ref m_form, .ref m_ruleX, .ref m_ruleY, .int 0, .int 0, .int (-1), .int (-1), .ref m_uses, .ref m_leads, .ref m_symbolLeads, .ref m_order, .ref m_rank, .ref m_visits, .ref m_length, .ref m_sequence, .ref m_set, .ref m_visited, .int 0, .ref m_production, .ref m_token, .ref m_child, .ref m_parent, .ref m_next, .ref m_known, .ref m_value, .ref m_given, .int (-1), .int (-1)]))] H := hP
  have hD : va_D A [(mo, .inr (8, [.int 1, .int 0, .ref m_attributes, .ref m_inherits, .int 0, .ref m_positions, .ref m_symbolAt, .ref m_form, .ref m_ruleX, .ref m_ruleY, .int 0, .int 0, .int (-1), .int (-1), .ref m_uses, .ref m_leads, .ref m_symbolLeads, .ref m_order, .ref m_rank, .ref m_visits, .ref m_length, .ref m_sequence, .ref m_set, .ref m_visited, .int 0, .ref m_production, .ref m_token, .ref m_child, .ref m_parent, .ref m_next, .ref m_known, .ref m_value, .ref m_given, .int (-1), .int (-1)]))] := hD
  have hK : va_K (dC, dI) CL [] s := hK
  refine W.widen (k := 63) (n := 9102) (by decide) (by decide) ?_
  refine lv_iload hx hb d_L_law_602 (lv_at hl 1 rfl) ?_
  refine lv_icmp_eq (tgt := 609) hx hb d_L_law_604 (by decide) (fun _ => ?_) (fun h9 => absurd (by decide) h9)
  refine lv_iload hx hb d_L_law_609 (lv_at hl 1 rfl) ?_
  refine lv_if_ne (tgt := 626) hx hb d_L_law_611 (by decide) (fun _ => ?_) (fun h9 => absurd h9 (by decide))
  refine lv_goto (tgt := 1053) hx hb d_L_law_626 (by decide) ?_
  refine lv_iinc (k := 2) (v := 6) (lv' := [(4, .int 6), (6, .int 0), (5, .int 1), (3, .ref out), (2, .ref mo), (1, .ref x), (0, .ref b)]) hx hb d_L_law_1053 hl rfl (by decide) (by decide) rfl (fun ls hl => ?_)
  refine lv_goto (tgt := 23) hx hb d_L_law_1056 (by decide) ?_
  refine lv_iload hx hb d_L_law_23 (lv_at hl 0 rfl) ?_
  refine lv_aload_n hx hb d_L_law_25 rfl (lv_at hl 6 rfl) ?_
  refine va_slen hx hb hX hbl hbA hS d_L_law_26 ?_
  refine vq_top (y := 6) (by decide) ?_
  refine lv_bipush (v := 6) hx hb d_L_law_27 (by decide) ?_
  refine lv_isub hx hb d_L_law_29 ?_
  refine vq_top (y := 0) (by decide) ?_
  refine lv_icmp_gt (tgt := 1059) hx hb d_L_law_30 (by decide) (fun _ => ?_) (fun h9 => absurd (by decide) h9)
  refine lv_iconst (v := 1) hx hb d_L_law_1059 (by decide) ?_
  refine va_forget (fun q hq => hA2 _ (hS.2.2 q hq)) ?_
  refine W.widen (k := 85) (n := 9238) (by decide) (by decide) ?_
  exact lw_ret hx hb hr hlocks d_L_law_1060

set_option maxHeartbeats 4000000 in
set_option maxRecDepth 100000 in
theorem arm_8 {p : Program} {e : Env} {s : State} {m : MethodId} {below : List Frame} {meth : Method} {c : Code} (l : Launch) (htr : l.stackTraces = false) {b : Nat} {xs : Nat → Int32} {A : Nat → Prop} (dC : Nat → ClassId) (dI : Nat → Nat → Nat) (out : Nat) (mo : Nat) (x : Nat) (g : Nat) (an : Nat) (tr : Nat) (w : Nat) (g_attributeCounts : Nat) (g_inheritedBits : Nat) (g_symbolsAt : Nat) (g_lastPositions : Nat) (g_presentBits : Nat) (g_toDefineBits : Nat) (g_ruledBits : Nat) (g_forms : Nat) (g_firsts : Nat) (g_seconds : Nat) (g_usedBits : Nat) (m_attributes : Nat) (m_inherits : Nat) (m_positions : Nat) (m_symbolAt : Nat) (m_form : Nat) (m_ruleX : Nat) (m_ruleY : Nat) (m_uses : Nat) (m_leads : Nat) (m_symbolLeads : Nat) (m_order : Nat) (m_rank : Nat) (m_visits : Nat) (m_length : Nat) (m_sequence : Nat) (m_set : Nat) (m_visited : Nat) (m_production : Nat) (m_token : Nat) (m_child : Nat) (m_parent : Nat) (m_next : Nat) (m_known : Nat) (m_value : Nat) (m_given : Nat) {H : Heap} {locs : List Loc} {ls : Array Slot} (hAt : lw_At p s m meth c b 6 xs) (hst : vq_st s) (hA : ∀ q : Nat, s.heap.size ≤ q → A q) (hA2 : ∀ q : Nat, A q → s.heap.size ≤ q) (hbA : ¬ A b) (hK : va_K (dC, dI) CL [] s) (hP : va_P (dC, dI) CL [(x, .inr (0, [.ref g, .ref an, .ref tr, .ref w])), (g, .inr (1, [.ref g_attributeCounts, .ref g_inheritedBits, .int 0, .ref g_symbolsAt, .ref g_lastPositions, .ref g_presentBits, .ref g_toDefineBits, .int 0, .ref g_ruledBits, .ref g_forms, .ref g_firsts, .ref g_seconds, .ref g_usedBits])), (mo, .inr (8, [.int 0, .int 0, .ref m_attributes, .ref m_inherits, .int 0, .ref m_positions, .ref m_symbolAt, .ref m_form, .ref m_ruleX, .ref m_ruleY, .int 0, .int 0, .int (-1), .int (-1), .ref m_uses, .ref m_leads, .ref m_symbolLeads, .ref m_order, .ref m_rank, .ref m_visits, .ref m_length, .ref m_sequence, .ref m_set, .ref m_visited, .int 0, .ref m_production, .ref m_token, .ref m_child, .ref m_parent, .ref m_next, .ref m_known, .ref m_value, .ref m_given, .int (-1), .int (-1)]))] H) (hD : va_D A [(x, .inr (0, [.ref g, .ref an, .ref tr, .ref w])), (g, .inr (1, [.ref g_attributeCounts, .ref g_inheritedBits, .int 0, .ref g_symbolsAt, .ref g_lastPositions, .ref g_presentBits, .ref g_toDefineBits, .int 0, .ref g_ruledBits, .ref g_forms, .ref g_firsts, .ref g_seconds, .ref g_usedBits])), (mo, .inr (8, [.int 0, .int 0, .ref m_attributes, .ref m_inherits, .int 0, .ref m_positions, .ref m_symbolAt, .ref m_form, .ref m_ruleX, .ref m_ruleY, .int 0, .int 0, .int (-1), .int (-1), .ref m_uses, .ref m_leads, .ref m_symbolLeads, .ref m_order, .ref m_rank, .ref m_visits, .ref m_length, .ref m_sequence, .ref m_set, .ref m_visited, .int 0, .ref m_production, .ref m_token, .ref m_child, .ref m_parent, .ref m_next, .ref m_known, .ref m_value, .ref m_given, .int (-1), .int (-1)]))]) (hS : va_S A s.heap H locs) (hl : lv_has ls 7 [(4, .int 0), (3, .ref out), (2, .ref mo), (1, .ref x), (0, .ref b)]) : W p l e room_1 s m #[Value.ref b] below meth c H locs 62 9096 (lw_Z below #[Value.ref b] s) (F0 m 629 ls []) := by
  obtain ⟨hx, hb, hr, hml, hown, hts0, hX, hbl, hlocks, -⟩ := hAt
  have hts : ∀ w ∈ WS, w.before #[Value.ref b] s = true := fun w hw => hts0 w (WS_tbl w hw)
  have hN : ∀ q : Nat, A q → ∀ cell : Cell, s.heap[q]? = some cell → cell.vm.isStatics = false := fun q hq cell hc => absurd (Array.getElem?_eq_some_iff.mp hc).1 (Nat.not_lt.mpr (hA2 q hq))
  refine lv_aload_n hx hb d_L_law_629 rfl (lv_at hl 3 rfl) ?_
  refine lv_aload_n hx hb d_L_law_630 rfl (lv_at hl 4 rfl) ?_
  refine lv_iload hx hb d_L_law_631 (lv_at hl 0 rfl) ?_
  refine lv_iconst (v := 1) hx hb d_L_law_633 (by decide) ?_
  refine lv_iadd hx hb d_L_law_634 ?_
  refine vq_top (y := 1) (by decide) ?_
  refine va_sld (i := 1) hx hb hX hbl hbA hS (show ¬ ((1 : Int32) < 0 ∨ 6 ≤ Int32.toNatClampNeg 1) by decide) d_L_law_635 ?_
  refine vq_top (y := xs 1) rfl ?_
  refine lv_aload_n hx hb d_L_law_636 rfl (lv_at hl 4 rfl) ?_
  refine lv_iload hx hb d_L_law_637 (lv_at hl 0 rfl) ?_
  refine lv_iconst (v := 2) hx hb d_L_law_639 (by decide) ?_
  refine lv_iadd hx hb d_L_law_640 ?_
  refine vq_top (y := 2) (by decide) ?_
  refine va_sld (i := 2) hx hb hX hbl hbA hS (show ¬ ((2 : Int32) < 0 ∨ 6 ≤ Int32.toNatClampNeg 2) by decide) d_L_law_641 ?_
  refine vq_top (y := xs 2) rfl ?_
  refine lv_aload_n hx hb d_L_law_642 rfl (lv_at hl 4 rfl) ?_
  refine lv_iload hx hb d_L_law_643 (lv_at hl 0 rfl) ?_
  refine lv_iconst (v := 3) hx hb d_L_law_645 (by decide) ?_
  refine lv_iadd hx hb d_L_law_646 ?_
  refine vq_top (y := 3) (by decide) ?_
  refine va_sld (i := 3) hx hb hX hbl hbA hS (show ¬ ((3 : Int32) < 0 ∨ 6 ≤ Int32.toNatClampNeg 3) by decide) d_L_law_647 ?_
  refine vq_top (y := xs 3) rfl ?_
  refine lv_aload_n hx hb d_L_law_648 rfl (lv_at hl 4 rfl) ?_
  refine lv_iload hx hb d_L_law_649 (lv_at hl 0 rfl) ?_
  refine lv_iconst (v := 4) hx hb d_L_law_651 (by decide) ?_
  refine lv_iadd hx hb d_L_law_652 ?_
  refine vq_top (y := 4) (by decide) ?_
  refine va_sld (i := 4) hx hb hX hbl hbA hS (show ¬ ((4 : Int32) < 0 ∨ 6 ≤ Int32.toNatClampNeg 4) by decide) d_L_law_653 ?_
  refine vq_top (y := xs 4) rfl ?_
  refine lv_aload_n hx hb d_L_law_654 rfl (lv_at hl 4 rfl) ?_
  refine lv_iload hx hb d_L_law_655 (lv_at hl 0 rfl) ?_
  refine lv_iconst (v := 5) hx hb d_L_law_657 (by decide) ?_
  refine lv_iadd hx hb d_L_law_658 ?_
  refine vq_top (y := 5) (by decide) ?_
  refine va_sld (i := 5) hx hb hX hbl hbA hS (show ¬ ((5 : Int32) < 0 ∨ 6 ≤ Int32.toNatClampNeg 5) by decide) d_L_law_659 ?_
  refine vq_top (y := xs 5) rfl ?_
  refine lv_aload_n hx hb d_L_law_660 rfl (lv_at hl 1 rfl) ?_
  have hPc := hP.sub (ws' := [(x, .inr (0, [.ref g, .ref an, .ref tr, .ref w])), (g, .inr (1, [.ref g_attributeCounts, .ref g_inheritedBits, .int 0, .ref g_symbolsAt, .ref g_lastPositions, .ref g_presentBits, .ref g_toDefineBits, .int 0, .ref g_ruledBits, .ref g_forms, .ref g_firsts, .ref g_seconds, .ref g_usedBits]))]) [0, 1] rfl
  have hDc := hD.sub (ws' := [(x, .inr (0, [.ref g, .ref an, .ref tr, .ref w])), (g, .inr (1, [.ref g_attributeCounts, .ref g_inheritedBits, .int 0, .ref g_symbolsAt, .ref g_lastPositions, .ref g_presentBits, .ref g_toDefineBits, .int 0, .ref g_ruledBits, .ref g_forms, .ref g_firsts, .ref g_seconds, .ref g_usedBits]))]) [0, 1] (by decide) rfl
  have hKc := hK.sub (tys' := []) [] rfl
  have hFc := va_free (wc := [(x, .inr (0, [.ref g, .ref an, .ref tr, .ref w])), (g, .inr (1, [.ref g_attributeCounts, .ref g_inheritedBits, .int 0, .ref g_symbolsAt, .ref g_lastPositions, .ref g_presentBits, .ref g_toDefineBits, .int 0, .ref g_ruledBits, .ref g_forms, .ref g_firsts, .ref g_seconds, .ref g_usedBits]))]) hD hS hA [0, 1] rfl
  refine va_calli (vq_runSH (n := 7) (As := [.ref x, .int (xs 1), .int (xs 2), .int (xs 3), .int (xs 4), .int (xs 5), .ref out]) (rest := []) ⟨hx, hb, hml, hown, hts⟩ (w_node l htr dC dI x (xs 1) (xs 2) (xs 3) (xs 4) (xs 5) out g an tr w g_attributeCounts g_inheritedBits g_symbolsAt g_lastPositions g_presentBits g_toDefineBits g_ruledBits g_forms g_firsts g_seconds g_usedBits H.size) WSk rfl rfl ⟨by decide, by decide⟩ k_323 k_347 k_386 k_387 (by decide +kernel) ⟨vq_blind, vq_here hst hS hN hPc hKc hDc⟩ rfl rfl hl.1 rfl (lv_room (Nat.le_of_ble_eq_true rfl)) d_L_law_661 ⟨by decide, by decide⟩) hS (fun q _ h => hFc q h) hFc (fun r1 u t H1 locs ht hvm hw hB hz1 hk1 hS => ?_)
  obtain ⟨hP1, hK1, hD1⟩ := hB
  rw [ht] at hP1
  have hK1 := va_K.moved hvm.symm hK1
  have hw : r1 = 1 := hw
  subst hw
  obtain ⟨hP, hD⟩ := va_join (wr := [(mo, .inr (8, [.int 0, .int 0, .ref m_attributes, .ref m_inherits, .int 0, .ref m_positions, .ref m_symbolAt, .ref m_form, .ref m_ruleX, .ref m_ruleY, .int 0, .int 0, .int (-1), .int (-1), .ref m_uses, .ref m_leads, .ref m_symbolLeads, .ref m_order, .ref m_rank, .ref m_visits, .ref m_length, .ref m_sequence, .ref m_set, .ref m_visited, .int 0, .ref m_production, .ref m_token, .ref m_child, .ref m_parent, .ref m_next, .ref m_known, .ref m_value, .ref m_given, .int (-1), .int (-1)]))]) (w1 := []) hP hD [0, 1] [2] rfl rfl (by decide) (by decide) hk1 hFc hP1 hD1
  have hK := (hK.sub (tys' := []) [] rfl).app hK1
  generalize H1 = H at hP hS ⊢
  have hP : va_P (dC, dI) CL [(mo, .inr (8, [.int 0, .int 0, .ref m_attributes, .ref m_inherits, .int 0, .ref m_positions, .ref m_symbolAt, .ref m_form, .ref m_ruleX, .ref m_ruleY, .int 0, .int 0, .int (-1), .int (-1), .ref m_uses, .ref m_leads, .ref m_symbolLeads, .ref m_order, .ref m_rank, .ref m_visits, .ref m_length, .ref m_sequence, .ref m_set, .ref m_visited, .int 0, .ref m_production, .ref m_token, .ref m_child, .ref m_parent, .ref m_next, .ref m_known, .ref m_value, .ref m_given, .int (-1), .int (-1)]))] H := hP
  have hD : va_D A [(mo, .inr (8, [.int 0, .int 0, .ref m_attributes, .ref m_inherits, .int 0, .ref m_positions, .ref m_symbolAt, .ref m_form, .ref m_ruleX, .ref m_ruleY, .int 0, .int 0, .int (-1), .int (-1), .ref m_uses, .ref m_leads, .ref m_symbolLeads, .ref m_order, .ref m_rank, .ref m_visits, .ref m_length, .ref m_sequence, .ref m_set, .ref m_visited, .int 0, .ref m_production, .ref m_token, .ref m_child, .ref m_parent, .ref m_next, .ref m_known, .ref m_value, .ref m_given, .int (-1), .int (-1)]))] := hD
  have hK : va_K (dC, dI) CL [] s := hK
  refine W.widen (k := 63) (n := 9102) (by decide) (by decide) ?_
  refine lv_istore (lv' := [(5, .int 1), (4, .int 0), (3, .ref out), (2, .ref mo), (1, .ref x), (0, .ref b)]) hx hb d_L_law_664 hl (by decide) rfl (fun ls hl => ?_)
  refine lv_aload_n hx hb d_L_law_666 rfl (lv_at hl 3 rfl) ?_
  refine lv_aload_n hx hb d_L_law_667 rfl (lv_at hl 5 rfl) ?_
  refine lv_iload hx hb d_L_law_668 (lv_at hl 1 rfl) ?_
  refine lv_iconst (v := 1) hx hb d_L_law_670 (by decide) ?_
  refine lv_iadd hx hb d_L_law_671 ?_
  refine vq_top (y := 1) (by decide) ?_
  refine va_sld (i := 1) hx hb hX hbl hbA hS (show ¬ ((1 : Int32) < 0 ∨ 6 ≤ Int32.toNatClampNeg 1) by decide) d_L_law_672 ?_
  refine vq_top (y := xs 1) rfl ?_
  refine lv_aload_n hx hb d_L_law_673 rfl (lv_at hl 5 rfl) ?_
  refine lv_iload hx hb d_L_law_674 (lv_at hl 1 rfl) ?_
  refine lv_iconst (v := 2) hx hb d_L_law_676 (by decide) ?_
  refine lv_iadd hx hb d_L_law_677 ?_
  refine vq_top (y := 2) (by decide) ?_
  refine va_sld (i := 2) hx hb hX hbl hbA hS (show ¬ ((2 : Int32) < 0 ∨ 6 ≤ Int32.toNatClampNeg 2) by decide) d_L_law_678 ?_
  refine vq_top (y := xs 2) rfl ?_
  refine lv_aload_n hx hb d_L_law_679 rfl (lv_at hl 5 rfl) ?_
  refine lv_iload hx hb d_L_law_680 (lv_at hl 1 rfl) ?_
  refine lv_iconst (v := 3) hx hb d_L_law_682 (by decide) ?_
  refine lv_iadd hx hb d_L_law_683 ?_
  refine vq_top (y := 3) (by decide) ?_
  refine va_sld (i := 3) hx hb hX hbl hbA hS (show ¬ ((3 : Int32) < 0 ∨ 6 ≤ Int32.toNatClampNeg 3) by decide) d_L_law_684 ?_
  refine vq_top (y := xs 3) rfl ?_
  refine lv_aload_n hx hb d_L_law_685 rfl (lv_at hl 5 rfl) ?_
  refine lv_iload hx hb d_L_law_686 (lv_at hl 1 rfl) ?_
  refine lv_iconst (v := 4) hx hb d_L_law_688 (by decide) ?_
  refine lv_iadd hx hb d_L_law_689 ?_
  refine vq_top (y := 4) (by decide) ?_
  refine va_sld (i := 4) hx hb hX hbl hbA hS (show ¬ ((4 : Int32) < 0 ∨ 6 ≤ Int32.toNatClampNeg 4) by decide) d_L_law_690 ?_
  refine vq_top (y := xs 4) rfl ?_
  refine lv_aload_n hx hb d_L_law_691 rfl (lv_at hl 5 rfl) ?_
  refine lv_iload hx hb d_L_law_692 (lv_at hl 1 rfl) ?_
  refine lv_iconst (v := 5) hx hb d_L_law_694 (by decide) ?_
  refine lv_iadd hx hb d_L_law_695 ?_
  refine vq_top (y := 5) (by decide) ?_
  refine va_sld (i := 5) hx hb hX hbl hbA hS (show ¬ ((5 : Int32) < 0 ∨ 6 ≤ Int32.toNatClampNeg 5) by decide) d_L_law_696 ?_
  refine vq_top (y := xs 5) rfl ?_
  have hPc := hP.sub (ws' := [(mo, .inr (8, [.int 0, .int 0, .ref m_attributes, .ref m_inherits, .int 0, .ref m_positions, .ref m_symbolAt, .ref m_form, .ref m_ruleX, .ref m_ruleY, .int 0, .int 0, .int (-1), .int (-1), .ref m_uses, .ref m_leads, .ref m_symbolLeads, .ref m_order, .ref m_rank, .ref m_visits, .ref m_length, .ref m_sequence, .ref m_set, .ref m_visited, .int 0, .ref m_production, .ref m_token, .ref m_child, .ref m_parent, .ref m_next, .ref m_known, .ref m_value, .ref m_given, .int (-1), .int (-1)]))]) [0] rfl
  have hDc := hD.sub (ws' := [(mo, .inr (8, [.int 0, .int 0, .ref m_attributes, .ref m_inherits, .int 0, .ref m_positions, .ref m_symbolAt, .ref m_form, .ref m_ruleX, .ref m_ruleY, .int 0, .int 0, .int (-1), .int (-1), .ref m_uses, .ref m_leads, .ref m_symbolLeads, .ref m_order, .ref m_rank, .ref m_visits, .ref m_length, .ref m_sequence, .ref m_set, .ref m_visited, .int 0, .ref m_production, .ref m_token, .ref m_child, .ref m_parent, .ref m_next, .ref m_known, .ref m_value, .ref m_given, .int (-1), .int (-1)]))]) [0] (by decide) rfl
  have hKc := hK.sub (tys' := []) [] rfl
  have hFc := va_free (wc := [(mo, .inr (8, [.int 0, .int 0, .ref m_attributes, .ref m_inherits, .int 0, .ref m_positions, .ref m_symbolAt, .ref m_form, .ref m_ruleX, .ref m_ruleY, .int 0, .int 0, .int (-1), .int (-1), .ref m_uses, .ref m_leads, .ref m_symbolLeads, .ref m_order, .ref m_rank, .ref m_visits, .ref m_length, .ref m_sequence, .ref m_set, .ref m_visited, .int 0, .ref m_production, .ref m_token, .ref m_child, .ref m_parent, .ref m_next, .ref m_known, .ref m_value, .ref m_given, .int (-1), .int (-1)]))]) hD hS hA [0] rfl
  refine va_calli (va_runV (As := [.int (xs 1), .int (xs 2), .int (xs 3), .int (xs 4), .int (xs 5)]) (rest := []) ⟨hx, hb, hml, hown, hts⟩ (c_M_node l htr dC dI mo (xs 1) (xs 2) (xs 3) (xs 4) (xs 5) m_attributes m_inherits m_positions m_symbolAt m_form m_ruleX m_ruleY m_uses m_leads m_symbolLeads m_order m_rank m_visits m_length m_sequence m_set m_visited m_production m_token m_child m_parent m_next m_known m_value m_given H.size) (vq_cV WSk hts 5 rfl rfl ⟨by decide, by decide⟩ k_277 k_235 k_388 k_389 k_390 (by decide +kernel)) ⟨vq_blind, va_recv hK hP (ci := 8) (q0 := 0) rfl rfl, vq_here hst hS hN hPc hKc hDc⟩ rfl rfl hl.1 rfl (lv_room (Nat.le_of_ble_eq_true rfl)) d_L_law_697 ⟨by decide, by decide⟩) hS (fun q _ h => hFc q h) hFc (fun r2 u t H1 locs ht hvm hw hB hz1 hk1 hS => ?_)
  obtain ⟨hP1, hK1, hD1⟩ := hB
  rw [ht] at hP1
  have hK1 := va_K.moved hvm.symm hK1
  have hw : r2 = 0 := hw
  subst hw
  obtain ⟨hP, hD⟩ := va_join (wr := []) (w1 := [(mo, .inr (8, [.int 1, .int 0, .ref m_attributes, .ref m_inherits, .int 0, .ref m_positions, .ref m_symbolAt, .ref m_form, .ref m_ruleX, .ref m_ruleY, .int 0, .int 0, .int (-1), .int (-1), .ref m_uses, .ref m_leads, .ref m_symbolLeads, .ref m_order, .ref m_rank, .ref m_visits, .ref m_length, .ref m_sequence, .ref m_set, .ref m_visited, .int 0, .ref m_production, .ref m_token, .ref m_child, .ref m_parent, .ref m_next, .ref m_known, .ref m_value, .ref m_given, .int (-1), .int (-1)]))]) hP hD [0] [] rfl rfl (by decide) (by decide) hk1 hFc hP1 hD1
  have hK := (hK.sub (tys' := []) [] rfl).app hK1
  generalize H1 = H at hP hS ⊢
  have hP : va_P (dC, dI) CL [(mo, .inr (8, [.int 1, .int 0, .ref m_attributes, .ref m_inherits, .int 0, .ref m_positions, .ref m_symbolAt, .ref m_form, .ref m_ruleX, .ref m_ruleY, .int 0, .int 0, .int (-1), .int (-1), .ref m_uses, .ref m_leads, .ref m_symbolLeads, .ref m_order, .ref m_rank, .ref m_visits, .ref m_length, .ref m_sequence, .ref m_set, .ref m_visited, .int 0, .ref m_production, .ref m_token, .ref m_child, .ref m_parent, .ref m_next, .ref m_known, .ref m_value, .ref m_given, .int (-1), .int (-1)]))] H := hP
  have hD : va_D A [(mo, .inr (8, [.int 1, .int 0, .ref m_attributes, .ref m_inherits, .int 0, .ref m_positions, .ref m_symbolAt, .ref m_form, .ref m_ruleX, .ref m_ruleY, .int 0, .int 0, .int (-1), .int (-1), .ref m_uses, .ref m_leads, .ref m_symbolLeads, .ref m_order, .ref m_rank, .ref m_visits, .ref m_length, .ref m_sequence, .ref m_set, .ref m_visited, .int 0, .ref m_production, .ref m_token, .ref m_child, .ref m_parent, .ref m_next, .ref m_known, .ref m_value, .ref m_given, .int (-1), .int (-1)]))] := hD
  have hK : va_K (dC, dI) CL [] s := hK
  refine W.widen (k := 63) (n := 9102) (by decide) (by decide) ?_
  refine lv_istore (lv' := [(6, .int 0), (5, .int 1), (4, .int 0), (3, .ref out), (2, .ref mo), (1, .ref x), (0, .ref b)]) hx hb d_L_law_700 hl (by decide) rfl (fun ls hl => ?_)
  refine lv_aload_n hx hb d_L_law_702 rfl (lv_at hl 4 rfl) ?_
  have hPc := hP.sub (ws' := [(mo, .inr (8, [.int 1, .int 0, .ref m_attributes, .ref m_inherits, .int 0, .ref m_positions, .ref m_symbolAt, .ref m_form, .ref m_ruleX, .ref m_ruleY, .int 0, .int 0, .int (-1), .int (-1), .ref m_uses, .ref m_leads, .ref m_symbolLeads, .ref m_order, .ref m_rank, .ref m_visits, .ref m_length, .ref m_sequence, .ref m_set, .ref m_visited, .int 0, .ref m_production, .ref m_token, .ref m_child, .ref m_parent, .ref m_next, .ref m_known, .ref m_value, .ref m_given, .int (-1), .int (-1)]))]) [0] rfl
  have hDc := hD.sub (ws' := [(mo, .inr (8, [.int 1, .int 0, .ref m_attributes, .ref m_inherits, .int 0, .ref m_positions, .ref m_symbolAt, .ref m_form, .ref m_ruleX, .ref m_ruleY, .int 0, .int 0, .int (-1), .int (-1), .ref m_uses, .ref m_leads, .ref m_symbolLeads, .ref m_order, .ref m_rank, .ref m_visits, .ref m_length, .ref m_sequence, .ref m_set, .ref m_visited, .int 0, .ref m_production, .ref m_token, .ref m_child, .ref m_parent, .ref m_next, .ref m_known, .ref m_value, .ref m_given, .int (-1), .int (-1)]))]) [0] (by decide) rfl
  have hKc := hK.sub (tys' := []) [] rfl
  have hFc := va_free (wc := [(mo, .inr (8, [.int 1, .int 0, .ref m_attributes, .ref m_inherits, .int 0, .ref m_positions, .ref m_symbolAt, .ref m_form, .ref m_ruleX, .ref m_ruleY, .int 0, .int 0, .int (-1), .int (-1), .ref m_uses, .ref m_leads, .ref m_symbolLeads, .ref m_order, .ref m_rank, .ref m_visits, .ref m_length, .ref m_sequence, .ref m_set, .ref m_visited, .int 0, .ref m_production, .ref m_token, .ref m_child, .ref m_parent, .ref m_next, .ref m_known, .ref m_value, .ref m_given, .int (-1), .int (-1)]))]) hD hS hA [0] rfl
  refine va_calli (va_runV (As := []) (rest := []) ⟨hx, hb, hml, hown, hts⟩ (c_M_thrown l htr dC dI mo 1 0 m_attributes m_inherits 0 m_positions m_symbolAt m_form m_ruleX m_ruleY 0 0 (-1) (-1) m_uses m_leads m_symbolLeads m_order m_rank m_visits m_length m_sequence m_set m_visited 0 m_production m_token m_child m_parent m_next m_known m_value m_given (-1) (-1) H.size) (vq_cV WSk hts 0 rfl rfl ⟨by decide, by decide⟩ k_239 k_235 k_353 k_354 k_355 (by decide +kernel)) ⟨vq_blind, va_recv hK hP (ci := 8) (q0 := 0) rfl rfl, vq_here hst hS hN hPc hKc hDc⟩ rfl rfl hl.1 rfl (lv_room (Nat.le_of_ble_eq_true rfl)) d_L_law_703 ⟨by decide, by decide⟩) hS (fun q _ h => hFc q h) hFc (fun r3 u t H1 locs ht hvm hw hB hz1 hk1 hS => ?_)
  obtain ⟨hP1, hK1, hD1⟩ := hB
  rw [ht] at hP1
  have hK1 := va_K.moved hvm.symm hK1
  have hw : r3 = 1 := hw
  subst hw
  obtain ⟨hP, hD⟩ := va_join (wr := []) (w1 := [(mo, .inr (8, [.int 1, .int 0, .ref m_attributes, .ref m_inherits, .int 0, .ref m_positions, .ref m_symbolAt, .ref m_form, .ref m_ruleX, .ref m_ruleY, .int 0, .int 0, .int (-1), .int (-1), .ref m_uses, .ref m_leads, .ref m_symbolLeads, .ref m_order, .ref m_rank, .ref m_visits, .ref m_length, .ref m_sequence, .ref m_set, .ref m_visited, .int 0, .ref m_production, .ref m_token, .ref m_child, .ref m_parent, .ref m_next, .ref m_known, .ref m_value, .ref m_given, .int (-1), .int (-1)]))]) hP hD [0] [] rfl rfl (by decide) (by decide) hk1 hFc hP1 hD1
  have hK := (hK.sub (tys' := []) [] rfl).app hK1
  generalize H1 = H at hP hS ⊢
  have hP : va_P (dC, dI) CL [(mo, .inr (8, [.int 1, .int 0, .ref m_attributes, .ref m_inherits, .int 0, .ref m_positions, .ref m_symbolAt, .ref m_form, .ref m_ruleX, .ref m_ruleY, .int 0, .int 0, .int (-1), .int (-1), .ref m_uses, .ref m_leads, .ref m_symbolLeads, .ref m_order, .ref m_rank, .ref m_visits, .ref m_length, .ref m_sequence, .ref m_set, .ref m_visited, .int 0, .ref m_production, .ref m_token, .ref m_child, .ref m_parent, .ref m_next, .ref m_known, .ref m_value, .ref m_given, .int (-1), .int (-1)]))] H := hP
  have hD : va_D A [(mo, .inr (8, [.int 1, .int 0, .ref m_attributes, .ref m_inherits, .int 0, .ref m_positions, .ref m_symbolAt, .ref m_form, .ref m_ruleX, .ref m_ruleY, .int 0, .int 0, .int (-1), .int (-1), .ref m_uses, .ref m_leads, .ref m_symbolLeads, .ref m_order, .ref m_rank, .ref m_visits, .ref m_length, .ref m_sequence, .ref m_set, .ref m_visited, .int 0, .ref m_production, .ref m_token, .ref m_child, .ref m_parent, .ref m_next, .ref m_known, .ref m_value, .ref m_given, .int (-1), .int (-1)]))] := hD
  have hK : va_K (dC, dI) CL [] s := hK
  refine W.widen (k := 63) (n := 9102) (by decide) (by decide) ?_
  refine lv_iload hx hb d_L_law_706 (lv_at hl 1 rfl) ?_
  refine lv_icmp_eq (tgt := 713) hx hb d_L_law_708 (by decide) (fun _ => ?_) (fun h9 => absurd (by decide) h9)
  refine lv_iload hx hb d_L_law_713 (lv_at hl 1 rfl) ?_
  refine lv_if_ne (tgt := 730) hx hb d_L_law_715 (by decide) (fun _ => ?_) (fun h9 => absurd h9 (by decide))
  refine lv_goto (tgt := 1053) hx hb d_L_law_730 (by decide) ?_
  refine lv_iinc (k := 2) (v := 6) (lv' := [(4, .int 6), (6, .int 0), (5, .int 1), (3, .ref out), (2, .ref mo), (1, .ref x), (0, .ref b)]) hx hb d_L_law_1053 hl rfl (by decide) (by decide) rfl (fun ls hl => ?_)
  refine lv_goto (tgt := 23) hx hb d_L_law_1056 (by decide) ?_
  refine lv_iload hx hb d_L_law_23 (lv_at hl 0 rfl) ?_
  refine lv_aload_n hx hb d_L_law_25 rfl (lv_at hl 6 rfl) ?_
  refine va_slen hx hb hX hbl hbA hS d_L_law_26 ?_
  refine vq_top (y := 6) (by decide) ?_
  refine lv_bipush (v := 6) hx hb d_L_law_27 (by decide) ?_
  refine lv_isub hx hb d_L_law_29 ?_
  refine vq_top (y := 0) (by decide) ?_
  refine lv_icmp_gt (tgt := 1059) hx hb d_L_law_30 (by decide) (fun _ => ?_) (fun h9 => absurd (by decide) h9)
  refine lv_iconst (v := 1) hx hb d_L_law_1059 (by decide) ?_
  refine va_forget (fun q hq => hA2 _ (hS.2.2 q hq)) ?_
  refine W.widen (k := 85) (n := 9238) (by decide) (by decide) ?_
  exact lw_ret hx hb hr hlocks d_L_law_1060

set_option maxHeartbeats 4000000 in
set_option maxRecDepth 100000 in
theorem arm_9 {p : Program} {e : Env} {s : State} {m : MethodId} {below : List Frame} {meth : Method} {c : Code} (l : Launch) (htr : l.stackTraces = false) {b : Nat} {xs : Nat → Int32} {A : Nat → Prop} (dC : Nat → ClassId) (dI : Nat → Nat → Nat) (out : Nat) (mo : Nat) (x : Nat) (g : Nat) (an : Nat) (tr : Nat) (w : Nat) (tr_productions : Nat) (tr_tokens : Nat) (tr_parents : Nat) (tr_nodesAt : Nat) (an_sequences : Nat) (w_given : Nat) (w_values : Nat) (w_knownBits : Nat) (w_instructionsDone : Nat) (m_attributes : Nat) (m_inherits : Nat) (m_positions : Nat) (m_symbolAt : Nat) (m_form : Nat) (m_ruleX : Nat) (m_ruleY : Nat) (m_uses : Nat) (m_leads : Nat) (m_symbolLeads : Nat) (m_order : Nat) (m_rank : Nat) (m_visits : Nat) (m_length : Nat) (m_sequence : Nat) (m_set : Nat) (m_visited : Nat) (m_production : Nat) (m_token : Nat) (m_child : Nat) (m_parent : Nat) (m_next : Nat) (m_known : Nat) (m_value : Nat) (m_given : Nat) (ckn : ClassId) (fkn : Nat → Int32) {H : Heap} {locs : List Loc} {ls : Array Slot} (hAt : lw_At p s m meth c b 6 xs) (hst : vq_st s) (hA : ∀ q : Nat, s.heap.size ≤ q → A q) (hA2 : ∀ q : Nat, A q → s.heap.size ≤ q) (hbA : ¬ A b) (hK : va_K (dC, dI) CL [(ckn, .boolean)] s) (hP : va_P (dC, dI) CL [(x, .inr (0, [.ref g, .ref an, .ref tr, .ref w])), (tr, .inr (6, [.ref g, .ref tr_productions, .ref tr_tokens, .ref tr_parents, .ref tr_nodesAt, .int 0])), (w, .inr (7, [.ref g, .ref an_sequences, .ref tr, .ref w_given, .ref w_values, .ref w_knownBits, .ref w_instructionsDone, .int 0, .int 0, .int 0])), (mo, .inr (8, [.int 0, .int 0, .ref m_attributes, .ref m_inherits, .int 0, .ref m_positions, .ref m_symbolAt, .ref m_form, .ref m_ruleX, .ref m_ruleY, .int 0, .int 0, .int (-1), .int (-1), .ref m_uses, .ref m_leads, .ref m_symbolLeads, .ref m_order, .ref m_rank, .ref m_visits, .ref m_length, .ref m_sequence, .ref m_set, .ref m_visited, .int 0, .ref m_production, .ref m_token, .ref m_child, .ref m_parent, .ref m_next, .ref m_known, .ref m_value, .ref m_given, .int (-1), .int (-1)])), (m_known, .inl (ckn, 160, .inl fkn))] H) (hD : va_D A [(x, .inr (0, [.ref g, .ref an, .ref tr, .ref w])), (tr, .inr (6, [.ref g, .ref tr_productions, .ref tr_tokens, .ref tr_parents, .ref tr_nodesAt, .int 0])), (w, .inr (7, [.ref g, .ref an_sequences, .ref tr, .ref w_given, .ref w_values, .ref w_knownBits, .ref w_instructionsDone, .int 0, .int 0, .int 0])), (mo, .inr (8, [.int 0, .int 0, .ref m_attributes, .ref m_inherits, .int 0, .ref m_positions, .ref m_symbolAt, .ref m_form, .ref m_ruleX, .ref m_ruleY, .int 0, .int 0, .int (-1), .int (-1), .ref m_uses, .ref m_leads, .ref m_symbolLeads, .ref m_order, .ref m_rank, .ref m_visits, .ref m_length, .ref m_sequence, .ref m_set, .ref m_visited, .int 0, .ref m_production, .ref m_token, .ref m_child, .ref m_parent, .ref m_next, .ref m_known, .ref m_value, .ref m_given, .int (-1), .int (-1)])), (m_known, .inl (ckn, 160, .inl fkn))]) (hS : va_S A s.heap H locs) (hl : lv_has ls 7 [(4, .int 0), (3, .ref out), (2, .ref mo), (1, .ref x), (0, .ref b)]) : W p l e room_1 s m #[Value.ref b] below meth c H locs 62 9096 (lw_Z below #[Value.ref b] s) (F0 m 733 ls []) := by
  obtain ⟨hx, hb, hr, hml, hown, hts0, hX, hbl, hlocks, -⟩ := hAt
  have hts : ∀ w ∈ WS, w.before #[Value.ref b] s = true := fun w hw => hts0 w (WS_tbl w hw)
  have hN : ∀ q : Nat, A q → ∀ cell : Cell, s.heap[q]? = some cell → cell.vm.isStatics = false := fun q hq cell hc => absurd (Array.getElem?_eq_some_iff.mp hc).1 (Nat.not_lt.mpr (hA2 q hq))
  refine lv_aload_n hx hb d_L_law_733 rfl (lv_at hl 3 rfl) ?_
  have hPc := hP.sub (ws' := [(x, .inr (0, [.ref g, .ref an, .ref tr, .ref w])), (tr, .inr (6, [.ref g, .ref tr_productions, .ref tr_tokens, .ref tr_parents, .ref tr_nodesAt, .int 0])), (w, .inr (7, [.ref g, .ref an_sequences, .ref tr, .ref w_given, .ref w_values, .ref w_knownBits, .ref w_instructionsDone, .int 0, .int 0, .int 0]))]) [0, 1, 2] rfl
  have hDc := hD.sub (ws' := [(x, .inr (0, [.ref g, .ref an, .ref tr, .ref w])), (tr, .inr (6, [.ref g, .ref tr_productions, .ref tr_tokens, .ref tr_parents, .ref tr_nodesAt, .int 0])), (w, .inr (7, [.ref g, .ref an_sequences, .ref tr, .ref w_given, .ref w_values, .ref w_knownBits, .ref w_instructionsDone, .int 0, .int 0, .int 0]))]) [0, 1, 2] (by decide) rfl
  have hKc := hK.sub (tys' := []) [] rfl
  have hFc := va_free (wc := [(x, .inr (0, [.ref g, .ref an, .ref tr, .ref w])), (tr, .inr (6, [.ref g, .ref tr_productions, .ref tr_tokens, .ref tr_parents, .ref tr_nodesAt, .int 0])), (w, .inr (7, [.ref g, .ref an_sequences, .ref tr, .ref w_given, .ref w_values, .ref w_knownBits, .ref w_instructionsDone, .int 0, .int 0, .int 0]))]) hD hS hA [0, 1, 2] rfl
  refine va_callv (va_runV (As := []) (rest := []) ⟨hx, hb, hml, hown, hts⟩ (c_V_fell l htr dC dI x g an tr w tr_productions tr_tokens tr_parents tr_nodesAt an_sequences w_given w_values w_knownBits w_instructionsDone H.size) (vq_cV WSk hts 0 rfl rfl ⟨by decide, by decide⟩ k_178 k_143 k_391 k_392 k_393 (by decide +kernel)) ⟨vq_blind, va_recv hK hP (ci := 0) (q0 := 0) rfl rfl, vq_here hst hS hN hPc hKc hDc⟩ rfl rfl hl.1 rfl (lv_room (Nat.le_of_ble_eq_true rfl)) d_L_law_734 ⟨by decide, by decide⟩) hS (fun q _ h => hFc q h) hFc (fun u t H1 locs ht hvm hw hB hz1 hk1 hS => ?_)
  obtain ⟨hP1, hK1, hD1⟩ := hB
  rw [ht] at hP1
  have hK1 := va_K.moved hvm.symm hK1
  obtain ⟨hP, hD⟩ := va_join (wr := [(mo, .inr (8, [.int 0, .int 0, .ref m_attributes, .ref m_inherits, .int 0, .ref m_positions, .ref m_symbolAt, .ref m_form, .ref m_ruleX, .ref m_ruleY, .int 0, .int 0, .int (-1), .int (-1), .ref m_uses, .ref m_leads, .ref m_symbolLeads, .ref m_order, .ref m_rank, .ref m_visits, .ref m_length, .ref m_sequence, .ref m_set, .ref m_visited, .int 0, .ref m_production, .ref m_token, .ref m_child, .ref m_parent, .ref m_next, .ref m_known, .ref m_value, .ref m_given, .int (-1), .int (-1)])), (m_known, .inl (ckn, 160, .inl fkn))]) (w1 := []) hP hD [0, 1, 2] [3, 4] rfl rfl (by decide) (by decide) hk1 hFc hP1 hD1
  have hK := (hK.sub (tys' := [(ckn, .boolean)]) [0] rfl).app hK1
  generalize H1 = H at hP hS ⊢
  have hP : va_P (dC, dI) CL [(mo, .inr (8, [.int 0, .int 0, .ref m_attributes, .ref m_inherits, .int 0, .ref m_positions, .ref m_symbolAt, .ref m_form, .ref m_ruleX, .ref m_ruleY, .int 0, .int 0, .int (-1), .int (-1), .ref m_uses, .ref m_leads, .ref m_symbolLeads, .ref m_order, .ref m_rank, .ref m_visits, .ref m_length, .ref m_sequence, .ref m_set, .ref m_visited, .int 0, .ref m_production, .ref m_token, .ref m_child, .ref m_parent, .ref m_next, .ref m_known, .ref m_value, .ref m_given, .int (-1), .int (-1)])), (m_known, .inl (ckn, 160, .inl fkn))] H := hP
  have hD : va_D A [(mo, .inr (8, [.int 0, .int 0, .ref m_attributes, .ref m_inherits, .int 0, .ref m_positions, .ref m_symbolAt, .ref m_form, .ref m_ruleX, .ref m_ruleY, .int 0, .int 0, .int (-1), .int (-1), .ref m_uses, .ref m_leads, .ref m_symbolLeads, .ref m_order, .ref m_rank, .ref m_visits, .ref m_length, .ref m_sequence, .ref m_set, .ref m_visited, .int 0, .ref m_production, .ref m_token, .ref m_child, .ref m_parent, .ref m_next, .ref m_known, .ref m_value, .ref m_given, .int (-1), .int (-1)])), (m_known, .inl (ckn, 160, .inl fkn))] := hD
  have hK : va_K (dC, dI) CL [(ckn, .boolean)] s := hK
  refine W.widen (k := 62) (n := 9096) (by decide) (by decide) ?_
  refine lv_aload_n hx hb d_L_law_737 rfl (lv_at hl 2 rfl) ?_
  have hPc := hP.sub (ws' := [(mo, .inr (8, [.int 0, .int 0, .ref m_attributes, .ref m_inherits, .int 0, .ref m_positions, .ref m_symbolAt, .ref m_form, .ref m_ruleX, .ref m_ruleY, .int 0, .int 0, .int (-1), .int (-1), .ref m_uses, .ref m_leads, .ref m_symbolLeads, .ref m_order, .ref m_rank, .ref m_visits, .ref m_length, .ref m_sequence, .ref m_set, .ref m_visited, .int 0, .ref m_production, .ref m_token, .ref m_child, .ref m_parent, .ref m_next, .ref m_known, .ref m_value, .ref m_given, .int (-1), .int (-1)])), (m_known, .inl (ckn, 160, .inl fkn))]) [0, 1] rfl
  have hDc := hD.sub (ws' := [(mo, .inr (8, [.int 0, .int 0, .ref m_attributes, .ref m_inherits, .int 0, .ref m_positions, .ref m_symbolAt, .ref m_form, .ref m_ruleX, .ref m_ruleY, .int 0, .int 0, .int (-1), .int (-1), .ref m_uses, .ref m_leads, .ref m_symbolLeads, .ref m_order, .ref m_rank, .ref m_visits, .ref m_length, .ref m_sequence, .ref m_set, .ref m_visited, .int 0, .ref m_production, .ref m_token, .ref m_child, .ref m_parent, .ref m_next, .ref m_known, .ref m_value, .ref m_given, .int (-1), .int (-1)])), (m_known, .inl (ckn, 160, .inl fkn))]) [0, 1] (by decide) rfl
  have hKc := hK.sub (tys' := [(ckn, .boolean)]) [0] rfl
  have hFc := va_free (wc := [(mo, .inr (8, [.int 0, .int 0, .ref m_attributes, .ref m_inherits, .int 0, .ref m_positions, .ref m_symbolAt, .ref m_form, .ref m_ruleX, .ref m_ruleY, .int 0, .int 0, .int (-1), .int (-1), .ref m_uses, .ref m_leads, .ref m_symbolLeads, .ref m_order, .ref m_rank, .ref m_visits, .ref m_length, .ref m_sequence, .ref m_set, .ref m_visited, .int 0, .ref m_production, .ref m_token, .ref m_child, .ref m_parent, .ref m_next, .ref m_known, .ref m_value, .ref m_given, .int (-1), .int (-1)])), (m_known, .inl (ckn, 160, .inl fkn))]) hD hS hA [0, 1] rfl
  refine va_callv (va_runV (As := []) (rest := []) ⟨hx, hb, hml, hown, hts⟩ (c_M_fell l htr dC dI mo m_attributes m_inherits m_positions m_symbolAt m_form m_ruleX m_ruleY m_uses m_leads m_symbolLeads m_order m_rank m_visits m_length m_sequence m_set m_visited m_production m_token m_child m_parent m_next m_known m_value m_given ckn fkn H.size) (vq_cV WSk hts 0 rfl rfl ⟨by decide, by decide⟩ k_278 k_235 k_394 k_395 k_396 (by decide +kernel)) ⟨vq_blind, va_recv hK hP (ci := 8) (q0 := 0) rfl rfl, vq_here hst hS hN hPc hKc hDc⟩ rfl rfl hl.1 rfl (lv_room (Nat.le_of_ble_eq_true rfl)) d_L_law_738 ⟨by decide, by decide⟩) hS (fun q _ h => hFc q h) hFc (fun u t H1 locs ht hvm hw hB hz1 hk1 hS => ?_)
  obtain ⟨hP1, hK1, hD1⟩ := hB
  rw [ht] at hP1
  have hK1 := va_K.moved hvm.symm hK1
  obtain ⟨hP, hD⟩ := va_join (wr := []) (w1 := [(mo, .inr (8, [.int 0, .int 0, .ref m_attributes, .ref m_inherits, .int 0, .ref m_positions, .ref m_symbolAt, .ref m_form, .ref m_ruleX, .ref m_ruleY, .int 0, .int 0, .int (-1), .int (-1), .ref m_uses, .ref m_leads, .ref m_symbolLeads, .ref m_order, .ref m_rank, .ref m_visits, .ref m_length, .ref m_sequence, .ref m_set, .ref m_visited, .int 0, .ref m_production, .ref m_token, .ref m_child, .ref m_parent, .ref m_next, .ref m_known, .ref m_value, .ref m_given, .int (-1), .int (-1)]))]) hP hD [0, 1] [] rfl rfl (by decide) (by decide) hk1 hFc hP1 hD1
  have hK := (hK.sub (tys' := []) [] rfl).app hK1
  generalize H1 = H at hP hS ⊢
  have hP : va_P (dC, dI) CL [(mo, .inr (8, [.int 0, .int 0, .ref m_attributes, .ref m_inherits, .int 0, .ref m_positions, .ref m_symbolAt, .ref m_form, .ref m_ruleX, .ref m_ruleY, .int 0, .int 0, .int (-1), .int (-1), .ref m_uses, .ref m_leads, .ref m_symbolLeads, .ref m_order, .ref m_rank, .ref m_visits, .ref m_length, .ref m_sequence, .ref m_set, .ref m_visited, .int 0, .ref m_production, .ref m_token, .ref m_child, .ref m_parent, .ref m_next, .ref m_known, .ref m_value, .ref m_given, .int (-1), .int (-1)]))] H := hP
  have hD : va_D A [(mo, .inr (8, [.int 0, .int 0, .ref m_attributes, .ref m_inherits, .int 0, .ref m_positions, .ref m_symbolAt, .ref m_form, .ref m_ruleX, .ref m_ruleY, .int 0, .int 0, .int (-1), .int (-1), .ref m_uses, .ref m_leads, .ref m_symbolLeads, .ref m_order, .ref m_rank, .ref m_visits, .ref m_length, .ref m_sequence, .ref m_set, .ref m_visited, .int 0, .ref m_production, .ref m_token, .ref m_child, .ref m_parent, .ref m_next, .ref m_known, .ref m_value, .ref m_given, .int (-1), .int (-1)]))] := hD
  have hK : va_K (dC, dI) CL [] s := hK
  refine W.widen (k := 62) (n := 9096) (by decide) (by decide) ?_
  refine lv_goto (tgt := 1053) hx hb d_L_law_741 (by decide) ?_
  refine lv_iinc (k := 0) (v := 6) (lv' := [(4, .int 6), (3, .ref out), (2, .ref mo), (1, .ref x), (0, .ref b)]) hx hb d_L_law_1053 hl rfl (by decide) (by decide) rfl (fun ls hl => ?_)
  refine lv_goto (tgt := 23) hx hb d_L_law_1056 (by decide) ?_
  refine lv_iload hx hb d_L_law_23 (lv_at hl 0 rfl) ?_
  refine lv_aload_n hx hb d_L_law_25 rfl (lv_at hl 4 rfl) ?_
  refine va_slen hx hb hX hbl hbA hS d_L_law_26 ?_
  refine vq_top (y := 6) (by decide) ?_
  refine lv_bipush (v := 6) hx hb d_L_law_27 (by decide) ?_
  refine lv_isub hx hb d_L_law_29 ?_
  refine vq_top (y := 0) (by decide) ?_
  refine lv_icmp_gt (tgt := 1059) hx hb d_L_law_30 (by decide) (fun _ => ?_) (fun h9 => absurd (by decide) h9)
  refine lv_iconst (v := 1) hx hb d_L_law_1059 (by decide) ?_
  refine va_forget (fun q hq => hA2 _ (hS.2.2 q hq)) ?_
  refine W.widen (k := 85) (n := 9238) (by decide) (by decide) ?_
  exact lw_ret hx hb hr hlocks d_L_law_1060

set_option maxHeartbeats 4000000 in
set_option maxRecDepth 100000 in
theorem arm_10 {p : Program} {e : Env} {s : State} {m : MethodId} {below : List Frame} {meth : Method} {c : Code} (l : Launch) (htr : l.stackTraces = false) {b : Nat} {xs : Nat → Int32} {A : Nat → Prop} (dC : Nat → ClassId) (dI : Nat → Nat → Nat) (out : Nat) (mo : Nat) (x : Nat) (g : Nat) (an : Nat) (tr : Nat) (w : Nat) (an_sequences : Nat) (w_given : Nat) (w_values : Nat) (w_knownBits : Nat) (w_instructionsDone : Nat) (cgv : ClassId) (fgv : Nat → Int32) (m_attributes : Nat) (m_inherits : Nat) (m_positions : Nat) (m_symbolAt : Nat) (m_form : Nat) (m_ruleX : Nat) (m_ruleY : Nat) (m_uses : Nat) (m_leads : Nat) (m_symbolLeads : Nat) (m_order : Nat) (m_rank : Nat) (m_visits : Nat) (m_length : Nat) (m_sequence : Nat) (m_set : Nat) (m_visited : Nat) (m_production : Nat) (m_token : Nat) (m_child : Nat) (m_parent : Nat) (m_next : Nat) (m_known : Nat) (m_value : Nat) (m_given : Nat) (cgi : ClassId) (fgi : Nat → Int32) {H : Heap} {locs : List Loc} {ls : Array Slot} (h0 : ¬ xs 1 < 0) (h4 : xs 1 < 4) (h3 : xs 1 ≤ 3) (hi : vp_in (xs 1) 4) (hAt : lw_At p s m meth c b 6 xs) (hst : vq_st s) (hA : ∀ q : Nat, s.heap.size ≤ q → A q) (hA2 : ∀ q : Nat, A q → s.heap.size ≤ q) (hbA : ¬ A b) (hK : va_K (dC, dI) CL [(cgv, .int), (cgi, .int)] s) (hP : va_P (dC, dI) CL [(x, .inr (0, [.ref g, .ref an, .ref tr, .ref w])), (w, .inr (7, [.ref g, .ref an_sequences, .ref tr, .ref w_given, .ref w_values, .ref w_knownBits, .ref w_instructionsDone, .int 0, .int 0, .int 0])), (w_given, .inl (cgv, 4, .inl fgv)), (mo, .inr (8, [.int 0, .int 0, .ref m_attributes, .ref m_inherits, .int 0, .ref m_positions, .ref m_symbolAt, .ref m_form, .ref m_ruleX, .ref m_ruleY, .int 0, .int 0, .int (-1), .int (-1), .ref m_uses, .ref m_leads, .ref m_symbolLeads, .ref m_order, .ref m_rank, .ref m_visits, .ref m_length, .ref m_sequence, .ref m_set, .ref m_visited, .int 0, .ref m_production, .ref m_token, .ref m_child, .ref m_parent, .ref m_next, .ref m_known, .ref m_value, .ref m_given, .int (-1), .int (-1)])), (m_given, .inl (cgi, 4, .inl fgi))] H) (hD : va_D A [(x, .inr (0, [.ref g, .ref an, .ref tr, .ref w])), (w, .inr (7, [.ref g, .ref an_sequences, .ref tr, .ref w_given, .ref w_values, .ref w_knownBits, .ref w_instructionsDone, .int 0, .int 0, .int 0])), (w_given, .inl (cgv, 4, .inl fgv)), (mo, .inr (8, [.int 0, .int 0, .ref m_attributes, .ref m_inherits, .int 0, .ref m_positions, .ref m_symbolAt, .ref m_form, .ref m_ruleX, .ref m_ruleY, .int 0, .int 0, .int (-1), .int (-1), .ref m_uses, .ref m_leads, .ref m_symbolLeads, .ref m_order, .ref m_rank, .ref m_visits, .ref m_length, .ref m_sequence, .ref m_set, .ref m_visited, .int 0, .ref m_production, .ref m_token, .ref m_child, .ref m_parent, .ref m_next, .ref m_known, .ref m_value, .ref m_given, .int (-1), .int (-1)])), (m_given, .inl (cgi, 4, .inl fgi))]) (hS : va_S A s.heap H locs) (hl : lv_has ls 7 [(4, .int 0), (3, .ref out), (2, .ref mo), (1, .ref x), (0, .ref b)]) : W p l e room_1 s m #[Value.ref b] below meth c H locs 62 9096 (lw_Z below #[Value.ref b] s) (F0 m 744 ls []) := by
  obtain ⟨hx, hb, hr, hml, hown, hts0, hX, hbl, hlocks, -⟩ := hAt
  have hts : ∀ w ∈ WS, w.before #[Value.ref b] s = true := fun w hw => hts0 w (WS_tbl w hw)
  have hN : ∀ q : Nat, A q → ∀ cell : Cell, s.heap[q]? = some cell → cell.vm.isStatics = false := fun q hq cell hc => absurd (Array.getElem?_eq_some_iff.mp hc).1 (Nat.not_lt.mpr (hA2 q hq))
  refine lv_aload_n hx hb d_L_law_744 rfl (lv_at hl 3 rfl) ?_
  refine lv_aload_n hx hb d_L_law_745 rfl (lv_at hl 4 rfl) ?_
  refine lv_iload hx hb d_L_law_746 (lv_at hl 0 rfl) ?_
  refine lv_iconst (v := 1) hx hb d_L_law_748 (by decide) ?_
  refine lv_iadd hx hb d_L_law_749 ?_
  refine vq_top (y := 1) (by decide) ?_
  refine va_sld (i := 1) hx hb hX hbl hbA hS (show ¬ ((1 : Int32) < 0 ∨ 6 ≤ Int32.toNatClampNeg 1) by decide) d_L_law_750 ?_
  refine vq_top (y := xs 1) rfl ?_
  refine lv_aload_n hx hb d_L_law_751 rfl (lv_at hl 4 rfl) ?_
  refine lv_iload hx hb d_L_law_752 (lv_at hl 0 rfl) ?_
  refine lv_iconst (v := 2) hx hb d_L_law_754 (by decide) ?_
  refine lv_iadd hx hb d_L_law_755 ?_
  refine vq_top (y := 2) (by decide) ?_
  refine va_sld (i := 2) hx hb hX hbl hbA hS (show ¬ ((2 : Int32) < 0 ∨ 6 ≤ Int32.toNatClampNeg 2) by decide) d_L_law_756 ?_
  refine vq_top (y := xs 2) rfl ?_
  have hPc := hP.sub (ws' := [(x, .inr (0, [.ref g, .ref an, .ref tr, .ref w])), (w, .inr (7, [.ref g, .ref an_sequences, .ref tr, .ref w_given, .ref w_values, .ref w_knownBits, .ref w_instructionsDone, .int 0, .int 0, .int 0])), (w_given, .inl (cgv, 4, .inl fgv))]) [0, 1, 2] rfl
  have hDc := hD.sub (ws' := [(x, .inr (0, [.ref g, .ref an, .ref tr, .ref w])), (w, .inr (7, [.ref g, .ref an_sequences, .ref tr, .ref w_given, .ref w_values, .ref w_knownBits, .ref w_instructionsDone, .int 0, .int 0, .int 0])), (w_given, .inl (cgv, 4, .inl fgv))]) [0, 1, 2] (by decide) rfl
  have hKc := hK.sub (tys' := [(cgv, .int)]) [0] rfl
  have hFc := va_free (wc := [(x, .inr (0, [.ref g, .ref an, .ref tr, .ref w])), (w, .inr (7, [.ref g, .ref an_sequences, .ref tr, .ref w_given, .ref w_values, .ref w_knownBits, .ref w_instructionsDone, .int 0, .int 0, .int 0])), (w_given, .inl (cgv, 4, .inl fgv))]) hD hS hA [0, 1, 2] rfl
  refine va_calli (vq_runSH (n := 3) (As := [.ref x, .int (xs 1), .int (xs 2)]) (rest := []) ⟨hx, hb, hml, hown, hts⟩ (w_give l htr dC dI x (xs 1) (xs 2) g an tr w an_sequences w_given w_values w_knownBits w_instructionsDone cgv fgv H.size h0 h4 hi) WSk rfl rfl ⟨by decide, by decide⟩ k_327 k_347 k_397 k_398 (by decide +kernel) ⟨vq_blind, vq_here hst hS hN hPc hKc hDc⟩ rfl rfl hl.1 rfl (lv_room (Nat.le_of_ble_eq_true rfl)) d_L_law_757 ⟨by decide, by decide⟩) hS (fun q _ h => hFc q h) hFc (fun r1 u t H1 locs ht hvm hw hB hz1 hk1 hS => ?_)
  obtain ⟨hP1, hK1, hD1⟩ := hB
  rw [ht] at hP1
  have hK1 := va_K.moved hvm.symm hK1
  have hw : r1 = 0 := hw
  subst hw
  obtain ⟨hP, hD⟩ := va_join (wr := [(mo, .inr (8, [.int 0, .int 0, .ref m_attributes, .ref m_inherits, .int 0, .ref m_positions, .ref m_symbolAt, .ref m_form, .ref m_ruleX, .ref m_ruleY, .int 0, .int 0, .int (-1), .int (-1), .ref m_uses, .ref m_leads, .ref m_symbolLeads, .ref m_order, .ref m_rank, .ref m_visits, .ref m_length, .ref m_sequence, .ref m_set, .ref m_visited, .int 0, .ref m_production, .ref m_token, .ref m_child, .ref m_parent, .ref m_next, .ref m_known, .ref m_value, .ref m_given, .int (-1), .int (-1)])), (m_given, .inl (cgi, 4, .inl fgi))]) (w1 := []) hP hD [0, 1, 2] [3, 4] rfl rfl (by decide) (by decide) hk1 hFc hP1 hD1
  have hK := (hK.sub (tys' := [(cgi, .int)]) [1] rfl).app hK1
  generalize H1 = H at hP hS ⊢
  have hP : va_P (dC, dI) CL [(mo, .inr (8, [.int 0, .int 0, .ref m_attributes, .ref m_inherits, .int 0, .ref m_positions, .ref m_symbolAt, .ref m_form, .ref m_ruleX, .ref m_ruleY, .int 0, .int 0, .int (-1), .int (-1), .ref m_uses, .ref m_leads, .ref m_symbolLeads, .ref m_order, .ref m_rank, .ref m_visits, .ref m_length, .ref m_sequence, .ref m_set, .ref m_visited, .int 0, .ref m_production, .ref m_token, .ref m_child, .ref m_parent, .ref m_next, .ref m_known, .ref m_value, .ref m_given, .int (-1), .int (-1)])), (m_given, .inl (cgi, 4, .inl fgi))] H := hP
  have hD : va_D A [(mo, .inr (8, [.int 0, .int 0, .ref m_attributes, .ref m_inherits, .int 0, .ref m_positions, .ref m_symbolAt, .ref m_form, .ref m_ruleX, .ref m_ruleY, .int 0, .int 0, .int (-1), .int (-1), .ref m_uses, .ref m_leads, .ref m_symbolLeads, .ref m_order, .ref m_rank, .ref m_visits, .ref m_length, .ref m_sequence, .ref m_set, .ref m_visited, .int 0, .ref m_production, .ref m_token, .ref m_child, .ref m_parent, .ref m_next, .ref m_known, .ref m_value, .ref m_given, .int (-1), .int (-1)])), (m_given, .inl (cgi, 4, .inl fgi))] := hD
  have hK : va_K (dC, dI) CL [(cgi, .int)] s := hK
  refine W.widen (k := 62) (n := 9096) (by decide) (by decide) ?_
  refine lv_istore (lv' := [(5, .int 0), (4, .int 0), (3, .ref out), (2, .ref mo), (1, .ref x), (0, .ref b)]) hx hb d_L_law_760 hl (by decide) rfl (fun ls hl => ?_)
  refine lv_aload_n hx hb d_L_law_762 rfl (lv_at hl 3 rfl) ?_
  refine lv_aload_n hx hb d_L_law_763 rfl (lv_at hl 5 rfl) ?_
  refine lv_iload hx hb d_L_law_764 (lv_at hl 1 rfl) ?_
  refine lv_iconst (v := 1) hx hb d_L_law_766 (by decide) ?_
  refine lv_iadd hx hb d_L_law_767 ?_
  refine vq_top (y := 1) (by decide) ?_
  refine va_sld (i := 1) hx hb hX hbl hbA hS (show ¬ ((1 : Int32) < 0 ∨ 6 ≤ Int32.toNatClampNeg 1) by decide) d_L_law_768 ?_
  refine vq_top (y := xs 1) rfl ?_
  refine lv_aload_n hx hb d_L_law_769 rfl (lv_at hl 5 rfl) ?_
  refine lv_iload hx hb d_L_law_770 (lv_at hl 1 rfl) ?_
  refine lv_iconst (v := 2) hx hb d_L_law_772 (by decide) ?_
  refine lv_iadd hx hb d_L_law_773 ?_
  refine vq_top (y := 2) (by decide) ?_
  refine va_sld (i := 2) hx hb hX hbl hbA hS (show ¬ ((2 : Int32) < 0 ∨ 6 ≤ Int32.toNatClampNeg 2) by decide) d_L_law_774 ?_
  refine vq_top (y := xs 2) rfl ?_
  have hPc := hP.sub (ws' := [(mo, .inr (8, [.int 0, .int 0, .ref m_attributes, .ref m_inherits, .int 0, .ref m_positions, .ref m_symbolAt, .ref m_form, .ref m_ruleX, .ref m_ruleY, .int 0, .int 0, .int (-1), .int (-1), .ref m_uses, .ref m_leads, .ref m_symbolLeads, .ref m_order, .ref m_rank, .ref m_visits, .ref m_length, .ref m_sequence, .ref m_set, .ref m_visited, .int 0, .ref m_production, .ref m_token, .ref m_child, .ref m_parent, .ref m_next, .ref m_known, .ref m_value, .ref m_given, .int (-1), .int (-1)])), (m_given, .inl (cgi, 4, .inl fgi))]) [0, 1] rfl
  have hDc := hD.sub (ws' := [(mo, .inr (8, [.int 0, .int 0, .ref m_attributes, .ref m_inherits, .int 0, .ref m_positions, .ref m_symbolAt, .ref m_form, .ref m_ruleX, .ref m_ruleY, .int 0, .int 0, .int (-1), .int (-1), .ref m_uses, .ref m_leads, .ref m_symbolLeads, .ref m_order, .ref m_rank, .ref m_visits, .ref m_length, .ref m_sequence, .ref m_set, .ref m_visited, .int 0, .ref m_production, .ref m_token, .ref m_child, .ref m_parent, .ref m_next, .ref m_known, .ref m_value, .ref m_given, .int (-1), .int (-1)])), (m_given, .inl (cgi, 4, .inl fgi))]) [0, 1] (by decide) rfl
  have hKc := hK.sub (tys' := [(cgi, .int)]) [0] rfl
  have hFc := va_free (wc := [(mo, .inr (8, [.int 0, .int 0, .ref m_attributes, .ref m_inherits, .int 0, .ref m_positions, .ref m_symbolAt, .ref m_form, .ref m_ruleX, .ref m_ruleY, .int 0, .int 0, .int (-1), .int (-1), .ref m_uses, .ref m_leads, .ref m_symbolLeads, .ref m_order, .ref m_rank, .ref m_visits, .ref m_length, .ref m_sequence, .ref m_set, .ref m_visited, .int 0, .ref m_production, .ref m_token, .ref m_child, .ref m_parent, .ref m_next, .ref m_known, .ref m_value, .ref m_given, .int (-1), .int (-1)])), (m_given, .inl (cgi, 4, .inl fgi))]) hD hS hA [0, 1] rfl
  refine va_callv (va_runV (As := [.int (xs 1), .int (xs 2)]) (rest := []) ⟨hx, hb, hml, hown, hts⟩ (c_M_give l htr dC dI mo (xs 1) (xs 2) m_attributes m_inherits m_positions m_symbolAt m_form m_ruleX m_ruleY m_uses m_leads m_symbolLeads m_order m_rank m_visits m_length m_sequence m_set m_visited m_production m_token m_child m_parent m_next m_known m_value m_given cgi fgi H.size h0 h3 hi) (vq_cV WSk hts 2 rfl rfl ⟨by decide, by decide⟩ k_279 k_235 k_399 k_400 k_401 (by decide +kernel)) ⟨vq_blind, va_recv hK hP (ci := 8) (q0 := 0) rfl rfl, vq_here hst hS hN hPc hKc hDc⟩ rfl rfl hl.1 rfl (lv_room (Nat.le_of_ble_eq_true rfl)) d_L_law_775 ⟨by decide, by decide⟩) hS (fun q _ h => hFc q h) hFc (fun u t H1 locs ht hvm hw hB hz1 hk1 hS => ?_)
  obtain ⟨hP1, hK1, hD1⟩ := hB
  rw [ht] at hP1
  have hK1 := va_K.moved hvm.symm hK1
  obtain ⟨hP, hD⟩ := va_join (wr := []) (w1 := [(mo, .inr (8, [.int 0, .int 0, .ref m_attributes, .ref m_inherits, .int 0, .ref m_positions, .ref m_symbolAt, .ref m_form, .ref m_ruleX, .ref m_ruleY, .int 0, .int 0, .int (-1), .int (-1), .ref m_uses, .ref m_leads, .ref m_symbolLeads, .ref m_order, .ref m_rank, .ref m_visits, .ref m_length, .ref m_sequence, .ref m_set, .ref m_visited, .int 0, .ref m_production, .ref m_token, .ref m_child, .ref m_parent, .ref m_next, .ref m_known, .ref m_value, .ref m_given, .int (-1), .int (-1)]))]) hP hD [0, 1] [] rfl rfl (by decide) (by decide) hk1 hFc hP1 hD1
  have hK := (hK.sub (tys' := []) [] rfl).app hK1
  generalize H1 = H at hP hS ⊢
  have hP : va_P (dC, dI) CL [(mo, .inr (8, [.int 0, .int 0, .ref m_attributes, .ref m_inherits, .int 0, .ref m_positions, .ref m_symbolAt, .ref m_form, .ref m_ruleX, .ref m_ruleY, .int 0, .int 0, .int (-1), .int (-1), .ref m_uses, .ref m_leads, .ref m_symbolLeads, .ref m_order, .ref m_rank, .ref m_visits, .ref m_length, .ref m_sequence, .ref m_set, .ref m_visited, .int 0, .ref m_production, .ref m_token, .ref m_child, .ref m_parent, .ref m_next, .ref m_known, .ref m_value, .ref m_given, .int (-1), .int (-1)]))] H := hP
  have hD : va_D A [(mo, .inr (8, [.int 0, .int 0, .ref m_attributes, .ref m_inherits, .int 0, .ref m_positions, .ref m_symbolAt, .ref m_form, .ref m_ruleX, .ref m_ruleY, .int 0, .int 0, .int (-1), .int (-1), .ref m_uses, .ref m_leads, .ref m_symbolLeads, .ref m_order, .ref m_rank, .ref m_visits, .ref m_length, .ref m_sequence, .ref m_set, .ref m_visited, .int 0, .ref m_production, .ref m_token, .ref m_child, .ref m_parent, .ref m_next, .ref m_known, .ref m_value, .ref m_given, .int (-1), .int (-1)]))] := hD
  have hK : va_K (dC, dI) CL [] s := hK
  refine W.widen (k := 62) (n := 9096) (by decide) (by decide) ?_
  refine lv_aload_n hx hb d_L_law_778 rfl (lv_at hl 3 rfl) ?_
  have hPc := hP.sub (ws' := [(mo, .inr (8, [.int 0, .int 0, .ref m_attributes, .ref m_inherits, .int 0, .ref m_positions, .ref m_symbolAt, .ref m_form, .ref m_ruleX, .ref m_ruleY, .int 0, .int 0, .int (-1), .int (-1), .ref m_uses, .ref m_leads, .ref m_symbolLeads, .ref m_order, .ref m_rank, .ref m_visits, .ref m_length, .ref m_sequence, .ref m_set, .ref m_visited, .int 0, .ref m_production, .ref m_token, .ref m_child, .ref m_parent, .ref m_next, .ref m_known, .ref m_value, .ref m_given, .int (-1), .int (-1)]))]) [0] rfl
  have hDc := hD.sub (ws' := [(mo, .inr (8, [.int 0, .int 0, .ref m_attributes, .ref m_inherits, .int 0, .ref m_positions, .ref m_symbolAt, .ref m_form, .ref m_ruleX, .ref m_ruleY, .int 0, .int 0, .int (-1), .int (-1), .ref m_uses, .ref m_leads, .ref m_symbolLeads, .ref m_order, .ref m_rank, .ref m_visits, .ref m_length, .ref m_sequence, .ref m_set, .ref m_visited, .int 0, .ref m_production, .ref m_token, .ref m_child, .ref m_parent, .ref m_next, .ref m_known, .ref m_value, .ref m_given, .int (-1), .int (-1)]))]) [0] (by decide) rfl
  have hKc := hK.sub (tys' := []) [] rfl
  have hFc := va_free (wc := [(mo, .inr (8, [.int 0, .int 0, .ref m_attributes, .ref m_inherits, .int 0, .ref m_positions, .ref m_symbolAt, .ref m_form, .ref m_ruleX, .ref m_ruleY, .int 0, .int 0, .int (-1), .int (-1), .ref m_uses, .ref m_leads, .ref m_symbolLeads, .ref m_order, .ref m_rank, .ref m_visits, .ref m_length, .ref m_sequence, .ref m_set, .ref m_visited, .int 0, .ref m_production, .ref m_token, .ref m_child, .ref m_parent, .ref m_next, .ref m_known, .ref m_value, .ref m_given, .int (-1), .int (-1)]))]) hD hS hA [0] rfl
  refine va_calli (va_runV (As := []) (rest := []) ⟨hx, hb, hml, hown, hts⟩ (c_M_thrown l htr dC dI mo 0 0 m_attributes m_inherits 0 m_positions m_symbolAt m_form m_ruleX m_ruleY 0 0 (-1) (-1) m_uses m_leads m_symbolLeads m_order m_rank m_visits m_length m_sequence m_set m_visited 0 m_production m_token m_child m_parent m_next m_known m_value m_given (-1) (-1) H.size) (vq_cV WSk hts 0 rfl rfl ⟨by decide, by decide⟩ k_239 k_235 k_353 k_354 k_355 (by decide +kernel)) ⟨vq_blind, va_recv hK hP (ci := 8) (q0 := 0) rfl rfl, vq_here hst hS hN hPc hKc hDc⟩ rfl rfl hl.1 rfl (lv_room (Nat.le_of_ble_eq_true rfl)) d_L_law_779 ⟨by decide, by decide⟩) hS (fun q _ h => hFc q h) hFc (fun r3 u t H1 locs ht hvm hw hB hz1 hk1 hS => ?_)
  obtain ⟨hP1, hK1, hD1⟩ := hB
  rw [ht] at hP1
  have hK1 := va_K.moved hvm.symm hK1
  have hw : r3 = 0 := hw
  subst hw
  obtain ⟨hP, hD⟩ := va_join (wr := []) (w1 := [(mo, .inr (8, [.int 0, .int 0, .ref m_attributes, .ref m_inherits, .int 0, .ref m_positions, .ref m_symbolAt, .ref m_form, .ref m_ruleX, .ref m_ruleY, .int 0, .int 0, .int (-1), .int (-1), .ref m_uses, .ref m_leads, .ref m_symbolLeads, .ref m_order, .ref m_rank, .ref m_visits, .ref m_length, .ref m_sequence, .ref m_set, .ref m_visited, .int 0, .ref m_production, .ref m_token, .ref m_child, .ref m_parent, .ref m_next, .ref m_known, .ref m_value, .ref m_given, .int (-1), .int (-1)]))]) hP hD [0] [] rfl rfl (by decide) (by decide) hk1 hFc hP1 hD1
  have hK := (hK.sub (tys' := []) [] rfl).app hK1
  generalize H1 = H at hP hS ⊢
  have hP : va_P (dC, dI) CL [(mo, .inr (8, [.int 0, .int 0, .ref m_attributes, .ref m_inherits, .int 0, .ref m_positions, .ref m_symbolAt, .ref m_form, .ref m_ruleX, .ref m_ruleY, .int 0, .int 0, .int (-1), .int (-1), .ref m_uses, .ref m_leads, .ref m_symbolLeads, .ref m_order, .ref m_rank, .ref m_visits, .ref m_length, .ref m_sequence, .ref m_set, .ref m_visited, .int 0, .ref m_production, .ref m_token, .ref m_child, .ref m_parent, .ref m_next, .ref m_known, .ref m_value, .ref m_given, .int (-1), .int (-1)]))] H := hP
  have hD : va_D A [(mo, .inr (8, [.int 0, .int 0, .ref m_attributes, .ref m_inherits, .int 0, .ref m_positions, .ref m_symbolAt, .ref m_form, .ref m_ruleX, .ref m_ruleY, .int 0, .int 0, .int (-1), .int (-1), .ref m_uses, .ref m_leads, .ref m_symbolLeads, .ref m_order, .ref m_rank, .ref m_visits, .ref m_length, .ref m_sequence, .ref m_set, .ref m_visited, .int 0, .ref m_production, .ref m_token, .ref m_child, .ref m_parent, .ref m_next, .ref m_known, .ref m_value, .ref m_given, .int (-1), .int (-1)]))] := hD
  have hK : va_K (dC, dI) CL [] s := hK
  refine W.widen (k := 62) (n := 9096) (by decide) (by decide) ?_
  refine lv_iload hx hb d_L_law_782 (lv_at hl 0 rfl) ?_
  refine lv_icmp_eq (tgt := 789) hx hb d_L_law_784 (by decide) (fun _ => ?_) (fun h9 => absurd (by decide) h9)
  refine lv_goto (tgt := 1053) hx hb d_L_law_789 (by decide) ?_
  refine lv_iinc (k := 1) (v := 6) (lv' := [(4, .int 6), (5, .int 0), (3, .ref out), (2, .ref mo), (1, .ref x), (0, .ref b)]) hx hb d_L_law_1053 hl rfl (by decide) (by decide) rfl (fun ls hl => ?_)
  refine lv_goto (tgt := 23) hx hb d_L_law_1056 (by decide) ?_
  refine lv_iload hx hb d_L_law_23 (lv_at hl 0 rfl) ?_
  refine lv_aload_n hx hb d_L_law_25 rfl (lv_at hl 5 rfl) ?_
  refine va_slen hx hb hX hbl hbA hS d_L_law_26 ?_
  refine vq_top (y := 6) (by decide) ?_
  refine lv_bipush (v := 6) hx hb d_L_law_27 (by decide) ?_
  refine lv_isub hx hb d_L_law_29 ?_
  refine vq_top (y := 0) (by decide) ?_
  refine lv_icmp_gt (tgt := 1059) hx hb d_L_law_30 (by decide) (fun _ => ?_) (fun h9 => absurd (by decide) h9)
  refine lv_iconst (v := 1) hx hb d_L_law_1059 (by decide) ?_
  refine va_forget (fun q hq => hA2 _ (hS.2.2 q hq)) ?_
  refine W.widen (k := 85) (n := 9238) (by decide) (by decide) ?_
  exact lw_ret hx hb hr hlocks d_L_law_1060

set_option maxHeartbeats 4000000 in
set_option maxRecDepth 100000 in
theorem arm_10L {p : Program} {e : Env} {s : State} {m : MethodId} {below : List Frame} {meth : Method} {c : Code} (l : Launch) (htr : l.stackTraces = false) {b : Nat} {xs : Nat → Int32} {A : Nat → Prop} (dC : Nat → ClassId) (dI : Nat → Nat → Nat) (out : Nat) (mo : Nat) (x : Nat) (g : Nat) (an : Nat) (tr : Nat) (w : Nat) (m_attributes : Nat) (m_inherits : Nat) (m_positions : Nat) (m_symbolAt : Nat) (m_form : Nat) (m_ruleX : Nat) (m_ruleY : Nat) (m_uses : Nat) (m_leads : Nat) (m_symbolLeads : Nat) (m_order : Nat) (m_rank : Nat) (m_visits : Nat) (m_length : Nat) (m_sequence : Nat) (m_set : Nat) (m_visited : Nat) (m_production : Nat) (m_token : Nat) (m_child : Nat) (m_parent : Nat) (m_next : Nat) (m_known : Nat) (m_value : Nat) (m_given : Nat) {H : Heap} {locs : List Loc} {ls : Array Slot} (h0 : xs 1 < 0) (hAt : lw_At p s m meth c b 6 xs) (hst : vq_st s) (hA : ∀ q : Nat, s.heap.size ≤ q → A q) (hA2 : ∀ q : Nat, A q → s.heap.size ≤ q) (hbA : ¬ A b) (hK : va_K (dC, dI) CL [] s) (hP : va_P (dC, dI) CL [(x, .inr (0, [.ref g, .ref an, .ref tr, .ref w])), (mo, .inr (8, [.int 0, .int 0, .ref m_attributes, .ref m_inherits, .int 0, .ref m_positions, .ref m_symbolAt, .ref m_form, .ref m_ruleX, .ref m_ruleY, .int 0, .int 0, .int (-1), .int (-1), .ref m_uses, .ref m_leads, .ref m_symbolLeads, .ref m_order, .ref m_rank, .ref m_visits, .ref m_length, .ref m_sequence, .ref m_set, .ref m_visited, .int 0, .ref m_production, .ref m_token, .ref m_child, .ref m_parent, .ref m_next, .ref m_known, .ref m_value, .ref m_given, .int (-1), .int (-1)]))] H) (hD : va_D A [(x, .inr (0, [.ref g, .ref an, .ref tr, .ref w])), (mo, .inr (8, [.int 0, .int 0, .ref m_attributes, .ref m_inherits, .int 0, .ref m_positions, .ref m_symbolAt, .ref m_form, .ref m_ruleX, .ref m_ruleY, .int 0, .int 0, .int (-1), .int (-1), .ref m_uses, .ref m_leads, .ref m_symbolLeads, .ref m_order, .ref m_rank, .ref m_visits, .ref m_length, .ref m_sequence, .ref m_set, .ref m_visited, .int 0, .ref m_production, .ref m_token, .ref m_child, .ref m_parent, .ref m_next, .ref m_known, .ref m_value, .ref m_given, .int (-1), .int (-1)]))]) (hS : va_S A s.heap H locs) (hl : lv_has ls 7 [(4, .int 0), (3, .ref out), (2, .ref mo), (1, .ref x), (0, .ref b)]) : W p l e room_1 s m #[Value.ref b] below meth c H locs 62 9096 (lw_Z below #[Value.ref b] s) (F0 m 744 ls []) := by
  obtain ⟨hx, hb, hr, hml, hown, hts0, hX, hbl, hlocks, -⟩ := hAt
  have hts : ∀ w ∈ WS, w.before #[Value.ref b] s = true := fun w hw => hts0 w (WS_tbl w hw)
  have hN : ∀ q : Nat, A q → ∀ cell : Cell, s.heap[q]? = some cell → cell.vm.isStatics = false := fun q hq cell hc => absurd (Array.getElem?_eq_some_iff.mp hc).1 (Nat.not_lt.mpr (hA2 q hq))
  refine lv_aload_n hx hb d_L_law_744 rfl (lv_at hl 3 rfl) ?_
  refine lv_aload_n hx hb d_L_law_745 rfl (lv_at hl 4 rfl) ?_
  refine lv_iload hx hb d_L_law_746 (lv_at hl 0 rfl) ?_
  refine lv_iconst (v := 1) hx hb d_L_law_748 (by decide) ?_
  refine lv_iadd hx hb d_L_law_749 ?_
  refine vq_top (y := 1) (by decide) ?_
  refine va_sld (i := 1) hx hb hX hbl hbA hS (show ¬ ((1 : Int32) < 0 ∨ 6 ≤ Int32.toNatClampNeg 1) by decide) d_L_law_750 ?_
  refine vq_top (y := xs 1) rfl ?_
  refine lv_aload_n hx hb d_L_law_751 rfl (lv_at hl 4 rfl) ?_
  refine lv_iload hx hb d_L_law_752 (lv_at hl 0 rfl) ?_
  refine lv_iconst (v := 2) hx hb d_L_law_754 (by decide) ?_
  refine lv_iadd hx hb d_L_law_755 ?_
  refine vq_top (y := 2) (by decide) ?_
  refine va_sld (i := 2) hx hb hX hbl hbA hS (show ¬ ((2 : Int32) < 0 ∨ 6 ≤ Int32.toNatClampNeg 2) by decide) d_L_law_756 ?_
  refine vq_top (y := xs 2) rfl ?_
  have hPc := hP.sub (ws' := [(x, .inr (0, [.ref g, .ref an, .ref tr, .ref w]))]) [0] rfl
  have hDc := hD.sub (ws' := [(x, .inr (0, [.ref g, .ref an, .ref tr, .ref w]))]) [0] (by decide) rfl
  have hKc := hK.sub (tys' := []) [] rfl
  have hFc := va_free (wc := [(x, .inr (0, [.ref g, .ref an, .ref tr, .ref w]))]) hD hS hA [0] rfl
  refine va_calli (vq_runSH (n := 3) (As := [.ref x, .int (xs 1), .int (xs 2)]) (rest := []) ⟨hx, hb, hml, hown, hts⟩ (w_giveL l htr dC dI x (xs 1) (xs 2) g an tr w H.size h0) WSk rfl rfl ⟨by decide, by decide⟩ k_327 k_347 k_397 k_398 (by decide +kernel) ⟨vq_blind, vq_here hst hS hN hPc hKc hDc⟩ rfl rfl hl.1 rfl (lv_room (Nat.le_of_ble_eq_true rfl)) d_L_law_757 ⟨by decide, by decide⟩) hS (fun q _ h => hFc q h) hFc (fun r1 u t H1 locs ht hvm hw hB hz1 hk1 hS => ?_)
  obtain ⟨hP1, hK1, hD1⟩ := hB
  rw [ht] at hP1
  have hK1 := va_K.moved hvm.symm hK1
  have hw : r1 = 1 := hw
  subst hw
  obtain ⟨hP, hD⟩ := va_join (wr := [(mo, .inr (8, [.int 0, .int 0, .ref m_attributes, .ref m_inherits, .int 0, .ref m_positions, .ref m_symbolAt, .ref m_form, .ref m_ruleX, .ref m_ruleY, .int 0, .int 0, .int (-1), .int (-1), .ref m_uses, .ref m_leads, .ref m_symbolLeads, .ref m_order, .ref m_rank, .ref m_visits, .ref m_length, .ref m_sequence, .ref m_set, .ref m_visited, .int 0, .ref m_production, .ref m_token, .ref m_child, .ref m_parent, .ref m_next, .ref m_known, .ref m_value, .ref m_given, .int (-1), .int (-1)]))]) (w1 := []) hP hD [0] [1] rfl rfl (by decide) (by decide) hk1 hFc hP1 hD1
  have hK := (hK.sub (tys' := []) [] rfl).app hK1
  generalize H1 = H at hP hS ⊢
  have hP : va_P (dC, dI) CL [(mo, .inr (8, [.int 0, .int 0, .ref m_attributes, .ref m_inherits, .int 0, .ref m_positions, .ref m_symbolAt, .ref m_form, .ref m_ruleX, .ref m_ruleY, .int 0, .int 0, .int (-1), .int (-1), .ref m_uses, .ref m_leads, .ref m_symbolLeads, .ref m_order, .ref m_rank, .ref m_visits, .ref m_length, .ref m_sequence, .ref m_set, .ref m_visited, .int 0, .ref m_production, .ref m_token, .ref m_child, .ref m_parent, .ref m_next, .ref m_known, .ref m_value, .ref m_given, .int (-1), .int (-1)]))] H := hP
  have hD : va_D A [(mo, .inr (8, [.int 0, .int 0, .ref m_attributes, .ref m_inherits, .int 0, .ref m_positions, .ref m_symbolAt, .ref m_form, .ref m_ruleX, .ref m_ruleY, .int 0, .int 0, .int (-1), .int (-1), .ref m_uses, .ref m_leads, .ref m_symbolLeads, .ref m_order, .ref m_rank, .ref m_visits, .ref m_length, .ref m_sequence, .ref m_set, .ref m_visited, .int 0, .ref m_production, .ref m_token, .ref m_child, .ref m_parent, .ref m_next, .ref m_known, .ref m_value, .ref m_given, .int (-1), .int (-1)]))] := hD
  have hK : va_K (dC, dI) CL [] s := hK
  refine W.widen (k := 63) (n := 9102) (by decide) (by decide) ?_
  refine lv_istore (lv' := [(5, .int 1), (4, .int 0), (3, .ref out), (2, .ref mo), (1, .ref x), (0, .ref b)]) hx hb d_L_law_760 hl (by decide) rfl (fun ls hl => ?_)
  refine lv_aload_n hx hb d_L_law_762 rfl (lv_at hl 3 rfl) ?_
  refine lv_aload_n hx hb d_L_law_763 rfl (lv_at hl 5 rfl) ?_
  refine lv_iload hx hb d_L_law_764 (lv_at hl 1 rfl) ?_
  refine lv_iconst (v := 1) hx hb d_L_law_766 (by decide) ?_
  refine lv_iadd hx hb d_L_law_767 ?_
  refine vq_top (y := 1) (by decide) ?_
  refine va_sld (i := 1) hx hb hX hbl hbA hS (show ¬ ((1 : Int32) < 0 ∨ 6 ≤ Int32.toNatClampNeg 1) by decide) d_L_law_768 ?_
  refine vq_top (y := xs 1) rfl ?_
  refine lv_aload_n hx hb d_L_law_769 rfl (lv_at hl 5 rfl) ?_
  refine lv_iload hx hb d_L_law_770 (lv_at hl 1 rfl) ?_
  refine lv_iconst (v := 2) hx hb d_L_law_772 (by decide) ?_
  refine lv_iadd hx hb d_L_law_773 ?_
  refine vq_top (y := 2) (by decide) ?_
  refine va_sld (i := 2) hx hb hX hbl hbA hS (show ¬ ((2 : Int32) < 0 ∨ 6 ≤ Int32.toNatClampNeg 2) by decide) d_L_law_774 ?_
  refine vq_top (y := xs 2) rfl ?_
  have hPc := hP.sub (ws' := [(mo, .inr (8, [.int 0, .int 0, .ref m_attributes, .ref m_inherits, .int 0, .ref m_positions, .ref m_symbolAt, .ref m_form, .ref m_ruleX, .ref m_ruleY, .int 0, .int 0, .int (-1), .int (-1), .ref m_uses, .ref m_leads, .ref m_symbolLeads, .ref m_order, .ref m_rank, .ref m_visits, .ref m_length, .ref m_sequence, .ref m_set, .ref m_visited, .int 0, .ref m_production, .ref m_token, .ref m_child, .ref m_parent, .ref m_next, .ref m_known, .ref m_value, .ref m_given, .int (-1), .int (-1)]))]) [0] rfl
  have hDc := hD.sub (ws' := [(mo, .inr (8, [.int 0, .int 0, .ref m_attributes, .ref m_inherits, .int 0, .ref m_positions, .ref m_symbolAt, .ref m_form, .ref m_ruleX, .ref m_ruleY, .int 0, .int 0, .int (-1), .int (-1), .ref m_uses, .ref m_leads, .ref m_symbolLeads, .ref m_order, .ref m_rank, .ref m_visits, .ref m_length, .ref m_sequence, .ref m_set, .ref m_visited, .int 0, .ref m_production, .ref m_token, .ref m_child, .ref m_parent, .ref m_next, .ref m_known, .ref m_value, .ref m_given, .int (-1), .int (-1)]))]) [0] (by decide) rfl
  have hKc := hK.sub (tys' := []) [] rfl
  have hFc := va_free (wc := [(mo, .inr (8, [.int 0, .int 0, .ref m_attributes, .ref m_inherits, .int 0, .ref m_positions, .ref m_symbolAt, .ref m_form, .ref m_ruleX, .ref m_ruleY, .int 0, .int 0, .int (-1), .int (-1), .ref m_uses, .ref m_leads, .ref m_symbolLeads, .ref m_order, .ref m_rank, .ref m_visits, .ref m_length, .ref m_sequence, .ref m_set, .ref m_visited, .int 0, .ref m_production, .ref m_token, .ref m_child, .ref m_parent, .ref m_next, .ref m_known, .ref m_value, .ref m_given, .int (-1), .int (-1)]))]) hD hS hA [0] rfl
  refine va_callv (va_runV (As := [.int (xs 1), .int (xs 2)]) (rest := []) ⟨hx, hb, hml, hown, hts⟩ (c_M_giveL l htr dC dI mo (xs 1) (xs 2) m_attributes m_inherits m_positions m_symbolAt m_form m_ruleX m_ruleY m_uses m_leads m_symbolLeads m_order m_rank m_visits m_length m_sequence m_set m_visited m_production m_token m_child m_parent m_next m_known m_value m_given H.size h0) (vq_cV WSk hts 2 rfl rfl ⟨by decide, by decide⟩ k_279 k_235 k_399 k_400 k_401 (by decide +kernel)) ⟨vq_blind, va_recv hK hP (ci := 8) (q0 := 0) rfl rfl, vq_here hst hS hN hPc hKc hDc⟩ rfl rfl hl.1 rfl (lv_room (Nat.le_of_ble_eq_true rfl)) d_L_law_775 ⟨by decide, by decide⟩) hS (fun q _ h => hFc q h) hFc (fun u t H1 locs ht hvm hw hB hz1 hk1 hS => ?_)
  obtain ⟨hP1, hK1, hD1⟩ := hB
  rw [ht] at hP1
  have hK1 := va_K.moved hvm.symm hK1
  obtain ⟨hP, hD⟩ := va_join (wr := []) (w1 := [(mo, .inr (8, [.int 1, .int 0, .ref m_attributes, .ref m_inherits, .int 0, .ref m_positions, .ref m_symbolAt, .ref m_form, .ref m_ruleX, .ref m_ruleY, .int 0, .int 0, .int (-1), .int (-1), .ref m_uses, .ref m_leads, .ref m_symbolLeads, .ref m_order, .ref m_rank, .ref m_visits, .ref m_length, .ref m_sequence, .ref m_set, .ref m_visited, .int 0, .ref m_production, .ref m_token, .ref m_child, .ref m_parent, .ref m_next, .ref m_known, .ref m_value, .ref m_given, .int (-1), .int (-1)]))]) hP hD [0] [] rfl rfl (by decide) (by decide) hk1 hFc hP1 hD1
  have hK := (hK.sub (tys' := []) [] rfl).app hK1
  generalize H1 = H at hP hS ⊢
  have hP : va_P (dC, dI) CL [(mo, .inr (8, [.int 1, .int 0, .ref m_attributes, .ref m_inherits, .int 0, .ref m_positions, .ref m_symbolAt, .ref m_form, .ref m_ruleX, .ref m_ruleY, .int 0, .int 0, .int (-1), .int (-1), .ref m_uses, .ref m_leads, .ref m_symbolLeads, .ref m_order, .ref m_rank, .ref m_visits, .ref m_length, .ref m_sequence, .ref m_set, .ref m_visited, .int 0, .ref m_production, .ref m_token, .ref m_child, .ref m_parent, .ref m_next, .ref m_known, .ref m_value, .ref m_given, .int (-1), .int (-1)]))] H := hP
  have hD : va_D A [(mo, .inr (8, [.int 1, .int 0, .ref m_attributes, .ref m_inherits, .int 0, .ref m_positions, .ref m_symbolAt, .ref m_form, .ref m_ruleX, .ref m_ruleY, .int 0, .int 0, .int (-1), .int (-1), .ref m_uses, .ref m_leads, .ref m_symbolLeads, .ref m_order, .ref m_rank, .ref m_visits, .ref m_length, .ref m_sequence, .ref m_set, .ref m_visited, .int 0, .ref m_production, .ref m_token, .ref m_child, .ref m_parent, .ref m_next, .ref m_known, .ref m_value, .ref m_given, .int (-1), .int (-1)]))] := hD
  have hK : va_K (dC, dI) CL [] s := hK
  refine W.widen (k := 63) (n := 9102) (by decide) (by decide) ?_
  refine lv_aload_n hx hb d_L_law_778 rfl (lv_at hl 3 rfl) ?_
  have hPc := hP.sub (ws' := [(mo, .inr (8, [.int 1, .int 0, .ref m_attributes, .ref m_inherits, .int 0, .ref m_positions, .ref m_symbolAt, .ref m_form, .ref m_ruleX, .ref m_ruleY, .int 0, .int 0, .int (-1), .int (-1), .ref m_uses, .ref m_leads, .ref m_symbolLeads, .ref m_order, .ref m_rank, .ref m_visits, .ref m_length, .ref m_sequence, .ref m_set, .ref m_visited, .int 0, .ref m_production, .ref m_token, .ref m_child, .ref m_parent, .ref m_next, .ref m_known, .ref m_value, .ref m_given, .int (-1), .int (-1)]))]) [0] rfl
  have hDc := hD.sub (ws' := [(mo, .inr (8, [.int 1, .int 0, .ref m_attributes, .ref m_inherits, .int 0, .ref m_positions, .ref m_symbolAt, .ref m_form, .ref m_ruleX, .ref m_ruleY, .int 0, .int 0, .int (-1), .int (-1), .ref m_uses, .ref m_leads, .ref m_symbolLeads, .ref m_order, .ref m_rank, .ref m_visits, .ref m_length, .ref m_sequence, .ref m_set, .ref m_visited, .int 0, .ref m_production, .ref m_token, .ref m_child, .ref m_parent, .ref m_next, .ref m_known, .ref m_value, .ref m_given, .int (-1), .int (-1)]))]) [0] (by decide) rfl
  have hKc := hK.sub (tys' := []) [] rfl
  have hFc := va_free (wc := [(mo, .inr (8, [.int 1, .int 0, .ref m_attributes, .ref m_inherits, .int 0, .ref m_positions, .ref m_symbolAt, .ref m_form, .ref m_ruleX, .ref m_ruleY, .int 0, .int 0, .int (-1), .int (-1), .ref m_uses, .ref m_leads, .ref m_symbolLeads, .ref m_order, .ref m_rank, .ref m_visits, .ref m_length, .ref m_sequence, .ref m_set, .ref m_visited, .int 0, .ref m_production, .ref m_token, .ref m_child, .ref m_parent, .ref m_next, .ref m_known, .ref m_value, .ref m_given, .int (-1), .int (-1)]))]) hD hS hA [0] rfl
  refine va_calli (va_runV (As := []) (rest := []) ⟨hx, hb, hml, hown, hts⟩ (c_M_thrown l htr dC dI mo 1 0 m_attributes m_inherits 0 m_positions m_symbolAt m_form m_ruleX m_ruleY 0 0 (-1) (-1) m_uses m_leads m_symbolLeads m_order m_rank m_visits m_length m_sequence m_set m_visited 0 m_production m_token m_child m_parent m_next m_known m_value m_given (-1) (-1) H.size) (vq_cV WSk hts 0 rfl rfl ⟨by decide, by decide⟩ k_239 k_235 k_353 k_354 k_355 (by decide +kernel)) ⟨vq_blind, va_recv hK hP (ci := 8) (q0 := 0) rfl rfl, vq_here hst hS hN hPc hKc hDc⟩ rfl rfl hl.1 rfl (lv_room (Nat.le_of_ble_eq_true rfl)) d_L_law_779 ⟨by decide, by decide⟩) hS (fun q _ h => hFc q h) hFc (fun r3 u t H1 locs ht hvm hw hB hz1 hk1 hS => ?_)
  obtain ⟨hP1, hK1, hD1⟩ := hB
  rw [ht] at hP1
  have hK1 := va_K.moved hvm.symm hK1
  have hw : r3 = 1 := hw
  subst hw
  obtain ⟨hP, hD⟩ := va_join (wr := []) (w1 := [(mo, .inr (8, [.int 1, .int 0, .ref m_attributes, .ref m_inherits, .int 0, .ref m_positions, .ref m_symbolAt, .ref m_form, .ref m_ruleX, .ref m_ruleY, .int 0, .int 0, .int (-1), .int (-1), .ref m_uses, .ref m_leads, .ref m_symbolLeads, .ref m_order, .ref m_rank, .ref m_visits, .ref m_length, .ref m_sequence, .ref m_set, .ref m_visited, .int 0, .ref m_production, .ref m_token, .ref m_child, .ref m_parent, .ref m_next, .ref m_known, .ref m_value, .ref m_given, .int (-1), .int (-1)]))]) hP hD [0] [] rfl rfl (by decide) (by decide) hk1 hFc hP1 hD1
  have hK := (hK.sub (tys' := []) [] rfl).app hK1
  generalize H1 = H at hP hS ⊢
  have hP : va_P (dC, dI) CL [(mo, .inr (8, [.int 1, .int 0, .ref m_attributes, .ref m_inherits, .int 0, .ref m_positions, .ref m_symbolAt, .ref m_form, .ref m_ruleX, .ref m_ruleY, .int 0, .int 0, .int (-1), .int (-1), .ref m_uses, .ref m_leads, .ref m_symbolLeads, .ref m_order, .ref m_rank, .ref m_visits, .ref m_length, .ref m_sequence, .ref m_set, .ref m_visited, .int 0, .ref m_production, .ref m_token, .ref m_child, .ref m_parent, .ref m_next, .ref m_known, .ref m_value, .ref m_given, .int (-1), .int (-1)]))] H := hP
  have hD : va_D A [(mo, .inr (8, [.int 1, .int 0, .ref m_attributes, .ref m_inherits, .int 0, .ref m_positions, .ref m_symbolAt, .ref m_form, .ref m_ruleX, .ref m_ruleY, .int 0, .int 0, .int (-1), .int (-1), .ref m_uses, .ref m_leads, .ref m_symbolLeads, .ref m_order, .ref m_rank, .ref m_visits, .ref m_length, .ref m_sequence, .ref m_set, .ref m_visited, .int 0, .ref m_production, .ref m_token, .ref m_child, .ref m_parent, .ref m_next, .ref m_known, .ref m_value, .ref m_given, .int (-1), .int (-1)]))] := hD
  have hK : va_K (dC, dI) CL [] s := hK
  refine W.widen (k := 63) (n := 9102) (by decide) (by decide) ?_
  refine lv_iload hx hb d_L_law_782 (lv_at hl 0 rfl) ?_
  refine lv_icmp_eq (tgt := 789) hx hb d_L_law_784 (by decide) (fun _ => ?_) (fun h9 => absurd (by decide) h9)
  refine lv_goto (tgt := 1053) hx hb d_L_law_789 (by decide) ?_
  refine lv_iinc (k := 1) (v := 6) (lv' := [(4, .int 6), (5, .int 1), (3, .ref out), (2, .ref mo), (1, .ref x), (0, .ref b)]) hx hb d_L_law_1053 hl rfl (by decide) (by decide) rfl (fun ls hl => ?_)
  refine lv_goto (tgt := 23) hx hb d_L_law_1056 (by decide) ?_
  refine lv_iload hx hb d_L_law_23 (lv_at hl 0 rfl) ?_
  refine lv_aload_n hx hb d_L_law_25 rfl (lv_at hl 5 rfl) ?_
  refine va_slen hx hb hX hbl hbA hS d_L_law_26 ?_
  refine vq_top (y := 6) (by decide) ?_
  refine lv_bipush (v := 6) hx hb d_L_law_27 (by decide) ?_
  refine lv_isub hx hb d_L_law_29 ?_
  refine vq_top (y := 0) (by decide) ?_
  refine lv_icmp_gt (tgt := 1059) hx hb d_L_law_30 (by decide) (fun _ => ?_) (fun h9 => absurd (by decide) h9)
  refine lv_iconst (v := 1) hx hb d_L_law_1059 (by decide) ?_
  refine va_forget (fun q hq => hA2 _ (hS.2.2 q hq)) ?_
  refine W.widen (k := 85) (n := 9238) (by decide) (by decide) ?_
  exact lw_ret hx hb hr hlocks d_L_law_1060

set_option maxHeartbeats 4000000 in
set_option maxRecDepth 100000 in
theorem arm_10G {p : Program} {e : Env} {s : State} {m : MethodId} {below : List Frame} {meth : Method} {c : Code} (l : Launch) (htr : l.stackTraces = false) {b : Nat} {xs : Nat → Int32} {A : Nat → Prop} (dC : Nat → ClassId) (dI : Nat → Nat → Nat) (out : Nat) (mo : Nat) (x : Nat) (g : Nat) (an : Nat) (tr : Nat) (w : Nat) (m_attributes : Nat) (m_inherits : Nat) (m_positions : Nat) (m_symbolAt : Nat) (m_form : Nat) (m_ruleX : Nat) (m_ruleY : Nat) (m_uses : Nat) (m_leads : Nat) (m_symbolLeads : Nat) (m_order : Nat) (m_rank : Nat) (m_visits : Nat) (m_length : Nat) (m_sequence : Nat) (m_set : Nat) (m_visited : Nat) (m_production : Nat) (m_token : Nat) (m_child : Nat) (m_parent : Nat) (m_next : Nat) (m_known : Nat) (m_value : Nat) (m_given : Nat) {H : Heap} {locs : List Loc} {ls : Array Slot} (h0 : ¬ xs 1 < 0) (h4 : ¬ xs 1 < 4) (h3 : ¬ xs 1 ≤ 3) (hAt : lw_At p s m meth c b 6 xs) (hst : vq_st s) (hA : ∀ q : Nat, s.heap.size ≤ q → A q) (hA2 : ∀ q : Nat, A q → s.heap.size ≤ q) (hbA : ¬ A b) (hK : va_K (dC, dI) CL [] s) (hP : va_P (dC, dI) CL [(x, .inr (0, [.ref g, .ref an, .ref tr, .ref w])), (mo, .inr (8, [.int 0, .int 0, .ref m_attributes, .ref m_inherits, .int 0, .ref m_positions, .ref m_symbolAt, .ref m_form, .ref m_ruleX, .ref m_ruleY, .int 0, .int 0, .int (-1), .int (-1), .ref m_uses, .ref m_leads, .ref m_symbolLeads, .ref m_order, .ref m_rank, .ref m_visits, .ref m_length, .ref m_sequence, .ref m_set, .ref m_visited, .int 0, .ref m_production, .ref m_token, .ref m_child, .ref m_parent, .ref m_next, .ref m_known, .ref m_value, .ref m_given, .int (-1), .int (-1)]))] H) (hD : va_D A [(x, .inr (0, [.ref g, .ref an, .ref tr, .ref w])), (mo, .inr (8, [.int 0, .int 0, .ref m_attributes, .ref m_inherits, .int 0, .ref m_positions, .ref m_symbolAt, .ref m_form, .ref m_ruleX, .ref m_ruleY, .int 0, .int 0, .int (-1), .int (-1), .ref m_uses, .ref m_leads, .ref m_symbolLeads, .ref m_order, .ref m_rank, .ref m_visits, .ref m_length, .ref m_sequence, .ref m_set, .ref m_visited, .int 0, .ref m_production, .ref m_token, .ref m_child, .ref m_parent, .ref m_next, .ref m_known, .ref m_value, .ref m_given, .int (-1), .int (-1)]))]) (hS : va_S A s.heap H locs) (hl : lv_has ls 7 [(4, .int 0), (3, .ref out), (2, .ref mo), (1, .ref x), (0, .ref b)]) : W p l e room_1 s m #[Value.ref b] below meth c H locs 62 9096 (lw_Z below #[Value.ref b] s) (F0 m 744 ls []) := by
  obtain ⟨hx, hb, hr, hml, hown, hts0, hX, hbl, hlocks, -⟩ := hAt
  have hts : ∀ w ∈ WS, w.before #[Value.ref b] s = true := fun w hw => hts0 w (WS_tbl w hw)
  have hN : ∀ q : Nat, A q → ∀ cell : Cell, s.heap[q]? = some cell → cell.vm.isStatics = false := fun q hq cell hc => absurd (Array.getElem?_eq_some_iff.mp hc).1 (Nat.not_lt.mpr (hA2 q hq))
  refine lv_aload_n hx hb d_L_law_744 rfl (lv_at hl 3 rfl) ?_
  refine lv_aload_n hx hb d_L_law_745 rfl (lv_at hl 4 rfl) ?_
  refine lv_iload hx hb d_L_law_746 (lv_at hl 0 rfl) ?_
  refine lv_iconst (v := 1) hx hb d_L_law_748 (by decide) ?_
  refine lv_iadd hx hb d_L_law_749 ?_
  refine vq_top (y := 1) (by decide) ?_
  refine va_sld (i := 1) hx hb hX hbl hbA hS (show ¬ ((1 : Int32) < 0 ∨ 6 ≤ Int32.toNatClampNeg 1) by decide) d_L_law_750 ?_
  refine vq_top (y := xs 1) rfl ?_
  refine lv_aload_n hx hb d_L_law_751 rfl (lv_at hl 4 rfl) ?_
  refine lv_iload hx hb d_L_law_752 (lv_at hl 0 rfl) ?_
  refine lv_iconst (v := 2) hx hb d_L_law_754 (by decide) ?_
  refine lv_iadd hx hb d_L_law_755 ?_
  refine vq_top (y := 2) (by decide) ?_
  refine va_sld (i := 2) hx hb hX hbl hbA hS (show ¬ ((2 : Int32) < 0 ∨ 6 ≤ Int32.toNatClampNeg 2) by decide) d_L_law_756 ?_
  refine vq_top (y := xs 2) rfl ?_
  have hPc := hP.sub (ws' := [(x, .inr (0, [.ref g, .ref an, .ref tr, .ref w]))]) [0] rfl
  have hDc := hD.sub (ws' := [(x, .inr (0, [.ref g, .ref an, .ref tr, .ref w]))]) [0] (by decide) rfl
  have hKc := hK.sub (tys' := []) [] rfl
  have hFc := va_free (wc := [(x, .inr (0, [.ref g, .ref an, .ref tr, .ref w]))]) hD hS hA [0] rfl
  refine va_calli (vq_runSH (n := 3) (As := [.ref x, .int (xs 1), .int (xs 2)]) (rest := []) ⟨hx, hb, hml, hown, hts⟩ (w_giveG l htr dC dI x (xs 1) (xs 2) g an tr w H.size h0 h4) WSk rfl rfl ⟨by decide, by decide⟩ k_327 k_347 k_397 k_398 (by decide +kernel) ⟨vq_blind, vq_here hst hS hN hPc hKc hDc⟩ rfl rfl hl.1 rfl (lv_room (Nat.le_of_ble_eq_true rfl)) d_L_law_757 ⟨by decide, by decide⟩) hS (fun q _ h => hFc q h) hFc (fun r1 u t H1 locs ht hvm hw hB hz1 hk1 hS => ?_)
  obtain ⟨hP1, hK1, hD1⟩ := hB
  rw [ht] at hP1
  have hK1 := va_K.moved hvm.symm hK1
  have hw : r1 = 1 := hw
  subst hw
  obtain ⟨hP, hD⟩ := va_join (wr := [(mo, .inr (8, [.int 0, .int 0, .ref m_attributes, .ref m_inherits, .int 0, .ref m_positions, .ref m_symbolAt, .ref m_form, .ref m_ruleX, .ref m_ruleY, .int 0, .int 0, .int (-1), .int (-1), .ref m_uses, .ref m_leads, .ref m_symbolLeads, .ref m_order, .ref m_rank, .ref m_visits, .ref m_length, .ref m_sequence, .ref m_set, .ref m_visited, .int 0, .ref m_production, .ref m_token, .ref m_child, .ref m_parent, .ref m_next, .ref m_known, .ref m_value, .ref m_given, .int (-1), .int (-1)]))]) (w1 := []) hP hD [0] [1] rfl rfl (by decide) (by decide) hk1 hFc hP1 hD1
  have hK := (hK.sub (tys' := []) [] rfl).app hK1
  generalize H1 = H at hP hS ⊢
  have hP : va_P (dC, dI) CL [(mo, .inr (8, [.int 0, .int 0, .ref m_attributes, .ref m_inherits, .int 0, .ref m_positions, .ref m_symbolAt, .ref m_form, .ref m_ruleX, .ref m_ruleY, .int 0, .int 0, .int (-1), .int (-1), .ref m_uses, .ref m_leads, .ref m_symbolLeads, .ref m_order, .ref m_rank, .ref m_visits, .ref m_length, .ref m_sequence, .ref m_set, .ref m_visited, .int 0, .ref m_production, .ref m_token, .ref m_child, .ref m_parent, .ref m_next, .ref m_known, .ref m_value, .ref m_given, .int (-1), .int (-1)]))] H := hP
  have hD : va_D A [(mo, .inr (8, [.int 0, .int 0, .ref m_attributes, .ref m_inherits, .int 0, .ref m_positions, .ref m_symbolAt, .ref m_form, .ref m_ruleX, .ref m_ruleY, .int 0, .int 0, .int (-1), .int (-1), .ref m_uses, .ref m_leads, .ref m_symbolLeads, .ref m_order, .ref m_rank, .ref m_visits, .ref m_length, .ref m_sequence, .ref m_set, .ref m_visited, .int 0, .ref m_production, .ref m_token, .ref m_child, .ref m_parent, .ref m_next, .ref m_known, .ref m_value, .ref m_given, .int (-1), .int (-1)]))] := hD
  have hK : va_K (dC, dI) CL [] s := hK
  refine W.widen (k := 63) (n := 9102) (by decide) (by decide) ?_
  refine lv_istore (lv' := [(5, .int 1), (4, .int 0), (3, .ref out), (2, .ref mo), (1, .ref x), (0, .ref b)]) hx hb d_L_law_760 hl (by decide) rfl (fun ls hl => ?_)
  refine lv_aload_n hx hb d_L_law_762 rfl (lv_at hl 3 rfl) ?_
  refine lv_aload_n hx hb d_L_law_763 rfl (lv_at hl 5 rfl) ?_
  refine lv_iload hx hb d_L_law_764 (lv_at hl 1 rfl) ?_
  refine lv_iconst (v := 1) hx hb d_L_law_766 (by decide) ?_
  refine lv_iadd hx hb d_L_law_767 ?_
  refine vq_top (y := 1) (by decide) ?_
  refine va_sld (i := 1) hx hb hX hbl hbA hS (show ¬ ((1 : Int32) < 0 ∨ 6 ≤ Int32.toNatClampNeg 1) by decide) d_L_law_768 ?_
  refine vq_top (y := xs 1) rfl ?_
  refine lv_aload_n hx hb d_L_law_769 rfl (lv_at hl 5 rfl) ?_
  refine lv_iload hx hb d_L_law_770 (lv_at hl 1 rfl) ?_
  refine lv_iconst (v := 2) hx hb d_L_law_772 (by decide) ?_
  refine lv_iadd hx hb d_L_law_773 ?_
  refine vq_top (y := 2) (by decide) ?_
  refine va_sld (i := 2) hx hb hX hbl hbA hS (show ¬ ((2 : Int32) < 0 ∨ 6 ≤ Int32.toNatClampNeg 2) by decide) d_L_law_774 ?_
  refine vq_top (y := xs 2) rfl ?_
  have hPc := hP.sub (ws' := [(mo, .inr (8, [.int 0, .int 0, .ref m_attributes, .ref m_inherits, .int 0, .ref m_positions, .ref m_symbolAt, .ref m_form, .ref m_ruleX, .ref m_ruleY, .int 0, .int 0, .int (-1), .int (-1), .ref m_uses, .ref m_leads, .ref m_symbolLeads, .ref m_order, .ref m_rank, .ref m_visits, .ref m_length, .ref m_sequence, .ref m_set, .ref m_visited, .int 0, .ref m_production, .ref m_token, .ref m_child, .ref m_parent, .ref m_next, .ref m_known, .ref m_value, .ref m_given, .int (-1), .int (-1)]))]) [0] rfl
  have hDc := hD.sub (ws' := [(mo, .inr (8, [.int 0, .int 0, .ref m_attributes, .ref m_inherits, .int 0, .ref m_positions, .ref m_symbolAt, .ref m_form, .ref m_ruleX, .ref m_ruleY, .int 0, .int 0, .int (-1), .int (-1), .ref m_uses, .ref m_leads, .ref m_symbolLeads, .ref m_order, .ref m_rank, .ref m_visits, .ref m_length, .ref m_sequence, .ref m_set, .ref m_visited, .int 0, .ref m_production, .ref m_token, .ref m_child, .ref m_parent, .ref m_next, .ref m_known, .ref m_value, .ref m_given, .int (-1), .int (-1)]))]) [0] (by decide) rfl
  have hKc := hK.sub (tys' := []) [] rfl
  have hFc := va_free (wc := [(mo, .inr (8, [.int 0, .int 0, .ref m_attributes, .ref m_inherits, .int 0, .ref m_positions, .ref m_symbolAt, .ref m_form, .ref m_ruleX, .ref m_ruleY, .int 0, .int 0, .int (-1), .int (-1), .ref m_uses, .ref m_leads, .ref m_symbolLeads, .ref m_order, .ref m_rank, .ref m_visits, .ref m_length, .ref m_sequence, .ref m_set, .ref m_visited, .int 0, .ref m_production, .ref m_token, .ref m_child, .ref m_parent, .ref m_next, .ref m_known, .ref m_value, .ref m_given, .int (-1), .int (-1)]))]) hD hS hA [0] rfl
  refine va_callv (va_runV (As := [.int (xs 1), .int (xs 2)]) (rest := []) ⟨hx, hb, hml, hown, hts⟩ (c_M_giveG l htr dC dI mo (xs 1) (xs 2) m_attributes m_inherits m_positions m_symbolAt m_form m_ruleX m_ruleY m_uses m_leads m_symbolLeads m_order m_rank m_visits m_length m_sequence m_set m_visited m_production m_token m_child m_parent m_next m_known m_value m_given H.size h0 h3) (vq_cV WSk hts 2 rfl rfl ⟨by decide, by decide⟩ k_279 k_235 k_399 k_400 k_401 (by decide +kernel)) ⟨vq_blind, va_recv hK hP (ci := 8) (q0 := 0) rfl rfl, vq_here hst hS hN hPc hKc hDc⟩ rfl rfl hl.1 rfl (lv_room (Nat.le_of_ble_eq_true rfl)) d_L_law_775 ⟨by decide, by decide⟩) hS (fun q _ h => hFc q h) hFc (fun u t H1 locs ht hvm hw hB hz1 hk1 hS => ?_)
  obtain ⟨hP1, hK1, hD1⟩ := hB
  rw [ht] at hP1
  have hK1 := va_K.moved hvm.symm hK1
  obtain ⟨hP, hD⟩ := va_join (wr := []) (w1 := [(mo, .inr (8, [.int 1, .int 0, .ref m_attributes, .ref m_inherits, .int 0, .ref m_positions, .ref m_symbolAt, .ref m_form, .ref m_ruleX, .ref m_ruleY, .int 0, .int 0, .int (-1), .int (-1), .ref m_uses, .ref m_leads, .ref m_symbolLeads, .ref m_order, .ref m_rank, .ref m_visits, .ref m_length, .ref m_sequence, .ref m_set, .ref m_visited, .int 0, .ref m_production, .ref m_token, .ref m_child, .ref m_parent, .ref m_next, .ref m_known, .ref m_value, .ref m_given, .int (-1), .int (-1)]))]) hP hD [0] [] rfl rfl (by decide) (by decide) hk1 hFc hP1 hD1
  have hK := (hK.sub (tys' := []) [] rfl).app hK1
  generalize H1 = H at hP hS ⊢
  have hP : va_P (dC, dI) CL [(mo, .inr (8, [.int 1, .int 0, .ref m_attributes, .ref m_inherits, .int 0, .ref m_positions, .ref m_symbolAt, .ref m_form, .ref m_ruleX, .ref m_ruleY, .int 0, .int 0, .int (-1), .int (-1), .ref m_uses, .ref m_leads, .ref m_symbolLeads, .ref m_order, .ref m_rank, .ref m_visits, .ref m_length, .ref m_sequence, .ref m_set, .ref m_visited, .int 0, .ref m_production, .ref m_token, .ref m_child, .ref m_parent, .ref m_next, .ref m_known, .ref m_value, .ref m_given, .int (-1), .int (-1)]))] H := hP
  have hD : va_D A [(mo, .inr (8, [.int 1, .int 0, .ref m_attributes, .ref m_inherits, .int 0, .ref m_positions, .ref m_symbolAt, .ref m_form, .ref m_ruleX, .ref m_ruleY, .int 0, .int 0, .int (-1), .int (-1), .ref m_uses, .ref m_leads, .ref m_symbolLeads, .ref m_order, .ref m_rank, .ref m_visits, .ref m_length, .ref m_sequence, .ref m_set, .ref m_visited, .int 0, .ref m_production, .ref m_token, .ref m_child, .ref m_parent, .ref m_next, .ref m_known, .ref m_value, .ref m_given, .int (-1), .int (-1)]))] := hD
  have hK : va_K (dC, dI) CL [] s := hK
  refine W.widen (k := 63) (n := 9102) (by decide) (by decide) ?_
  refine lv_aload_n hx hb d_L_law_778 rfl (lv_at hl 3 rfl) ?_
  have hPc := hP.sub (ws' := [(mo, .inr (8, [.int 1, .int 0, .ref m_attributes, .ref m_inherits, .int 0, .ref m_positions, .ref m_symbolAt, .ref m_form, .ref m_ruleX, .ref m_ruleY, .int 0, .int 0, .int (-1), .int (-1), .ref m_uses, .ref m_leads, .ref m_symbolLeads, .ref m_order, .ref m_rank, .ref m_visits, .ref m_length, .ref m_sequence, .ref m_set, .ref m_visited, .int 0, .ref m_production, .ref m_token, .ref m_child, .ref m_parent, .ref m_next, .ref m_known, .ref m_value, .ref m_given, .int (-1), .int (-1)]))]) [0] rfl
  have hDc := hD.sub (ws' := [(mo, .inr (8, [.int 1, .int 0, .ref m_attributes, .ref m_inherits, .int 0, .ref m_positions, .ref m_symbolAt, .ref m_form, .ref m_ruleX, .ref m_ruleY, .int 0, .int 0, .int (-1), .int (-1), .ref m_uses, .ref m_leads, .ref m_symbolLeads, .ref m_order, .ref m_rank, .ref m_visits, .ref m_length, .ref m_sequence, .ref m_set, .ref m_visited, .int 0, .ref m_production, .ref m_token, .ref m_child, .ref m_parent, .ref m_next, .ref m_known, .ref m_value, .ref m_given, .int (-1), .int (-1)]))]) [0] (by decide) rfl
  have hKc := hK.sub (tys' := []) [] rfl
  have hFc := va_free (wc := [(mo, .inr (8, [.int 1, .int 0, .ref m_attributes, .ref m_inherits, .int 0, .ref m_positions, .ref m_symbolAt, .ref m_form, .ref m_ruleX, .ref m_ruleY, .int 0, .int 0, .int (-1), .int (-1), .ref m_uses, .ref m_leads, .ref m_symbolLeads, .ref m_order, .ref m_rank, .ref m_visits, .ref m_length, .ref m_sequence, .ref m_set, .ref m_visited, .int 0, .ref m_production, .ref m_token, .ref m_child, .ref m_parent, .ref m_next, .ref m_known, .ref m_value, .ref m_given, .int (-1), .int (-1)]))]) hD hS hA [0] rfl
  refine va_calli (va_runV (As := []) (rest := []) ⟨hx, hb, hml, hown, hts⟩ (c_M_thrown l htr dC dI mo 1 0 m_attributes m_inherits 0 m_positions m_symbolAt m_form m_ruleX m_ruleY 0 0 (-1) (-1) m_uses m_leads m_symbolLeads m_order m_rank m_visits m_length m_sequence m_set m_visited 0 m_production m_token m_child m_parent m_next m_known m_value m_given (-1) (-1) H.size) (vq_cV WSk hts 0 rfl rfl ⟨by decide, by decide⟩ k_239 k_235 k_353 k_354 k_355 (by decide +kernel)) ⟨vq_blind, va_recv hK hP (ci := 8) (q0 := 0) rfl rfl, vq_here hst hS hN hPc hKc hDc⟩ rfl rfl hl.1 rfl (lv_room (Nat.le_of_ble_eq_true rfl)) d_L_law_779 ⟨by decide, by decide⟩) hS (fun q _ h => hFc q h) hFc (fun r3 u t H1 locs ht hvm hw hB hz1 hk1 hS => ?_)
  obtain ⟨hP1, hK1, hD1⟩ := hB
  rw [ht] at hP1
  have hK1 := va_K.moved hvm.symm hK1
  have hw : r3 = 1 := hw
  subst hw
  obtain ⟨hP, hD⟩ := va_join (wr := []) (w1 := [(mo, .inr (8, [.int 1, .int 0, .ref m_attributes, .ref m_inherits, .int 0, .ref m_positions, .ref m_symbolAt, .ref m_form, .ref m_ruleX, .ref m_ruleY, .int 0, .int 0, .int (-1), .int (-1), .ref m_uses, .ref m_leads, .ref m_symbolLeads, .ref m_order, .ref m_rank, .ref m_visits, .ref m_length, .ref m_sequence, .ref m_set, .ref m_visited, .int 0, .ref m_production, .ref m_token, .ref m_child, .ref m_parent, .ref m_next, .ref m_known, .ref m_value, .ref m_given, .int (-1), .int (-1)]))]) hP hD [0] [] rfl rfl (by decide) (by decide) hk1 hFc hP1 hD1
  have hK := (hK.sub (tys' := []) [] rfl).app hK1
  generalize H1 = H at hP hS ⊢
  have hP : va_P (dC, dI) CL [(mo, .inr (8, [.int 1, .int 0, .ref m_attributes, .ref m_inherits, .int 0, .ref m_positions, .ref m_symbolAt, .ref m_form, .ref m_ruleX, .ref m_ruleY, .int 0, .int 0, .int (-1), .int (-1), .ref m_uses, .ref m_leads, .ref m_symbolLeads, .ref m_order, .ref m_rank, .ref m_visits, .ref m_length, .ref m_sequence, .ref m_set, .ref m_visited, .int 0, .ref m_production, .ref m_token, .ref m_child, .ref m_parent, .ref m_next, .ref m_known, .ref m_value, .ref m_given, .int (-1), .int (-1)]))] H := hP
  have hD : va_D A [(mo, .inr (8, [.int 1, .int 0, .ref m_attributes, .ref m_inherits, .int 0, .ref m_positions, .ref m_symbolAt, .ref m_form, .ref m_ruleX, .ref m_ruleY, .int 0, .int 0, .int (-1), .int (-1), .ref m_uses, .ref m_leads, .ref m_symbolLeads, .ref m_order, .ref m_rank, .ref m_visits, .ref m_length, .ref m_sequence, .ref m_set, .ref m_visited, .int 0, .ref m_production, .ref m_token, .ref m_child, .ref m_parent, .ref m_next, .ref m_known, .ref m_value, .ref m_given, .int (-1), .int (-1)]))] := hD
  have hK : va_K (dC, dI) CL [] s := hK
  refine W.widen (k := 63) (n := 9102) (by decide) (by decide) ?_
  refine lv_iload hx hb d_L_law_782 (lv_at hl 0 rfl) ?_
  refine lv_icmp_eq (tgt := 789) hx hb d_L_law_784 (by decide) (fun _ => ?_) (fun h9 => absurd (by decide) h9)
  refine lv_goto (tgt := 1053) hx hb d_L_law_789 (by decide) ?_
  refine lv_iinc (k := 1) (v := 6) (lv' := [(4, .int 6), (5, .int 1), (3, .ref out), (2, .ref mo), (1, .ref x), (0, .ref b)]) hx hb d_L_law_1053 hl rfl (by decide) (by decide) rfl (fun ls hl => ?_)
  refine lv_goto (tgt := 23) hx hb d_L_law_1056 (by decide) ?_
  refine lv_iload hx hb d_L_law_23 (lv_at hl 0 rfl) ?_
  refine lv_aload_n hx hb d_L_law_25 rfl (lv_at hl 5 rfl) ?_
  refine va_slen hx hb hX hbl hbA hS d_L_law_26 ?_
  refine vq_top (y := 6) (by decide) ?_
  refine lv_bipush (v := 6) hx hb d_L_law_27 (by decide) ?_
  refine lv_isub hx hb d_L_law_29 ?_
  refine vq_top (y := 0) (by decide) ?_
  refine lv_icmp_gt (tgt := 1059) hx hb d_L_law_30 (by decide) (fun _ => ?_) (fun h9 => absurd (by decide) h9)
  refine lv_iconst (v := 1) hx hb d_L_law_1059 (by decide) ?_
  refine va_forget (fun q hq => hA2 _ (hS.2.2 q hq)) ?_
  refine W.widen (k := 85) (n := 9238) (by decide) (by decide) ?_
  exact lw_ret hx hb hr hlocks d_L_law_1060

set_option maxHeartbeats 4000000 in
set_option maxRecDepth 100000 in
theorem arm_11 {p : Program} {e : Env} {s : State} {m : MethodId} {below : List Frame} {meth : Method} {c : Code} (l : Launch) (htr : l.stackTraces = false) {b : Nat} {xs : Nat → Int32} {A : Nat → Prop} (dC : Nat → ClassId) (dI : Nat → Nat → Nat) (out : Nat) (mo : Nat) (x : Nat) (g : Nat) (an : Nat) (tr : Nat) (w : Nat) (an_leads : Nat) (an_ranking : Nat) (an_sequences : Nat) (m_attributes : Nat) (m_inherits : Nat) (m_positions : Nat) (m_symbolAt : Nat) (m_form : Nat) (m_ruleX : Nat) (m_ruleY : Nat) (m_uses : Nat) (m_leads : Nat) (m_symbolLeads : Nat) (m_order : Nat) (m_rank : Nat) (m_visits : Nat) (m_length : Nat) (m_sequence : Nat) (m_set : Nat) (m_visited : Nat) (m_production : Nat) (m_token : Nat) (m_child : Nat) (m_parent : Nat) (m_next : Nat) (m_known : Nat) (m_value : Nat) (m_given : Nat) {H : Heap} {locs : List Loc} {ls : Array Slot} (hAt : lw_At p s m meth c b 6 xs) (hst : vq_st s) (hA : ∀ q : Nat, s.heap.size ≤ q → A q) (hA2 : ∀ q : Nat, A q → s.heap.size ≤ q) (hbA : ¬ A b) (hK : va_K (dC, dI) CL [] s) (hP : va_P (dC, dI) CL [(x, .inr (0, [.ref g, .ref an, .ref tr, .ref w])), (an, .inr (2, [.ref g, .ref an_leads, .ref an_ranking, .ref an_sequences, .int 0, .int 0, .int (-1), .int (-1)])), (mo, .inr (8, [.int 0, .int 0, .ref m_attributes, .ref m_inherits, .int 0, .ref m_positions, .ref m_symbolAt, .ref m_form, .ref m_ruleX, .ref m_ruleY, .int 0, .int 0, .int (-1), .int (-1), .ref m_uses, .ref m_leads, .ref m_symbolLeads, .ref m_order, .ref m_rank, .ref m_visits, .ref m_length, .ref m_sequence, .ref m_set, .ref m_visited, .int 0, .ref m_production, .ref m_token, .ref m_child, .ref m_parent, .ref m_next, .ref m_known, .ref m_value, .ref m_given, .int (-1), .int (-1)]))] H) (hD : va_D A [(x, .inr (0, [.ref g, .ref an, .ref tr, .ref w])), (an, .inr (2, [.ref g, .ref an_leads, .ref an_ranking, .ref an_sequences, .int 0, .int 0, .int (-1), .int (-1)])), (mo, .inr (8, [.int 0, .int 0, .ref m_attributes, .ref m_inherits, .int 0, .ref m_positions, .ref m_symbolAt, .ref m_form, .ref m_ruleX, .ref m_ruleY, .int 0, .int 0, .int (-1), .int (-1), .ref m_uses, .ref m_leads, .ref m_symbolLeads, .ref m_order, .ref m_rank, .ref m_visits, .ref m_length, .ref m_sequence, .ref m_set, .ref m_visited, .int 0, .ref m_production, .ref m_token, .ref m_child, .ref m_parent, .ref m_next, .ref m_known, .ref m_value, .ref m_given, .int (-1), .int (-1)]))]) (hS : va_S A s.heap H locs) (hl : lv_has ls 7 [(4, .int 0), (3, .ref out), (2, .ref mo), (1, .ref x), (0, .ref b)]) : W p l e room_1 s m #[Value.ref b] below meth c H locs 62 9096 (lw_Z below #[Value.ref b] s) (F0 m 792 ls []) := by
  obtain ⟨hx, hb, hr, hml, hown, hts0, hX, hbl, hlocks, -⟩ := hAt
  have hts : ∀ w ∈ WS, w.before #[Value.ref b] s = true := fun w hw => hts0 w (WS_tbl w hw)
  have hN : ∀ q : Nat, A q → ∀ cell : Cell, s.heap[q]? = some cell → cell.vm.isStatics = false := fun q hq cell hc => absurd (Array.getElem?_eq_some_iff.mp hc).1 (Nat.not_lt.mpr (hA2 q hq))
  refine lv_aload_n hx hb d_L_law_792 rfl (lv_at hl 3 rfl) ?_
  refine lv_aload_n hx hb d_L_law_793 rfl (lv_at hl 4 rfl) ?_
  refine lv_iload hx hb d_L_law_794 (lv_at hl 0 rfl) ?_
  refine lv_iconst (v := 1) hx hb d_L_law_796 (by decide) ?_
  refine lv_iadd hx hb d_L_law_797 ?_
  refine vq_top (y := 1) (by decide) ?_
  refine va_sld (i := 1) hx hb hX hbl hbA hS (show ¬ ((1 : Int32) < 0 ∨ 6 ≤ Int32.toNatClampNeg 1) by decide) d_L_law_798 ?_
  refine vq_top (y := xs 1) rfl ?_
  have hPc := hP.sub (ws' := [(x, .inr (0, [.ref g, .ref an, .ref tr, .ref w])), (an, .inr (2, [.ref g, .ref an_leads, .ref an_ranking, .ref an_sequences, .int 0, .int 0, .int (-1), .int (-1)]))]) [0, 1] rfl
  have hDc := hD.sub (ws' := [(x, .inr (0, [.ref g, .ref an, .ref tr, .ref w])), (an, .inr (2, [.ref g, .ref an_leads, .ref an_ranking, .ref an_sequences, .int 0, .int 0, .int (-1), .int (-1)]))]) [0, 1] (by decide) rfl
  have hKc := hK.sub (tys' := []) [] rfl
  have hFc := va_free (wc := [(x, .inr (0, [.ref g, .ref an, .ref tr, .ref w])), (an, .inr (2, [.ref g, .ref an_leads, .ref an_ranking, .ref an_sequences, .int 0, .int 0, .int (-1), .int (-1)]))]) hD hS hA [0, 1] rfl
  refine va_calli (vq_runSH (n := 2) (As := [.ref x, .int (xs 1)]) (rest := []) ⟨hx, hb, hml, hown, hts⟩ (w_start l htr dC dI x (xs 1) g an tr w an_leads an_ranking an_sequences H.size) WSk rfl rfl ⟨by decide, by decide⟩ k_331 k_347 k_402 k_403 (by decide +kernel) ⟨vq_blind, vq_here hst hS hN hPc hKc hDc⟩ rfl rfl hl.1 rfl (lv_room (Nat.le_of_ble_eq_true rfl)) d_L_law_799 ⟨by decide, by decide⟩) hS (fun q _ h => hFc q h) hFc (fun r1 u t H1 locs ht hvm hw hB hz1 hk1 hS => ?_)
  obtain ⟨hP1, hK1, hD1⟩ := hB
  rw [ht] at hP1
  have hK1 := va_K.moved hvm.symm hK1
  have hw : r1 = 1 := hw
  subst hw
  obtain ⟨hP, hD⟩ := va_join (wr := [(mo, .inr (8, [.int 0, .int 0, .ref m_attributes, .ref m_inherits, .int 0, .ref m_positions, .ref m_symbolAt, .ref m_form, .ref m_ruleX, .ref m_ruleY, .int 0, .int 0, .int (-1), .int (-1), .ref m_uses, .ref m_leads, .ref m_symbolLeads, .ref m_order, .ref m_rank, .ref m_visits, .ref m_length, .ref m_sequence, .ref m_set, .ref m_visited, .int 0, .ref m_production, .ref m_token, .ref m_child, .ref m_parent, .ref m_next, .ref m_known, .ref m_value, .ref m_given, .int (-1), .int (-1)]))]) (w1 := []) hP hD [0, 1] [2] rfl rfl (by decide) (by decide) hk1 hFc hP1 hD1
  have hK := (hK.sub (tys' := []) [] rfl).app hK1
  generalize H1 = H at hP hS ⊢
  have hP : va_P (dC, dI) CL [(mo, .inr (8, [.int 0, .int 0, .ref m_attributes, .ref m_inherits, .int 0, .ref m_positions, .ref m_symbolAt, .ref m_form, .ref m_ruleX, .ref m_ruleY, .int 0, .int 0, .int (-1), .int (-1), .ref m_uses, .ref m_leads, .ref m_symbolLeads, .ref m_order, .ref m_rank, .ref m_visits, .ref m_length, .ref m_sequence, .ref m_set, .ref m_visited, .int 0, .ref m_production, .ref m_token, .ref m_child, .ref m_parent, .ref m_next, .ref m_known, .ref m_value, .ref m_given, .int (-1), .int (-1)]))] H := hP
  have hD : va_D A [(mo, .inr (8, [.int 0, .int 0, .ref m_attributes, .ref m_inherits, .int 0, .ref m_positions, .ref m_symbolAt, .ref m_form, .ref m_ruleX, .ref m_ruleY, .int 0, .int 0, .int (-1), .int (-1), .ref m_uses, .ref m_leads, .ref m_symbolLeads, .ref m_order, .ref m_rank, .ref m_visits, .ref m_length, .ref m_sequence, .ref m_set, .ref m_visited, .int 0, .ref m_production, .ref m_token, .ref m_child, .ref m_parent, .ref m_next, .ref m_known, .ref m_value, .ref m_given, .int (-1), .int (-1)]))] := hD
  have hK : va_K (dC, dI) CL [] s := hK
  refine W.widen (k := 63) (n := 9102) (by decide) (by decide) ?_
  refine lv_istore (lv' := [(5, .int 1), (4, .int 0), (3, .ref out), (2, .ref mo), (1, .ref x), (0, .ref b)]) hx hb d_L_law_802 hl (by decide) rfl (fun ls hl => ?_)
  refine lv_aload_n hx hb d_L_law_804 rfl (lv_at hl 3 rfl) ?_
  refine lv_aload_n hx hb d_L_law_805 rfl (lv_at hl 5 rfl) ?_
  refine lv_iload hx hb d_L_law_806 (lv_at hl 1 rfl) ?_
  refine lv_iconst (v := 1) hx hb d_L_law_808 (by decide) ?_
  refine lv_iadd hx hb d_L_law_809 ?_
  refine vq_top (y := 1) (by decide) ?_
  refine va_sld (i := 1) hx hb hX hbl hbA hS (show ¬ ((1 : Int32) < 0 ∨ 6 ≤ Int32.toNatClampNeg 1) by decide) d_L_law_810 ?_
  refine vq_top (y := xs 1) rfl ?_
  have hPc := hP.sub (ws' := [(mo, .inr (8, [.int 0, .int 0, .ref m_attributes, .ref m_inherits, .int 0, .ref m_positions, .ref m_symbolAt, .ref m_form, .ref m_ruleX, .ref m_ruleY, .int 0, .int 0, .int (-1), .int (-1), .ref m_uses, .ref m_leads, .ref m_symbolLeads, .ref m_order, .ref m_rank, .ref m_visits, .ref m_length, .ref m_sequence, .ref m_set, .ref m_visited, .int 0, .ref m_production, .ref m_token, .ref m_child, .ref m_parent, .ref m_next, .ref m_known, .ref m_value, .ref m_given, .int (-1), .int (-1)]))]) [0] rfl
  have hDc := hD.sub (ws' := [(mo, .inr (8, [.int 0, .int 0, .ref m_attributes, .ref m_inherits, .int 0, .ref m_positions, .ref m_symbolAt, .ref m_form, .ref m_ruleX, .ref m_ruleY, .int 0, .int 0, .int (-1), .int (-1), .ref m_uses, .ref m_leads, .ref m_symbolLeads, .ref m_order, .ref m_rank, .ref m_visits, .ref m_length, .ref m_sequence, .ref m_set, .ref m_visited, .int 0, .ref m_production, .ref m_token, .ref m_child, .ref m_parent, .ref m_next, .ref m_known, .ref m_value, .ref m_given, .int (-1), .int (-1)]))]) [0] (by decide) rfl
  have hKc := hK.sub (tys' := []) [] rfl
  have hFc := va_free (wc := [(mo, .inr (8, [.int 0, .int 0, .ref m_attributes, .ref m_inherits, .int 0, .ref m_positions, .ref m_symbolAt, .ref m_form, .ref m_ruleX, .ref m_ruleY, .int 0, .int 0, .int (-1), .int (-1), .ref m_uses, .ref m_leads, .ref m_symbolLeads, .ref m_order, .ref m_rank, .ref m_visits, .ref m_length, .ref m_sequence, .ref m_set, .ref m_visited, .int 0, .ref m_production, .ref m_token, .ref m_child, .ref m_parent, .ref m_next, .ref m_known, .ref m_value, .ref m_given, .int (-1), .int (-1)]))]) hD hS hA [0] rfl
  refine va_callv (va_runV (As := [.int (xs 1)]) (rest := []) ⟨hx, hb, hml, hown, hts⟩ (c_M_start l htr dC dI mo (xs 1) m_attributes m_inherits m_positions m_symbolAt m_form m_ruleX m_ruleY m_uses m_leads m_symbolLeads m_order m_rank m_visits m_length m_sequence m_set m_visited m_production m_token m_child m_parent m_next m_known m_value m_given H.size) (vq_cV WSk hts 1 rfl rfl ⟨by decide, by decide⟩ k_280 k_235 k_404 k_405 k_406 (by decide +kernel)) ⟨vq_blind, va_recv hK hP (ci := 8) (q0 := 0) rfl rfl, vq_here hst hS hN hPc hKc hDc⟩ rfl rfl hl.1 rfl (lv_room (Nat.le_of_ble_eq_true rfl)) d_L_law_811 ⟨by decide, by decide⟩) hS (fun q _ h => hFc q h) hFc (fun u t H1 locs ht hvm hw hB hz1 hk1 hS => ?_)
  obtain ⟨hP1, hK1, hD1⟩ := hB
  rw [ht] at hP1
  have hK1 := va_K.moved hvm.symm hK1
  obtain ⟨hP, hD⟩ := va_join (wr := []) (w1 := [(mo, .inr (8, [.int 1, .int 0, .ref m_attributes, .ref m_inherits, .int 0, .ref m_positions, .ref m_symbolAt, .ref m_form, .ref m_ruleX, .ref m_ruleY, .int 0, .int 0, .int (-1), .int (-1), .ref m_uses, .ref m_leads, .ref m_symbolLeads, .ref m_order, .ref m_rank, .ref m_visits, .ref m_length, .ref m_sequence, .ref m_set, .ref m_visited, .int 0, .ref m_production, .ref m_token, .ref m_child, .ref m_parent, .ref m_next, .ref m_known, .ref m_value, .ref m_given, .int (-1), .int (-1)]))]) hP hD [0] [] rfl rfl (by decide) (by decide) hk1 hFc hP1 hD1
  have hK := (hK.sub (tys' := []) [] rfl).app hK1
  generalize H1 = H at hP hS ⊢
  have hP : va_P (dC, dI) CL [(mo, .inr (8, [.int 1, .int 0, .ref m_attributes, .ref m_inherits, .int 0, .ref m_positions, .ref m_symbolAt, .ref m_form, .ref m_ruleX, .ref m_ruleY, .int 0, .int 0, .int (-1), .int (-1), .ref m_uses, .ref m_leads, .ref m_symbolLeads, .ref m_order, .ref m_rank, .ref m_visits, .ref m_length, .ref m_sequence, .ref m_set, .ref m_visited, .int 0, .ref m_production, .ref m_token, .ref m_child, .ref m_parent, .ref m_next, .ref m_known, .ref m_value, .ref m_given, .int (-1), .int (-1)]))] H := hP
  have hD : va_D A [(mo, .inr (8, [.int 1, .int 0, .ref m_attributes, .ref m_inherits, .int 0, .ref m_positions, .ref m_symbolAt, .ref m_form, .ref m_ruleX, .ref m_ruleY, .int 0, .int 0, .int (-1), .int (-1), .ref m_uses, .ref m_leads, .ref m_symbolLeads, .ref m_order, .ref m_rank, .ref m_visits, .ref m_length, .ref m_sequence, .ref m_set, .ref m_visited, .int 0, .ref m_production, .ref m_token, .ref m_child, .ref m_parent, .ref m_next, .ref m_known, .ref m_value, .ref m_given, .int (-1), .int (-1)]))] := hD
  have hK : va_K (dC, dI) CL [] s := hK
  refine W.widen (k := 63) (n := 9102) (by decide) (by decide) ?_
  refine lv_aload_n hx hb d_L_law_814 rfl (lv_at hl 3 rfl) ?_
  have hPc := hP.sub (ws' := [(mo, .inr (8, [.int 1, .int 0, .ref m_attributes, .ref m_inherits, .int 0, .ref m_positions, .ref m_symbolAt, .ref m_form, .ref m_ruleX, .ref m_ruleY, .int 0, .int 0, .int (-1), .int (-1), .ref m_uses, .ref m_leads, .ref m_symbolLeads, .ref m_order, .ref m_rank, .ref m_visits, .ref m_length, .ref m_sequence, .ref m_set, .ref m_visited, .int 0, .ref m_production, .ref m_token, .ref m_child, .ref m_parent, .ref m_next, .ref m_known, .ref m_value, .ref m_given, .int (-1), .int (-1)]))]) [0] rfl
  have hDc := hD.sub (ws' := [(mo, .inr (8, [.int 1, .int 0, .ref m_attributes, .ref m_inherits, .int 0, .ref m_positions, .ref m_symbolAt, .ref m_form, .ref m_ruleX, .ref m_ruleY, .int 0, .int 0, .int (-1), .int (-1), .ref m_uses, .ref m_leads, .ref m_symbolLeads, .ref m_order, .ref m_rank, .ref m_visits, .ref m_length, .ref m_sequence, .ref m_set, .ref m_visited, .int 0, .ref m_production, .ref m_token, .ref m_child, .ref m_parent, .ref m_next, .ref m_known, .ref m_value, .ref m_given, .int (-1), .int (-1)]))]) [0] (by decide) rfl
  have hKc := hK.sub (tys' := []) [] rfl
  have hFc := va_free (wc := [(mo, .inr (8, [.int 1, .int 0, .ref m_attributes, .ref m_inherits, .int 0, .ref m_positions, .ref m_symbolAt, .ref m_form, .ref m_ruleX, .ref m_ruleY, .int 0, .int 0, .int (-1), .int (-1), .ref m_uses, .ref m_leads, .ref m_symbolLeads, .ref m_order, .ref m_rank, .ref m_visits, .ref m_length, .ref m_sequence, .ref m_set, .ref m_visited, .int 0, .ref m_production, .ref m_token, .ref m_child, .ref m_parent, .ref m_next, .ref m_known, .ref m_value, .ref m_given, .int (-1), .int (-1)]))]) hD hS hA [0] rfl
  refine va_calli (va_runV (As := []) (rest := []) ⟨hx, hb, hml, hown, hts⟩ (c_M_thrown l htr dC dI mo 1 0 m_attributes m_inherits 0 m_positions m_symbolAt m_form m_ruleX m_ruleY 0 0 (-1) (-1) m_uses m_leads m_symbolLeads m_order m_rank m_visits m_length m_sequence m_set m_visited 0 m_production m_token m_child m_parent m_next m_known m_value m_given (-1) (-1) H.size) (vq_cV WSk hts 0 rfl rfl ⟨by decide, by decide⟩ k_239 k_235 k_353 k_354 k_355 (by decide +kernel)) ⟨vq_blind, va_recv hK hP (ci := 8) (q0 := 0) rfl rfl, vq_here hst hS hN hPc hKc hDc⟩ rfl rfl hl.1 rfl (lv_room (Nat.le_of_ble_eq_true rfl)) d_L_law_815 ⟨by decide, by decide⟩) hS (fun q _ h => hFc q h) hFc (fun r3 u t H1 locs ht hvm hw hB hz1 hk1 hS => ?_)
  obtain ⟨hP1, hK1, hD1⟩ := hB
  rw [ht] at hP1
  have hK1 := va_K.moved hvm.symm hK1
  have hw : r3 = 1 := hw
  subst hw
  obtain ⟨hP, hD⟩ := va_join (wr := []) (w1 := [(mo, .inr (8, [.int 1, .int 0, .ref m_attributes, .ref m_inherits, .int 0, .ref m_positions, .ref m_symbolAt, .ref m_form, .ref m_ruleX, .ref m_ruleY, .int 0, .int 0, .int (-1), .int (-1), .ref m_uses, .ref m_leads, .ref m_symbolLeads, .ref m_order, .ref m_rank, .ref m_visits, .ref m_length, .ref m_sequence, .ref m_set, .ref m_visited, .int 0, .ref m_production, .ref m_token, .ref m_child, .ref m_parent, .ref m_next, .ref m_known, .ref m_value, .ref m_given, .int (-1), .int (-1)]))]) hP hD [0] [] rfl rfl (by decide) (by decide) hk1 hFc hP1 hD1
  have hK := (hK.sub (tys' := []) [] rfl).app hK1
  generalize H1 = H at hP hS ⊢
  have hP : va_P (dC, dI) CL [(mo, .inr (8, [.int 1, .int 0, .ref m_attributes, .ref m_inherits, .int 0, .ref m_positions, .ref m_symbolAt, .ref m_form, .ref m_ruleX, .ref m_ruleY, .int 0, .int 0, .int (-1), .int (-1), .ref m_uses, .ref m_leads, .ref m_symbolLeads, .ref m_order, .ref m_rank, .ref m_visits, .ref m_length, .ref m_sequence, .ref m_set, .ref m_visited, .int 0, .ref m_production, .ref m_token, .ref m_child, .ref m_parent, .ref m_next, .ref m_known, .ref m_value, .ref m_given, .int (-1), .int (-1)]))] H := hP
  have hD : va_D A [(mo, .inr (8, [.int 1, .int 0, .ref m_attributes, .ref m_inherits, .int 0, .ref m_positions, .ref m_symbolAt, .ref m_form, .ref m_ruleX, .ref m_ruleY, .int 0, .int 0, .int (-1), .int (-1), .ref m_uses, .ref m_leads, .ref m_symbolLeads, .ref m_order, .ref m_rank, .ref m_visits, .ref m_length, .ref m_sequence, .ref m_set, .ref m_visited, .int 0, .ref m_production, .ref m_token, .ref m_child, .ref m_parent, .ref m_next, .ref m_known, .ref m_value, .ref m_given, .int (-1), .int (-1)]))] := hD
  have hK : va_K (dC, dI) CL [] s := hK
  refine W.widen (k := 63) (n := 9102) (by decide) (by decide) ?_
  refine lv_iload hx hb d_L_law_818 (lv_at hl 0 rfl) ?_
  refine lv_icmp_eq (tgt := 825) hx hb d_L_law_820 (by decide) (fun _ => ?_) (fun h9 => absurd (by decide) h9)
  refine lv_goto (tgt := 1053) hx hb d_L_law_825 (by decide) ?_
  refine lv_iinc (k := 1) (v := 6) (lv' := [(4, .int 6), (5, .int 1), (3, .ref out), (2, .ref mo), (1, .ref x), (0, .ref b)]) hx hb d_L_law_1053 hl rfl (by decide) (by decide) rfl (fun ls hl => ?_)
  refine lv_goto (tgt := 23) hx hb d_L_law_1056 (by decide) ?_
  refine lv_iload hx hb d_L_law_23 (lv_at hl 0 rfl) ?_
  refine lv_aload_n hx hb d_L_law_25 rfl (lv_at hl 5 rfl) ?_
  refine va_slen hx hb hX hbl hbA hS d_L_law_26 ?_
  refine vq_top (y := 6) (by decide) ?_
  refine lv_bipush (v := 6) hx hb d_L_law_27 (by decide) ?_
  refine lv_isub hx hb d_L_law_29 ?_
  refine vq_top (y := 0) (by decide) ?_
  refine lv_icmp_gt (tgt := 1059) hx hb d_L_law_30 (by decide) (fun _ => ?_) (fun h9 => absurd (by decide) h9)
  refine lv_iconst (v := 1) hx hb d_L_law_1059 (by decide) ?_
  refine va_forget (fun q hq => hA2 _ (hS.2.2 q hq)) ?_
  refine W.widen (k := 85) (n := 9238) (by decide) (by decide) ?_
  exact lw_ret hx hb hr hlocks d_L_law_1060

set_option maxHeartbeats 4000000 in
set_option maxRecDepth 100000 in
theorem arm_12 {p : Program} {e : Env} {s : State} {m : MethodId} {below : List Frame} {meth : Method} {c : Code} (l : Launch) (htr : l.stackTraces = false) {b : Nat} {xs : Nat → Int32} {A : Nat → Prop} (dC : Nat → ClassId) (dI : Nat → Nat → Nat) (out : Nat) (mo : Nat) (x : Nat) (g : Nat) (an : Nat) (tr : Nat) (w : Nat) (an_sequences : Nat) (w_given : Nat) (w_values : Nat) (w_knownBits : Nat) (w_instructionsDone : Nat) (m_attributes : Nat) (m_inherits : Nat) (m_positions : Nat) (m_symbolAt : Nat) (m_form : Nat) (m_ruleX : Nat) (m_ruleY : Nat) (m_uses : Nat) (m_leads : Nat) (m_symbolLeads : Nat) (m_order : Nat) (m_rank : Nat) (m_visits : Nat) (m_length : Nat) (m_sequence : Nat) (m_set : Nat) (m_visited : Nat) (m_production : Nat) (m_token : Nat) (m_child : Nat) (m_parent : Nat) (m_next : Nat) (m_known : Nat) (m_value : Nat) (m_given : Nat) {H : Heap} {locs : List Loc} {ls : Array Slot} (h0 : ¬ xs 1 < 0) (h4 : xs 1 ≤ 500) (hAt : lw_At p s m meth c b 6 xs) (hst : vq_st s) (hA : ∀ q : Nat, s.heap.size ≤ q → A q) (hA2 : ∀ q : Nat, A q → s.heap.size ≤ q) (hbA : ¬ A b) (hK : va_K (dC, dI) CL [] s) (hP : va_P (dC, dI) CL [(x, .inr (0, [.ref g, .ref an, .ref tr, .ref w])), (w, .inr (7, [.ref g, .ref an_sequences, .ref tr, .ref w_given, .ref w_values, .ref w_knownBits, .ref w_instructionsDone, .int 0, .int 0, .int 0])), (mo, .inr (8, [.int 0, .int 0, .ref m_attributes, .ref m_inherits, .int 0, .ref m_positions, .ref m_symbolAt, .ref m_form, .ref m_ruleX, .ref m_ruleY, .int 0, .int 0, .int (-1), .int (-1), .ref m_uses, .ref m_leads, .ref m_symbolLeads, .ref m_order, .ref m_rank, .ref m_visits, .ref m_length, .ref m_sequence, .ref m_set, .ref m_visited, .int 0, .ref m_production, .ref m_token, .ref m_child, .ref m_parent, .ref m_next, .ref m_known, .ref m_value, .ref m_given, .int (-1), .int (-1)]))] H) (hD : va_D A [(x, .inr (0, [.ref g, .ref an, .ref tr, .ref w])), (w, .inr (7, [.ref g, .ref an_sequences, .ref tr, .ref w_given, .ref w_values, .ref w_knownBits, .ref w_instructionsDone, .int 0, .int 0, .int 0])), (mo, .inr (8, [.int 0, .int 0, .ref m_attributes, .ref m_inherits, .int 0, .ref m_positions, .ref m_symbolAt, .ref m_form, .ref m_ruleX, .ref m_ruleY, .int 0, .int 0, .int (-1), .int (-1), .ref m_uses, .ref m_leads, .ref m_symbolLeads, .ref m_order, .ref m_rank, .ref m_visits, .ref m_length, .ref m_sequence, .ref m_set, .ref m_visited, .int 0, .ref m_production, .ref m_token, .ref m_child, .ref m_parent, .ref m_next, .ref m_known, .ref m_value, .ref m_given, .int (-1), .int (-1)]))]) (hS : va_S A s.heap H locs) (hl : lv_has ls 7 [(4, .int 0), (3, .ref out), (2, .ref mo), (1, .ref x), (0, .ref b)]) : W p l e room_1 s m #[Value.ref b] below meth c H locs 62 9096 (lw_Z below #[Value.ref b] s) (F0 m 828 ls []) := by
  obtain ⟨hx, hb, hr, hml, hown, hts0, hX, hbl, hlocks, -⟩ := hAt
  have hts : ∀ w ∈ WS, w.before #[Value.ref b] s = true := fun w hw => hts0 w (WS_tbl w hw)
  have hN : ∀ q : Nat, A q → ∀ cell : Cell, s.heap[q]? = some cell → cell.vm.isStatics = false := fun q hq cell hc => absurd (Array.getElem?_eq_some_iff.mp hc).1 (Nat.not_lt.mpr (hA2 q hq))
  refine lv_aload_n hx hb d_L_law_828 rfl (lv_at hl 3 rfl) ?_
  refine lv_aload_n hx hb d_L_law_829 rfl (lv_at hl 4 rfl) ?_
  refine lv_iload hx hb d_L_law_830 (lv_at hl 0 rfl) ?_
  refine lv_iconst (v := 1) hx hb d_L_law_832 (by decide) ?_
  refine lv_iadd hx hb d_L_law_833 ?_
  refine vq_top (y := 1) (by decide) ?_
  refine va_sld (i := 1) hx hb hX hbl hbA hS (show ¬ ((1 : Int32) < 0 ∨ 6 ≤ Int32.toNatClampNeg 1) by decide) d_L_law_834 ?_
  refine vq_top (y := xs 1) rfl ?_
  refine lv_aload_n hx hb d_L_law_835 rfl (lv_at hl 1 rfl) ?_
  have hPc := hP.sub (ws' := [(x, .inr (0, [.ref g, .ref an, .ref tr, .ref w])), (w, .inr (7, [.ref g, .ref an_sequences, .ref tr, .ref w_given, .ref w_values, .ref w_knownBits, .ref w_instructionsDone, .int 0, .int 0, .int 0]))]) [0, 1] rfl
  have hDc := hD.sub (ws' := [(x, .inr (0, [.ref g, .ref an, .ref tr, .ref w])), (w, .inr (7, [.ref g, .ref an_sequences, .ref tr, .ref w_given, .ref w_values, .ref w_knownBits, .ref w_instructionsDone, .int 0, .int 0, .int 0]))]) [0, 1] (by decide) rfl
  have hKc := hK.sub (tys' := []) [] rfl
  have hFc := va_free (wc := [(x, .inr (0, [.ref g, .ref an, .ref tr, .ref w])), (w, .inr (7, [.ref g, .ref an_sequences, .ref tr, .ref w_given, .ref w_values, .ref w_knownBits, .ref w_instructionsDone, .int 0, .int 0, .int 0]))]) hD hS hA [0, 1] rfl
  refine va_calli (vq_runSH (n := 3) (As := [.ref x, .int (xs 1), .ref out]) (rest := []) ⟨hx, hb, hml, hown, hts⟩ (w_run l htr dC dI x (xs 1) out g an tr w an_sequences w_given w_values w_knownBits w_instructionsDone H.size h0 h4) WSk rfl rfl ⟨by decide, by decide⟩ k_335 k_347 k_407 k_408 (by decide +kernel) ⟨vq_blind, vq_here hst hS hN hPc hKc hDc⟩ rfl rfl hl.1 rfl (lv_room (Nat.le_of_ble_eq_true rfl)) d_L_law_836 ⟨by decide, by decide⟩) hS (fun q _ h => hFc q h) hFc (fun r1 u t H1 locs ht hvm hw hB hz1 hk1 hS => ?_)
  obtain ⟨hP1, hK1, hD1⟩ := hB
  rw [ht] at hP1
  have hK1 := va_K.moved hvm.symm hK1
  have hw : r1 = 2 := hw
  subst hw
  obtain ⟨hP, hD⟩ := va_join (wr := [(mo, .inr (8, [.int 0, .int 0, .ref m_attributes, .ref m_inherits, .int 0, .ref m_positions, .ref m_symbolAt, .ref m_form, .ref m_ruleX, .ref m_ruleY, .int 0, .int 0, .int (-1), .int (-1), .ref m_uses, .ref m_leads, .ref m_symbolLeads, .ref m_order, .ref m_rank, .ref m_visits, .ref m_length, .ref m_sequence, .ref m_set, .ref m_visited, .int 0, .ref m_production, .ref m_token, .ref m_child, .ref m_parent, .ref m_next, .ref m_known, .ref m_value, .ref m_given, .int (-1), .int (-1)]))]) (w1 := []) hP hD [0, 1] [2] rfl rfl (by decide) (by decide) hk1 hFc hP1 hD1
  have hK := (hK.sub (tys' := []) [] rfl).app hK1
  generalize H1 = H at hP hS ⊢
  have hP : va_P (dC, dI) CL [(mo, .inr (8, [.int 0, .int 0, .ref m_attributes, .ref m_inherits, .int 0, .ref m_positions, .ref m_symbolAt, .ref m_form, .ref m_ruleX, .ref m_ruleY, .int 0, .int 0, .int (-1), .int (-1), .ref m_uses, .ref m_leads, .ref m_symbolLeads, .ref m_order, .ref m_rank, .ref m_visits, .ref m_length, .ref m_sequence, .ref m_set, .ref m_visited, .int 0, .ref m_production, .ref m_token, .ref m_child, .ref m_parent, .ref m_next, .ref m_known, .ref m_value, .ref m_given, .int (-1), .int (-1)]))] H := hP
  have hD : va_D A [(mo, .inr (8, [.int 0, .int 0, .ref m_attributes, .ref m_inherits, .int 0, .ref m_positions, .ref m_symbolAt, .ref m_form, .ref m_ruleX, .ref m_ruleY, .int 0, .int 0, .int (-1), .int (-1), .ref m_uses, .ref m_leads, .ref m_symbolLeads, .ref m_order, .ref m_rank, .ref m_visits, .ref m_length, .ref m_sequence, .ref m_set, .ref m_visited, .int 0, .ref m_production, .ref m_token, .ref m_child, .ref m_parent, .ref m_next, .ref m_known, .ref m_value, .ref m_given, .int (-1), .int (-1)]))] := hD
  have hK : va_K (dC, dI) CL [] s := hK
  refine W.widen (k := 63) (n := 9102) (by decide) (by decide) ?_
  refine lv_istore (lv' := [(5, .int 2), (4, .int 0), (3, .ref out), (2, .ref mo), (1, .ref x), (0, .ref b)]) hx hb d_L_law_839 hl (by decide) rfl (fun ls hl => ?_)
  refine lv_aload_n hx hb d_L_law_841 rfl (lv_at hl 3 rfl) ?_
  refine lv_aload_n hx hb d_L_law_842 rfl (lv_at hl 5 rfl) ?_
  refine lv_iload hx hb d_L_law_843 (lv_at hl 1 rfl) ?_
  refine lv_iconst (v := 1) hx hb d_L_law_845 (by decide) ?_
  refine lv_iadd hx hb d_L_law_846 ?_
  refine vq_top (y := 1) (by decide) ?_
  refine va_sld (i := 1) hx hb hX hbl hbA hS (show ¬ ((1 : Int32) < 0 ∨ 6 ≤ Int32.toNatClampNeg 1) by decide) d_L_law_847 ?_
  refine vq_top (y := xs 1) rfl ?_
  have hPc := hP.sub (ws' := [(mo, .inr (8, [.int 0, .int 0, .ref m_attributes, .ref m_inherits, .int 0, .ref m_positions, .ref m_symbolAt, .ref m_form, .ref m_ruleX, .ref m_ruleY, .int 0, .int 0, .int (-1), .int (-1), .ref m_uses, .ref m_leads, .ref m_symbolLeads, .ref m_order, .ref m_rank, .ref m_visits, .ref m_length, .ref m_sequence, .ref m_set, .ref m_visited, .int 0, .ref m_production, .ref m_token, .ref m_child, .ref m_parent, .ref m_next, .ref m_known, .ref m_value, .ref m_given, .int (-1), .int (-1)]))]) [0] rfl
  have hDc := hD.sub (ws' := [(mo, .inr (8, [.int 0, .int 0, .ref m_attributes, .ref m_inherits, .int 0, .ref m_positions, .ref m_symbolAt, .ref m_form, .ref m_ruleX, .ref m_ruleY, .int 0, .int 0, .int (-1), .int (-1), .ref m_uses, .ref m_leads, .ref m_symbolLeads, .ref m_order, .ref m_rank, .ref m_visits, .ref m_length, .ref m_sequence, .ref m_set, .ref m_visited, .int 0, .ref m_production, .ref m_token, .ref m_child, .ref m_parent, .ref m_next, .ref m_known, .ref m_value, .ref m_given, .int (-1), .int (-1)]))]) [0] (by decide) rfl
  have hKc := hK.sub (tys' := []) [] rfl
  have hFc := va_free (wc := [(mo, .inr (8, [.int 0, .int 0, .ref m_attributes, .ref m_inherits, .int 0, .ref m_positions, .ref m_symbolAt, .ref m_form, .ref m_ruleX, .ref m_ruleY, .int 0, .int 0, .int (-1), .int (-1), .ref m_uses, .ref m_leads, .ref m_symbolLeads, .ref m_order, .ref m_rank, .ref m_visits, .ref m_length, .ref m_sequence, .ref m_set, .ref m_visited, .int 0, .ref m_production, .ref m_token, .ref m_child, .ref m_parent, .ref m_next, .ref m_known, .ref m_value, .ref m_given, .int (-1), .int (-1)]))]) hD hS hA [0] rfl
  refine va_calli (va_runV (As := [.int (xs 1)]) (rest := []) ⟨hx, hb, hml, hown, hts⟩ (c_M_run l htr dC dI mo (xs 1) m_attributes m_inherits m_positions m_symbolAt m_form m_ruleX m_ruleY m_uses m_leads m_symbolLeads m_order m_rank m_visits m_length m_sequence m_set m_visited m_production m_token m_child m_parent m_next m_known m_value m_given H.size h0 h4) (vq_cV WSk hts 1 rfl rfl ⟨by decide, by decide⟩ k_281 k_235 k_409 k_410 k_411 (by decide +kernel)) ⟨vq_blind, va_recv hK hP (ci := 8) (q0 := 0) rfl rfl, vq_here hst hS hN hPc hKc hDc⟩ rfl rfl hl.1 rfl (lv_room (Nat.le_of_ble_eq_true rfl)) d_L_law_848 ⟨by decide, by decide⟩) hS (fun q _ h => hFc q h) hFc (fun r2 u t H1 locs ht hvm hw hB hz1 hk1 hS => ?_)
  obtain ⟨hP1, hK1, hD1⟩ := hB
  rw [ht] at hP1
  have hK1 := va_K.moved hvm.symm hK1
  have hw : r2 = 0 := hw
  subst hw
  obtain ⟨hP, hD⟩ := va_join (wr := []) (w1 := [(mo, .inr (8, [.int 2, .int 0, .ref m_attributes, .ref m_inherits, .int 0, .ref m_positions, .ref m_symbolAt, .ref m_form, .ref m_ruleX, .ref m_ruleY, .int 0, .int 0, .int (-1), .int (-1), .ref m_uses, .ref m_leads, .ref m_symbolLeads, .ref m_order, .ref m_rank, .ref m_visits, .ref m_length, .ref m_sequence, .ref m_set, .ref m_visited, .int 0, .ref m_production, .ref m_token, .ref m_child, .ref m_parent, .ref m_next, .ref m_known, .ref m_value, .ref m_given, .int (-1), .int (-1)]))]) hP hD [0] [] rfl rfl (by decide) (by decide) hk1 hFc hP1 hD1
  have hK := (hK.sub (tys' := []) [] rfl).app hK1
  generalize H1 = H at hP hS ⊢
  have hP : va_P (dC, dI) CL [(mo, .inr (8, [.int 2, .int 0, .ref m_attributes, .ref m_inherits, .int 0, .ref m_positions, .ref m_symbolAt, .ref m_form, .ref m_ruleX, .ref m_ruleY, .int 0, .int 0, .int (-1), .int (-1), .ref m_uses, .ref m_leads, .ref m_symbolLeads, .ref m_order, .ref m_rank, .ref m_visits, .ref m_length, .ref m_sequence, .ref m_set, .ref m_visited, .int 0, .ref m_production, .ref m_token, .ref m_child, .ref m_parent, .ref m_next, .ref m_known, .ref m_value, .ref m_given, .int (-1), .int (-1)]))] H := hP
  have hD : va_D A [(mo, .inr (8, [.int 2, .int 0, .ref m_attributes, .ref m_inherits, .int 0, .ref m_positions, .ref m_symbolAt, .ref m_form, .ref m_ruleX, .ref m_ruleY, .int 0, .int 0, .int (-1), .int (-1), .ref m_uses, .ref m_leads, .ref m_symbolLeads, .ref m_order, .ref m_rank, .ref m_visits, .ref m_length, .ref m_sequence, .ref m_set, .ref m_visited, .int 0, .ref m_production, .ref m_token, .ref m_child, .ref m_parent, .ref m_next, .ref m_known, .ref m_value, .ref m_given, .int (-1), .int (-1)]))] := hD
  have hK : va_K (dC, dI) CL [] s := hK
  refine W.widen (k := 63) (n := 9102) (by decide) (by decide) ?_
  refine lv_istore (lv' := [(6, .int 0), (5, .int 2), (4, .int 0), (3, .ref out), (2, .ref mo), (1, .ref x), (0, .ref b)]) hx hb d_L_law_851 hl (by decide) rfl (fun ls hl => ?_)
  refine lv_aload_n hx hb d_L_law_853 rfl (lv_at hl 4 rfl) ?_
  have hPc := hP.sub (ws' := [(mo, .inr (8, [.int 2, .int 0, .ref m_attributes, .ref m_inherits, .int 0, .ref m_positions, .ref m_symbolAt, .ref m_form, .ref m_ruleX, .ref m_ruleY, .int 0, .int 0, .int (-1), .int (-1), .ref m_uses, .ref m_leads, .ref m_symbolLeads, .ref m_order, .ref m_rank, .ref m_visits, .ref m_length, .ref m_sequence, .ref m_set, .ref m_visited, .int 0, .ref m_production, .ref m_token, .ref m_child, .ref m_parent, .ref m_next, .ref m_known, .ref m_value, .ref m_given, .int (-1), .int (-1)]))]) [0] rfl
  have hDc := hD.sub (ws' := [(mo, .inr (8, [.int 2, .int 0, .ref m_attributes, .ref m_inherits, .int 0, .ref m_positions, .ref m_symbolAt, .ref m_form, .ref m_ruleX, .ref m_ruleY, .int 0, .int 0, .int (-1), .int (-1), .ref m_uses, .ref m_leads, .ref m_symbolLeads, .ref m_order, .ref m_rank, .ref m_visits, .ref m_length, .ref m_sequence, .ref m_set, .ref m_visited, .int 0, .ref m_production, .ref m_token, .ref m_child, .ref m_parent, .ref m_next, .ref m_known, .ref m_value, .ref m_given, .int (-1), .int (-1)]))]) [0] (by decide) rfl
  have hKc := hK.sub (tys' := []) [] rfl
  have hFc := va_free (wc := [(mo, .inr (8, [.int 2, .int 0, .ref m_attributes, .ref m_inherits, .int 0, .ref m_positions, .ref m_symbolAt, .ref m_form, .ref m_ruleX, .ref m_ruleY, .int 0, .int 0, .int (-1), .int (-1), .ref m_uses, .ref m_leads, .ref m_symbolLeads, .ref m_order, .ref m_rank, .ref m_visits, .ref m_length, .ref m_sequence, .ref m_set, .ref m_visited, .int 0, .ref m_production, .ref m_token, .ref m_child, .ref m_parent, .ref m_next, .ref m_known, .ref m_value, .ref m_given, .int (-1), .int (-1)]))]) hD hS hA [0] rfl
  refine va_calli (va_runV (As := []) (rest := []) ⟨hx, hb, hml, hown, hts⟩ (c_M_thrown l htr dC dI mo 2 0 m_attributes m_inherits 0 m_positions m_symbolAt m_form m_ruleX m_ruleY 0 0 (-1) (-1) m_uses m_leads m_symbolLeads m_order m_rank m_visits m_length m_sequence m_set m_visited 0 m_production m_token m_child m_parent m_next m_known m_value m_given (-1) (-1) H.size) (vq_cV WSk hts 0 rfl rfl ⟨by decide, by decide⟩ k_239 k_235 k_353 k_354 k_355 (by decide +kernel)) ⟨vq_blind, va_recv hK hP (ci := 8) (q0 := 0) rfl rfl, vq_here hst hS hN hPc hKc hDc⟩ rfl rfl hl.1 rfl (lv_room (Nat.le_of_ble_eq_true rfl)) d_L_law_854 ⟨by decide, by decide⟩) hS (fun q _ h => hFc q h) hFc (fun r3 u t H1 locs ht hvm hw hB hz1 hk1 hS => ?_)
  obtain ⟨hP1, hK1, hD1⟩ := hB
  rw [ht] at hP1
  have hK1 := va_K.moved hvm.symm hK1
  have hw : r3 = 2 := hw
  subst hw
  obtain ⟨hP, hD⟩ := va_join (wr := []) (w1 := [(mo, .inr (8, [.int 2, .int 0, .ref m_attributes, .ref m_inherits, .int 0, .ref m_positions, .ref m_symbolAt, .ref m_form, .ref m_ruleX, .ref m_ruleY, .int 0, .int 0, .int (-1), .int (-1), .ref m_uses, .ref m_leads, .ref m_symbolLeads, .ref m_order, .ref m_rank, .ref m_visits, .ref m_length, .ref m_sequence, .ref m_set, .ref m_visited, .int 0, .ref m_production, .ref m_token, .ref m_child, .ref m_parent, .ref m_next, .ref m_known, .ref m_value, .ref m_given, .int (-1), .int (-1)]))]) hP hD [0] [] rfl rfl (by decide) (by decide) hk1 hFc hP1 hD1
  have hK := (hK.sub (tys' := []) [] rfl).app hK1
  generalize H1 = H at hP hS ⊢
  have hP : va_P (dC, dI) CL [(mo, .inr (8, [.int 2, .int 0, .ref m_attributes, .ref m_inherits, .int 0, .ref m_positions, .ref m_symbolAt, .ref m_form, .ref m_ruleX, .ref m_ruleY, .int 0, .int 0, .int (-1), .int (-1), .ref m_uses, .ref m_leads, .ref m_symbolLeads, .ref m_order, .ref m_rank, .ref m_visits, .ref m_length, .ref m_sequence, .ref m_set, .ref m_visited, .int 0, .ref m_production, .ref m_token, .ref m_child, .ref m_parent, .ref m_next, .ref m_known, .ref m_value, .ref m_given, .int (-1), .int (-1)]))] H := hP
  have hD : va_D A [(mo, .inr (8, [.int 2, .int 0, .ref m_attributes, .ref m_inherits, .int 0, .ref m_positions, .ref m_symbolAt, .ref m_form, .ref m_ruleX, .ref m_ruleY, .int 0, .int 0, .int (-1), .int (-1), .ref m_uses, .ref m_leads, .ref m_symbolLeads, .ref m_order, .ref m_rank, .ref m_visits, .ref m_length, .ref m_sequence, .ref m_set, .ref m_visited, .int 0, .ref m_production, .ref m_token, .ref m_child, .ref m_parent, .ref m_next, .ref m_known, .ref m_value, .ref m_given, .int (-1), .int (-1)]))] := hD
  have hK : va_K (dC, dI) CL [] s := hK
  refine W.widen (k := 63) (n := 9102) (by decide) (by decide) ?_
  refine lv_iload hx hb d_L_law_857 (lv_at hl 1 rfl) ?_
  refine lv_icmp_eq (tgt := 864) hx hb d_L_law_859 (by decide) (fun _ => ?_) (fun h9 => absurd (by decide) h9)
  refine lv_iload hx hb d_L_law_864 (lv_at hl 1 rfl) ?_
  refine lv_if_ne (tgt := 881) hx hb d_L_law_866 (by decide) (fun _ => ?_) (fun h9 => absurd h9 (by decide))
  refine lv_goto (tgt := 1053) hx hb d_L_law_881 (by decide) ?_
  refine lv_iinc (k := 2) (v := 6) (lv' := [(4, .int 6), (6, .int 0), (5, .int 2), (3, .ref out), (2, .ref mo), (1, .ref x), (0, .ref b)]) hx hb d_L_law_1053 hl rfl (by decide) (by decide) rfl (fun ls hl => ?_)
  refine lv_goto (tgt := 23) hx hb d_L_law_1056 (by decide) ?_
  refine lv_iload hx hb d_L_law_23 (lv_at hl 0 rfl) ?_
  refine lv_aload_n hx hb d_L_law_25 rfl (lv_at hl 6 rfl) ?_
  refine va_slen hx hb hX hbl hbA hS d_L_law_26 ?_
  refine vq_top (y := 6) (by decide) ?_
  refine lv_bipush (v := 6) hx hb d_L_law_27 (by decide) ?_
  refine lv_isub hx hb d_L_law_29 ?_
  refine vq_top (y := 0) (by decide) ?_
  refine lv_icmp_gt (tgt := 1059) hx hb d_L_law_30 (by decide) (fun _ => ?_) (fun h9 => absurd (by decide) h9)
  refine lv_iconst (v := 1) hx hb d_L_law_1059 (by decide) ?_
  refine va_forget (fun q hq => hA2 _ (hS.2.2 q hq)) ?_
  refine W.widen (k := 85) (n := 9238) (by decide) (by decide) ?_
  exact lw_ret hx hb hr hlocks d_L_law_1060

set_option maxHeartbeats 4000000 in
set_option maxRecDepth 100000 in
theorem arm_12L {p : Program} {e : Env} {s : State} {m : MethodId} {below : List Frame} {meth : Method} {c : Code} (l : Launch) (htr : l.stackTraces = false) {b : Nat} {xs : Nat → Int32} {A : Nat → Prop} (dC : Nat → ClassId) (dI : Nat → Nat → Nat) (out : Nat) (mo : Nat) (x : Nat) (g : Nat) (an : Nat) (tr : Nat) (w : Nat) (m_attributes : Nat) (m_inherits : Nat) (m_positions : Nat) (m_symbolAt : Nat) (m_form : Nat) (m_ruleX : Nat) (m_ruleY : Nat) (m_uses : Nat) (m_leads : Nat) (m_symbolLeads : Nat) (m_order : Nat) (m_rank : Nat) (m_visits : Nat) (m_length : Nat) (m_sequence : Nat) (m_set : Nat) (m_visited : Nat) (m_production : Nat) (m_token : Nat) (m_child : Nat) (m_parent : Nat) (m_next : Nat) (m_known : Nat) (m_value : Nat) (m_given : Nat) {H : Heap} {locs : List Loc} {ls : Array Slot} (h0 : xs 1 < 0) (hAt : lw_At p s m meth c b 6 xs) (hst : vq_st s) (hA : ∀ q : Nat, s.heap.size ≤ q → A q) (hA2 : ∀ q : Nat, A q → s.heap.size ≤ q) (hbA : ¬ A b) (hK : va_K (dC, dI) CL [] s) (hP : va_P (dC, dI) CL [(x, .inr (0, [.ref g, .ref an, .ref tr, .ref w])), (mo, .inr (8, [.int 0, .int 0, .ref m_attributes, .ref m_inherits, .int 0, .ref m_positions, .ref m_symbolAt, .ref m_form, .ref m_ruleX, .ref m_ruleY, .int 0, .int 0, .int (-1), .int (-1), .ref m_uses, .ref m_leads, .ref m_symbolLeads, .ref m_order, .ref m_rank, .ref m_visits, .ref m_length, .ref m_sequence, .ref m_set, .ref m_visited, .int 0, .ref m_production, .ref m_token, .ref m_child, .ref m_parent, .ref m_next, .ref m_known, .ref m_value, .ref m_given, .int (-1), .int (-1)]))] H) (hD : va_D A [(x, .inr (0, [.ref g, .ref an, .ref tr, .ref w])), (mo, .inr (8, [.int 0, .int 0, .ref m_attributes, .ref m_inherits, .int 0, .ref m_positions, .ref m_symbolAt, .ref m_form, .ref m_ruleX, .ref m_ruleY, .int 0, .int 0, .int (-1), .int (-1), .ref m_uses, .ref m_leads, .ref m_symbolLeads, .ref m_order, .ref m_rank, .ref m_visits, .ref m_length, .ref m_sequence, .ref m_set, .ref m_visited, .int 0, .ref m_production, .ref m_token, .ref m_child, .ref m_parent, .ref m_next, .ref m_known, .ref m_value, .ref m_given, .int (-1), .int (-1)]))]) (hS : va_S A s.heap H locs) (hl : lv_has ls 7 [(4, .int 0), (3, .ref out), (2, .ref mo), (1, .ref x), (0, .ref b)]) : W p l e room_1 s m #[Value.ref b] below meth c H locs 62 9096 (lw_Z below #[Value.ref b] s) (F0 m 828 ls []) := by
  obtain ⟨hx, hb, hr, hml, hown, hts0, hX, hbl, hlocks, -⟩ := hAt
  have hts : ∀ w ∈ WS, w.before #[Value.ref b] s = true := fun w hw => hts0 w (WS_tbl w hw)
  have hN : ∀ q : Nat, A q → ∀ cell : Cell, s.heap[q]? = some cell → cell.vm.isStatics = false := fun q hq cell hc => absurd (Array.getElem?_eq_some_iff.mp hc).1 (Nat.not_lt.mpr (hA2 q hq))
  refine lv_aload_n hx hb d_L_law_828 rfl (lv_at hl 3 rfl) ?_
  refine lv_aload_n hx hb d_L_law_829 rfl (lv_at hl 4 rfl) ?_
  refine lv_iload hx hb d_L_law_830 (lv_at hl 0 rfl) ?_
  refine lv_iconst (v := 1) hx hb d_L_law_832 (by decide) ?_
  refine lv_iadd hx hb d_L_law_833 ?_
  refine vq_top (y := 1) (by decide) ?_
  refine va_sld (i := 1) hx hb hX hbl hbA hS (show ¬ ((1 : Int32) < 0 ∨ 6 ≤ Int32.toNatClampNeg 1) by decide) d_L_law_834 ?_
  refine vq_top (y := xs 1) rfl ?_
  refine lv_aload_n hx hb d_L_law_835 rfl (lv_at hl 1 rfl) ?_
  have hPc := hP.sub (ws' := [(x, .inr (0, [.ref g, .ref an, .ref tr, .ref w]))]) [0] rfl
  have hDc := hD.sub (ws' := [(x, .inr (0, [.ref g, .ref an, .ref tr, .ref w]))]) [0] (by decide) rfl
  have hKc := hK.sub (tys' := []) [] rfl
  have hFc := va_free (wc := [(x, .inr (0, [.ref g, .ref an, .ref tr, .ref w]))]) hD hS hA [0] rfl
  refine va_calli (vq_runSH (n := 3) (As := [.ref x, .int (xs 1), .ref out]) (rest := []) ⟨hx, hb, hml, hown, hts⟩ (w_runL l htr dC dI x (xs 1) out g an tr w H.size h0) WSk rfl rfl ⟨by decide, by decide⟩ k_335 k_347 k_407 k_408 (by decide +kernel) ⟨vq_blind, vq_here hst hS hN hPc hKc hDc⟩ rfl rfl hl.1 rfl (lv_room (Nat.le_of_ble_eq_true rfl)) d_L_law_836 ⟨by decide, by decide⟩) hS (fun q _ h => hFc q h) hFc (fun r1 u t H1 locs ht hvm hw hB hz1 hk1 hS => ?_)
  obtain ⟨hP1, hK1, hD1⟩ := hB
  rw [ht] at hP1
  have hK1 := va_K.moved hvm.symm hK1
  have hw : r1 = 1 := hw
  subst hw
  obtain ⟨hP, hD⟩ := va_join (wr := [(mo, .inr (8, [.int 0, .int 0, .ref m_attributes, .ref m_inherits, .int 0, .ref m_positions, .ref m_symbolAt, .ref m_form, .ref m_ruleX, .ref m_ruleY, .int 0, .int 0, .int (-1), .int (-1), .ref m_uses, .ref m_leads, .ref m_symbolLeads, .ref m_order, .ref m_rank, .ref m_visits, .ref m_length, .ref m_sequence, .ref m_set, .ref m_visited, .int 0, .ref m_production, .ref m_token, .ref m_child, .ref m_parent, .ref m_next, .ref m_known, .ref m_value, .ref m_given, .int (-1), .int (-1)]))]) (w1 := []) hP hD [0] [1] rfl rfl (by decide) (by decide) hk1 hFc hP1 hD1
  have hK := (hK.sub (tys' := []) [] rfl).app hK1
  generalize H1 = H at hP hS ⊢
  have hP : va_P (dC, dI) CL [(mo, .inr (8, [.int 0, .int 0, .ref m_attributes, .ref m_inherits, .int 0, .ref m_positions, .ref m_symbolAt, .ref m_form, .ref m_ruleX, .ref m_ruleY, .int 0, .int 0, .int (-1), .int (-1), .ref m_uses, .ref m_leads, .ref m_symbolLeads, .ref m_order, .ref m_rank, .ref m_visits, .ref m_length, .ref m_sequence, .ref m_set, .ref m_visited, .int 0, .ref m_production, .ref m_token, .ref m_child, .ref m_parent, .ref m_next, .ref m_known, .ref m_value, .ref m_given, .int (-1), .int (-1)]))] H := hP
  have hD : va_D A [(mo, .inr (8, [.int 0, .int 0, .ref m_attributes, .ref m_inherits, .int 0, .ref m_positions, .ref m_symbolAt, .ref m_form, .ref m_ruleX, .ref m_ruleY, .int 0, .int 0, .int (-1), .int (-1), .ref m_uses, .ref m_leads, .ref m_symbolLeads, .ref m_order, .ref m_rank, .ref m_visits, .ref m_length, .ref m_sequence, .ref m_set, .ref m_visited, .int 0, .ref m_production, .ref m_token, .ref m_child, .ref m_parent, .ref m_next, .ref m_known, .ref m_value, .ref m_given, .int (-1), .int (-1)]))] := hD
  have hK : va_K (dC, dI) CL [] s := hK
  refine W.widen (k := 63) (n := 9102) (by decide) (by decide) ?_
  refine lv_istore (lv' := [(5, .int 1), (4, .int 0), (3, .ref out), (2, .ref mo), (1, .ref x), (0, .ref b)]) hx hb d_L_law_839 hl (by decide) rfl (fun ls hl => ?_)
  refine lv_aload_n hx hb d_L_law_841 rfl (lv_at hl 3 rfl) ?_
  refine lv_aload_n hx hb d_L_law_842 rfl (lv_at hl 5 rfl) ?_
  refine lv_iload hx hb d_L_law_843 (lv_at hl 1 rfl) ?_
  refine lv_iconst (v := 1) hx hb d_L_law_845 (by decide) ?_
  refine lv_iadd hx hb d_L_law_846 ?_
  refine vq_top (y := 1) (by decide) ?_
  refine va_sld (i := 1) hx hb hX hbl hbA hS (show ¬ ((1 : Int32) < 0 ∨ 6 ≤ Int32.toNatClampNeg 1) by decide) d_L_law_847 ?_
  refine vq_top (y := xs 1) rfl ?_
  have hPc := hP.sub (ws' := [(mo, .inr (8, [.int 0, .int 0, .ref m_attributes, .ref m_inherits, .int 0, .ref m_positions, .ref m_symbolAt, .ref m_form, .ref m_ruleX, .ref m_ruleY, .int 0, .int 0, .int (-1), .int (-1), .ref m_uses, .ref m_leads, .ref m_symbolLeads, .ref m_order, .ref m_rank, .ref m_visits, .ref m_length, .ref m_sequence, .ref m_set, .ref m_visited, .int 0, .ref m_production, .ref m_token, .ref m_child, .ref m_parent, .ref m_next, .ref m_known, .ref m_value, .ref m_given, .int (-1), .int (-1)]))]) [0] rfl
  have hDc := hD.sub (ws' := [(mo, .inr (8, [.int 0, .int 0, .ref m_attributes, .ref m_inherits, .int 0, .ref m_positions, .ref m_symbolAt, .ref m_form, .ref m_ruleX, .ref m_ruleY, .int 0, .int 0, .int (-1), .int (-1), .ref m_uses, .ref m_leads, .ref m_symbolLeads, .ref m_order, .ref m_rank, .ref m_visits, .ref m_length, .ref m_sequence, .ref m_set, .ref m_visited, .int 0, .ref m_production, .ref m_token, .ref m_child, .ref m_parent, .ref m_next, .ref m_known, .ref m_value, .ref m_given, .int (-1), .int (-1)]))]) [0] (by decide) rfl
  have hKc := hK.sub (tys' := []) [] rfl
  have hFc := va_free (wc := [(mo, .inr (8, [.int 0, .int 0, .ref m_attributes, .ref m_inherits, .int 0, .ref m_positions, .ref m_symbolAt, .ref m_form, .ref m_ruleX, .ref m_ruleY, .int 0, .int 0, .int (-1), .int (-1), .ref m_uses, .ref m_leads, .ref m_symbolLeads, .ref m_order, .ref m_rank, .ref m_visits, .ref m_length, .ref m_sequence, .ref m_set, .ref m_visited, .int 0, .ref m_production, .ref m_token, .ref m_child, .ref m_parent, .ref m_next, .ref m_known, .ref m_value, .ref m_given, .int (-1), .int (-1)]))]) hD hS hA [0] rfl
  refine va_calli (va_runV (As := [.int (xs 1)]) (rest := []) ⟨hx, hb, hml, hown, hts⟩ (c_M_runL l htr dC dI mo (xs 1) m_attributes m_inherits m_positions m_symbolAt m_form m_ruleX m_ruleY m_uses m_leads m_symbolLeads m_order m_rank m_visits m_length m_sequence m_set m_visited m_production m_token m_child m_parent m_next m_known m_value m_given H.size h0) (vq_cV WSk hts 1 rfl rfl ⟨by decide, by decide⟩ k_281 k_235 k_409 k_410 k_411 (by decide +kernel)) ⟨vq_blind, va_recv hK hP (ci := 8) (q0 := 0) rfl rfl, vq_here hst hS hN hPc hKc hDc⟩ rfl rfl hl.1 rfl (lv_room (Nat.le_of_ble_eq_true rfl)) d_L_law_848 ⟨by decide, by decide⟩) hS (fun q _ h => hFc q h) hFc (fun r2 u t H1 locs ht hvm hw hB hz1 hk1 hS => ?_)
  obtain ⟨hP1, hK1, hD1⟩ := hB
  rw [ht] at hP1
  have hK1 := va_K.moved hvm.symm hK1
  have hw : r2 = 0 := hw
  subst hw
  obtain ⟨hP, hD⟩ := va_join (wr := []) (w1 := [(mo, .inr (8, [.int 1, .int 0, .ref m_attributes, .ref m_inherits, .int 0, .ref m_positions, .ref m_symbolAt, .ref m_form, .ref m_ruleX, .ref m_ruleY, .int 0, .int 0, .int (-1), .int (-1), .ref m_uses, .ref m_leads, .ref m_symbolLeads, .ref m_order, .ref m_rank, .ref m_visits, .ref m_length, .ref m_sequence, .ref m_set, .ref m_visited, .int 0, .ref m_production, .ref m_token, .ref m_child, .ref m_parent, .ref m_next, .ref m_known, .ref m_value, .ref m_given, .int (-1), .int (-1)]))]) hP hD [0] [] rfl rfl (by decide) (by decide) hk1 hFc hP1 hD1
  have hK := (hK.sub (tys' := []) [] rfl).app hK1
  generalize H1 = H at hP hS ⊢
  have hP : va_P (dC, dI) CL [(mo, .inr (8, [.int 1, .int 0, .ref m_attributes, .ref m_inherits, .int 0, .ref m_positions, .ref m_symbolAt, .ref m_form, .ref m_ruleX, .ref m_ruleY, .int 0, .int 0, .int (-1), .int (-1), .ref m_uses, .ref m_leads, .ref m_symbolLeads, .ref m_order, .ref m_rank, .ref m_visits, .ref m_length, .ref m_sequence, .ref m_set, .ref m_visited, .int 0, .ref m_production, .ref m_token, .ref m_child, .ref m_parent, .ref m_next, .ref m_known, .ref m_value, .ref m_given, .int (-1), .int (-1)]))] H := hP
  have hD : va_D A [(mo, .inr (8, [.int 1, .int 0, .ref m_attributes, .ref m_inherits, .int 0, .ref m_positions, .ref m_symbolAt, .ref m_form, .ref m_ruleX, .ref m_ruleY, .int 0, .int 0, .int (-1), .int (-1), .ref m_uses, .ref m_leads, .ref m_symbolLeads, .ref m_order, .ref m_rank, .ref m_visits, .ref m_length, .ref m_sequence, .ref m_set, .ref m_visited, .int 0, .ref m_production, .ref m_token, .ref m_child, .ref m_parent, .ref m_next, .ref m_known, .ref m_value, .ref m_given, .int (-1), .int (-1)]))] := hD
  have hK : va_K (dC, dI) CL [] s := hK
  refine W.widen (k := 63) (n := 9102) (by decide) (by decide) ?_
  refine lv_istore (lv' := [(6, .int 0), (5, .int 1), (4, .int 0), (3, .ref out), (2, .ref mo), (1, .ref x), (0, .ref b)]) hx hb d_L_law_851 hl (by decide) rfl (fun ls hl => ?_)
  refine lv_aload_n hx hb d_L_law_853 rfl (lv_at hl 4 rfl) ?_
  have hPc := hP.sub (ws' := [(mo, .inr (8, [.int 1, .int 0, .ref m_attributes, .ref m_inherits, .int 0, .ref m_positions, .ref m_symbolAt, .ref m_form, .ref m_ruleX, .ref m_ruleY, .int 0, .int 0, .int (-1), .int (-1), .ref m_uses, .ref m_leads, .ref m_symbolLeads, .ref m_order, .ref m_rank, .ref m_visits, .ref m_length, .ref m_sequence, .ref m_set, .ref m_visited, .int 0, .ref m_production, .ref m_token, .ref m_child, .ref m_parent, .ref m_next, .ref m_known, .ref m_value, .ref m_given, .int (-1), .int (-1)]))]) [0] rfl
  have hDc := hD.sub (ws' := [(mo, .inr (8, [.int 1, .int 0, .ref m_attributes, .ref m_inherits, .int 0, .ref m_positions, .ref m_symbolAt, .ref m_form, .ref m_ruleX, .ref m_ruleY, .int 0, .int 0, .int (-1), .int (-1), .ref m_uses, .ref m_leads, .ref m_symbolLeads, .ref m_order, .ref m_rank, .ref m_visits, .ref m_length, .ref m_sequence, .ref m_set, .ref m_visited, .int 0, .ref m_production, .ref m_token, .ref m_child, .ref m_parent, .ref m_next, .ref m_known, .ref m_value, .ref m_given, .int (-1), .int (-1)]))]) [0] (by decide) rfl
  have hKc := hK.sub (tys' := []) [] rfl
  have hFc := va_free (wc := [(mo, .inr (8, [.int 1, .int 0, .ref m_attributes, .ref m_inherits, .int 0, .ref m_positions, .ref m_symbolAt, .ref m_form, .ref m_ruleX, .ref m_ruleY, .int 0, .int 0, .int (-1), .int (-1), .ref m_uses, .ref m_leads, .ref m_symbolLeads, .ref m_order, .ref m_rank, .ref m_visits, .ref m_length, .ref m_sequence, .ref m_set, .ref m_visited, .int 0, .ref m_production, .ref m_token, .ref m_child, .ref m_parent, .ref m_next, .ref m_known, .ref m_value, .ref m_given, .int (-1), .int (-1)]))]) hD hS hA [0] rfl
  refine va_calli (va_runV (As := []) (rest := []) ⟨hx, hb, hml, hown, hts⟩ (c_M_thrown l htr dC dI mo 1 0 m_attributes m_inherits 0 m_positions m_symbolAt m_form m_ruleX m_ruleY 0 0 (-1) (-1) m_uses m_leads m_symbolLeads m_order m_rank m_visits m_length m_sequence m_set m_visited 0 m_production m_token m_child m_parent m_next m_known m_value m_given (-1) (-1) H.size) (vq_cV WSk hts 0 rfl rfl ⟨by decide, by decide⟩ k_239 k_235 k_353 k_354 k_355 (by decide +kernel)) ⟨vq_blind, va_recv hK hP (ci := 8) (q0 := 0) rfl rfl, vq_here hst hS hN hPc hKc hDc⟩ rfl rfl hl.1 rfl (lv_room (Nat.le_of_ble_eq_true rfl)) d_L_law_854 ⟨by decide, by decide⟩) hS (fun q _ h => hFc q h) hFc (fun r3 u t H1 locs ht hvm hw hB hz1 hk1 hS => ?_)
  obtain ⟨hP1, hK1, hD1⟩ := hB
  rw [ht] at hP1
  have hK1 := va_K.moved hvm.symm hK1
  have hw : r3 = 1 := hw
  subst hw
  obtain ⟨hP, hD⟩ := va_join (wr := []) (w1 := [(mo, .inr (8, [.int 1, .int 0, .ref m_attributes, .ref m_inherits, .int 0, .ref m_positions, .ref m_symbolAt, .ref m_form, .ref m_ruleX, .ref m_ruleY, .int 0, .int 0, .int (-1), .int (-1), .ref m_uses, .ref m_leads, .ref m_symbolLeads, .ref m_order, .ref m_rank, .ref m_visits, .ref m_length, .ref m_sequence, .ref m_set, .ref m_visited, .int 0, .ref m_production, .ref m_token, .ref m_child, .ref m_parent, .ref m_next, .ref m_known, .ref m_value, .ref m_given, .int (-1), .int (-1)]))]) hP hD [0] [] rfl rfl (by decide) (by decide) hk1 hFc hP1 hD1
  have hK := (hK.sub (tys' := []) [] rfl).app hK1
  generalize H1 = H at hP hS ⊢
  have hP : va_P (dC, dI) CL [(mo, .inr (8, [.int 1, .int 0, .ref m_attributes, .ref m_inherits, .int 0, .ref m_positions, .ref m_symbolAt, .ref m_form, .ref m_ruleX, .ref m_ruleY, .int 0, .int 0, .int (-1), .int (-1), .ref m_uses, .ref m_leads, .ref m_symbolLeads, .ref m_order, .ref m_rank, .ref m_visits, .ref m_length, .ref m_sequence, .ref m_set, .ref m_visited, .int 0, .ref m_production, .ref m_token, .ref m_child, .ref m_parent, .ref m_next, .ref m_known, .ref m_value, .ref m_given, .int (-1), .int (-1)]))] H := hP
  have hD : va_D A [(mo, .inr (8, [.int 1, .int 0, .ref m_attributes, .ref m_inherits, .int 0, .ref m_positions, .ref m_symbolAt, .ref m_form, .ref m_ruleX, .ref m_ruleY, .int 0, .int 0, .int (-1), .int (-1), .ref m_uses, .ref m_leads, .ref m_symbolLeads, .ref m_order, .ref m_rank, .ref m_visits, .ref m_length, .ref m_sequence, .ref m_set, .ref m_visited, .int 0, .ref m_production, .ref m_token, .ref m_child, .ref m_parent, .ref m_next, .ref m_known, .ref m_value, .ref m_given, .int (-1), .int (-1)]))] := hD
  have hK : va_K (dC, dI) CL [] s := hK
  refine W.widen (k := 63) (n := 9102) (by decide) (by decide) ?_
  refine lv_iload hx hb d_L_law_857 (lv_at hl 1 rfl) ?_
  refine lv_icmp_eq (tgt := 864) hx hb d_L_law_859 (by decide) (fun _ => ?_) (fun h9 => absurd (by decide) h9)
  refine lv_iload hx hb d_L_law_864 (lv_at hl 1 rfl) ?_
  refine lv_if_ne (tgt := 881) hx hb d_L_law_866 (by decide) (fun _ => ?_) (fun h9 => absurd h9 (by decide))
  refine lv_goto (tgt := 1053) hx hb d_L_law_881 (by decide) ?_
  refine lv_iinc (k := 2) (v := 6) (lv' := [(4, .int 6), (6, .int 0), (5, .int 1), (3, .ref out), (2, .ref mo), (1, .ref x), (0, .ref b)]) hx hb d_L_law_1053 hl rfl (by decide) (by decide) rfl (fun ls hl => ?_)
  refine lv_goto (tgt := 23) hx hb d_L_law_1056 (by decide) ?_
  refine lv_iload hx hb d_L_law_23 (lv_at hl 0 rfl) ?_
  refine lv_aload_n hx hb d_L_law_25 rfl (lv_at hl 6 rfl) ?_
  refine va_slen hx hb hX hbl hbA hS d_L_law_26 ?_
  refine vq_top (y := 6) (by decide) ?_
  refine lv_bipush (v := 6) hx hb d_L_law_27 (by decide) ?_
  refine lv_isub hx hb d_L_law_29 ?_
  refine vq_top (y := 0) (by decide) ?_
  refine lv_icmp_gt (tgt := 1059) hx hb d_L_law_30 (by decide) (fun _ => ?_) (fun h9 => absurd (by decide) h9)
  refine lv_iconst (v := 1) hx hb d_L_law_1059 (by decide) ?_
  refine va_forget (fun q hq => hA2 _ (hS.2.2 q hq)) ?_
  refine W.widen (k := 85) (n := 9238) (by decide) (by decide) ?_
  exact lw_ret hx hb hr hlocks d_L_law_1060

set_option maxHeartbeats 4000000 in
set_option maxRecDepth 100000 in
theorem arm_12G {p : Program} {e : Env} {s : State} {m : MethodId} {below : List Frame} {meth : Method} {c : Code} (l : Launch) (htr : l.stackTraces = false) {b : Nat} {xs : Nat → Int32} {A : Nat → Prop} (dC : Nat → ClassId) (dI : Nat → Nat → Nat) (out : Nat) (mo : Nat) (x : Nat) (g : Nat) (an : Nat) (tr : Nat) (w : Nat) (m_attributes : Nat) (m_inherits : Nat) (m_positions : Nat) (m_symbolAt : Nat) (m_form : Nat) (m_ruleX : Nat) (m_ruleY : Nat) (m_uses : Nat) (m_leads : Nat) (m_symbolLeads : Nat) (m_order : Nat) (m_rank : Nat) (m_visits : Nat) (m_length : Nat) (m_sequence : Nat) (m_set : Nat) (m_visited : Nat) (m_production : Nat) (m_token : Nat) (m_child : Nat) (m_parent : Nat) (m_next : Nat) (m_known : Nat) (m_value : Nat) (m_given : Nat) {H : Heap} {locs : List Loc} {ls : Array Slot} (h0 : ¬ xs 1 < 0) (h4 : ¬ xs 1 ≤ 500) (hAt : lw_At p s m meth c b 6 xs) (hst : vq_st s) (hA : ∀ q : Nat, s.heap.size ≤ q → A q) (hA2 : ∀ q : Nat, A q → s.heap.size ≤ q) (hbA : ¬ A b) (hK : va_K (dC, dI) CL [] s) (hP : va_P (dC, dI) CL [(x, .inr (0, [.ref g, .ref an, .ref tr, .ref w])), (mo, .inr (8, [.int 0, .int 0, .ref m_attributes, .ref m_inherits, .int 0, .ref m_positions, .ref m_symbolAt, .ref m_form, .ref m_ruleX, .ref m_ruleY, .int 0, .int 0, .int (-1), .int (-1), .ref m_uses, .ref m_leads, .ref m_symbolLeads, .ref m_order, .ref m_rank, .ref m_visits, .ref m_length, .ref m_sequence, .ref m_set, .ref m_visited, .int 0, .ref m_production, .ref m_token, .ref m_child, .ref m_parent, .ref m_next, .ref m_known, .ref m_value, .ref m_given, .int (-1), .int (-1)]))] H) (hD : va_D A [(x, .inr (0, [.ref g, .ref an, .ref tr, .ref w])), (mo, .inr (8, [.int 0, .int 0, .ref m_attributes, .ref m_inherits, .int 0, .ref m_positions, .ref m_symbolAt, .ref m_form, .ref m_ruleX, .ref m_ruleY, .int 0, .int 0, .int (-1), .int (-1), .ref m_uses, .ref m_leads, .ref m_symbolLeads, .ref m_order, .ref m_rank, .ref m_visits, .ref m_length, .ref m_sequence, .ref m_set, .ref m_visited, .int 0, .ref m_production, .ref m_token, .ref m_child, .ref m_parent, .ref m_next, .ref m_known, .ref m_value, .ref m_given, .int (-1), .int (-1)]))]) (hS : va_S A s.heap H locs) (hl : lv_has ls 7 [(4, .int 0), (3, .ref out), (2, .ref mo), (1, .ref x), (0, .ref b)]) : W p l e room_1 s m #[Value.ref b] below meth c H locs 62 9096 (lw_Z below #[Value.ref b] s) (F0 m 828 ls []) := by
  obtain ⟨hx, hb, hr, hml, hown, hts0, hX, hbl, hlocks, -⟩ := hAt
  have hts : ∀ w ∈ WS, w.before #[Value.ref b] s = true := fun w hw => hts0 w (WS_tbl w hw)
  have hN : ∀ q : Nat, A q → ∀ cell : Cell, s.heap[q]? = some cell → cell.vm.isStatics = false := fun q hq cell hc => absurd (Array.getElem?_eq_some_iff.mp hc).1 (Nat.not_lt.mpr (hA2 q hq))
  refine lv_aload_n hx hb d_L_law_828 rfl (lv_at hl 3 rfl) ?_
  refine lv_aload_n hx hb d_L_law_829 rfl (lv_at hl 4 rfl) ?_
  refine lv_iload hx hb d_L_law_830 (lv_at hl 0 rfl) ?_
  refine lv_iconst (v := 1) hx hb d_L_law_832 (by decide) ?_
  refine lv_iadd hx hb d_L_law_833 ?_
  refine vq_top (y := 1) (by decide) ?_
  refine va_sld (i := 1) hx hb hX hbl hbA hS (show ¬ ((1 : Int32) < 0 ∨ 6 ≤ Int32.toNatClampNeg 1) by decide) d_L_law_834 ?_
  refine vq_top (y := xs 1) rfl ?_
  refine lv_aload_n hx hb d_L_law_835 rfl (lv_at hl 1 rfl) ?_
  have hPc := hP.sub (ws' := [(x, .inr (0, [.ref g, .ref an, .ref tr, .ref w]))]) [0] rfl
  have hDc := hD.sub (ws' := [(x, .inr (0, [.ref g, .ref an, .ref tr, .ref w]))]) [0] (by decide) rfl
  have hKc := hK.sub (tys' := []) [] rfl
  have hFc := va_free (wc := [(x, .inr (0, [.ref g, .ref an, .ref tr, .ref w]))]) hD hS hA [0] rfl
  refine va_calli (vq_runSH (n := 3) (As := [.ref x, .int (xs 1), .ref out]) (rest := []) ⟨hx, hb, hml, hown, hts⟩ (w_runG l htr dC dI x (xs 1) out g an tr w H.size h0 h4) WSk rfl rfl ⟨by decide, by decide⟩ k_335 k_347 k_407 k_408 (by decide +kernel) ⟨vq_blind, vq_here hst hS hN hPc hKc hDc⟩ rfl rfl hl.1 rfl (lv_room (Nat.le_of_ble_eq_true rfl)) d_L_law_836 ⟨by decide, by decide⟩) hS (fun q _ h => hFc q h) hFc (fun r1 u t H1 locs ht hvm hw hB hz1 hk1 hS => ?_)
  obtain ⟨hP1, hK1, hD1⟩ := hB
  rw [ht] at hP1
  have hK1 := va_K.moved hvm.symm hK1
  have hw : r1 = 1 := hw
  subst hw
  obtain ⟨hP, hD⟩ := va_join (wr := [(mo, .inr (8, [.int 0, .int 0, .ref m_attributes, .ref m_inherits, .int 0, .ref m_positions, .ref m_symbolAt, .ref m_form, .ref m_ruleX, .ref m_ruleY, .int 0, .int 0, .int (-1), .int (-1), .ref m_uses, .ref m_leads, .ref m_symbolLeads, .ref m_order, .ref m_rank, .ref m_visits, .ref m_length, .ref m_sequence, .ref m_set, .ref m_visited, .int 0, .ref m_production, .ref m_token, .ref m_child, .ref m_parent, .ref m_next, .ref m_known, .ref m_value, .ref m_given, .int (-1), .int (-1)]))]) (w1 := []) hP hD [0] [1] rfl rfl (by decide) (by decide) hk1 hFc hP1 hD1
  have hK := (hK.sub (tys' := []) [] rfl).app hK1
  generalize H1 = H at hP hS ⊢
  have hP : va_P (dC, dI) CL [(mo, .inr (8, [.int 0, .int 0, .ref m_attributes, .ref m_inherits, .int 0, .ref m_positions, .ref m_symbolAt, .ref m_form, .ref m_ruleX, .ref m_ruleY, .int 0, .int 0, .int (-1), .int (-1), .ref m_uses, .ref m_leads, .ref m_symbolLeads, .ref m_order, .ref m_rank, .ref m_visits, .ref m_length, .ref m_sequence, .ref m_set, .ref m_visited, .int 0, .ref m_production, .ref m_token, .ref m_child, .ref m_parent, .ref m_next, .ref m_known, .ref m_value, .ref m_given, .int (-1), .int (-1)]))] H := hP
  have hD : va_D A [(mo, .inr (8, [.int 0, .int 0, .ref m_attributes, .ref m_inherits, .int 0, .ref m_positions, .ref m_symbolAt, .ref m_form, .ref m_ruleX, .ref m_ruleY, .int 0, .int 0, .int (-1), .int (-1), .ref m_uses, .ref m_leads, .ref m_symbolLeads, .ref m_order, .ref m_rank, .ref m_visits, .ref m_length, .ref m_sequence, .ref m_set, .ref m_visited, .int 0, .ref m_production, .ref m_token, .ref m_child, .ref m_parent, .ref m_next, .ref m_known, .ref m_value, .ref m_given, .int (-1), .int (-1)]))] := hD
  have hK : va_K (dC, dI) CL [] s := hK
  refine W.widen (k := 63) (n := 9102) (by decide) (by decide) ?_
  refine lv_istore (lv' := [(5, .int 1), (4, .int 0), (3, .ref out), (2, .ref mo), (1, .ref x), (0, .ref b)]) hx hb d_L_law_839 hl (by decide) rfl (fun ls hl => ?_)
  refine lv_aload_n hx hb d_L_law_841 rfl (lv_at hl 3 rfl) ?_
  refine lv_aload_n hx hb d_L_law_842 rfl (lv_at hl 5 rfl) ?_
  refine lv_iload hx hb d_L_law_843 (lv_at hl 1 rfl) ?_
  refine lv_iconst (v := 1) hx hb d_L_law_845 (by decide) ?_
  refine lv_iadd hx hb d_L_law_846 ?_
  refine vq_top (y := 1) (by decide) ?_
  refine va_sld (i := 1) hx hb hX hbl hbA hS (show ¬ ((1 : Int32) < 0 ∨ 6 ≤ Int32.toNatClampNeg 1) by decide) d_L_law_847 ?_
  refine vq_top (y := xs 1) rfl ?_
  have hPc := hP.sub (ws' := [(mo, .inr (8, [.int 0, .int 0, .ref m_attributes, .ref m_inherits, .int 0, .ref m_positions, .ref m_symbolAt, .ref m_form, .ref m_ruleX, .ref m_ruleY, .int 0, .int 0, .int (-1), .int (-1), .ref m_uses, .ref m_leads, .ref m_symbolLeads, .ref m_order, .ref m_rank, .ref m_visits, .ref m_length, .ref m_sequence, .ref m_set, .ref m_visited, .int 0, .ref m_production, .ref m_token, .ref m_child, .ref m_parent, .ref m_next, .ref m_known, .ref m_value, .ref m_given, .int (-1), .int (-1)]))]) [0] rfl
  have hDc := hD.sub (ws' := [(mo, .inr (8, [.int 0, .int 0, .ref m_attributes, .ref m_inherits, .int 0, .ref m_positions, .ref m_symbolAt, .ref m_form, .ref m_ruleX, .ref m_ruleY, .int 0, .int 0, .int (-1), .int (-1), .ref m_uses, .ref m_leads, .ref m_symbolLeads, .ref m_order, .ref m_rank, .ref m_visits, .ref m_length, .ref m_sequence, .ref m_set, .ref m_visited, .int 0, .ref m_production, .ref m_token, .ref m_child, .ref m_parent, .ref m_next, .ref m_known, .ref m_value, .ref m_given, .int (-1), .int (-1)]))]) [0] (by decide) rfl
  have hKc := hK.sub (tys' := []) [] rfl
  have hFc := va_free (wc := [(mo, .inr (8, [.int 0, .int 0, .ref m_attributes, .ref m_inherits, .int 0, .ref m_positions, .ref m_symbolAt, .ref m_form, .ref m_ruleX, .ref m_ruleY, .int 0, .int 0, .int (-1), .int (-1), .ref m_uses, .ref m_leads, .ref m_symbolLeads, .ref m_order, .ref m_rank, .ref m_visits, .ref m_length, .ref m_sequence, .ref m_set, .ref m_visited, .int 0, .ref m_production, .ref m_token, .ref m_child, .ref m_parent, .ref m_next, .ref m_known, .ref m_value, .ref m_given, .int (-1), .int (-1)]))]) hD hS hA [0] rfl
  refine va_calli (va_runV (As := [.int (xs 1)]) (rest := []) ⟨hx, hb, hml, hown, hts⟩ (c_M_runG l htr dC dI mo (xs 1) m_attributes m_inherits m_positions m_symbolAt m_form m_ruleX m_ruleY m_uses m_leads m_symbolLeads m_order m_rank m_visits m_length m_sequence m_set m_visited m_production m_token m_child m_parent m_next m_known m_value m_given H.size h0 h4) (vq_cV WSk hts 1 rfl rfl ⟨by decide, by decide⟩ k_281 k_235 k_409 k_410 k_411 (by decide +kernel)) ⟨vq_blind, va_recv hK hP (ci := 8) (q0 := 0) rfl rfl, vq_here hst hS hN hPc hKc hDc⟩ rfl rfl hl.1 rfl (lv_room (Nat.le_of_ble_eq_true rfl)) d_L_law_848 ⟨by decide, by decide⟩) hS (fun q _ h => hFc q h) hFc (fun r2 u t H1 locs ht hvm hw hB hz1 hk1 hS => ?_)
  obtain ⟨hP1, hK1, hD1⟩ := hB
  rw [ht] at hP1
  have hK1 := va_K.moved hvm.symm hK1
  have hw : r2 = 0 := hw
  subst hw
  obtain ⟨hP, hD⟩ := va_join (wr := []) (w1 := [(mo, .inr (8, [.int 1, .int 0, .ref m_attributes, .ref m_inherits, .int 0, .ref m_positions, .ref m_symbolAt, .ref m_form, .ref m_ruleX, .ref m_ruleY, .int 0, .int 0, .int (-1), .int (-1), .ref m_uses, .ref m_leads, .ref m_symbolLeads, .ref m_order, .ref m_rank, .ref m_visits, .ref m_length, .ref m_sequence, .ref m_set, .ref m_visited, .int 0, .ref m_production, .ref m_token, .ref m_child, .ref m_parent, .ref m_next, .ref m_known, .ref m_value, .ref m_given, .int (-1), .int (-1)]))]) hP hD [0] [] rfl rfl (by decide) (by decide) hk1 hFc hP1 hD1
  have hK := (hK.sub (tys' := []) [] rfl).app hK1
  generalize H1 = H at hP hS ⊢
  have hP : va_P (dC, dI) CL [(mo, .inr (8, [.int 1, .int 0, .ref m_attributes, .ref m_inherits, .int 0, .ref m_positions, .ref m_symbolAt, .ref m_form, .ref m_ruleX, .ref m_ruleY, .int 0, .int 0, .int (-1), .int (-1), .ref m_uses, .ref m_leads, .ref m_symbolLeads, .ref m_order, .ref m_rank, .ref m_visits, .ref m_length, .ref m_sequence, .ref m_set, .ref m_visited, .int 0, .ref m_production, .ref m_token, .ref m_child, .ref m_parent, .ref m_next, .ref m_known, .ref m_value, .ref m_given, .int (-1), .int (-1)]))] H := hP
  have hD : va_D A [(mo, .inr (8, [.int 1, .int 0, .ref m_attributes, .ref m_inherits, .int 0, .ref m_positions, .ref m_symbolAt, .ref m_form, .ref m_ruleX, .ref m_ruleY, .int 0, .int 0, .int (-1), .int (-1), .ref m_uses, .ref m_leads, .ref m_symbolLeads, .ref m_order, .ref m_rank, .ref m_visits, .ref m_length, .ref m_sequence, .ref m_set, .ref m_visited, .int 0, .ref m_production, .ref m_token, .ref m_child, .ref m_parent, .ref m_next, .ref m_known, .ref m_value, .ref m_given, .int (-1), .int (-1)]))] := hD
  have hK : va_K (dC, dI) CL [] s := hK
  refine W.widen (k := 63) (n := 9102) (by decide) (by decide) ?_
  refine lv_istore (lv' := [(6, .int 0), (5, .int 1), (4, .int 0), (3, .ref out), (2, .ref mo), (1, .ref x), (0, .ref b)]) hx hb d_L_law_851 hl (by decide) rfl (fun ls hl => ?_)
  refine lv_aload_n hx hb d_L_law_853 rfl (lv_at hl 4 rfl) ?_
  have hPc := hP.sub (ws' := [(mo, .inr (8, [.int 1, .int 0, .ref m_attributes, .ref m_inherits, .int 0, .ref m_positions, .ref m_symbolAt, .ref m_form, .ref m_ruleX, .ref m_ruleY, .int 0, .int 0, .int (-1), .int (-1), .ref m_uses, .ref m_leads, .ref m_symbolLeads, .ref m_order, .ref m_rank, .ref m_visits, .ref m_length, .ref m_sequence, .ref m_set, .ref m_visited, .int 0, .ref m_production, .ref m_token, .ref m_child, .ref m_parent, .ref m_next, .ref m_known, .ref m_value, .ref m_given, .int (-1), .int (-1)]))]) [0] rfl
  have hDc := hD.sub (ws' := [(mo, .inr (8, [.int 1, .int 0, .ref m_attributes, .ref m_inherits, .int 0, .ref m_positions, .ref m_symbolAt, .ref m_form, .ref m_ruleX, .ref m_ruleY, .int 0, .int 0, .int (-1), .int (-1), .ref m_uses, .ref m_leads, .ref m_symbolLeads, .ref m_order, .ref m_rank, .ref m_visits, .ref m_length, .ref m_sequence, .ref m_set, .ref m_visited, .int 0, .ref m_production, .ref m_token, .ref m_child, .ref m_parent, .ref m_next, .ref m_known, .ref m_value, .ref m_given, .int (-1), .int (-1)]))]) [0] (by decide) rfl
  have hKc := hK.sub (tys' := []) [] rfl
  have hFc := va_free (wc := [(mo, .inr (8, [.int 1, .int 0, .ref m_attributes, .ref m_inherits, .int 0, .ref m_positions, .ref m_symbolAt, .ref m_form, .ref m_ruleX, .ref m_ruleY, .int 0, .int 0, .int (-1), .int (-1), .ref m_uses, .ref m_leads, .ref m_symbolLeads, .ref m_order, .ref m_rank, .ref m_visits, .ref m_length, .ref m_sequence, .ref m_set, .ref m_visited, .int 0, .ref m_production, .ref m_token, .ref m_child, .ref m_parent, .ref m_next, .ref m_known, .ref m_value, .ref m_given, .int (-1), .int (-1)]))]) hD hS hA [0] rfl
  refine va_calli (va_runV (As := []) (rest := []) ⟨hx, hb, hml, hown, hts⟩ (c_M_thrown l htr dC dI mo 1 0 m_attributes m_inherits 0 m_positions m_symbolAt m_form m_ruleX m_ruleY 0 0 (-1) (-1) m_uses m_leads m_symbolLeads m_order m_rank m_visits m_length m_sequence m_set m_visited 0 m_production m_token m_child m_parent m_next m_known m_value m_given (-1) (-1) H.size) (vq_cV WSk hts 0 rfl rfl ⟨by decide, by decide⟩ k_239 k_235 k_353 k_354 k_355 (by decide +kernel)) ⟨vq_blind, va_recv hK hP (ci := 8) (q0 := 0) rfl rfl, vq_here hst hS hN hPc hKc hDc⟩ rfl rfl hl.1 rfl (lv_room (Nat.le_of_ble_eq_true rfl)) d_L_law_854 ⟨by decide, by decide⟩) hS (fun q _ h => hFc q h) hFc (fun r3 u t H1 locs ht hvm hw hB hz1 hk1 hS => ?_)
  obtain ⟨hP1, hK1, hD1⟩ := hB
  rw [ht] at hP1
  have hK1 := va_K.moved hvm.symm hK1
  have hw : r3 = 1 := hw
  subst hw
  obtain ⟨hP, hD⟩ := va_join (wr := []) (w1 := [(mo, .inr (8, [.int 1, .int 0, .ref m_attributes, .ref m_inherits, .int 0, .ref m_positions, .ref m_symbolAt, .ref m_form, .ref m_ruleX, .ref m_ruleY, .int 0, .int 0, .int (-1), .int (-1), .ref m_uses, .ref m_leads, .ref m_symbolLeads, .ref m_order, .ref m_rank, .ref m_visits, .ref m_length, .ref m_sequence, .ref m_set, .ref m_visited, .int 0, .ref m_production, .ref m_token, .ref m_child, .ref m_parent, .ref m_next, .ref m_known, .ref m_value, .ref m_given, .int (-1), .int (-1)]))]) hP hD [0] [] rfl rfl (by decide) (by decide) hk1 hFc hP1 hD1
  have hK := (hK.sub (tys' := []) [] rfl).app hK1
  generalize H1 = H at hP hS ⊢
  have hP : va_P (dC, dI) CL [(mo, .inr (8, [.int 1, .int 0, .ref m_attributes, .ref m_inherits, .int 0, .ref m_positions, .ref m_symbolAt, .ref m_form, .ref m_ruleX, .ref m_ruleY, .int 0, .int 0, .int (-1), .int (-1), .ref m_uses, .ref m_leads, .ref m_symbolLeads, .ref m_order, .ref m_rank, .ref m_visits, .ref m_length, .ref m_sequence, .ref m_set, .ref m_visited, .int 0, .ref m_production, .ref m_token, .ref m_child, .ref m_parent, .ref m_next, .ref m_known, .ref m_value, .ref m_given, .int (-1), .int (-1)]))] H := hP
  have hD : va_D A [(mo, .inr (8, [.int 1, .int 0, .ref m_attributes, .ref m_inherits, .int 0, .ref m_positions, .ref m_symbolAt, .ref m_form, .ref m_ruleX, .ref m_ruleY, .int 0, .int 0, .int (-1), .int (-1), .ref m_uses, .ref m_leads, .ref m_symbolLeads, .ref m_order, .ref m_rank, .ref m_visits, .ref m_length, .ref m_sequence, .ref m_set, .ref m_visited, .int 0, .ref m_production, .ref m_token, .ref m_child, .ref m_parent, .ref m_next, .ref m_known, .ref m_value, .ref m_given, .int (-1), .int (-1)]))] := hD
  have hK : va_K (dC, dI) CL [] s := hK
  refine W.widen (k := 63) (n := 9102) (by decide) (by decide) ?_
  refine lv_iload hx hb d_L_law_857 (lv_at hl 1 rfl) ?_
  refine lv_icmp_eq (tgt := 864) hx hb d_L_law_859 (by decide) (fun _ => ?_) (fun h9 => absurd (by decide) h9)
  refine lv_iload hx hb d_L_law_864 (lv_at hl 1 rfl) ?_
  refine lv_if_ne (tgt := 881) hx hb d_L_law_866 (by decide) (fun _ => ?_) (fun h9 => absurd h9 (by decide))
  refine lv_goto (tgt := 1053) hx hb d_L_law_881 (by decide) ?_
  refine lv_iinc (k := 2) (v := 6) (lv' := [(4, .int 6), (6, .int 0), (5, .int 1), (3, .ref out), (2, .ref mo), (1, .ref x), (0, .ref b)]) hx hb d_L_law_1053 hl rfl (by decide) (by decide) rfl (fun ls hl => ?_)
  refine lv_goto (tgt := 23) hx hb d_L_law_1056 (by decide) ?_
  refine lv_iload hx hb d_L_law_23 (lv_at hl 0 rfl) ?_
  refine lv_aload_n hx hb d_L_law_25 rfl (lv_at hl 6 rfl) ?_
  refine va_slen hx hb hX hbl hbA hS d_L_law_26 ?_
  refine vq_top (y := 6) (by decide) ?_
  refine lv_bipush (v := 6) hx hb d_L_law_27 (by decide) ?_
  refine lv_isub hx hb d_L_law_29 ?_
  refine vq_top (y := 0) (by decide) ?_
  refine lv_icmp_gt (tgt := 1059) hx hb d_L_law_30 (by decide) (fun _ => ?_) (fun h9 => absurd (by decide) h9)
  refine lv_iconst (v := 1) hx hb d_L_law_1059 (by decide) ?_
  refine va_forget (fun q hq => hA2 _ (hS.2.2 q hq)) ?_
  refine W.widen (k := 85) (n := 9238) (by decide) (by decide) ?_
  exact lw_ret hx hb hr hlocks d_L_law_1060

set_option maxHeartbeats 4000000 in
set_option maxRecDepth 100000 in
theorem arm_13 {p : Program} {e : Env} {s : State} {m : MethodId} {below : List Frame} {meth : Method} {c : Code} (l : Launch) (htr : l.stackTraces = false) {b : Nat} {xs : Nat → Int32} {A : Nat → Prop} (dC : Nat → ClassId) (dI : Nat → Nat → Nat) (out : Nat) (mo : Nat) (x : Nat) (g : Nat) (an : Nat) (tr : Nat) (w : Nat) (an_sequences : Nat) (w_given : Nat) (w_values : Nat) (w_knownBits : Nat) (w_instructionsDone : Nat) (m_attributes : Nat) (m_inherits : Nat) (m_positions : Nat) (m_symbolAt : Nat) (m_form : Nat) (m_ruleX : Nat) (m_ruleY : Nat) (m_uses : Nat) (m_leads : Nat) (m_symbolLeads : Nat) (m_order : Nat) (m_rank : Nat) (m_visits : Nat) (m_length : Nat) (m_sequence : Nat) (m_set : Nat) (m_visited : Nat) (m_production : Nat) (m_token : Nat) (m_child : Nat) (m_parent : Nat) (m_next : Nat) (m_known : Nat) (m_value : Nat) (m_given : Nat) {H : Heap} {locs : List Loc} {ls : Array Slot} (hAt : lw_At p s m meth c b 6 xs) (hst : vq_st s) (hA : ∀ q : Nat, s.heap.size ≤ q → A q) (hA2 : ∀ q : Nat, A q → s.heap.size ≤ q) (hbA : ¬ A b) (hK : va_K (dC, dI) CL [] s) (hP : va_P (dC, dI) CL [(x, .inr (0, [.ref g, .ref an, .ref tr, .ref w])), (w, .inr (7, [.ref g, .ref an_sequences, .ref tr, .ref w_given, .ref w_values, .ref w_knownBits, .ref w_instructionsDone, .int 0, .int 0, .int 0])), (mo, .inr (8, [.int 0, .int 0, .ref m_attributes, .ref m_inherits, .int 0, .ref m_positions, .ref m_symbolAt, .ref m_form, .ref m_ruleX, .ref m_ruleY, .int 0, .int 0, .int (-1), .int (-1), .ref m_uses, .ref m_leads, .ref m_symbolLeads, .ref m_order, .ref m_rank, .ref m_visits, .ref m_length, .ref m_sequence, .ref m_set, .ref m_visited, .int 0, .ref m_production, .ref m_token, .ref m_child, .ref m_parent, .ref m_next, .ref m_known, .ref m_value, .ref m_given, .int (-1), .int (-1)]))] H) (hD : va_D A [(x, .inr (0, [.ref g, .ref an, .ref tr, .ref w])), (w, .inr (7, [.ref g, .ref an_sequences, .ref tr, .ref w_given, .ref w_values, .ref w_knownBits, .ref w_instructionsDone, .int 0, .int 0, .int 0])), (mo, .inr (8, [.int 0, .int 0, .ref m_attributes, .ref m_inherits, .int 0, .ref m_positions, .ref m_symbolAt, .ref m_form, .ref m_ruleX, .ref m_ruleY, .int 0, .int 0, .int (-1), .int (-1), .ref m_uses, .ref m_leads, .ref m_symbolLeads, .ref m_order, .ref m_rank, .ref m_visits, .ref m_length, .ref m_sequence, .ref m_set, .ref m_visited, .int 0, .ref m_production, .ref m_token, .ref m_child, .ref m_parent, .ref m_next, .ref m_known, .ref m_value, .ref m_given, .int (-1), .int (-1)]))]) (hS : va_S A s.heap H locs) (hl : lv_has ls 7 [(4, .int 0), (3, .ref out), (2, .ref mo), (1, .ref x), (0, .ref b)]) : W p l e room_1 s m #[Value.ref b] below meth c H locs 62 9096 (lw_Z below #[Value.ref b] s) (F0 m 884 ls []) := by
  obtain ⟨hx, hb, hr, hml, hown, hts0, hX, hbl, hlocks, -⟩ := hAt
  have hts : ∀ w ∈ WS, w.before #[Value.ref b] s = true := fun w hw => hts0 w (WS_tbl w hw)
  have hN : ∀ q : Nat, A q → ∀ cell : Cell, s.heap[q]? = some cell → cell.vm.isStatics = false := fun q hq cell hc => absurd (Array.getElem?_eq_some_iff.mp hc).1 (Nat.not_lt.mpr (hA2 q hq))
  refine lv_aload_n hx hb d_L_law_884 rfl (lv_at hl 3 rfl) ?_
  have hPc := hP.sub (ws' := [(x, .inr (0, [.ref g, .ref an, .ref tr, .ref w])), (w, .inr (7, [.ref g, .ref an_sequences, .ref tr, .ref w_given, .ref w_values, .ref w_knownBits, .ref w_instructionsDone, .int 0, .int 0, .int 0]))]) [0, 1] rfl
  have hDc := hD.sub (ws' := [(x, .inr (0, [.ref g, .ref an, .ref tr, .ref w])), (w, .inr (7, [.ref g, .ref an_sequences, .ref tr, .ref w_given, .ref w_values, .ref w_knownBits, .ref w_instructionsDone, .int 0, .int 0, .int 0]))]) [0, 1] (by decide) rfl
  have hKc := hK.sub (tys' := []) [] rfl
  have hFc := va_free (wc := [(x, .inr (0, [.ref g, .ref an, .ref tr, .ref w])), (w, .inr (7, [.ref g, .ref an_sequences, .ref tr, .ref w_given, .ref w_values, .ref w_knownBits, .ref w_instructionsDone, .int 0, .int 0, .int 0]))]) hD hS hA [0, 1] rfl
  refine va_calli (va_runV (As := []) (rest := []) ⟨hx, hb, hml, hown, hts⟩ (c_V_status l htr dC dI x g an tr w an_sequences w_given w_values w_knownBits w_instructionsDone H.size) (vq_cV WSk hts 0 rfl rfl ⟨by decide, by decide⟩ k_190 k_143 k_412 k_413 k_414 (by decide +kernel)) ⟨vq_blind, va_recv hK hP (ci := 0) (q0 := 0) rfl rfl, vq_here hst hS hN hPc hKc hDc⟩ rfl rfl hl.1 rfl (lv_room (Nat.le_of_ble_eq_true rfl)) d_L_law_885 ⟨by decide, by decide⟩) hS (fun q _ h => hFc q h) hFc (fun r1 u t H1 locs ht hvm hw hB hz1 hk1 hS => ?_)
  obtain ⟨hP1, hK1, hD1⟩ := hB
  rw [ht] at hP1
  have hK1 := va_K.moved hvm.symm hK1
  have hw : r1 = 0 := hw
  subst hw
  obtain ⟨hP, hD⟩ := va_join (wr := [(mo, .inr (8, [.int 0, .int 0, .ref m_attributes, .ref m_inherits, .int 0, .ref m_positions, .ref m_symbolAt, .ref m_form, .ref m_ruleX, .ref m_ruleY, .int 0, .int 0, .int (-1), .int (-1), .ref m_uses, .ref m_leads, .ref m_symbolLeads, .ref m_order, .ref m_rank, .ref m_visits, .ref m_length, .ref m_sequence, .ref m_set, .ref m_visited, .int 0, .ref m_production, .ref m_token, .ref m_child, .ref m_parent, .ref m_next, .ref m_known, .ref m_value, .ref m_given, .int (-1), .int (-1)]))]) (w1 := [(x, .inr (0, [.ref g, .ref an, .ref tr, .ref w])), (w, .inr (7, [.ref g, .ref an_sequences, .ref tr, .ref w_given, .ref w_values, .ref w_knownBits, .ref w_instructionsDone, .int 0, .int 0, .int 0]))]) hP hD [0, 1] [2] rfl rfl (by decide) (by decide) hk1 hFc hP1 hD1
  have hK := (hK.sub (tys' := []) [] rfl).app hK1
  generalize H1 = H at hP hS ⊢
  have hP : va_P (dC, dI) CL [(mo, .inr (8, [.int 0, .int 0, .ref m_attributes, .ref m_inherits, .int 0, .ref m_positions, .ref m_symbolAt, .ref m_form, .ref m_ruleX, .ref m_ruleY, .int 0, .int 0, .int (-1), .int (-1), .ref m_uses, .ref m_leads, .ref m_symbolLeads, .ref m_order, .ref m_rank, .ref m_visits, .ref m_length, .ref m_sequence, .ref m_set, .ref m_visited, .int 0, .ref m_production, .ref m_token, .ref m_child, .ref m_parent, .ref m_next, .ref m_known, .ref m_value, .ref m_given, .int (-1), .int (-1)])), (x, .inr (0, [.ref g, .ref an, .ref tr, .ref w])), (w, .inr (7, [.ref g, .ref an_sequences, .ref tr, .ref w_given, .ref w_values, .ref w_knownBits, .ref w_instructionsDone, .int 0, .int 0, .int 0]))] H := hP
  have hD : va_D A [(mo, .inr (8, [.int 0, .int 0, .ref m_attributes, .ref m_inherits, .int 0, .ref m_positions, .ref m_symbolAt, .ref m_form, .ref m_ruleX, .ref m_ruleY, .int 0, .int 0, .int (-1), .int (-1), .ref m_uses, .ref m_leads, .ref m_symbolLeads, .ref m_order, .ref m_rank, .ref m_visits, .ref m_length, .ref m_sequence, .ref m_set, .ref m_visited, .int 0, .ref m_production, .ref m_token, .ref m_child, .ref m_parent, .ref m_next, .ref m_known, .ref m_value, .ref m_given, .int (-1), .int (-1)])), (x, .inr (0, [.ref g, .ref an, .ref tr, .ref w])), (w, .inr (7, [.ref g, .ref an_sequences, .ref tr, .ref w_given, .ref w_values, .ref w_knownBits, .ref w_instructionsDone, .int 0, .int 0, .int 0]))] := hD
  have hK : va_K (dC, dI) CL [] s := hK
  refine W.widen (k := 62) (n := 9096) (by decide) (by decide) ?_
  refine lv_aload_n hx hb d_L_law_888 rfl (lv_at hl 2 rfl) ?_
  have hPc := hP.sub (ws' := [(mo, .inr (8, [.int 0, .int 0, .ref m_attributes, .ref m_inherits, .int 0, .ref m_positions, .ref m_symbolAt, .ref m_form, .ref m_ruleX, .ref m_ruleY, .int 0, .int 0, .int (-1), .int (-1), .ref m_uses, .ref m_leads, .ref m_symbolLeads, .ref m_order, .ref m_rank, .ref m_visits, .ref m_length, .ref m_sequence, .ref m_set, .ref m_visited, .int 0, .ref m_production, .ref m_token, .ref m_child, .ref m_parent, .ref m_next, .ref m_known, .ref m_value, .ref m_given, .int (-1), .int (-1)]))]) [0] rfl
  have hDc := hD.sub (ws' := [(mo, .inr (8, [.int 0, .int 0, .ref m_attributes, .ref m_inherits, .int 0, .ref m_positions, .ref m_symbolAt, .ref m_form, .ref m_ruleX, .ref m_ruleY, .int 0, .int 0, .int (-1), .int (-1), .ref m_uses, .ref m_leads, .ref m_symbolLeads, .ref m_order, .ref m_rank, .ref m_visits, .ref m_length, .ref m_sequence, .ref m_set, .ref m_visited, .int 0, .ref m_production, .ref m_token, .ref m_child, .ref m_parent, .ref m_next, .ref m_known, .ref m_value, .ref m_given, .int (-1), .int (-1)]))]) [0] (by decide) rfl
  have hKc := hK.sub (tys' := []) [] rfl
  have hFc := va_free (wc := [(mo, .inr (8, [.int 0, .int 0, .ref m_attributes, .ref m_inherits, .int 0, .ref m_positions, .ref m_symbolAt, .ref m_form, .ref m_ruleX, .ref m_ruleY, .int 0, .int 0, .int (-1), .int (-1), .ref m_uses, .ref m_leads, .ref m_symbolLeads, .ref m_order, .ref m_rank, .ref m_visits, .ref m_length, .ref m_sequence, .ref m_set, .ref m_visited, .int 0, .ref m_production, .ref m_token, .ref m_child, .ref m_parent, .ref m_next, .ref m_known, .ref m_value, .ref m_given, .int (-1), .int (-1)]))]) hD hS hA [0] rfl
  refine va_calli (va_runV (As := []) (rest := [.int 0]) ⟨hx, hb, hml, hown, hts⟩ (c_M_status l htr dC dI mo m_attributes m_inherits m_positions m_symbolAt m_form m_ruleX m_ruleY m_uses m_leads m_symbolLeads m_order m_rank m_visits m_length m_sequence m_set m_visited m_production m_token m_child m_parent m_next m_known m_value m_given H.size) (vq_cV WSk hts 0 rfl rfl ⟨by decide, by decide⟩ k_282 k_235 k_415 k_416 k_417 (by decide +kernel)) ⟨vq_blind, va_recv hK hP (ci := 8) (q0 := 0) rfl rfl, vq_here hst hS hN hPc hKc hDc⟩ rfl rfl hl.1 rfl (lv_room (Nat.le_of_ble_eq_true rfl)) d_L_law_889 ⟨by decide, by decide⟩) hS (fun q _ h => hFc q h) hFc (fun r2 u t H1 locs ht hvm hw hB hz1 hk1 hS => ?_)
  obtain ⟨hP1, hK1, hD1⟩ := hB
  rw [ht] at hP1
  have hK1 := va_K.moved hvm.symm hK1
  have hw : r2 = 0 := hw
  subst hw
  obtain ⟨hP, hD⟩ := va_join (wr := [(x, .inr (0, [.ref g, .ref an, .ref tr, .ref w])), (w, .inr (7, [.ref g, .ref an_sequences, .ref tr, .ref w_given, .ref w_values, .ref w_knownBits, .ref w_instructionsDone, .int 0, .int 0, .int 0]))]) (w1 := [(mo, .inr (8, [.int 0, .int 0, .ref m_attributes, .ref m_inherits, .int 0, .ref m_positions, .ref m_symbolAt, .ref m_form, .ref m_ruleX, .ref m_ruleY, .int 0, .int 0, .int (-1), .int (-1), .ref m_uses, .ref m_leads, .ref m_symbolLeads, .ref m_order, .ref m_rank, .ref m_visits, .ref m_length, .ref m_sequence, .ref m_set, .ref m_visited, .int 0, .ref m_production, .ref m_token, .ref m_child, .ref m_parent, .ref m_next, .ref m_known, .ref m_value, .ref m_given, .int (-1), .int (-1)]))]) hP hD [0] [1, 2] rfl rfl (by decide) (by decide) hk1 hFc hP1 hD1
  have hK := (hK.sub (tys' := []) [] rfl).app hK1
  generalize H1 = H at hP hS ⊢
  have hP : va_P (dC, dI) CL [(x, .inr (0, [.ref g, .ref an, .ref tr, .ref w])), (w, .inr (7, [.ref g, .ref an_sequences, .ref tr, .ref w_given, .ref w_values, .ref w_knownBits, .ref w_instructionsDone, .int 0, .int 0, .int 0])), (mo, .inr (8, [.int 0, .int 0, .ref m_attributes, .ref m_inherits, .int 0, .ref m_positions, .ref m_symbolAt, .ref m_form, .ref m_ruleX, .ref m_ruleY, .int 0, .int 0, .int (-1), .int (-1), .ref m_uses, .ref m_leads, .ref m_symbolLeads, .ref m_order, .ref m_rank, .ref m_visits, .ref m_length, .ref m_sequence, .ref m_set, .ref m_visited, .int 0, .ref m_production, .ref m_token, .ref m_child, .ref m_parent, .ref m_next, .ref m_known, .ref m_value, .ref m_given, .int (-1), .int (-1)]))] H := hP
  have hD : va_D A [(x, .inr (0, [.ref g, .ref an, .ref tr, .ref w])), (w, .inr (7, [.ref g, .ref an_sequences, .ref tr, .ref w_given, .ref w_values, .ref w_knownBits, .ref w_instructionsDone, .int 0, .int 0, .int 0])), (mo, .inr (8, [.int 0, .int 0, .ref m_attributes, .ref m_inherits, .int 0, .ref m_positions, .ref m_symbolAt, .ref m_form, .ref m_ruleX, .ref m_ruleY, .int 0, .int 0, .int (-1), .int (-1), .ref m_uses, .ref m_leads, .ref m_symbolLeads, .ref m_order, .ref m_rank, .ref m_visits, .ref m_length, .ref m_sequence, .ref m_set, .ref m_visited, .int 0, .ref m_production, .ref m_token, .ref m_child, .ref m_parent, .ref m_next, .ref m_known, .ref m_value, .ref m_given, .int (-1), .int (-1)]))] := hD
  have hK : va_K (dC, dI) CL [] s := hK
  refine W.widen (k := 62) (n := 9096) (by decide) (by decide) ?_
  refine lv_icmp_eq (tgt := 1053) hx hb d_L_law_892 (by decide) (fun _ => ?_) (fun h9 => absurd (by decide) h9)
  refine lv_iinc (k := 0) (v := 6) (lv' := [(4, .int 6), (3, .ref out), (2, .ref mo), (1, .ref x), (0, .ref b)]) hx hb d_L_law_1053 hl rfl (by decide) (by decide) rfl (fun ls hl => ?_)
  refine lv_goto (tgt := 23) hx hb d_L_law_1056 (by decide) ?_
  refine lv_iload hx hb d_L_law_23 (lv_at hl 0 rfl) ?_
  refine lv_aload_n hx hb d_L_law_25 rfl (lv_at hl 4 rfl) ?_
  refine va_slen hx hb hX hbl hbA hS d_L_law_26 ?_
  refine vq_top (y := 6) (by decide) ?_
  refine lv_bipush (v := 6) hx hb d_L_law_27 (by decide) ?_
  refine lv_isub hx hb d_L_law_29 ?_
  refine vq_top (y := 0) (by decide) ?_
  refine lv_icmp_gt (tgt := 1059) hx hb d_L_law_30 (by decide) (fun _ => ?_) (fun h9 => absurd (by decide) h9)
  refine lv_iconst (v := 1) hx hb d_L_law_1059 (by decide) ?_
  refine va_forget (fun q hq => hA2 _ (hS.2.2 q hq)) ?_
  refine W.widen (k := 85) (n := 9238) (by decide) (by decide) ?_
  exact lw_ret hx hb hr hlocks d_L_law_1060

set_option maxHeartbeats 4000000 in
set_option maxRecDepth 100000 in
theorem arm_14 {p : Program} {e : Env} {s : State} {m : MethodId} {below : List Frame} {meth : Method} {c : Code} (l : Launch) (htr : l.stackTraces = false) {b : Nat} {xs : Nat → Int32} {A : Nat → Prop} (dC : Nat → ClassId) (dI : Nat → Nat → Nat) (out : Nat) (mo : Nat) (x : Nat) (g : Nat) (an : Nat) (tr : Nat) (w : Nat) (an_sequences : Nat) (w_given : Nat) (w_values : Nat) (w_knownBits : Nat) (w_instructionsDone : Nat) (m_attributes : Nat) (m_inherits : Nat) (m_positions : Nat) (m_symbolAt : Nat) (m_form : Nat) (m_ruleX : Nat) (m_ruleY : Nat) (m_uses : Nat) (m_leads : Nat) (m_symbolLeads : Nat) (m_order : Nat) (m_rank : Nat) (m_visits : Nat) (m_length : Nat) (m_sequence : Nat) (m_set : Nat) (m_visited : Nat) (m_production : Nat) (m_token : Nat) (m_child : Nat) (m_parent : Nat) (m_next : Nat) (m_known : Nat) (m_value : Nat) (m_given : Nat) {H : Heap} {locs : List Loc} {ls : Array Slot} (hAt : lw_At p s m meth c b 6 xs) (hst : vq_st s) (hA : ∀ q : Nat, s.heap.size ≤ q → A q) (hA2 : ∀ q : Nat, A q → s.heap.size ≤ q) (hbA : ¬ A b) (hK : va_K (dC, dI) CL [] s) (hP : va_P (dC, dI) CL [(x, .inr (0, [.ref g, .ref an, .ref tr, .ref w])), (w, .inr (7, [.ref g, .ref an_sequences, .ref tr, .ref w_given, .ref w_values, .ref w_knownBits, .ref w_instructionsDone, .int 0, .int 0, .int 0])), (mo, .inr (8, [.int 0, .int 0, .ref m_attributes, .ref m_inherits, .int 0, .ref m_positions, .ref m_symbolAt, .ref m_form, .ref m_ruleX, .ref m_ruleY, .int 0, .int 0, .int (-1), .int (-1), .ref m_uses, .ref m_leads, .ref m_symbolLeads, .ref m_order, .ref m_rank, .ref m_visits, .ref m_length, .ref m_sequence, .ref m_set, .ref m_visited, .int 0, .ref m_production, .ref m_token, .ref m_child, .ref m_parent, .ref m_next, .ref m_known, .ref m_value, .ref m_given, .int (-1), .int (-1)]))] H) (hD : va_D A [(x, .inr (0, [.ref g, .ref an, .ref tr, .ref w])), (w, .inr (7, [.ref g, .ref an_sequences, .ref tr, .ref w_given, .ref w_values, .ref w_knownBits, .ref w_instructionsDone, .int 0, .int 0, .int 0])), (mo, .inr (8, [.int 0, .int 0, .ref m_attributes, .ref m_inherits, .int 0, .ref m_positions, .ref m_symbolAt, .ref m_form, .ref m_ruleX, .ref m_ruleY, .int 0, .int 0, .int (-1), .int (-1), .ref m_uses, .ref m_leads, .ref m_symbolLeads, .ref m_order, .ref m_rank, .ref m_visits, .ref m_length, .ref m_sequence, .ref m_set, .ref m_visited, .int 0, .ref m_production, .ref m_token, .ref m_child, .ref m_parent, .ref m_next, .ref m_known, .ref m_value, .ref m_given, .int (-1), .int (-1)]))]) (hS : va_S A s.heap H locs) (hl : lv_has ls 7 [(4, .int 0), (3, .ref out), (2, .ref mo), (1, .ref x), (0, .ref b)]) : W p l e room_1 s m #[Value.ref b] below meth c H locs 62 9096 (lw_Z below #[Value.ref b] s) (F0 m 897 ls []) := by
  obtain ⟨hx, hb, hr, hml, hown, hts0, hX, hbl, hlocks, -⟩ := hAt
  have hts : ∀ w ∈ WS, w.before #[Value.ref b] s = true := fun w hw => hts0 w (WS_tbl w hw)
  have hN : ∀ q : Nat, A q → ∀ cell : Cell, s.heap[q]? = some cell → cell.vm.isStatics = false := fun q hq cell hc => absurd (Array.getElem?_eq_some_iff.mp hc).1 (Nat.not_lt.mpr (hA2 q hq))
  refine lv_aload_n hx hb d_L_law_897 rfl (lv_at hl 3 rfl) ?_
  have hPc := hP.sub (ws' := [(x, .inr (0, [.ref g, .ref an, .ref tr, .ref w])), (w, .inr (7, [.ref g, .ref an_sequences, .ref tr, .ref w_given, .ref w_values, .ref w_knownBits, .ref w_instructionsDone, .int 0, .int 0, .int 0]))]) [0, 1] rfl
  have hDc := hD.sub (ws' := [(x, .inr (0, [.ref g, .ref an, .ref tr, .ref w])), (w, .inr (7, [.ref g, .ref an_sequences, .ref tr, .ref w_given, .ref w_values, .ref w_knownBits, .ref w_instructionsDone, .int 0, .int 0, .int 0]))]) [0, 1] (by decide) rfl
  have hKc := hK.sub (tys' := []) [] rfl
  have hFc := va_free (wc := [(x, .inr (0, [.ref g, .ref an, .ref tr, .ref w])), (w, .inr (7, [.ref g, .ref an_sequences, .ref tr, .ref w_given, .ref w_values, .ref w_knownBits, .ref w_instructionsDone, .int 0, .int 0, .int 0]))]) hD hS hA [0, 1] rfl
  refine va_calli (va_runV (As := []) (rest := []) ⟨hx, hb, hml, hown, hts⟩ (c_V_atHand l htr dC dI x g an tr w an_sequences w_given w_values w_knownBits w_instructionsDone H.size) (vq_cV WSk hts 0 rfl rfl ⟨by decide, by decide⟩ k_191 k_143 k_418 k_419 k_420 (by decide +kernel)) ⟨vq_blind, va_recv hK hP (ci := 0) (q0 := 0) rfl rfl, vq_here hst hS hN hPc hKc hDc⟩ rfl rfl hl.1 rfl (lv_room (Nat.le_of_ble_eq_true rfl)) d_L_law_898 ⟨by decide, by decide⟩) hS (fun q _ h => hFc q h) hFc (fun r1 u t H1 locs ht hvm hw hB hz1 hk1 hS => ?_)
  obtain ⟨hP1, hK1, hD1⟩ := hB
  rw [ht] at hP1
  have hK1 := va_K.moved hvm.symm hK1
  have hw : r1 = (-1) := hw
  subst hw
  obtain ⟨hP, hD⟩ := va_join (wr := [(mo, .inr (8, [.int 0, .int 0, .ref m_attributes, .ref m_inherits, .int 0, .ref m_positions, .ref m_symbolAt, .ref m_form, .ref m_ruleX, .ref m_ruleY, .int 0, .int 0, .int (-1), .int (-1), .ref m_uses, .ref m_leads, .ref m_symbolLeads, .ref m_order, .ref m_rank, .ref m_visits, .ref m_length, .ref m_sequence, .ref m_set, .ref m_visited, .int 0, .ref m_production, .ref m_token, .ref m_child, .ref m_parent, .ref m_next, .ref m_known, .ref m_value, .ref m_given, .int (-1), .int (-1)]))]) (w1 := [(x, .inr (0, [.ref g, .ref an, .ref tr, .ref w])), (w, .inr (7, [.ref g, .ref an_sequences, .ref tr, .ref w_given, .ref w_values, .ref w_knownBits, .ref w_instructionsDone, .int 0, .int 0, .int 0]))]) hP hD [0, 1] [2] rfl rfl (by decide) (by decide) hk1 hFc hP1 hD1
  have hK := (hK.sub (tys' := []) [] rfl).app hK1
  generalize H1 = H at hP hS ⊢
  have hP : va_P (dC, dI) CL [(mo, .inr (8, [.int 0, .int 0, .ref m_attributes, .ref m_inherits, .int 0, .ref m_positions, .ref m_symbolAt, .ref m_form, .ref m_ruleX, .ref m_ruleY, .int 0, .int 0, .int (-1), .int (-1), .ref m_uses, .ref m_leads, .ref m_symbolLeads, .ref m_order, .ref m_rank, .ref m_visits, .ref m_length, .ref m_sequence, .ref m_set, .ref m_visited, .int 0, .ref m_production, .ref m_token, .ref m_child, .ref m_parent, .ref m_next, .ref m_known, .ref m_value, .ref m_given, .int (-1), .int (-1)])), (x, .inr (0, [.ref g, .ref an, .ref tr, .ref w])), (w, .inr (7, [.ref g, .ref an_sequences, .ref tr, .ref w_given, .ref w_values, .ref w_knownBits, .ref w_instructionsDone, .int 0, .int 0, .int 0]))] H := hP
  have hD : va_D A [(mo, .inr (8, [.int 0, .int 0, .ref m_attributes, .ref m_inherits, .int 0, .ref m_positions, .ref m_symbolAt, .ref m_form, .ref m_ruleX, .ref m_ruleY, .int 0, .int 0, .int (-1), .int (-1), .ref m_uses, .ref m_leads, .ref m_symbolLeads, .ref m_order, .ref m_rank, .ref m_visits, .ref m_length, .ref m_sequence, .ref m_set, .ref m_visited, .int 0, .ref m_production, .ref m_token, .ref m_child, .ref m_parent, .ref m_next, .ref m_known, .ref m_value, .ref m_given, .int (-1), .int (-1)])), (x, .inr (0, [.ref g, .ref an, .ref tr, .ref w])), (w, .inr (7, [.ref g, .ref an_sequences, .ref tr, .ref w_given, .ref w_values, .ref w_knownBits, .ref w_instructionsDone, .int 0, .int 0, .int 0]))] := hD
  have hK : va_K (dC, dI) CL [] s := hK
  refine W.widen (k := 62) (n := 9096) (by decide) (by decide) ?_
  refine lv_aload_n hx hb d_L_law_901 rfl (lv_at hl 2 rfl) ?_
  have hPc := hP.sub (ws' := [(mo, .inr (8, [.int 0, .int 0, .ref m_attributes, .ref m_inherits, .int 0, .ref m_positions, .ref m_symbolAt, .ref m_form, .ref m_ruleX, .ref m_ruleY, .int 0, .int 0, .int (-1), .int (-1), .ref m_uses, .ref m_leads, .ref m_symbolLeads, .ref m_order, .ref m_rank, .ref m_visits, .ref m_length, .ref m_sequence, .ref m_set, .ref m_visited, .int 0, .ref m_production, .ref m_token, .ref m_child, .ref m_parent, .ref m_next, .ref m_known, .ref m_value, .ref m_given, .int (-1), .int (-1)]))]) [0] rfl
  have hDc := hD.sub (ws' := [(mo, .inr (8, [.int 0, .int 0, .ref m_attributes, .ref m_inherits, .int 0, .ref m_positions, .ref m_symbolAt, .ref m_form, .ref m_ruleX, .ref m_ruleY, .int 0, .int 0, .int (-1), .int (-1), .ref m_uses, .ref m_leads, .ref m_symbolLeads, .ref m_order, .ref m_rank, .ref m_visits, .ref m_length, .ref m_sequence, .ref m_set, .ref m_visited, .int 0, .ref m_production, .ref m_token, .ref m_child, .ref m_parent, .ref m_next, .ref m_known, .ref m_value, .ref m_given, .int (-1), .int (-1)]))]) [0] (by decide) rfl
  have hKc := hK.sub (tys' := []) [] rfl
  have hFc := va_free (wc := [(mo, .inr (8, [.int 0, .int 0, .ref m_attributes, .ref m_inherits, .int 0, .ref m_positions, .ref m_symbolAt, .ref m_form, .ref m_ruleX, .ref m_ruleY, .int 0, .int 0, .int (-1), .int (-1), .ref m_uses, .ref m_leads, .ref m_symbolLeads, .ref m_order, .ref m_rank, .ref m_visits, .ref m_length, .ref m_sequence, .ref m_set, .ref m_visited, .int 0, .ref m_production, .ref m_token, .ref m_child, .ref m_parent, .ref m_next, .ref m_known, .ref m_value, .ref m_given, .int (-1), .int (-1)]))]) hD hS hA [0] rfl
  refine va_calli (va_runV (As := []) (rest := [.int (-1)]) ⟨hx, hb, hml, hown, hts⟩ (c_M_atHand l htr dC dI mo m_attributes m_inherits m_positions m_symbolAt m_form m_ruleX m_ruleY m_uses m_leads m_symbolLeads m_order m_rank m_visits m_length m_sequence m_set m_visited m_production m_token m_child m_parent m_next m_known m_value m_given H.size) (vq_cV WSk hts 0 rfl rfl ⟨by decide, by decide⟩ k_283 k_235 k_421 k_422 k_423 (by decide +kernel)) ⟨vq_blind, va_recv hK hP (ci := 8) (q0 := 0) rfl rfl, vq_here hst hS hN hPc hKc hDc⟩ rfl rfl hl.1 rfl (lv_room (Nat.le_of_ble_eq_true rfl)) d_L_law_902 ⟨by decide, by decide⟩) hS (fun q _ h => hFc q h) hFc (fun r2 u t H1 locs ht hvm hw hB hz1 hk1 hS => ?_)
  obtain ⟨hP1, hK1, hD1⟩ := hB
  rw [ht] at hP1
  have hK1 := va_K.moved hvm.symm hK1
  have hw : r2 = (-1) := hw
  subst hw
  obtain ⟨hP, hD⟩ := va_join (wr := [(x, .inr (0, [.ref g, .ref an, .ref tr, .ref w])), (w, .inr (7, [.ref g, .ref an_sequences, .ref tr, .ref w_given, .ref w_values, .ref w_knownBits, .ref w_instructionsDone, .int 0, .int 0, .int 0]))]) (w1 := [(mo, .inr (8, [.int 0, .int 0, .ref m_attributes, .ref m_inherits, .int 0, .ref m_positions, .ref m_symbolAt, .ref m_form, .ref m_ruleX, .ref m_ruleY, .int 0, .int 0, .int (-1), .int (-1), .ref m_uses, .ref m_leads, .ref m_symbolLeads, .ref m_order, .ref m_rank, .ref m_visits, .ref m_length, .ref m_sequence, .ref m_set, .ref m_visited, .int 0, .ref m_production, .ref m_token, .ref m_child, .ref m_parent, .ref m_next, .ref m_known, .ref m_value, .ref m_given, .int (-1), .int (-1)]))]) hP hD [0] [1, 2] rfl rfl (by decide) (by decide) hk1 hFc hP1 hD1
  have hK := (hK.sub (tys' := []) [] rfl).app hK1
  generalize H1 = H at hP hS ⊢
  have hP : va_P (dC, dI) CL [(x, .inr (0, [.ref g, .ref an, .ref tr, .ref w])), (w, .inr (7, [.ref g, .ref an_sequences, .ref tr, .ref w_given, .ref w_values, .ref w_knownBits, .ref w_instructionsDone, .int 0, .int 0, .int 0])), (mo, .inr (8, [.int 0, .int 0, .ref m_attributes, .ref m_inherits, .int 0, .ref m_positions, .ref m_symbolAt, .ref m_form, .ref m_ruleX, .ref m_ruleY, .int 0, .int 0, .int (-1), .int (-1), .ref m_uses, .ref m_leads, .ref m_symbolLeads, .ref m_order, .ref m_rank, .ref m_visits, .ref m_length, .ref m_sequence, .ref m_set, .ref m_visited, .int 0, .ref m_production, .ref m_token, .ref m_child, .ref m_parent, .ref m_next, .ref m_known, .ref m_value, .ref m_given, .int (-1), .int (-1)]))] H := hP
  have hD : va_D A [(x, .inr (0, [.ref g, .ref an, .ref tr, .ref w])), (w, .inr (7, [.ref g, .ref an_sequences, .ref tr, .ref w_given, .ref w_values, .ref w_knownBits, .ref w_instructionsDone, .int 0, .int 0, .int 0])), (mo, .inr (8, [.int 0, .int 0, .ref m_attributes, .ref m_inherits, .int 0, .ref m_positions, .ref m_symbolAt, .ref m_form, .ref m_ruleX, .ref m_ruleY, .int 0, .int 0, .int (-1), .int (-1), .ref m_uses, .ref m_leads, .ref m_symbolLeads, .ref m_order, .ref m_rank, .ref m_visits, .ref m_length, .ref m_sequence, .ref m_set, .ref m_visited, .int 0, .ref m_production, .ref m_token, .ref m_child, .ref m_parent, .ref m_next, .ref m_known, .ref m_value, .ref m_given, .int (-1), .int (-1)]))] := hD
  have hK : va_K (dC, dI) CL [] s := hK
  refine W.widen (k := 62) (n := 9096) (by decide) (by decide) ?_
  refine lv_icmp_eq (tgt := 1053) hx hb d_L_law_905 (by decide) (fun _ => ?_) (fun h9 => absurd (by decide) h9)
  refine lv_iinc (k := 0) (v := 6) (lv' := [(4, .int 6), (3, .ref out), (2, .ref mo), (1, .ref x), (0, .ref b)]) hx hb d_L_law_1053 hl rfl (by decide) (by decide) rfl (fun ls hl => ?_)
  refine lv_goto (tgt := 23) hx hb d_L_law_1056 (by decide) ?_
  refine lv_iload hx hb d_L_law_23 (lv_at hl 0 rfl) ?_
  refine lv_aload_n hx hb d_L_law_25 rfl (lv_at hl 4 rfl) ?_
  refine va_slen hx hb hX hbl hbA hS d_L_law_26 ?_
  refine vq_top (y := 6) (by decide) ?_
  refine lv_bipush (v := 6) hx hb d_L_law_27 (by decide) ?_
  refine lv_isub hx hb d_L_law_29 ?_
  refine vq_top (y := 0) (by decide) ?_
  refine lv_icmp_gt (tgt := 1059) hx hb d_L_law_30 (by decide) (fun _ => ?_) (fun h9 => absurd (by decide) h9)
  refine lv_iconst (v := 1) hx hb d_L_law_1059 (by decide) ?_
  refine va_forget (fun q hq => hA2 _ (hS.2.2 q hq)) ?_
  refine W.widen (k := 85) (n := 9238) (by decide) (by decide) ?_
  exact lw_ret hx hb hr hlocks d_L_law_1060

set_option maxHeartbeats 4000000 in
set_option maxRecDepth 100000 in
theorem arm_15 {p : Program} {e : Env} {s : State} {m : MethodId} {below : List Frame} {meth : Method} {c : Code} (l : Launch) (htr : l.stackTraces = false) {b : Nat} {xs : Nat → Int32} {A : Nat → Prop} (dC : Nat → ClassId) (dI : Nat → Nat → Nat) (out : Nat) (mo : Nat) (x : Nat) (g : Nat) (an : Nat) (tr : Nat) (w : Nat) (tr_productions : Nat) (tr_tokens : Nat) (tr_parents : Nat) (tr_nodesAt : Nat) (m_attributes : Nat) (m_inherits : Nat) (m_positions : Nat) (m_symbolAt : Nat) (m_form : Nat) (m_ruleX : Nat) (m_ruleY : Nat) (m_uses : Nat) (m_leads : Nat) (m_symbolLeads : Nat) (m_order : Nat) (m_rank : Nat) (m_visits : Nat) (m_length : Nat) (m_sequence : Nat) (m_set : Nat) (m_visited : Nat) (m_production : Nat) (m_token : Nat) (m_child : Nat) (m_parent : Nat) (m_next : Nat) (m_known : Nat) (m_value : Nat) (m_given : Nat) {H : Heap} {locs : List Loc} {ls : Array Slot} (hAt : lw_At p s m meth c b 6 xs) (hst : vq_st s) (hA : ∀ q : Nat, s.heap.size ≤ q → A q) (hA2 : ∀ q : Nat, A q → s.heap.size ≤ q) (hbA : ¬ A b) (hK : va_K (dC, dI) CL [] s) (hP : va_P (dC, dI) CL [(x, .inr (0, [.ref g, .ref an, .ref tr, .ref w])), (tr, .inr (6, [.ref g, .ref tr_productions, .ref tr_tokens, .ref tr_parents, .ref tr_nodesAt, .int 0])), (mo, .inr (8, [.int 0, .int 0, .ref m_attributes, .ref m_inherits, .int 0, .ref m_positions, .ref m_symbolAt, .ref m_form, .ref m_ruleX, .ref m_ruleY, .int 0, .int 0, .int (-1), .int (-1), .ref m_uses, .ref m_leads, .ref m_symbolLeads, .ref m_order, .ref m_rank, .ref m_visits, .ref m_length, .ref m_sequence, .ref m_set, .ref m_visited, .int 0, .ref m_production, .ref m_token, .ref m_child, .ref m_parent, .ref m_next, .ref m_known, .ref m_value, .ref m_given, .int (-1), .int (-1)]))] H) (hD : va_D A [(x, .inr (0, [.ref g, .ref an, .ref tr, .ref w])), (tr, .inr (6, [.ref g, .ref tr_productions, .ref tr_tokens, .ref tr_parents, .ref tr_nodesAt, .int 0])), (mo, .inr (8, [.int 0, .int 0, .ref m_attributes, .ref m_inherits, .int 0, .ref m_positions, .ref m_symbolAt, .ref m_form, .ref m_ruleX, .ref m_ruleY, .int 0, .int 0, .int (-1), .int (-1), .ref m_uses, .ref m_leads, .ref m_symbolLeads, .ref m_order, .ref m_rank, .ref m_visits, .ref m_length, .ref m_sequence, .ref m_set, .ref m_visited, .int 0, .ref m_production, .ref m_token, .ref m_child, .ref m_parent, .ref m_next, .ref m_known, .ref m_value, .ref m_given, .int (-1), .int (-1)]))]) (hS : va_S A s.heap H locs) (hl : lv_has ls 7 [(4, .int 0), (3, .ref out), (2, .ref mo), (1, .ref x), (0, .ref b)]) : W p l e room_1 s m #[Value.ref b] below meth c H locs 62 9096 (lw_Z below #[Value.ref b] s) (F0 m 910 ls []) := by
  obtain ⟨hx, hb, hr, hml, hown, hts0, hX, hbl, hlocks, -⟩ := hAt
  have hts : ∀ w ∈ WS, w.before #[Value.ref b] s = true := fun w hw => hts0 w (WS_tbl w hw)
  have hN : ∀ q : Nat, A q → ∀ cell : Cell, s.heap[q]? = some cell → cell.vm.isStatics = false := fun q hq cell hc => absurd (Array.getElem?_eq_some_iff.mp hc).1 (Nat.not_lt.mpr (hA2 q hq))
  refine lv_aload_n hx hb d_L_law_910 rfl (lv_at hl 3 rfl) ?_
  refine lv_aload_n hx hb d_L_law_911 rfl (lv_at hl 4 rfl) ?_
  refine lv_iload hx hb d_L_law_912 (lv_at hl 0 rfl) ?_
  refine lv_iconst (v := 1) hx hb d_L_law_914 (by decide) ?_
  refine lv_iadd hx hb d_L_law_915 ?_
  refine vq_top (y := 1) (by decide) ?_
  refine va_sld (i := 1) hx hb hX hbl hbA hS (show ¬ ((1 : Int32) < 0 ∨ 6 ≤ Int32.toNatClampNeg 1) by decide) d_L_law_916 ?_
  refine vq_top (y := xs 1) rfl ?_
  refine lv_aload_n hx hb d_L_law_917 rfl (lv_at hl 4 rfl) ?_
  refine lv_iload hx hb d_L_law_918 (lv_at hl 0 rfl) ?_
  refine lv_iconst (v := 2) hx hb d_L_law_920 (by decide) ?_
  refine lv_iadd hx hb d_L_law_921 ?_
  refine vq_top (y := 2) (by decide) ?_
  refine va_sld (i := 2) hx hb hX hbl hbA hS (show ¬ ((2 : Int32) < 0 ∨ 6 ≤ Int32.toNatClampNeg 2) by decide) d_L_law_922 ?_
  refine vq_top (y := xs 2) rfl ?_
  refine lv_aload_n hx hb d_L_law_923 rfl (lv_at hl 1 rfl) ?_
  have hPc := hP.sub (ws' := [(x, .inr (0, [.ref g, .ref an, .ref tr, .ref w])), (tr, .inr (6, [.ref g, .ref tr_productions, .ref tr_tokens, .ref tr_parents, .ref tr_nodesAt, .int 0]))]) [0, 1] rfl
  have hDc := hD.sub (ws' := [(x, .inr (0, [.ref g, .ref an, .ref tr, .ref w])), (tr, .inr (6, [.ref g, .ref tr_productions, .ref tr_tokens, .ref tr_parents, .ref tr_nodesAt, .int 0]))]) [0, 1] (by decide) rfl
  have hKc := hK.sub (tys' := []) [] rfl
  have hFc := va_free (wc := [(x, .inr (0, [.ref g, .ref an, .ref tr, .ref w])), (tr, .inr (6, [.ref g, .ref tr_productions, .ref tr_tokens, .ref tr_parents, .ref tr_nodesAt, .int 0]))]) hD hS hA [0, 1] rfl
  refine va_calli (vq_runSH (n := 4) (As := [.ref x, .int (xs 1), .int (xs 2), .ref out]) (rest := []) ⟨hx, hb, hml, hown, hts⟩ (w_knows l htr dC dI x (xs 1) (xs 2) out g an tr w tr_productions tr_tokens tr_parents tr_nodesAt H.size) WSk rfl rfl ⟨by decide, by decide⟩ k_339 k_347 k_424 k_425 (by decide +kernel) ⟨vq_blind, vq_here hst hS hN hPc hKc hDc⟩ rfl rfl hl.1 rfl (lv_room (Nat.le_of_ble_eq_true rfl)) d_L_law_924 ⟨by decide, by decide⟩) hS (fun q _ h => hFc q h) hFc (fun r1 u t H1 locs ht hvm hw hB hz1 hk1 hS => ?_)
  obtain ⟨hP1, hK1, hD1⟩ := hB
  rw [ht] at hP1
  have hK1 := va_K.moved hvm.symm hK1
  have hw : r1 = 1 := hw
  subst hw
  obtain ⟨hP, hD⟩ := va_join (wr := [(mo, .inr (8, [.int 0, .int 0, .ref m_attributes, .ref m_inherits, .int 0, .ref m_positions, .ref m_symbolAt, .ref m_form, .ref m_ruleX, .ref m_ruleY, .int 0, .int 0, .int (-1), .int (-1), .ref m_uses, .ref m_leads, .ref m_symbolLeads, .ref m_order, .ref m_rank, .ref m_visits, .ref m_length, .ref m_sequence, .ref m_set, .ref m_visited, .int 0, .ref m_production, .ref m_token, .ref m_child, .ref m_parent, .ref m_next, .ref m_known, .ref m_value, .ref m_given, .int (-1), .int (-1)]))]) (w1 := []) hP hD [0, 1] [2] rfl rfl (by decide) (by decide) hk1 hFc hP1 hD1
  have hK := (hK.sub (tys' := []) [] rfl).app hK1
  generalize H1 = H at hP hS ⊢
  have hP : va_P (dC, dI) CL [(mo, .inr (8, [.int 0, .int 0, .ref m_attributes, .ref m_inherits, .int 0, .ref m_positions, .ref m_symbolAt, .ref m_form, .ref m_ruleX, .ref m_ruleY, .int 0, .int 0, .int (-1), .int (-1), .ref m_uses, .ref m_leads, .ref m_symbolLeads, .ref m_order, .ref m_rank, .ref m_visits, .ref m_length, .ref m_sequence, .ref m_set, .ref m_visited, .int 0, .ref m_production, .ref m_token, .ref m_child, .ref m_parent, .ref m_next, .ref m_known, .ref m_value, .ref m_given, .int (-1), .int (-1)]))] H := hP
  have hD : va_D A [(mo, .inr (8, [.int 0, .int 0, .ref m_attributes, .ref m_inherits, .int 0, .ref m_positions, .ref m_symbolAt, .ref m_form, .ref m_ruleX, .ref m_ruleY, .int 0, .int 0, .int (-1), .int (-1), .ref m_uses, .ref m_leads, .ref m_symbolLeads, .ref m_order, .ref m_rank, .ref m_visits, .ref m_length, .ref m_sequence, .ref m_set, .ref m_visited, .int 0, .ref m_production, .ref m_token, .ref m_child, .ref m_parent, .ref m_next, .ref m_known, .ref m_value, .ref m_given, .int (-1), .int (-1)]))] := hD
  have hK : va_K (dC, dI) CL [] s := hK
  refine W.widen (k := 63) (n := 9102) (by decide) (by decide) ?_
  refine lv_istore (lv' := [(5, .int 1), (4, .int 0), (3, .ref out), (2, .ref mo), (1, .ref x), (0, .ref b)]) hx hb d_L_law_927 hl (by decide) rfl (fun ls hl => ?_)
  refine lv_aload_n hx hb d_L_law_929 rfl (lv_at hl 3 rfl) ?_
  refine lv_aload_n hx hb d_L_law_930 rfl (lv_at hl 5 rfl) ?_
  refine lv_iload hx hb d_L_law_931 (lv_at hl 1 rfl) ?_
  refine lv_iconst (v := 1) hx hb d_L_law_933 (by decide) ?_
  refine lv_iadd hx hb d_L_law_934 ?_
  refine vq_top (y := 1) (by decide) ?_
  refine va_sld (i := 1) hx hb hX hbl hbA hS (show ¬ ((1 : Int32) < 0 ∨ 6 ≤ Int32.toNatClampNeg 1) by decide) d_L_law_935 ?_
  refine vq_top (y := xs 1) rfl ?_
  refine lv_aload_n hx hb d_L_law_936 rfl (lv_at hl 5 rfl) ?_
  refine lv_iload hx hb d_L_law_937 (lv_at hl 1 rfl) ?_
  refine lv_iconst (v := 2) hx hb d_L_law_939 (by decide) ?_
  refine lv_iadd hx hb d_L_law_940 ?_
  refine vq_top (y := 2) (by decide) ?_
  refine va_sld (i := 2) hx hb hX hbl hbA hS (show ¬ ((2 : Int32) < 0 ∨ 6 ≤ Int32.toNatClampNeg 2) by decide) d_L_law_941 ?_
  refine vq_top (y := xs 2) rfl ?_
  have hPc := hP.sub (ws' := [(mo, .inr (8, [.int 0, .int 0, .ref m_attributes, .ref m_inherits, .int 0, .ref m_positions, .ref m_symbolAt, .ref m_form, .ref m_ruleX, .ref m_ruleY, .int 0, .int 0, .int (-1), .int (-1), .ref m_uses, .ref m_leads, .ref m_symbolLeads, .ref m_order, .ref m_rank, .ref m_visits, .ref m_length, .ref m_sequence, .ref m_set, .ref m_visited, .int 0, .ref m_production, .ref m_token, .ref m_child, .ref m_parent, .ref m_next, .ref m_known, .ref m_value, .ref m_given, .int (-1), .int (-1)]))]) [0] rfl
  have hDc := hD.sub (ws' := [(mo, .inr (8, [.int 0, .int 0, .ref m_attributes, .ref m_inherits, .int 0, .ref m_positions, .ref m_symbolAt, .ref m_form, .ref m_ruleX, .ref m_ruleY, .int 0, .int 0, .int (-1), .int (-1), .ref m_uses, .ref m_leads, .ref m_symbolLeads, .ref m_order, .ref m_rank, .ref m_visits, .ref m_length, .ref m_sequence, .ref m_set, .ref m_visited, .int 0, .ref m_production, .ref m_token, .ref m_child, .ref m_parent, .ref m_next, .ref m_known, .ref m_value, .ref m_given, .int (-1), .int (-1)]))]) [0] (by decide) rfl
  have hKc := hK.sub (tys' := []) [] rfl
  have hFc := va_free (wc := [(mo, .inr (8, [.int 0, .int 0, .ref m_attributes, .ref m_inherits, .int 0, .ref m_positions, .ref m_symbolAt, .ref m_form, .ref m_ruleX, .ref m_ruleY, .int 0, .int 0, .int (-1), .int (-1), .ref m_uses, .ref m_leads, .ref m_symbolLeads, .ref m_order, .ref m_rank, .ref m_visits, .ref m_length, .ref m_sequence, .ref m_set, .ref m_visited, .int 0, .ref m_production, .ref m_token, .ref m_child, .ref m_parent, .ref m_next, .ref m_known, .ref m_value, .ref m_given, .int (-1), .int (-1)]))]) hD hS hA [0] rfl
  refine va_calli (va_runV (As := [.int (xs 1), .int (xs 2)]) (rest := []) ⟨hx, hb, hml, hown, hts⟩ (c_M_knows l htr dC dI mo (xs 1) (xs 2) m_attributes m_inherits m_positions m_symbolAt m_form m_ruleX m_ruleY m_uses m_leads m_symbolLeads m_order m_rank m_visits m_length m_sequence m_set m_visited m_production m_token m_child m_parent m_next m_known m_value m_given H.size) (vq_cV WSk hts 2 rfl rfl ⟨by decide, by decide⟩ k_284 k_235 k_426 k_427 k_428 (by decide +kernel)) ⟨vq_blind, va_recv hK hP (ci := 8) (q0 := 0) rfl rfl, vq_here hst hS hN hPc hKc hDc⟩ rfl rfl hl.1 rfl (lv_room (Nat.le_of_ble_eq_true rfl)) d_L_law_942 ⟨by decide, by decide⟩) hS (fun q _ h => hFc q h) hFc (fun r2 u t H1 locs ht hvm hw hB hz1 hk1 hS => ?_)
  obtain ⟨hP1, hK1, hD1⟩ := hB
  rw [ht] at hP1
  have hK1 := va_K.moved hvm.symm hK1
  have hw : r2 = 0 := hw
  subst hw
  obtain ⟨hP, hD⟩ := va_join (wr := []) (w1 := [(mo, .inr (8, [.int 1, .int 0, .ref m_attributes, .ref m_inherits, .int 0, .ref m_positions, .ref m_symbolAt, .ref m_form, .ref m_ruleX, .ref m_ruleY, .int 0, .int 0, .int (-1), .int (-1), .ref m_uses, .ref m_leads, .ref m_symbolLeads, .ref m_order, .ref m_rank, .ref m_visits, .ref m_length, .ref m_sequence, .ref m_set, .ref m_visited, .int 0, .ref m_production, .ref m_token, .ref m_child, .ref m_parent, .ref m_next, .ref m_known, .ref m_value, .ref m_given, .int (-1), .int (-1)]))]) hP hD [0] [] rfl rfl (by decide) (by decide) hk1 hFc hP1 hD1
  have hK := (hK.sub (tys' := []) [] rfl).app hK1
  generalize H1 = H at hP hS ⊢
  have hP : va_P (dC, dI) CL [(mo, .inr (8, [.int 1, .int 0, .ref m_attributes, .ref m_inherits, .int 0, .ref m_positions, .ref m_symbolAt, .ref m_form, .ref m_ruleX, .ref m_ruleY, .int 0, .int 0, .int (-1), .int (-1), .ref m_uses, .ref m_leads, .ref m_symbolLeads, .ref m_order, .ref m_rank, .ref m_visits, .ref m_length, .ref m_sequence, .ref m_set, .ref m_visited, .int 0, .ref m_production, .ref m_token, .ref m_child, .ref m_parent, .ref m_next, .ref m_known, .ref m_value, .ref m_given, .int (-1), .int (-1)]))] H := hP
  have hD : va_D A [(mo, .inr (8, [.int 1, .int 0, .ref m_attributes, .ref m_inherits, .int 0, .ref m_positions, .ref m_symbolAt, .ref m_form, .ref m_ruleX, .ref m_ruleY, .int 0, .int 0, .int (-1), .int (-1), .ref m_uses, .ref m_leads, .ref m_symbolLeads, .ref m_order, .ref m_rank, .ref m_visits, .ref m_length, .ref m_sequence, .ref m_set, .ref m_visited, .int 0, .ref m_production, .ref m_token, .ref m_child, .ref m_parent, .ref m_next, .ref m_known, .ref m_value, .ref m_given, .int (-1), .int (-1)]))] := hD
  have hK : va_K (dC, dI) CL [] s := hK
  refine W.widen (k := 63) (n := 9102) (by decide) (by decide) ?_
  refine lv_istore (lv' := [(6, .int 0), (5, .int 1), (4, .int 0), (3, .ref out), (2, .ref mo), (1, .ref x), (0, .ref b)]) hx hb d_L_law_945 hl (by decide) rfl (fun ls hl => ?_)
  refine lv_aload_n hx hb d_L_law_947 rfl (lv_at hl 4 rfl) ?_
  have hPc := hP.sub (ws' := [(mo, .inr (8, [.int 1, .int 0, .ref m_attributes, .ref m_inherits, .int 0, .ref m_positions, .ref m_symbolAt, .ref m_form, .ref m_ruleX, .ref m_ruleY, .int 0, .int 0, .int (-1), .int (-1), .ref m_uses, .ref m_leads, .ref m_symbolLeads, .ref m_order, .ref m_rank, .ref m_visits, .ref m_length, .ref m_sequence, .ref m_set, .ref m_visited, .int 0, .ref m_production, .ref m_token, .ref m_child, .ref m_parent, .ref m_next, .ref m_known, .ref m_value, .ref m_given, .int (-1), .int (-1)]))]) [0] rfl
  have hDc := hD.sub (ws' := [(mo, .inr (8, [.int 1, .int 0, .ref m_attributes, .ref m_inherits, .int 0, .ref m_positions, .ref m_symbolAt, .ref m_form, .ref m_ruleX, .ref m_ruleY, .int 0, .int 0, .int (-1), .int (-1), .ref m_uses, .ref m_leads, .ref m_symbolLeads, .ref m_order, .ref m_rank, .ref m_visits, .ref m_length, .ref m_sequence, .ref m_set, .ref m_visited, .int 0, .ref m_production, .ref m_token, .ref m_child, .ref m_parent, .ref m_next, .ref m_known, .ref m_value, .ref m_given, .int (-1), .int (-1)]))]) [0] (by decide) rfl
  have hKc := hK.sub (tys' := []) [] rfl
  have hFc := va_free (wc := [(mo, .inr (8, [.int 1, .int 0, .ref m_attributes, .ref m_inherits, .int 0, .ref m_positions, .ref m_symbolAt, .ref m_form, .ref m_ruleX, .ref m_ruleY, .int 0, .int 0, .int (-1), .int (-1), .ref m_uses, .ref m_leads, .ref m_symbolLeads, .ref m_order, .ref m_rank, .ref m_visits, .ref m_length, .ref m_sequence, .ref m_set, .ref m_visited, .int 0, .ref m_production, .ref m_token, .ref m_child, .ref m_parent, .ref m_next, .ref m_known, .ref m_value, .ref m_given, .int (-1), .int (-1)]))]) hD hS hA [0] rfl
  refine va_calli (va_runV (As := []) (rest := []) ⟨hx, hb, hml, hown, hts⟩ (c_M_thrown l htr dC dI mo 1 0 m_attributes m_inherits 0 m_positions m_symbolAt m_form m_ruleX m_ruleY 0 0 (-1) (-1) m_uses m_leads m_symbolLeads m_order m_rank m_visits m_length m_sequence m_set m_visited 0 m_production m_token m_child m_parent m_next m_known m_value m_given (-1) (-1) H.size) (vq_cV WSk hts 0 rfl rfl ⟨by decide, by decide⟩ k_239 k_235 k_353 k_354 k_355 (by decide +kernel)) ⟨vq_blind, va_recv hK hP (ci := 8) (q0 := 0) rfl rfl, vq_here hst hS hN hPc hKc hDc⟩ rfl rfl hl.1 rfl (lv_room (Nat.le_of_ble_eq_true rfl)) d_L_law_948 ⟨by decide, by decide⟩) hS (fun q _ h => hFc q h) hFc (fun r3 u t H1 locs ht hvm hw hB hz1 hk1 hS => ?_)
  obtain ⟨hP1, hK1, hD1⟩ := hB
  rw [ht] at hP1
  have hK1 := va_K.moved hvm.symm hK1
  have hw : r3 = 1 := hw
  subst hw
  obtain ⟨hP, hD⟩ := va_join (wr := []) (w1 := [(mo, .inr (8, [.int 1, .int 0, .ref m_attributes, .ref m_inherits, .int 0, .ref m_positions, .ref m_symbolAt, .ref m_form, .ref m_ruleX, .ref m_ruleY, .int 0, .int 0, .int (-1), .int (-1), .ref m_uses, .ref m_leads, .ref m_symbolLeads, .ref m_order, .ref m_rank, .ref m_visits, .ref m_length, .ref m_sequence, .ref m_set, .ref m_visited, .int 0, .ref m_production, .ref m_token, .ref m_child, .ref m_parent, .ref m_next, .ref m_known, .ref m_value, .ref m_given, .int (-1), .int (-1)]))]) hP hD [0] [] rfl rfl (by decide) (by decide) hk1 hFc hP1 hD1
  have hK := (hK.sub (tys' := []) [] rfl).app hK1
  generalize H1 = H at hP hS ⊢
  have hP : va_P (dC, dI) CL [(mo, .inr (8, [.int 1, .int 0, .ref m_attributes, .ref m_inherits, .int 0, .ref m_positions, .ref m_symbolAt, .ref m_form, .ref m_ruleX, .ref m_ruleY, .int 0, .int 0, .int (-1), .int (-1), .ref m_uses, .ref m_leads, .ref m_symbolLeads, .ref m_order, .ref m_rank, .ref m_visits, .ref m_length, .ref m_sequence, .ref m_set, .ref m_visited, .int 0, .ref m_production, .ref m_token, .ref m_child, .ref m_parent, .ref m_next, .ref m_known, .ref m_value, .ref m_given, .int (-1), .int (-1)]))] H := hP
  have hD : va_D A [(mo, .inr (8, [.int 1, .int 0, .ref m_attributes, .ref m_inherits, .int 0, .ref m_positions, .ref m_symbolAt, .ref m_form, .ref m_ruleX, .ref m_ruleY, .int 0, .int 0, .int (-1), .int (-1), .ref m_uses, .ref m_leads, .ref m_symbolLeads, .ref m_order, .ref m_rank, .ref m_visits, .ref m_length, .ref m_sequence, .ref m_set, .ref m_visited, .int 0, .ref m_production, .ref m_token, .ref m_child, .ref m_parent, .ref m_next, .ref m_known, .ref m_value, .ref m_given, .int (-1), .int (-1)]))] := hD
  have hK : va_K (dC, dI) CL [] s := hK
  refine W.widen (k := 63) (n := 9102) (by decide) (by decide) ?_
  refine lv_iload hx hb d_L_law_951 (lv_at hl 1 rfl) ?_
  refine lv_icmp_eq (tgt := 958) hx hb d_L_law_953 (by decide) (fun _ => ?_) (fun h9 => absurd (by decide) h9)
  refine lv_iload hx hb d_L_law_958 (lv_at hl 1 rfl) ?_
  refine lv_if_ne (tgt := 982) hx hb d_L_law_960 (by decide) (fun _ => ?_) (fun h9 => absurd h9 (by decide))
  refine lv_goto (tgt := 1053) hx hb d_L_law_982 (by decide) ?_
  refine lv_iinc (k := 2) (v := 6) (lv' := [(4, .int 6), (6, .int 0), (5, .int 1), (3, .ref out), (2, .ref mo), (1, .ref x), (0, .ref b)]) hx hb d_L_law_1053 hl rfl (by decide) (by decide) rfl (fun ls hl => ?_)
  refine lv_goto (tgt := 23) hx hb d_L_law_1056 (by decide) ?_
  refine lv_iload hx hb d_L_law_23 (lv_at hl 0 rfl) ?_
  refine lv_aload_n hx hb d_L_law_25 rfl (lv_at hl 6 rfl) ?_
  refine va_slen hx hb hX hbl hbA hS d_L_law_26 ?_
  refine vq_top (y := 6) (by decide) ?_
  refine lv_bipush (v := 6) hx hb d_L_law_27 (by decide) ?_
  refine lv_isub hx hb d_L_law_29 ?_
  refine vq_top (y := 0) (by decide) ?_
  refine lv_icmp_gt (tgt := 1059) hx hb d_L_law_30 (by decide) (fun _ => ?_) (fun h9 => absurd (by decide) h9)
  refine lv_iconst (v := 1) hx hb d_L_law_1059 (by decide) ?_
  refine va_forget (fun q hq => hA2 _ (hS.2.2 q hq)) ?_
  refine W.widen (k := 85) (n := 9238) (by decide) (by decide) ?_
  exact lw_ret hx hb hr hlocks d_L_law_1060

set_option maxHeartbeats 4000000 in
set_option maxRecDepth 100000 in
theorem arm_16 {p : Program} {e : Env} {s : State} {m : MethodId} {below : List Frame} {meth : Method} {c : Code} (l : Launch) (htr : l.stackTraces = false) {b : Nat} {xs : Nat → Int32} {A : Nat → Prop} (dC : Nat → ClassId) (dI : Nat → Nat → Nat) (out : Nat) (mo : Nat) (x : Nat) (g : Nat) (an : Nat) (tr : Nat) (w : Nat) (tr_productions : Nat) (tr_tokens : Nat) (tr_parents : Nat) (tr_nodesAt : Nat) (m_attributes : Nat) (m_inherits : Nat) (m_positions : Nat) (m_symbolAt : Nat) (m_form : Nat) (m_ruleX : Nat) (m_ruleY : Nat) (m_uses : Nat) (m_leads : Nat) (m_symbolLeads : Nat) (m_order : Nat) (m_rank : Nat) (m_visits : Nat) (m_length : Nat) (m_sequence : Nat) (m_set : Nat) (m_visited : Nat) (m_production : Nat) (m_token : Nat) (m_child : Nat) (m_parent : Nat) (m_next : Nat) (m_known : Nat) (m_value : Nat) (m_given : Nat) {H : Heap} {locs : List Loc} {ls : Array Slot} (hAt : lw_At p s m meth c b 6 xs) (hst : vq_st s) (hA : ∀ q : Nat, s.heap.size ≤ q → A q) (hA2 : ∀ q : Nat, A q → s.heap.size ≤ q) (hbA : ¬ A b) (hK : va_K (dC, dI) CL [] s) (hP : va_P (dC, dI) CL [(x, .inr (0, [.ref g, .ref an, .ref tr, .ref w])), (tr, .inr (6, [.ref g, .ref tr_productions, .ref tr_tokens, .ref tr_parents, .ref tr_nodesAt, .int 0])), (mo, .inr (8, [.int 0, .int 0, .ref m_attributes, .ref m_inherits, .int 0, .ref m_positions, .ref m_symbolAt, .ref m_form, .ref m_ruleX, .ref m_ruleY, .int 0, .int 0, .int (-1), .int (-1), .ref m_uses, .ref m_leads, .ref m_symbolLeads, .ref m_order, .ref m_rank, .ref m_visits, .ref m_length, .ref m_sequence, .ref m_set, .ref m_visited, .int 0, .ref m_production, .ref m_token, .ref m_child, .ref m_parent, .ref m_next, .ref m_known, .ref m_value, .ref m_given, .int (-1), .int (-1)]))] H) (hD : va_D A [(x, .inr (0, [.ref g, .ref an, .ref tr, .ref w])), (tr, .inr (6, [.ref g, .ref tr_productions, .ref tr_tokens, .ref tr_parents, .ref tr_nodesAt, .int 0])), (mo, .inr (8, [.int 0, .int 0, .ref m_attributes, .ref m_inherits, .int 0, .ref m_positions, .ref m_symbolAt, .ref m_form, .ref m_ruleX, .ref m_ruleY, .int 0, .int 0, .int (-1), .int (-1), .ref m_uses, .ref m_leads, .ref m_symbolLeads, .ref m_order, .ref m_rank, .ref m_visits, .ref m_length, .ref m_sequence, .ref m_set, .ref m_visited, .int 0, .ref m_production, .ref m_token, .ref m_child, .ref m_parent, .ref m_next, .ref m_known, .ref m_value, .ref m_given, .int (-1), .int (-1)]))]) (hS : va_S A s.heap H locs) (hl : lv_has ls 7 [(4, .int 0), (3, .ref out), (2, .ref mo), (1, .ref x), (0, .ref b)]) : W p l e room_1 s m #[Value.ref b] below meth c H locs 62 9096 (lw_Z below #[Value.ref b] s) (F0 m 985 ls []) := by
  obtain ⟨hx, hb, hr, hml, hown, hts0, hX, hbl, hlocks, -⟩ := hAt
  have hts : ∀ w ∈ WS, w.before #[Value.ref b] s = true := fun w hw => hts0 w (WS_tbl w hw)
  have hN : ∀ q : Nat, A q → ∀ cell : Cell, s.heap[q]? = some cell → cell.vm.isStatics = false := fun q hq cell hc => absurd (Array.getElem?_eq_some_iff.mp hc).1 (Nat.not_lt.mpr (hA2 q hq))
  refine lv_aload_n hx hb d_L_law_985 rfl (lv_at hl 3 rfl) ?_
  refine lv_aload_n hx hb d_L_law_986 rfl (lv_at hl 4 rfl) ?_
  refine lv_iload hx hb d_L_law_987 (lv_at hl 0 rfl) ?_
  refine lv_iconst (v := 1) hx hb d_L_law_989 (by decide) ?_
  refine lv_iadd hx hb d_L_law_990 ?_
  refine vq_top (y := 1) (by decide) ?_
  refine va_sld (i := 1) hx hb hX hbl hbA hS (show ¬ ((1 : Int32) < 0 ∨ 6 ≤ Int32.toNatClampNeg 1) by decide) d_L_law_991 ?_
  refine vq_top (y := xs 1) rfl ?_
  refine lv_aload_n hx hb d_L_law_992 rfl (lv_at hl 4 rfl) ?_
  refine lv_iload hx hb d_L_law_993 (lv_at hl 0 rfl) ?_
  refine lv_iconst (v := 2) hx hb d_L_law_995 (by decide) ?_
  refine lv_iadd hx hb d_L_law_996 ?_
  refine vq_top (y := 2) (by decide) ?_
  refine va_sld (i := 2) hx hb hX hbl hbA hS (show ¬ ((2 : Int32) < 0 ∨ 6 ≤ Int32.toNatClampNeg 2) by decide) d_L_law_997 ?_
  refine vq_top (y := xs 2) rfl ?_
  refine lv_aload_n hx hb d_L_law_998 rfl (lv_at hl 1 rfl) ?_
  have hPc := hP.sub (ws' := [(x, .inr (0, [.ref g, .ref an, .ref tr, .ref w])), (tr, .inr (6, [.ref g, .ref tr_productions, .ref tr_tokens, .ref tr_parents, .ref tr_nodesAt, .int 0]))]) [0, 1] rfl
  have hDc := hD.sub (ws' := [(x, .inr (0, [.ref g, .ref an, .ref tr, .ref w])), (tr, .inr (6, [.ref g, .ref tr_productions, .ref tr_tokens, .ref tr_parents, .ref tr_nodesAt, .int 0]))]) [0, 1] (by decide) rfl
  have hKc := hK.sub (tys' := []) [] rfl
  have hFc := va_free (wc := [(x, .inr (0, [.ref g, .ref an, .ref tr, .ref w])), (tr, .inr (6, [.ref g, .ref tr_productions, .ref tr_tokens, .ref tr_parents, .ref tr_nodesAt, .int 0]))]) hD hS hA [0, 1] rfl
  refine va_calli (vq_runSH (n := 4) (As := [.ref x, .int (xs 1), .int (xs 2), .ref out]) (rest := []) ⟨hx, hb, hml, hown, hts⟩ (w_value l htr dC dI x (xs 1) (xs 2) out g an tr w tr_productions tr_tokens tr_parents tr_nodesAt H.size) WSk rfl rfl ⟨by decide, by decide⟩ k_343 k_347 k_429 k_430 (by decide +kernel) ⟨vq_blind, vq_here hst hS hN hPc hKc hDc⟩ rfl rfl hl.1 rfl (lv_room (Nat.le_of_ble_eq_true rfl)) d_L_law_999 ⟨by decide, by decide⟩) hS (fun q _ h => hFc q h) hFc (fun r1 u t H1 locs ht hvm hw hB hz1 hk1 hS => ?_)
  obtain ⟨hP1, hK1, hD1⟩ := hB
  rw [ht] at hP1
  have hK1 := va_K.moved hvm.symm hK1
  have hw : r1 = 1 := hw
  subst hw
  obtain ⟨hP, hD⟩ := va_join (wr := [(mo, .inr (8, [.int 0, .int 0, .ref m_attributes, .ref m_inherits, .int 0, .ref m_positions, .ref m_symbolAt, .ref m_form, .ref m_ruleX, .ref m_ruleY, .int 0, .int 0, .int (-1), .int (-1), .ref m_uses, .ref m_leads, .ref m_symbolLeads, .ref m_order, .ref m_rank, .ref m_visits, .ref m_length, .ref m_sequence, .ref m_set, .ref m_visited, .int 0, .ref m_production, .ref m_token, .ref m_child, .ref m_parent, .ref m_next, .ref m_known, .ref m_value, .ref m_given, .int (-1), .int (-1)]))]) (w1 := []) hP hD [0, 1] [2] rfl rfl (by decide) (by decide) hk1 hFc hP1 hD1
  have hK := (hK.sub (tys' := []) [] rfl).app hK1
  generalize H1 = H at hP hS ⊢
  have hP : va_P (dC, dI) CL [(mo, .inr (8, [.int 0, .int 0, .ref m_attributes, .ref m_inherits, .int 0, .ref m_positions, .ref m_symbolAt, .ref m_form, .ref m_ruleX, .ref m_ruleY, .int 0, .int 0, .int (-1), .int (-1), .ref m_uses, .ref m_leads, .ref m_symbolLeads, .ref m_order, .ref m_rank, .ref m_visits, .ref m_length, .ref m_sequence, .ref m_set, .ref m_visited, .int 0, .ref m_production, .ref m_token, .ref m_child, .ref m_parent, .ref m_next, .ref m_known, .ref m_value, .ref m_given, .int (-1), .int (-1)]))] H := hP
  have hD : va_D A [(mo, .inr (8, [.int 0, .int 0, .ref m_attributes, .ref m_inherits, .int 0, .ref m_positions, .ref m_symbolAt, .ref m_form, .ref m_ruleX, .ref m_ruleY, .int 0, .int 0, .int (-1), .int (-1), .ref m_uses, .ref m_leads, .ref m_symbolLeads, .ref m_order, .ref m_rank, .ref m_visits, .ref m_length, .ref m_sequence, .ref m_set, .ref m_visited, .int 0, .ref m_production, .ref m_token, .ref m_child, .ref m_parent, .ref m_next, .ref m_known, .ref m_value, .ref m_given, .int (-1), .int (-1)]))] := hD
  have hK : va_K (dC, dI) CL [] s := hK
  refine W.widen (k := 63) (n := 9102) (by decide) (by decide) ?_
  refine lv_istore (lv' := [(5, .int 1), (4, .int 0), (3, .ref out), (2, .ref mo), (1, .ref x), (0, .ref b)]) hx hb d_L_law_1002 hl (by decide) rfl (fun ls hl => ?_)
  refine lv_aload_n hx hb d_L_law_1004 rfl (lv_at hl 3 rfl) ?_
  refine lv_aload_n hx hb d_L_law_1005 rfl (lv_at hl 5 rfl) ?_
  refine lv_iload hx hb d_L_law_1006 (lv_at hl 1 rfl) ?_
  refine lv_iconst (v := 1) hx hb d_L_law_1008 (by decide) ?_
  refine lv_iadd hx hb d_L_law_1009 ?_
  refine vq_top (y := 1) (by decide) ?_
  refine va_sld (i := 1) hx hb hX hbl hbA hS (show ¬ ((1 : Int32) < 0 ∨ 6 ≤ Int32.toNatClampNeg 1) by decide) d_L_law_1010 ?_
  refine vq_top (y := xs 1) rfl ?_
  refine lv_aload_n hx hb d_L_law_1011 rfl (lv_at hl 5 rfl) ?_
  refine lv_iload hx hb d_L_law_1012 (lv_at hl 1 rfl) ?_
  refine lv_iconst (v := 2) hx hb d_L_law_1014 (by decide) ?_
  refine lv_iadd hx hb d_L_law_1015 ?_
  refine vq_top (y := 2) (by decide) ?_
  refine va_sld (i := 2) hx hb hX hbl hbA hS (show ¬ ((2 : Int32) < 0 ∨ 6 ≤ Int32.toNatClampNeg 2) by decide) d_L_law_1016 ?_
  refine vq_top (y := xs 2) rfl ?_
  have hPc := hP.sub (ws' := [(mo, .inr (8, [.int 0, .int 0, .ref m_attributes, .ref m_inherits, .int 0, .ref m_positions, .ref m_symbolAt, .ref m_form, .ref m_ruleX, .ref m_ruleY, .int 0, .int 0, .int (-1), .int (-1), .ref m_uses, .ref m_leads, .ref m_symbolLeads, .ref m_order, .ref m_rank, .ref m_visits, .ref m_length, .ref m_sequence, .ref m_set, .ref m_visited, .int 0, .ref m_production, .ref m_token, .ref m_child, .ref m_parent, .ref m_next, .ref m_known, .ref m_value, .ref m_given, .int (-1), .int (-1)]))]) [0] rfl
  have hDc := hD.sub (ws' := [(mo, .inr (8, [.int 0, .int 0, .ref m_attributes, .ref m_inherits, .int 0, .ref m_positions, .ref m_symbolAt, .ref m_form, .ref m_ruleX, .ref m_ruleY, .int 0, .int 0, .int (-1), .int (-1), .ref m_uses, .ref m_leads, .ref m_symbolLeads, .ref m_order, .ref m_rank, .ref m_visits, .ref m_length, .ref m_sequence, .ref m_set, .ref m_visited, .int 0, .ref m_production, .ref m_token, .ref m_child, .ref m_parent, .ref m_next, .ref m_known, .ref m_value, .ref m_given, .int (-1), .int (-1)]))]) [0] (by decide) rfl
  have hKc := hK.sub (tys' := []) [] rfl
  have hFc := va_free (wc := [(mo, .inr (8, [.int 0, .int 0, .ref m_attributes, .ref m_inherits, .int 0, .ref m_positions, .ref m_symbolAt, .ref m_form, .ref m_ruleX, .ref m_ruleY, .int 0, .int 0, .int (-1), .int (-1), .ref m_uses, .ref m_leads, .ref m_symbolLeads, .ref m_order, .ref m_rank, .ref m_visits, .ref m_length, .ref m_sequence, .ref m_set, .ref m_visited, .int 0, .ref m_production, .ref m_token, .ref m_child, .ref m_parent, .ref m_next, .ref m_known, .ref m_value, .ref m_given, .int (-1), .int (-1)]))]) hD hS hA [0] rfl
  refine va_calli (va_runV (As := [.int (xs 1), .int (xs 2)]) (rest := []) ⟨hx, hb, hml, hown, hts⟩ (c_M_value l htr dC dI mo (xs 1) (xs 2) m_attributes m_inherits m_positions m_symbolAt m_form m_ruleX m_ruleY m_uses m_leads m_symbolLeads m_order m_rank m_visits m_length m_sequence m_set m_visited m_production m_token m_child m_parent m_next m_known m_value m_given H.size) (vq_cV WSk hts 2 rfl rfl ⟨by decide, by decide⟩ k_288 k_235 k_431 k_432 k_433 (by decide +kernel)) ⟨vq_blind, va_recv hK hP (ci := 8) (q0 := 0) rfl rfl, vq_here hst hS hN hPc hKc hDc⟩ rfl rfl hl.1 rfl (lv_room (Nat.le_of_ble_eq_true rfl)) d_L_law_1017 ⟨by decide, by decide⟩) hS (fun q _ h => hFc q h) hFc (fun r2 u t H1 locs ht hvm hw hB hz1 hk1 hS => ?_)
  obtain ⟨hP1, hK1, hD1⟩ := hB
  rw [ht] at hP1
  have hK1 := va_K.moved hvm.symm hK1
  have hw : r2 = 0 := hw
  subst hw
  obtain ⟨hP, hD⟩ := va_join (wr := []) (w1 := [(mo, .inr (8, [.int 1, .int 0, .ref m_attributes, .ref m_inherits, .int 0, .ref m_positions, .ref m_symbolAt, .ref m_form, .ref m_ruleX, .ref m_ruleY, .int 0, .int 0, .int (-1), .int (-1), .ref m_uses, .ref m_leads, .ref m_symbolLeads, .ref m_order, .ref m_rank, .ref m_visits, .ref m_length, .ref m_sequence, .ref m_set, .ref m_visited, .int 0, .ref m_production, .ref m_token, .ref m_child, .ref m_parent, .ref m_next, .ref m_known, .ref m_value, .ref m_given, .int (-1), .int (-1)]))]) hP hD [0] [] rfl rfl (by decide) (by decide) hk1 hFc hP1 hD1
  have hK := (hK.sub (tys' := []) [] rfl).app hK1
  generalize H1 = H at hP hS ⊢
  have hP : va_P (dC, dI) CL [(mo, .inr (8, [.int 1, .int 0, .ref m_attributes, .ref m_inherits, .int 0, .ref m_positions, .ref m_symbolAt, .ref m_form, .ref m_ruleX, .ref m_ruleY, .int 0, .int 0, .int (-1), .int (-1), .ref m_uses, .ref m_leads, .ref m_symbolLeads, .ref m_order, .ref m_rank, .ref m_visits, .ref m_length, .ref m_sequence, .ref m_set, .ref m_visited, .int 0, .ref m_production, .ref m_token, .ref m_child, .ref m_parent, .ref m_next, .ref m_known, .ref m_value, .ref m_given, .int (-1), .int (-1)]))] H := hP
  have hD : va_D A [(mo, .inr (8, [.int 1, .int 0, .ref m_attributes, .ref m_inherits, .int 0, .ref m_positions, .ref m_symbolAt, .ref m_form, .ref m_ruleX, .ref m_ruleY, .int 0, .int 0, .int (-1), .int (-1), .ref m_uses, .ref m_leads, .ref m_symbolLeads, .ref m_order, .ref m_rank, .ref m_visits, .ref m_length, .ref m_sequence, .ref m_set, .ref m_visited, .int 0, .ref m_production, .ref m_token, .ref m_child, .ref m_parent, .ref m_next, .ref m_known, .ref m_value, .ref m_given, .int (-1), .int (-1)]))] := hD
  have hK : va_K (dC, dI) CL [] s := hK
  refine W.widen (k := 63) (n := 9102) (by decide) (by decide) ?_
  refine lv_istore (lv' := [(6, .int 0), (5, .int 1), (4, .int 0), (3, .ref out), (2, .ref mo), (1, .ref x), (0, .ref b)]) hx hb d_L_law_1020 hl (by decide) rfl (fun ls hl => ?_)
  refine lv_aload_n hx hb d_L_law_1022 rfl (lv_at hl 4 rfl) ?_
  have hPc := hP.sub (ws' := [(mo, .inr (8, [.int 1, .int 0, .ref m_attributes, .ref m_inherits, .int 0, .ref m_positions, .ref m_symbolAt, .ref m_form, .ref m_ruleX, .ref m_ruleY, .int 0, .int 0, .int (-1), .int (-1), .ref m_uses, .ref m_leads, .ref m_symbolLeads, .ref m_order, .ref m_rank, .ref m_visits, .ref m_length, .ref m_sequence, .ref m_set, .ref m_visited, .int 0, .ref m_production, .ref m_token, .ref m_child, .ref m_parent, .ref m_next, .ref m_known, .ref m_value, .ref m_given, .int (-1), .int (-1)]))]) [0] rfl
  have hDc := hD.sub (ws' := [(mo, .inr (8, [.int 1, .int 0, .ref m_attributes, .ref m_inherits, .int 0, .ref m_positions, .ref m_symbolAt, .ref m_form, .ref m_ruleX, .ref m_ruleY, .int 0, .int 0, .int (-1), .int (-1), .ref m_uses, .ref m_leads, .ref m_symbolLeads, .ref m_order, .ref m_rank, .ref m_visits, .ref m_length, .ref m_sequence, .ref m_set, .ref m_visited, .int 0, .ref m_production, .ref m_token, .ref m_child, .ref m_parent, .ref m_next, .ref m_known, .ref m_value, .ref m_given, .int (-1), .int (-1)]))]) [0] (by decide) rfl
  have hKc := hK.sub (tys' := []) [] rfl
  have hFc := va_free (wc := [(mo, .inr (8, [.int 1, .int 0, .ref m_attributes, .ref m_inherits, .int 0, .ref m_positions, .ref m_symbolAt, .ref m_form, .ref m_ruleX, .ref m_ruleY, .int 0, .int 0, .int (-1), .int (-1), .ref m_uses, .ref m_leads, .ref m_symbolLeads, .ref m_order, .ref m_rank, .ref m_visits, .ref m_length, .ref m_sequence, .ref m_set, .ref m_visited, .int 0, .ref m_production, .ref m_token, .ref m_child, .ref m_parent, .ref m_next, .ref m_known, .ref m_value, .ref m_given, .int (-1), .int (-1)]))]) hD hS hA [0] rfl
  refine va_calli (va_runV (As := []) (rest := []) ⟨hx, hb, hml, hown, hts⟩ (c_M_thrown l htr dC dI mo 1 0 m_attributes m_inherits 0 m_positions m_symbolAt m_form m_ruleX m_ruleY 0 0 (-1) (-1) m_uses m_leads m_symbolLeads m_order m_rank m_visits m_length m_sequence m_set m_visited 0 m_production m_token m_child m_parent m_next m_known m_value m_given (-1) (-1) H.size) (vq_cV WSk hts 0 rfl rfl ⟨by decide, by decide⟩ k_239 k_235 k_353 k_354 k_355 (by decide +kernel)) ⟨vq_blind, va_recv hK hP (ci := 8) (q0 := 0) rfl rfl, vq_here hst hS hN hPc hKc hDc⟩ rfl rfl hl.1 rfl (lv_room (Nat.le_of_ble_eq_true rfl)) d_L_law_1023 ⟨by decide, by decide⟩) hS (fun q _ h => hFc q h) hFc (fun r3 u t H1 locs ht hvm hw hB hz1 hk1 hS => ?_)
  obtain ⟨hP1, hK1, hD1⟩ := hB
  rw [ht] at hP1
  have hK1 := va_K.moved hvm.symm hK1
  have hw : r3 = 1 := hw
  subst hw
  obtain ⟨hP, hD⟩ := va_join (wr := []) (w1 := [(mo, .inr (8, [.int 1, .int 0, .ref m_attributes, .ref m_inherits, .int 0, .ref m_positions, .ref m_symbolAt, .ref m_form, .ref m_ruleX, .ref m_ruleY, .int 0, .int 0, .int (-1), .int (-1), .ref m_uses, .ref m_leads, .ref m_symbolLeads, .ref m_order, .ref m_rank, .ref m_visits, .ref m_length, .ref m_sequence, .ref m_set, .ref m_visited, .int 0, .ref m_production, .ref m_token, .ref m_child, .ref m_parent, .ref m_next, .ref m_known, .ref m_value, .ref m_given, .int (-1), .int (-1)]))]) hP hD [0] [] rfl rfl (by decide) (by decide) hk1 hFc hP1 hD1
  have hK := (hK.sub (tys' := []) [] rfl).app hK1
  generalize H1 = H at hP hS ⊢
  have hP : va_P (dC, dI) CL [(mo, .inr (8, [.int 1, .int 0, .ref m_attributes, .ref m_inherits, .int 0, .ref m_positions, .ref m_symbolAt, .ref m_form, .ref m_ruleX, .ref m_ruleY, .int 0, .int 0, .int (-1), .int (-1), .ref m_uses, .ref m_leads, .ref m_symbolLeads, .ref m_order, .ref m_rank, .ref m_visits, .ref m_length, .ref m_sequence, .ref m_set, .ref m_visited, .int 0, .ref m_production, .ref m_token, .ref m_child, .ref m_parent, .ref m_next, .ref m_known, .ref m_value, .ref m_given, .int (-1), .int (-1)]))] H := hP
  have hD : va_D A [(mo, .inr (8, [.int 1, .int 0, .ref m_attributes, .ref m_inherits, .int 0, .ref m_positions, .ref m_symbolAt, .ref m_form, .ref m_ruleX, .ref m_ruleY, .int 0, .int 0, .int (-1), .int (-1), .ref m_uses, .ref m_leads, .ref m_symbolLeads, .ref m_order, .ref m_rank, .ref m_visits, .ref m_length, .ref m_sequence, .ref m_set, .ref m_visited, .int 0, .ref m_production, .ref m_token, .ref m_child, .ref m_parent, .ref m_next, .ref m_known, .ref m_value, .ref m_given, .int (-1), .int (-1)]))] := hD
  have hK : va_K (dC, dI) CL [] s := hK
  refine W.widen (k := 63) (n := 9102) (by decide) (by decide) ?_
  refine lv_iload hx hb d_L_law_1026 (lv_at hl 1 rfl) ?_
  refine lv_icmp_eq (tgt := 1033) hx hb d_L_law_1028 (by decide) (fun _ => ?_) (fun h9 => absurd (by decide) h9)
  refine lv_iload hx hb d_L_law_1033 (lv_at hl 1 rfl) ?_
  refine lv_if_ne (tgt := 1050) hx hb d_L_law_1035 (by decide) (fun _ => ?_) (fun h9 => absurd h9 (by decide))
  refine lv_goto (tgt := 1053) hx hb d_L_law_1050 (by decide) ?_
  refine lv_iinc (k := 2) (v := 6) (lv' := [(4, .int 6), (6, .int 0), (5, .int 1), (3, .ref out), (2, .ref mo), (1, .ref x), (0, .ref b)]) hx hb d_L_law_1053 hl rfl (by decide) (by decide) rfl (fun ls hl => ?_)
  refine lv_goto (tgt := 23) hx hb d_L_law_1056 (by decide) ?_
  refine lv_iload hx hb d_L_law_23 (lv_at hl 0 rfl) ?_
  refine lv_aload_n hx hb d_L_law_25 rfl (lv_at hl 6 rfl) ?_
  refine va_slen hx hb hX hbl hbA hS d_L_law_26 ?_
  refine vq_top (y := 6) (by decide) ?_
  refine lv_bipush (v := 6) hx hb d_L_law_27 (by decide) ?_
  refine lv_isub hx hb d_L_law_29 ?_
  refine vq_top (y := 0) (by decide) ?_
  refine lv_icmp_gt (tgt := 1059) hx hb d_L_law_30 (by decide) (fun _ => ?_) (fun h9 => absurd (by decide) h9)
  refine lv_iconst (v := 1) hx hb d_L_law_1059 (by decide) ?_
  refine va_forget (fun q hq => hA2 _ (hS.2.2 q hq)) ?_
  refine W.widen (k := 85) (n := 9238) (by decide) (by decide) ?_
  exact lw_ret hx hb hr hlocks d_L_law_1060

set_option maxHeartbeats 4000000 in
set_option maxRecDepth 100000 in
theorem arm_4_0 {p : Program} {e : Env} {s : State} {m : MethodId} {below : List Frame} {meth : Method} {c : Code} (l : Launch) (htr : l.stackTraces = false) {b : Nat} {xs : Nat → Int32} {A : Nat → Prop} (dC : Nat → ClassId) (dI : Nat → Nat → Nat) (out : Nat) (mo : Nat) (x : Nat) (g : Nat) (an : Nat) (tr : Nat) (w : Nat) (an_leads : Nat) (an_ranking : Nat) (an_sequences : Nat) (m_attributes : Nat) (m_inherits : Nat) (m_positions : Nat) (m_symbolAt : Nat) (m_form : Nat) (m_ruleX : Nat) (m_ruleY : Nat) (m_uses : Nat) (m_leads : Nat) (m_symbolLeads : Nat) (m_order : Nat) (m_rank : Nat) (m_visits : Nat) (m_length : Nat) (m_sequence : Nat) (m_set : Nat) (m_visited : Nat) (m_production : Nat) (m_token : Nat) (m_child : Nat) (m_parent : Nat) (m_next : Nat) (m_known : Nat) (m_value : Nat) (m_given : Nat) {H : Heap} {locs : List Loc} {ls : Array Slot} (hv : xs 1 = 0) (hAt : lw_At p s m meth c b 6 xs) (hst : vq_st s) (hA : ∀ q : Nat, s.heap.size ≤ q → A q) (hA2 : ∀ q : Nat, A q → s.heap.size ≤ q) (hbA : ¬ A b) (hK : va_K (dC, dI) CL [] s) (hP : va_P (dC, dI) CL [(x, .inr (0, [.ref g, .ref an, .ref tr, .ref w])), (an, .inr (2, [.ref g, .ref an_leads, .ref an_ranking, .ref an_sequences, .int 0, .int 0, .int (-1), .int (-1)])), (mo, .inr (8, [.int 0, .int 0, .ref m_attributes, .ref m_inherits, .int 0, .ref m_positions, .ref m_symbolAt, .ref m_form, .ref m_ruleX, .ref m_ruleY, .int 0, .int 0, .int (-1), .int (-1), .ref m_uses, .ref m_leads, .ref m_symbolLeads, .ref m_order, .ref m_rank, .ref m_visits, .ref m_length, .ref m_sequence, .ref m_set, .ref m_visited, .int 0, .ref m_production, .ref m_token, .ref m_child, .ref m_parent, .ref m_next, .ref m_known, .ref m_value, .ref m_given, .int (-1), .int (-1)]))] H) (hD : va_D A [(x, .inr (0, [.ref g, .ref an, .ref tr, .ref w])), (an, .inr (2, [.ref g, .ref an_leads, .ref an_ranking, .ref an_sequences, .int 0, .int 0, .int (-1), .int (-1)])), (mo, .inr (8, [.int 0, .int 0, .ref m_attributes, .ref m_inherits, .int 0, .ref m_positions, .ref m_symbolAt, .ref m_form, .ref m_ruleX, .ref m_ruleY, .int 0, .int 0, .int (-1), .int (-1), .ref m_uses, .ref m_leads, .ref m_symbolLeads, .ref m_order, .ref m_rank, .ref m_visits, .ref m_length, .ref m_sequence, .ref m_set, .ref m_visited, .int 0, .ref m_production, .ref m_token, .ref m_child, .ref m_parent, .ref m_next, .ref m_known, .ref m_value, .ref m_given, .int (-1), .int (-1)]))]) (hS : va_S A s.heap H locs) (hl : lv_has ls 7 [(4, .int 0), (3, .ref out), (2, .ref mo), (1, .ref x), (0, .ref b)]) : W p l e room_1 s m #[Value.ref b] below meth c H locs 62 9096 (lw_Z below #[Value.ref b] s) (F0 m 412 ls []) := by
  obtain ⟨hx, hb, hr, hml, hown, hts0, hX, hbl, hlocks, -⟩ := hAt
  have hts : ∀ w ∈ WS, w.before #[Value.ref b] s = true := fun w hw => hts0 w (WS_tbl w hw)
  have hN : ∀ q : Nat, A q → ∀ cell : Cell, s.heap[q]? = some cell → cell.vm.isStatics = false := fun q hq cell hc => absurd (Array.getElem?_eq_some_iff.mp hc).1 (Nat.not_lt.mpr (hA2 q hq))
  refine lv_aload_n hx hb d_L_law_412 rfl (lv_at hl 3 rfl) ?_
  refine lv_aload_n hx hb d_L_law_413 rfl (lv_at hl 4 rfl) ?_
  refine lv_iload hx hb d_L_law_414 (lv_at hl 0 rfl) ?_
  refine lv_iconst (v := 1) hx hb d_L_law_416 (by decide) ?_
  refine lv_iadd hx hb d_L_law_417 ?_
  refine vq_top (y := 1) (by decide) ?_
  refine va_sld (i := 1) hx hb hX hbl hbA hS (show ¬ ((1 : Int32) < 0 ∨ 6 ≤ Int32.toNatClampNeg 1) by decide) d_L_law_418 ?_
  refine vq_top (y := 0) hv ?_
  have hPc := hP.sub (ws' := [(x, .inr (0, [.ref g, .ref an, .ref tr, .ref w])), (an, .inr (2, [.ref g, .ref an_leads, .ref an_ranking, .ref an_sequences, .int 0, .int 0, .int (-1), .int (-1)]))]) [0, 1] rfl
  have hDc := hD.sub (ws' := [(x, .inr (0, [.ref g, .ref an, .ref tr, .ref w])), (an, .inr (2, [.ref g, .ref an_leads, .ref an_ranking, .ref an_sequences, .int 0, .int 0, .int (-1), .int (-1)]))]) [0, 1] (by decide) rfl
  have hKc := hK.sub (tys' := []) [] rfl
  have hFc := va_free (wc := [(x, .inr (0, [.ref g, .ref an, .ref tr, .ref w])), (an, .inr (2, [.ref g, .ref an_leads, .ref an_ranking, .ref an_sequences, .int 0, .int 0, .int (-1), .int (-1)]))]) hD hS hA [0, 1] rfl
  refine va_calli (va_runV (As := [.int 0]) (rest := []) ⟨hx, hb, hml, hown, hts⟩ (c_V_fault0 l htr dC dI x g an tr w an_leads an_ranking an_sequences H.size) (vq_cV WSk hts 1 rfl rfl ⟨by decide, by decide⟩ k_197 k_143 k_434 k_435 k_436 (by decide +kernel)) ⟨vq_blind, va_recv hK hP (ci := 0) (q0 := 0) rfl rfl, vq_here hst hS hN hPc hKc hDc⟩ rfl rfl hl.1 rfl (lv_room (Nat.le_of_ble_eq_true rfl)) d_L_law_419 ⟨by decide, by decide⟩) hS (fun q _ h => hFc q h) hFc (fun r1 u t H1 locs ht hvm hw hB hz1 hk1 hS => ?_)
  obtain ⟨hP1, hK1, hD1⟩ := hB
  rw [ht] at hP1
  have hK1 := va_K.moved hvm.symm hK1
  have hw : r1 = 0 := hw
  subst hw
  obtain ⟨hP, hD⟩ := va_join (wr := [(mo, .inr (8, [.int 0, .int 0, .ref m_attributes, .ref m_inherits, .int 0, .ref m_positions, .ref m_symbolAt, .ref m_form, .ref m_ruleX, .ref m_ruleY, .int 0, .int 0, .int (-1), .int (-1), .ref m_uses, .ref m_leads, .ref m_symbolLeads, .ref m_order, .ref m_rank, .ref m_visits, .ref m_length, .ref m_sequence, .ref m_set, .ref m_visited, .int 0, .ref m_production, .ref m_token, .ref m_child, .ref m_parent, .ref m_next, .ref m_known, .ref m_value, .ref m_given, .int (-1), .int (-1)]))]) (w1 := [(x, .inr (0, [.ref g, .ref an, .ref tr, .ref w])), (an, .inr (2, [.ref g, .ref an_leads, .ref an_ranking, .ref an_sequences, .int 0, .int 0, .int (-1), .int (-1)]))]) hP hD [0, 1] [2] rfl rfl (by decide) (by decide) hk1 hFc hP1 hD1
  have hK := (hK.sub (tys' := []) [] rfl).app hK1
  generalize H1 = H at hP hS ⊢
  have hP : va_P (dC, dI) CL [(mo, .inr (8, [.int 0, .int 0, .ref m_attributes, .ref m_inherits, .int 0, .ref m_positions, .ref m_symbolAt, .ref m_form, .ref m_ruleX, .ref m_ruleY, .int 0, .int 0, .int (-1), .int (-1), .ref m_uses, .ref m_leads, .ref m_symbolLeads, .ref m_order, .ref m_rank, .ref m_visits, .ref m_length, .ref m_sequence, .ref m_set, .ref m_visited, .int 0, .ref m_production, .ref m_token, .ref m_child, .ref m_parent, .ref m_next, .ref m_known, .ref m_value, .ref m_given, .int (-1), .int (-1)])), (x, .inr (0, [.ref g, .ref an, .ref tr, .ref w])), (an, .inr (2, [.ref g, .ref an_leads, .ref an_ranking, .ref an_sequences, .int 0, .int 0, .int (-1), .int (-1)]))] H := hP
  have hD : va_D A [(mo, .inr (8, [.int 0, .int 0, .ref m_attributes, .ref m_inherits, .int 0, .ref m_positions, .ref m_symbolAt, .ref m_form, .ref m_ruleX, .ref m_ruleY, .int 0, .int 0, .int (-1), .int (-1), .ref m_uses, .ref m_leads, .ref m_symbolLeads, .ref m_order, .ref m_rank, .ref m_visits, .ref m_length, .ref m_sequence, .ref m_set, .ref m_visited, .int 0, .ref m_production, .ref m_token, .ref m_child, .ref m_parent, .ref m_next, .ref m_known, .ref m_value, .ref m_given, .int (-1), .int (-1)])), (x, .inr (0, [.ref g, .ref an, .ref tr, .ref w])), (an, .inr (2, [.ref g, .ref an_leads, .ref an_ranking, .ref an_sequences, .int 0, .int 0, .int (-1), .int (-1)]))] := hD
  have hK : va_K (dC, dI) CL [] s := hK
  refine W.widen (k := 62) (n := 9096) (by decide) (by decide) ?_
  refine lv_aload_n hx hb d_L_law_422 rfl (lv_at hl 2 rfl) ?_
  refine lv_aload_n hx hb d_L_law_423 rfl (lv_at hl 4 rfl) ?_
  refine lv_iload hx hb d_L_law_424 (lv_at hl 0 rfl) ?_
  refine lv_iconst (v := 1) hx hb d_L_law_426 (by decide) ?_
  refine lv_iadd hx hb d_L_law_427 ?_
  refine vq_top (y := 1) (by decide) ?_
  refine va_sld (i := 1) hx hb hX hbl hbA hS (show ¬ ((1 : Int32) < 0 ∨ 6 ≤ Int32.toNatClampNeg 1) by decide) d_L_law_428 ?_
  refine vq_top (y := 0) hv ?_
  have hPc := hP.sub (ws' := [(mo, .inr (8, [.int 0, .int 0, .ref m_attributes, .ref m_inherits, .int 0, .ref m_positions, .ref m_symbolAt, .ref m_form, .ref m_ruleX, .ref m_ruleY, .int 0, .int 0, .int (-1), .int (-1), .ref m_uses, .ref m_leads, .ref m_symbolLeads, .ref m_order, .ref m_rank, .ref m_visits, .ref m_length, .ref m_sequence, .ref m_set, .ref m_visited, .int 0, .ref m_production, .ref m_token, .ref m_child, .ref m_parent, .ref m_next, .ref m_known, .ref m_value, .ref m_given, .int (-1), .int (-1)]))]) [0] rfl
  have hDc := hD.sub (ws' := [(mo, .inr (8, [.int 0, .int 0, .ref m_attributes, .ref m_inherits, .int 0, .ref m_positions, .ref m_symbolAt, .ref m_form, .ref m_ruleX, .ref m_ruleY, .int 0, .int 0, .int (-1), .int (-1), .ref m_uses, .ref m_leads, .ref m_symbolLeads, .ref m_order, .ref m_rank, .ref m_visits, .ref m_length, .ref m_sequence, .ref m_set, .ref m_visited, .int 0, .ref m_production, .ref m_token, .ref m_child, .ref m_parent, .ref m_next, .ref m_known, .ref m_value, .ref m_given, .int (-1), .int (-1)]))]) [0] (by decide) rfl
  have hKc := hK.sub (tys' := []) [] rfl
  have hFc := va_free (wc := [(mo, .inr (8, [.int 0, .int 0, .ref m_attributes, .ref m_inherits, .int 0, .ref m_positions, .ref m_symbolAt, .ref m_form, .ref m_ruleX, .ref m_ruleY, .int 0, .int 0, .int (-1), .int (-1), .ref m_uses, .ref m_leads, .ref m_symbolLeads, .ref m_order, .ref m_rank, .ref m_visits, .ref m_length, .ref m_sequence, .ref m_set, .ref m_visited, .int 0, .ref m_production, .ref m_token, .ref m_child, .ref m_parent, .ref m_next, .ref m_known, .ref m_value, .ref m_given, .int (-1), .int (-1)]))]) hD hS hA [0] rfl
  refine va_calli (va_runV (As := [.int 0]) (rest := [.int 0]) ⟨hx, hb, hml, hown, hts⟩ (c_M_fault0 l htr dC dI mo m_attributes m_inherits m_positions m_symbolAt m_form m_ruleX m_ruleY m_uses m_leads m_symbolLeads m_order m_rank m_visits m_length m_sequence m_set m_visited m_production m_token m_child m_parent m_next m_known m_value m_given H.size) (vq_cV WSk hts 1 rfl rfl ⟨by decide, by decide⟩ k_273 k_235 k_437 k_438 k_439 (by decide +kernel)) ⟨vq_blind, va_recv hK hP (ci := 8) (q0 := 0) rfl rfl, vq_here hst hS hN hPc hKc hDc⟩ rfl rfl hl.1 rfl (lv_room (Nat.le_of_ble_eq_true rfl)) d_L_law_429 ⟨by decide, by decide⟩) hS (fun q _ h => hFc q h) hFc (fun r2 u t H1 locs ht hvm hw hB hz1 hk1 hS => ?_)
  obtain ⟨hP1, hK1, hD1⟩ := hB
  rw [ht] at hP1
  have hK1 := va_K.moved hvm.symm hK1
  have hw : r2 = 0 := hw
  subst hw
  obtain ⟨hP, hD⟩ := va_join (wr := [(x, .inr (0, [.ref g, .ref an, .ref tr, .ref w])), (an, .inr (2, [.ref g, .ref an_leads, .ref an_ranking, .ref an_sequences, .int 0, .int 0, .int (-1), .int (-1)]))]) (w1 := [(mo, .inr (8, [.int 0, .int 0, .ref m_attributes, .ref m_inherits, .int 0, .ref m_positions, .ref m_symbolAt, .ref m_form, .ref m_ruleX, .ref m_ruleY, .int 0, .int 0, .int (-1), .int (-1), .ref m_uses, .ref m_leads, .ref m_symbolLeads, .ref m_order, .ref m_rank, .ref m_visits, .ref m_length, .ref m_sequence, .ref m_set, .ref m_visited, .int 0, .ref m_production, .ref m_token, .ref m_child, .ref m_parent, .ref m_next, .ref m_known, .ref m_value, .ref m_given, .int (-1), .int (-1)]))]) hP hD [0] [1, 2] rfl rfl (by decide) (by decide) hk1 hFc hP1 hD1
  have hK := (hK.sub (tys' := []) [] rfl).app hK1
  generalize H1 = H at hP hS ⊢
  have hP : va_P (dC, dI) CL [(x, .inr (0, [.ref g, .ref an, .ref tr, .ref w])), (an, .inr (2, [.ref g, .ref an_leads, .ref an_ranking, .ref an_sequences, .int 0, .int 0, .int (-1), .int (-1)])), (mo, .inr (8, [.int 0, .int 0, .ref m_attributes, .ref m_inherits, .int 0, .ref m_positions, .ref m_symbolAt, .ref m_form, .ref m_ruleX, .ref m_ruleY, .int 0, .int 0, .int (-1), .int (-1), .ref m_uses, .ref m_leads, .ref m_symbolLeads, .ref m_order, .ref m_rank, .ref m_visits, .ref m_length, .ref m_sequence, .ref m_set, .ref m_visited, .int 0, .ref m_production, .ref m_token, .ref m_child, .ref m_parent, .ref m_next, .ref m_known, .ref m_value, .ref m_given, .int (-1), .int (-1)]))] H := hP
  have hD : va_D A [(x, .inr (0, [.ref g, .ref an, .ref tr, .ref w])), (an, .inr (2, [.ref g, .ref an_leads, .ref an_ranking, .ref an_sequences, .int 0, .int 0, .int (-1), .int (-1)])), (mo, .inr (8, [.int 0, .int 0, .ref m_attributes, .ref m_inherits, .int 0, .ref m_positions, .ref m_symbolAt, .ref m_form, .ref m_ruleX, .ref m_ruleY, .int 0, .int 0, .int (-1), .int (-1), .ref m_uses, .ref m_leads, .ref m_symbolLeads, .ref m_order, .ref m_rank, .ref m_visits, .ref m_length, .ref m_sequence, .ref m_set, .ref m_visited, .int 0, .ref m_production, .ref m_token, .ref m_child, .ref m_parent, .ref m_next, .ref m_known, .ref m_value, .ref m_given, .int (-1), .int (-1)]))] := hD
  have hK : va_K (dC, dI) CL [] s := hK
  refine W.widen (k := 62) (n := 9096) (by decide) (by decide) ?_
  refine lv_icmp_eq (tgt := 1053) hx hb d_L_law_432 (by decide) (fun _ => ?_) (fun h9 => absurd (by decide) h9)
  refine lv_iinc (k := 0) (v := 6) (lv' := [(4, .int 6), (3, .ref out), (2, .ref mo), (1, .ref x), (0, .ref b)]) hx hb d_L_law_1053 hl rfl (by decide) (by decide) rfl (fun ls hl => ?_)
  refine lv_goto (tgt := 23) hx hb d_L_law_1056 (by decide) ?_
  refine lv_iload hx hb d_L_law_23 (lv_at hl 0 rfl) ?_
  refine lv_aload_n hx hb d_L_law_25 rfl (lv_at hl 4 rfl) ?_
  refine va_slen hx hb hX hbl hbA hS d_L_law_26 ?_
  refine vq_top (y := 6) (by decide) ?_
  refine lv_bipush (v := 6) hx hb d_L_law_27 (by decide) ?_
  refine lv_isub hx hb d_L_law_29 ?_
  refine vq_top (y := 0) (by decide) ?_
  refine lv_icmp_gt (tgt := 1059) hx hb d_L_law_30 (by decide) (fun _ => ?_) (fun h9 => absurd (by decide) h9)
  refine lv_iconst (v := 1) hx hb d_L_law_1059 (by decide) ?_
  refine va_forget (fun q hq => hA2 _ (hS.2.2 q hq)) ?_
  refine W.widen (k := 85) (n := 9238) (by decide) (by decide) ?_
  exact lw_ret hx hb hr hlocks d_L_law_1060

set_option maxHeartbeats 4000000 in
set_option maxRecDepth 100000 in
theorem arm_4_1 {p : Program} {e : Env} {s : State} {m : MethodId} {below : List Frame} {meth : Method} {c : Code} (l : Launch) (htr : l.stackTraces = false) {b : Nat} {xs : Nat → Int32} {A : Nat → Prop} (dC : Nat → ClassId) (dI : Nat → Nat → Nat) (out : Nat) (mo : Nat) (x : Nat) (g : Nat) (an : Nat) (tr : Nat) (w : Nat) (an_leads : Nat) (an_ranking : Nat) (an_sequences : Nat) (m_attributes : Nat) (m_inherits : Nat) (m_positions : Nat) (m_symbolAt : Nat) (m_form : Nat) (m_ruleX : Nat) (m_ruleY : Nat) (m_uses : Nat) (m_leads : Nat) (m_symbolLeads : Nat) (m_order : Nat) (m_rank : Nat) (m_visits : Nat) (m_length : Nat) (m_sequence : Nat) (m_set : Nat) (m_visited : Nat) (m_production : Nat) (m_token : Nat) (m_child : Nat) (m_parent : Nat) (m_next : Nat) (m_known : Nat) (m_value : Nat) (m_given : Nat) {H : Heap} {locs : List Loc} {ls : Array Slot} (hv : xs 1 = 1) (hAt : lw_At p s m meth c b 6 xs) (hst : vq_st s) (hA : ∀ q : Nat, s.heap.size ≤ q → A q) (hA2 : ∀ q : Nat, A q → s.heap.size ≤ q) (hbA : ¬ A b) (hK : va_K (dC, dI) CL [] s) (hP : va_P (dC, dI) CL [(x, .inr (0, [.ref g, .ref an, .ref tr, .ref w])), (an, .inr (2, [.ref g, .ref an_leads, .ref an_ranking, .ref an_sequences, .int 0, .int 0, .int (-1), .int (-1)])), (mo, .inr (8, [.int 0, .int 0, .ref m_attributes, .ref m_inherits, .int 0, .ref m_positions, .ref m_symbolAt, .ref m_form, .ref m_ruleX, .ref m_ruleY, .int 0, .int 0, .int (-1), .int (-1), .ref m_uses, .ref m_leads, .ref m_symbolLeads, .ref m_order, .ref m_rank, .ref m_visits, .ref m_length, .ref m_sequence, .ref m_set, .ref m_visited, .int 0, .ref m_production, .ref m_token, .ref m_child, .ref m_parent, .ref m_next, .ref m_known, .ref m_value, .ref m_given, .int (-1), .int (-1)]))] H) (hD : va_D A [(x, .inr (0, [.ref g, .ref an, .ref tr, .ref w])), (an, .inr (2, [.ref g, .ref an_leads, .ref an_ranking, .ref an_sequences, .int 0, .int 0, .int (-1), .int (-1)])), (mo, .inr (8, [.int 0, .int 0, .ref m_attributes, .ref m_inherits, .int 0, .ref m_positions, .ref m_symbolAt, .ref m_form, .ref m_ruleX, .ref m_ruleY, .int 0, .int 0, .int (-1), .int (-1), .ref m_uses, .ref m_leads, .ref m_symbolLeads, .ref m_order, .ref m_rank, .ref m_visits, .ref m_length, .ref m_sequence, .ref m_set, .ref m_visited, .int 0, .ref m_production, .ref m_token, .ref m_child, .ref m_parent, .ref m_next, .ref m_known, .ref m_value, .ref m_given, .int (-1), .int (-1)]))]) (hS : va_S A s.heap H locs) (hl : lv_has ls 7 [(4, .int 0), (3, .ref out), (2, .ref mo), (1, .ref x), (0, .ref b)]) : W p l e room_1 s m #[Value.ref b] below meth c H locs 62 9096 (lw_Z below #[Value.ref b] s) (F0 m 412 ls []) := by
  obtain ⟨hx, hb, hr, hml, hown, hts0, hX, hbl, hlocks, -⟩ := hAt
  have hts : ∀ w ∈ WS, w.before #[Value.ref b] s = true := fun w hw => hts0 w (WS_tbl w hw)
  have hN : ∀ q : Nat, A q → ∀ cell : Cell, s.heap[q]? = some cell → cell.vm.isStatics = false := fun q hq cell hc => absurd (Array.getElem?_eq_some_iff.mp hc).1 (Nat.not_lt.mpr (hA2 q hq))
  refine lv_aload_n hx hb d_L_law_412 rfl (lv_at hl 3 rfl) ?_
  refine lv_aload_n hx hb d_L_law_413 rfl (lv_at hl 4 rfl) ?_
  refine lv_iload hx hb d_L_law_414 (lv_at hl 0 rfl) ?_
  refine lv_iconst (v := 1) hx hb d_L_law_416 (by decide) ?_
  refine lv_iadd hx hb d_L_law_417 ?_
  refine vq_top (y := 1) (by decide) ?_
  refine va_sld (i := 1) hx hb hX hbl hbA hS (show ¬ ((1 : Int32) < 0 ∨ 6 ≤ Int32.toNatClampNeg 1) by decide) d_L_law_418 ?_
  refine vq_top (y := 1) hv ?_
  have hPc := hP.sub (ws' := [(x, .inr (0, [.ref g, .ref an, .ref tr, .ref w])), (an, .inr (2, [.ref g, .ref an_leads, .ref an_ranking, .ref an_sequences, .int 0, .int 0, .int (-1), .int (-1)]))]) [0, 1] rfl
  have hDc := hD.sub (ws' := [(x, .inr (0, [.ref g, .ref an, .ref tr, .ref w])), (an, .inr (2, [.ref g, .ref an_leads, .ref an_ranking, .ref an_sequences, .int 0, .int 0, .int (-1), .int (-1)]))]) [0, 1] (by decide) rfl
  have hKc := hK.sub (tys' := []) [] rfl
  have hFc := va_free (wc := [(x, .inr (0, [.ref g, .ref an, .ref tr, .ref w])), (an, .inr (2, [.ref g, .ref an_leads, .ref an_ranking, .ref an_sequences, .int 0, .int 0, .int (-1), .int (-1)]))]) hD hS hA [0, 1] rfl
  refine va_calli (va_runV (As := [.int 1]) (rest := []) ⟨hx, hb, hml, hown, hts⟩ (c_V_fault1 l htr dC dI x g an tr w an_leads an_ranking an_sequences H.size) (vq_cV WSk hts 1 rfl rfl ⟨by decide, by decide⟩ k_197 k_143 k_434 k_435 k_436 (by decide +kernel)) ⟨vq_blind, va_recv hK hP (ci := 0) (q0 := 0) rfl rfl, vq_here hst hS hN hPc hKc hDc⟩ rfl rfl hl.1 rfl (lv_room (Nat.le_of_ble_eq_true rfl)) d_L_law_419 ⟨by decide, by decide⟩) hS (fun q _ h => hFc q h) hFc (fun r1 u t H1 locs ht hvm hw hB hz1 hk1 hS => ?_)
  obtain ⟨hP1, hK1, hD1⟩ := hB
  rw [ht] at hP1
  have hK1 := va_K.moved hvm.symm hK1
  have hw : r1 = (-1) := hw
  subst hw
  obtain ⟨hP, hD⟩ := va_join (wr := [(mo, .inr (8, [.int 0, .int 0, .ref m_attributes, .ref m_inherits, .int 0, .ref m_positions, .ref m_symbolAt, .ref m_form, .ref m_ruleX, .ref m_ruleY, .int 0, .int 0, .int (-1), .int (-1), .ref m_uses, .ref m_leads, .ref m_symbolLeads, .ref m_order, .ref m_rank, .ref m_visits, .ref m_length, .ref m_sequence, .ref m_set, .ref m_visited, .int 0, .ref m_production, .ref m_token, .ref m_child, .ref m_parent, .ref m_next, .ref m_known, .ref m_value, .ref m_given, .int (-1), .int (-1)]))]) (w1 := [(x, .inr (0, [.ref g, .ref an, .ref tr, .ref w])), (an, .inr (2, [.ref g, .ref an_leads, .ref an_ranking, .ref an_sequences, .int 0, .int 0, .int (-1), .int (-1)]))]) hP hD [0, 1] [2] rfl rfl (by decide) (by decide) hk1 hFc hP1 hD1
  have hK := (hK.sub (tys' := []) [] rfl).app hK1
  generalize H1 = H at hP hS ⊢
  have hP : va_P (dC, dI) CL [(mo, .inr (8, [.int 0, .int 0, .ref m_attributes, .ref m_inherits, .int 0, .ref m_positions, .ref m_symbolAt, .ref m_form, .ref m_ruleX, .ref m_ruleY, .int 0, .int 0, .int (-1), .int (-1), .ref m_uses, .ref m_leads, .ref m_symbolLeads, .ref m_order, .ref m_rank, .ref m_visits, .ref m_length, .ref m_sequence, .ref m_set, .ref m_visited, .int 0, .ref m_production, .ref m_token, .ref m_child, .ref m_parent, .ref m_next, .ref m_known, .ref m_value, .ref m_given, .int (-1), .int (-1)])), (x, .inr (0, [.ref g, .ref an, .ref tr, .ref w])), (an, .inr (2, [.ref g, .ref an_leads, .ref an_ranking, .ref an_sequences, .int 0, .int 0, .int (-1), .int (-1)]))] H := hP
  have hD : va_D A [(mo, .inr (8, [.int 0, .int 0, .ref m_attributes, .ref m_inherits, .int 0, .ref m_positions, .ref m_symbolAt, .ref m_form, .ref m_ruleX, .ref m_ruleY, .int 0, .int 0, .int (-1), .int (-1), .ref m_uses, .ref m_leads, .ref m_symbolLeads, .ref m_order, .ref m_rank, .ref m_visits, .ref m_length, .ref m_sequence, .ref m_set, .ref m_visited, .int 0, .ref m_production, .ref m_token, .ref m_child, .ref m_parent, .ref m_next, .ref m_known, .ref m_value, .ref m_given, .int (-1), .int (-1)])), (x, .inr (0, [.ref g, .ref an, .ref tr, .ref w])), (an, .inr (2, [.ref g, .ref an_leads, .ref an_ranking, .ref an_sequences, .int 0, .int 0, .int (-1), .int (-1)]))] := hD
  have hK : va_K (dC, dI) CL [] s := hK
  refine W.widen (k := 62) (n := 9096) (by decide) (by decide) ?_
  refine lv_aload_n hx hb d_L_law_422 rfl (lv_at hl 2 rfl) ?_
  refine lv_aload_n hx hb d_L_law_423 rfl (lv_at hl 4 rfl) ?_
  refine lv_iload hx hb d_L_law_424 (lv_at hl 0 rfl) ?_
  refine lv_iconst (v := 1) hx hb d_L_law_426 (by decide) ?_
  refine lv_iadd hx hb d_L_law_427 ?_
  refine vq_top (y := 1) (by decide) ?_
  refine va_sld (i := 1) hx hb hX hbl hbA hS (show ¬ ((1 : Int32) < 0 ∨ 6 ≤ Int32.toNatClampNeg 1) by decide) d_L_law_428 ?_
  refine vq_top (y := 1) hv ?_
  have hPc := hP.sub (ws' := [(mo, .inr (8, [.int 0, .int 0, .ref m_attributes, .ref m_inherits, .int 0, .ref m_positions, .ref m_symbolAt, .ref m_form, .ref m_ruleX, .ref m_ruleY, .int 0, .int 0, .int (-1), .int (-1), .ref m_uses, .ref m_leads, .ref m_symbolLeads, .ref m_order, .ref m_rank, .ref m_visits, .ref m_length, .ref m_sequence, .ref m_set, .ref m_visited, .int 0, .ref m_production, .ref m_token, .ref m_child, .ref m_parent, .ref m_next, .ref m_known, .ref m_value, .ref m_given, .int (-1), .int (-1)]))]) [0] rfl
  have hDc := hD.sub (ws' := [(mo, .inr (8, [.int 0, .int 0, .ref m_attributes, .ref m_inherits, .int 0, .ref m_positions, .ref m_symbolAt, .ref m_form, .ref m_ruleX, .ref m_ruleY, .int 0, .int 0, .int (-1), .int (-1), .ref m_uses, .ref m_leads, .ref m_symbolLeads, .ref m_order, .ref m_rank, .ref m_visits, .ref m_length, .ref m_sequence, .ref m_set, .ref m_visited, .int 0, .ref m_production, .ref m_token, .ref m_child, .ref m_parent, .ref m_next, .ref m_known, .ref m_value, .ref m_given, .int (-1), .int (-1)]))]) [0] (by decide) rfl
  have hKc := hK.sub (tys' := []) [] rfl
  have hFc := va_free (wc := [(mo, .inr (8, [.int 0, .int 0, .ref m_attributes, .ref m_inherits, .int 0, .ref m_positions, .ref m_symbolAt, .ref m_form, .ref m_ruleX, .ref m_ruleY, .int 0, .int 0, .int (-1), .int (-1), .ref m_uses, .ref m_leads, .ref m_symbolLeads, .ref m_order, .ref m_rank, .ref m_visits, .ref m_length, .ref m_sequence, .ref m_set, .ref m_visited, .int 0, .ref m_production, .ref m_token, .ref m_child, .ref m_parent, .ref m_next, .ref m_known, .ref m_value, .ref m_given, .int (-1), .int (-1)]))]) hD hS hA [0] rfl
  refine va_calli (va_runV (As := [.int 1]) (rest := [.int (-1)]) ⟨hx, hb, hml, hown, hts⟩ (c_M_fault1 l htr dC dI mo m_attributes m_inherits m_positions m_symbolAt m_form m_ruleX m_ruleY m_uses m_leads m_symbolLeads m_order m_rank m_visits m_length m_sequence m_set m_visited m_production m_token m_child m_parent m_next m_known m_value m_given H.size) (vq_cV WSk hts 1 rfl rfl ⟨by decide, by decide⟩ k_273 k_235 k_437 k_438 k_439 (by decide +kernel)) ⟨vq_blind, va_recv hK hP (ci := 8) (q0 := 0) rfl rfl, vq_here hst hS hN hPc hKc hDc⟩ rfl rfl hl.1 rfl (lv_room (Nat.le_of_ble_eq_true rfl)) d_L_law_429 ⟨by decide, by decide⟩) hS (fun q _ h => hFc q h) hFc (fun r2 u t H1 locs ht hvm hw hB hz1 hk1 hS => ?_)
  obtain ⟨hP1, hK1, hD1⟩ := hB
  rw [ht] at hP1
  have hK1 := va_K.moved hvm.symm hK1
  have hw : r2 = (-1) := hw
  subst hw
  obtain ⟨hP, hD⟩ := va_join (wr := [(x, .inr (0, [.ref g, .ref an, .ref tr, .ref w])), (an, .inr (2, [.ref g, .ref an_leads, .ref an_ranking, .ref an_sequences, .int 0, .int 0, .int (-1), .int (-1)]))]) (w1 := [(mo, .inr (8, [.int 0, .int 0, .ref m_attributes, .ref m_inherits, .int 0, .ref m_positions, .ref m_symbolAt, .ref m_form, .ref m_ruleX, .ref m_ruleY, .int 0, .int 0, .int (-1), .int (-1), .ref m_uses, .ref m_leads, .ref m_symbolLeads, .ref m_order, .ref m_rank, .ref m_visits, .ref m_length, .ref m_sequence, .ref m_set, .ref m_visited, .int 0, .ref m_production, .ref m_token, .ref m_child, .ref m_parent, .ref m_next, .ref m_known, .ref m_value, .ref m_given, .int (-1), .int (-1)]))]) hP hD [0] [1, 2] rfl rfl (by decide) (by decide) hk1 hFc hP1 hD1
  have hK := (hK.sub (tys' := []) [] rfl).app hK1
  generalize H1 = H at hP hS ⊢
  have hP : va_P (dC, dI) CL [(x, .inr (0, [.ref g, .ref an, .ref tr, .ref w])), (an, .inr (2, [.ref g, .ref an_leads, .ref an_ranking, .ref an_sequences, .int 0, .int 0, .int (-1), .int (-1)])), (mo, .inr (8, [.int 0, .int 0, .ref m_attributes, .ref m_inherits, .int 0, .ref m_positions, .ref m_symbolAt, .ref m_form, .ref m_ruleX, .ref m_ruleY, .int 0, .int 0, .int (-1), .int (-1), .ref m_uses, .ref m_leads, .ref m_symbolLeads, .ref m_order, .ref m_rank, .ref m_visits, .ref m_length, .ref m_sequence, .ref m_set, .ref m_visited, .int 0, .ref m_production, .ref m_token, .ref m_child, .ref m_parent, .ref m_next, .ref m_known, .ref m_value, .ref m_given, .int (-1), .int (-1)]))] H := hP
  have hD : va_D A [(x, .inr (0, [.ref g, .ref an, .ref tr, .ref w])), (an, .inr (2, [.ref g, .ref an_leads, .ref an_ranking, .ref an_sequences, .int 0, .int 0, .int (-1), .int (-1)])), (mo, .inr (8, [.int 0, .int 0, .ref m_attributes, .ref m_inherits, .int 0, .ref m_positions, .ref m_symbolAt, .ref m_form, .ref m_ruleX, .ref m_ruleY, .int 0, .int 0, .int (-1), .int (-1), .ref m_uses, .ref m_leads, .ref m_symbolLeads, .ref m_order, .ref m_rank, .ref m_visits, .ref m_length, .ref m_sequence, .ref m_set, .ref m_visited, .int 0, .ref m_production, .ref m_token, .ref m_child, .ref m_parent, .ref m_next, .ref m_known, .ref m_value, .ref m_given, .int (-1), .int (-1)]))] := hD
  have hK : va_K (dC, dI) CL [] s := hK
  refine W.widen (k := 62) (n := 9096) (by decide) (by decide) ?_
  refine lv_icmp_eq (tgt := 1053) hx hb d_L_law_432 (by decide) (fun _ => ?_) (fun h9 => absurd (by decide) h9)
  refine lv_iinc (k := 0) (v := 6) (lv' := [(4, .int 6), (3, .ref out), (2, .ref mo), (1, .ref x), (0, .ref b)]) hx hb d_L_law_1053 hl rfl (by decide) (by decide) rfl (fun ls hl => ?_)
  refine lv_goto (tgt := 23) hx hb d_L_law_1056 (by decide) ?_
  refine lv_iload hx hb d_L_law_23 (lv_at hl 0 rfl) ?_
  refine lv_aload_n hx hb d_L_law_25 rfl (lv_at hl 4 rfl) ?_
  refine va_slen hx hb hX hbl hbA hS d_L_law_26 ?_
  refine vq_top (y := 6) (by decide) ?_
  refine lv_bipush (v := 6) hx hb d_L_law_27 (by decide) ?_
  refine lv_isub hx hb d_L_law_29 ?_
  refine vq_top (y := 0) (by decide) ?_
  refine lv_icmp_gt (tgt := 1059) hx hb d_L_law_30 (by decide) (fun _ => ?_) (fun h9 => absurd (by decide) h9)
  refine lv_iconst (v := 1) hx hb d_L_law_1059 (by decide) ?_
  refine va_forget (fun q hq => hA2 _ (hS.2.2 q hq)) ?_
  refine W.widen (k := 85) (n := 9238) (by decide) (by decide) ?_
  exact lw_ret hx hb hr hlocks d_L_law_1060

set_option maxHeartbeats 4000000 in
set_option maxRecDepth 100000 in
theorem arm_4_2 {p : Program} {e : Env} {s : State} {m : MethodId} {below : List Frame} {meth : Method} {c : Code} (l : Launch) (htr : l.stackTraces = false) {b : Nat} {xs : Nat → Int32} {A : Nat → Prop} (dC : Nat → ClassId) (dI : Nat → Nat → Nat) (out : Nat) (mo : Nat) (x : Nat) (g : Nat) (an : Nat) (tr : Nat) (w : Nat) (an_leads : Nat) (an_ranking : Nat) (an_sequences : Nat) (m_attributes : Nat) (m_inherits : Nat) (m_positions : Nat) (m_symbolAt : Nat) (m_form : Nat) (m_ruleX : Nat) (m_ruleY : Nat) (m_uses : Nat) (m_leads : Nat) (m_symbolLeads : Nat) (m_order : Nat) (m_rank : Nat) (m_visits : Nat) (m_length : Nat) (m_sequence : Nat) (m_set : Nat) (m_visited : Nat) (m_production : Nat) (m_token : Nat) (m_child : Nat) (m_parent : Nat) (m_next : Nat) (m_known : Nat) (m_value : Nat) (m_given : Nat) {H : Heap} {locs : List Loc} {ls : Array Slot} (hv : xs 1 = 2) (hAt : lw_At p s m meth c b 6 xs) (hst : vq_st s) (hA : ∀ q : Nat, s.heap.size ≤ q → A q) (hA2 : ∀ q : Nat, A q → s.heap.size ≤ q) (hbA : ¬ A b) (hK : va_K (dC, dI) CL [] s) (hP : va_P (dC, dI) CL [(x, .inr (0, [.ref g, .ref an, .ref tr, .ref w])), (an, .inr (2, [.ref g, .ref an_leads, .ref an_ranking, .ref an_sequences, .int 0, .int 0, .int (-1), .int (-1)])), (mo, .inr (8, [.int 0, .int 0, .ref m_attributes, .ref m_inherits, .int 0, .ref m_positions, .ref m_symbolAt, .ref m_form, .ref m_ruleX, .ref m_ruleY, .int 0, .int 0, .int (-1), .int (-1), .ref m_uses, .ref m_leads, .ref m_symbolLeads, .ref m_order, .ref m_rank, .ref m_visits, .ref m_length, .ref m_sequence, .ref m_set, .ref m_visited, .int 0, .ref m_production, .ref m_token, .ref m_child, .ref m_parent, .ref m_next, .ref m_known, .ref m_value, .ref m_given, .int (-1), .int (-1)]))] H) (hD : va_D A [(x, .inr (0, [.ref g, .ref an, .ref tr, .ref w])), (an, .inr (2, [.ref g, .ref an_leads, .ref an_ranking, .ref an_sequences, .int 0, .int 0, .int (-1), .int (-1)])), (mo, .inr (8, [.int 0, .int 0, .ref m_attributes, .ref m_inherits, .int 0, .ref m_positions, .ref m_symbolAt, .ref m_form, .ref m_ruleX, .ref m_ruleY, .int 0, .int 0, .int (-1), .int (-1), .ref m_uses, .ref m_leads, .ref m_symbolLeads, .ref m_order, .ref m_rank, .ref m_visits, .ref m_length, .ref m_sequence, .ref m_set, .ref m_visited, .int 0, .ref m_production, .ref m_token, .ref m_child, .ref m_parent, .ref m_next, .ref m_known, .ref m_value, .ref m_given, .int (-1), .int (-1)]))]) (hS : va_S A s.heap H locs) (hl : lv_has ls 7 [(4, .int 0), (3, .ref out), (2, .ref mo), (1, .ref x), (0, .ref b)]) : W p l e room_1 s m #[Value.ref b] below meth c H locs 62 9096 (lw_Z below #[Value.ref b] s) (F0 m 412 ls []) := by
  obtain ⟨hx, hb, hr, hml, hown, hts0, hX, hbl, hlocks, -⟩ := hAt
  have hts : ∀ w ∈ WS, w.before #[Value.ref b] s = true := fun w hw => hts0 w (WS_tbl w hw)
  have hN : ∀ q : Nat, A q → ∀ cell : Cell, s.heap[q]? = some cell → cell.vm.isStatics = false := fun q hq cell hc => absurd (Array.getElem?_eq_some_iff.mp hc).1 (Nat.not_lt.mpr (hA2 q hq))
  refine lv_aload_n hx hb d_L_law_412 rfl (lv_at hl 3 rfl) ?_
  refine lv_aload_n hx hb d_L_law_413 rfl (lv_at hl 4 rfl) ?_
  refine lv_iload hx hb d_L_law_414 (lv_at hl 0 rfl) ?_
  refine lv_iconst (v := 1) hx hb d_L_law_416 (by decide) ?_
  refine lv_iadd hx hb d_L_law_417 ?_
  refine vq_top (y := 1) (by decide) ?_
  refine va_sld (i := 1) hx hb hX hbl hbA hS (show ¬ ((1 : Int32) < 0 ∨ 6 ≤ Int32.toNatClampNeg 1) by decide) d_L_law_418 ?_
  refine vq_top (y := 2) hv ?_
  have hPc := hP.sub (ws' := [(x, .inr (0, [.ref g, .ref an, .ref tr, .ref w])), (an, .inr (2, [.ref g, .ref an_leads, .ref an_ranking, .ref an_sequences, .int 0, .int 0, .int (-1), .int (-1)]))]) [0, 1] rfl
  have hDc := hD.sub (ws' := [(x, .inr (0, [.ref g, .ref an, .ref tr, .ref w])), (an, .inr (2, [.ref g, .ref an_leads, .ref an_ranking, .ref an_sequences, .int 0, .int 0, .int (-1), .int (-1)]))]) [0, 1] (by decide) rfl
  have hKc := hK.sub (tys' := []) [] rfl
  have hFc := va_free (wc := [(x, .inr (0, [.ref g, .ref an, .ref tr, .ref w])), (an, .inr (2, [.ref g, .ref an_leads, .ref an_ranking, .ref an_sequences, .int 0, .int 0, .int (-1), .int (-1)]))]) hD hS hA [0, 1] rfl
  refine va_calli (va_runV (As := [.int 2]) (rest := []) ⟨hx, hb, hml, hown, hts⟩ (c_V_fault2 l htr dC dI x g an tr w an_leads an_ranking an_sequences H.size) (vq_cV WSk hts 1 rfl rfl ⟨by decide, by decide⟩ k_197 k_143 k_434 k_435 k_436 (by decide +kernel)) ⟨vq_blind, va_recv hK hP (ci := 0) (q0 := 0) rfl rfl, vq_here hst hS hN hPc hKc hDc⟩ rfl rfl hl.1 rfl (lv_room (Nat.le_of_ble_eq_true rfl)) d_L_law_419 ⟨by decide, by decide⟩) hS (fun q _ h => hFc q h) hFc (fun r1 u t H1 locs ht hvm hw hB hz1 hk1 hS => ?_)
  obtain ⟨hP1, hK1, hD1⟩ := hB
  rw [ht] at hP1
  have hK1 := va_K.moved hvm.symm hK1
  have hw : r1 = (-1) := hw
  subst hw
  obtain ⟨hP, hD⟩ := va_join (wr := [(mo, .inr (8, [.int 0, .int 0, .ref m_attributes, .ref m_inherits, .int 0, .ref m_positions, .ref m_symbolAt, .ref m_form, .ref m_ruleX, .ref m_ruleY, .int 0, .int 0, .int (-1), .int (-1), .ref m_uses, .ref m_leads, .ref m_symbolLeads, .ref m_order, .ref m_rank, .ref m_visits, .ref m_length, .ref m_sequence, .ref m_set, .ref m_visited, .int 0, .ref m_production, .ref m_token, .ref m_child, .ref m_parent, .ref m_next, .ref m_known, .ref m_value, .ref m_given, .int (-1), .int (-1)]))]) (w1 := [(x, .inr (0, [.ref g, .ref an, .ref tr, .ref w])), (an, .inr (2, [.ref g, .ref an_leads, .ref an_ranking, .ref an_sequences, .int 0, .int 0, .int (-1), .int (-1)]))]) hP hD [0, 1] [2] rfl rfl (by decide) (by decide) hk1 hFc hP1 hD1
  have hK := (hK.sub (tys' := []) [] rfl).app hK1
  generalize H1 = H at hP hS ⊢
  have hP : va_P (dC, dI) CL [(mo, .inr (8, [.int 0, .int 0, .ref m_attributes, .ref m_inherits, .int 0, .ref m_positions, .ref m_symbolAt, .ref m_form, .ref m_ruleX, .ref m_ruleY, .int 0, .int 0, .int (-1), .int (-1), .ref m_uses, .ref m_leads, .ref m_symbolLeads, .ref m_order, .ref m_rank, .ref m_visits, .ref m_length, .ref m_sequence, .ref m_set, .ref m_visited, .int 0, .ref m_production, .ref m_token, .ref m_child, .ref m_parent, .ref m_next, .ref m_known, .ref m_value, .ref m_given, .int (-1), .int (-1)])), (x, .inr (0, [.ref g, .ref an, .ref tr, .ref w])), (an, .inr (2, [.ref g, .ref an_leads, .ref an_ranking, .ref an_sequences, .int 0, .int 0, .int (-1), .int (-1)]))] H := hP
  have hD : va_D A [(mo, .inr (8, [.int 0, .int 0, .ref m_attributes, .ref m_inherits, .int 0, .ref m_positions, .ref m_symbolAt, .ref m_form, .ref m_ruleX, .ref m_ruleY, .int 0, .int 0, .int (-1), .int (-1), .ref m_uses, .ref m_leads, .ref m_symbolLeads, .ref m_order, .ref m_rank, .ref m_visits, .ref m_length, .ref m_sequence, .ref m_set, .ref m_visited, .int 0, .ref m_production, .ref m_token, .ref m_child, .ref m_parent, .ref m_next, .ref m_known, .ref m_value, .ref m_given, .int (-1), .int (-1)])), (x, .inr (0, [.ref g, .ref an, .ref tr, .ref w])), (an, .inr (2, [.ref g, .ref an_leads, .ref an_ranking, .ref an_sequences, .int 0, .int 0, .int (-1), .int (-1)]))] := hD
  have hK : va_K (dC, dI) CL [] s := hK
  refine W.widen (k := 62) (n := 9096) (by decide) (by decide) ?_
  refine lv_aload_n hx hb d_L_law_422 rfl (lv_at hl 2 rfl) ?_
  refine lv_aload_n hx hb d_L_law_423 rfl (lv_at hl 4 rfl) ?_
  refine lv_iload hx hb d_L_law_424 (lv_at hl 0 rfl) ?_
  refine lv_iconst (v := 1) hx hb d_L_law_426 (by decide) ?_
  refine lv_iadd hx hb d_L_law_427 ?_
  refine vq_top (y := 1) (by decide) ?_
  refine va_sld (i := 1) hx hb hX hbl hbA hS (show ¬ ((1 : Int32) < 0 ∨ 6 ≤ Int32.toNatClampNeg 1) by decide) d_L_law_428 ?_
  refine vq_top (y := 2) hv ?_
  have hPc := hP.sub (ws' := [(mo, .inr (8, [.int 0, .int 0, .ref m_attributes, .ref m_inherits, .int 0, .ref m_positions, .ref m_symbolAt, .ref m_form, .ref m_ruleX, .ref m_ruleY, .int 0, .int 0, .int (-1), .int (-1), .ref m_uses, .ref m_leads, .ref m_symbolLeads, .ref m_order, .ref m_rank, .ref m_visits, .ref m_length, .ref m_sequence, .ref m_set, .ref m_visited, .int 0, .ref m_production, .ref m_token, .ref m_child, .ref m_parent, .ref m_next, .ref m_known, .ref m_value, .ref m_given, .int (-1), .int (-1)]))]) [0] rfl
  have hDc := hD.sub (ws' := [(mo, .inr (8, [.int 0, .int 0, .ref m_attributes, .ref m_inherits, .int 0, .ref m_positions, .ref m_symbolAt, .ref m_form, .ref m_ruleX, .ref m_ruleY, .int 0, .int 0, .int (-1), .int (-1), .ref m_uses, .ref m_leads, .ref m_symbolLeads, .ref m_order, .ref m_rank, .ref m_visits, .ref m_length, .ref m_sequence, .ref m_set, .ref m_visited, .int 0, .ref m_production, .ref m_token, .ref m_child, .ref m_parent, .ref m_next, .ref m_known, .ref m_value, .ref m_given, .int (-1), .int (-1)]))]) [0] (by decide) rfl
  have hKc := hK.sub (tys' := []) [] rfl
  have hFc := va_free (wc := [(mo, .inr (8, [.int 0, .int 0, .ref m_attributes, .ref m_inherits, .int 0, .ref m_positions, .ref m_symbolAt, .ref m_form, .ref m_ruleX, .ref m_ruleY, .int 0, .int 0, .int (-1), .int (-1), .ref m_uses, .ref m_leads, .ref m_symbolLeads, .ref m_order, .ref m_rank, .ref m_visits, .ref m_length, .ref m_sequence, .ref m_set, .ref m_visited, .int 0, .ref m_production, .ref m_token, .ref m_child, .ref m_parent, .ref m_next, .ref m_known, .ref m_value, .ref m_given, .int (-1), .int (-1)]))]) hD hS hA [0] rfl
  refine va_calli (va_runV (As := [.int 2]) (rest := [.int (-1)]) ⟨hx, hb, hml, hown, hts⟩ (c_M_fault2 l htr dC dI mo m_attributes m_inherits m_positions m_symbolAt m_form m_ruleX m_ruleY m_uses m_leads m_symbolLeads m_order m_rank m_visits m_length m_sequence m_set m_visited m_production m_token m_child m_parent m_next m_known m_value m_given H.size) (vq_cV WSk hts 1 rfl rfl ⟨by decide, by decide⟩ k_273 k_235 k_437 k_438 k_439 (by decide +kernel)) ⟨vq_blind, va_recv hK hP (ci := 8) (q0 := 0) rfl rfl, vq_here hst hS hN hPc hKc hDc⟩ rfl rfl hl.1 rfl (lv_room (Nat.le_of_ble_eq_true rfl)) d_L_law_429 ⟨by decide, by decide⟩) hS (fun q _ h => hFc q h) hFc (fun r2 u t H1 locs ht hvm hw hB hz1 hk1 hS => ?_)
  obtain ⟨hP1, hK1, hD1⟩ := hB
  rw [ht] at hP1
  have hK1 := va_K.moved hvm.symm hK1
  have hw : r2 = (-1) := hw
  subst hw
  obtain ⟨hP, hD⟩ := va_join (wr := [(x, .inr (0, [.ref g, .ref an, .ref tr, .ref w])), (an, .inr (2, [.ref g, .ref an_leads, .ref an_ranking, .ref an_sequences, .int 0, .int 0, .int (-1), .int (-1)]))]) (w1 := [(mo, .inr (8, [.int 0, .int 0, .ref m_attributes, .ref m_inherits, .int 0, .ref m_positions, .ref m_symbolAt, .ref m_form, .ref m_ruleX, .ref m_ruleY, .int 0, .int 0, .int (-1), .int (-1), .ref m_uses, .ref m_leads, .ref m_symbolLeads, .ref m_order, .ref m_rank, .ref m_visits, .ref m_length, .ref m_sequence, .ref m_set, .ref m_visited, .int 0, .ref m_production, .ref m_token, .ref m_child, .ref m_parent, .ref m_next, .ref m_known, .ref m_value, .ref m_given, .int (-1), .int (-1)]))]) hP hD [0] [1, 2] rfl rfl (by decide) (by decide) hk1 hFc hP1 hD1
  have hK := (hK.sub (tys' := []) [] rfl).app hK1
  generalize H1 = H at hP hS ⊢
  have hP : va_P (dC, dI) CL [(x, .inr (0, [.ref g, .ref an, .ref tr, .ref w])), (an, .inr (2, [.ref g, .ref an_leads, .ref an_ranking, .ref an_sequences, .int 0, .int 0, .int (-1), .int (-1)])), (mo, .inr (8, [.int 0, .int 0, .ref m_attributes, .ref m_inherits, .int 0, .ref m_positions, .ref m_symbolAt, .ref m_form, .ref m_ruleX, .ref m_ruleY, .int 0, .int 0, .int (-1), .int (-1), .ref m_uses, .ref m_leads, .ref m_symbolLeads, .ref m_order, .ref m_rank, .ref m_visits, .ref m_length, .ref m_sequence, .ref m_set, .ref m_visited, .int 0, .ref m_production, .ref m_token, .ref m_child, .ref m_parent, .ref m_next, .ref m_known, .ref m_value, .ref m_given, .int (-1), .int (-1)]))] H := hP
  have hD : va_D A [(x, .inr (0, [.ref g, .ref an, .ref tr, .ref w])), (an, .inr (2, [.ref g, .ref an_leads, .ref an_ranking, .ref an_sequences, .int 0, .int 0, .int (-1), .int (-1)])), (mo, .inr (8, [.int 0, .int 0, .ref m_attributes, .ref m_inherits, .int 0, .ref m_positions, .ref m_symbolAt, .ref m_form, .ref m_ruleX, .ref m_ruleY, .int 0, .int 0, .int (-1), .int (-1), .ref m_uses, .ref m_leads, .ref m_symbolLeads, .ref m_order, .ref m_rank, .ref m_visits, .ref m_length, .ref m_sequence, .ref m_set, .ref m_visited, .int 0, .ref m_production, .ref m_token, .ref m_child, .ref m_parent, .ref m_next, .ref m_known, .ref m_value, .ref m_given, .int (-1), .int (-1)]))] := hD
  have hK : va_K (dC, dI) CL [] s := hK
  refine W.widen (k := 62) (n := 9096) (by decide) (by decide) ?_
  refine lv_icmp_eq (tgt := 1053) hx hb d_L_law_432 (by decide) (fun _ => ?_) (fun h9 => absurd (by decide) h9)
  refine lv_iinc (k := 0) (v := 6) (lv' := [(4, .int 6), (3, .ref out), (2, .ref mo), (1, .ref x), (0, .ref b)]) hx hb d_L_law_1053 hl rfl (by decide) (by decide) rfl (fun ls hl => ?_)
  refine lv_goto (tgt := 23) hx hb d_L_law_1056 (by decide) ?_
  refine lv_iload hx hb d_L_law_23 (lv_at hl 0 rfl) ?_
  refine lv_aload_n hx hb d_L_law_25 rfl (lv_at hl 4 rfl) ?_
  refine va_slen hx hb hX hbl hbA hS d_L_law_26 ?_
  refine vq_top (y := 6) (by decide) ?_
  refine lv_bipush (v := 6) hx hb d_L_law_27 (by decide) ?_
  refine lv_isub hx hb d_L_law_29 ?_
  refine vq_top (y := 0) (by decide) ?_
  refine lv_icmp_gt (tgt := 1059) hx hb d_L_law_30 (by decide) (fun _ => ?_) (fun h9 => absurd (by decide) h9)
  refine lv_iconst (v := 1) hx hb d_L_law_1059 (by decide) ?_
  refine va_forget (fun q hq => hA2 _ (hS.2.2 q hq)) ?_
  refine W.widen (k := 85) (n := 9238) (by decide) (by decide) ?_
  exact lw_ret hx hb hr hlocks d_L_law_1060

set_option maxHeartbeats 4000000 in
set_option maxRecDepth 100000 in
theorem arm_4D {p : Program} {e : Env} {s : State} {m : MethodId} {below : List Frame} {meth : Method} {c : Code} (l : Launch) (htr : l.stackTraces = false) {b : Nat} {xs : Nat → Int32} {A : Nat → Prop} (dC : Nat → ClassId) (dI : Nat → Nat → Nat) (out : Nat) (mo : Nat) (x : Nat) (g : Nat) (an : Nat) (tr : Nat) (w : Nat) (an_leads : Nat) (an_ranking : Nat) (an_sequences : Nat) (m_attributes : Nat) (m_inherits : Nat) (m_positions : Nat) (m_symbolAt : Nat) (m_form : Nat) (m_ruleX : Nat) (m_ruleY : Nat) (m_uses : Nat) (m_leads : Nat) (m_symbolLeads : Nat) (m_order : Nat) (m_rank : Nat) (m_visits : Nat) (m_length : Nat) (m_sequence : Nat) (m_set : Nat) (m_visited : Nat) (m_production : Nat) (m_token : Nat) (m_child : Nat) (m_parent : Nat) (m_next : Nat) (m_known : Nat) (m_value : Nat) (m_given : Nat) {H : Heap} {locs : List Loc} {ls : Array Slot} (ho : (xs 1).toInt < 0 ∨ 2 < (xs 1).toInt) (e0 : ¬ xs 1 = 0) (e1 : ¬ xs 1 = 1) (e2 : ¬ xs 1 = 2) (hAt : lw_At p s m meth c b 6 xs) (hst : vq_st s) (hA : ∀ q : Nat, s.heap.size ≤ q → A q) (hA2 : ∀ q : Nat, A q → s.heap.size ≤ q) (hbA : ¬ A b) (hK : va_K (dC, dI) CL [] s) (hP : va_P (dC, dI) CL [(x, .inr (0, [.ref g, .ref an, .ref tr, .ref w])), (an, .inr (2, [.ref g, .ref an_leads, .ref an_ranking, .ref an_sequences, .int 0, .int 0, .int (-1), .int (-1)])), (mo, .inr (8, [.int 0, .int 0, .ref m_attributes, .ref m_inherits, .int 0, .ref m_positions, .ref m_symbolAt, .ref m_form, .ref m_ruleX, .ref m_ruleY, .int 0, .int 0, .int (-1), .int (-1), .ref m_uses, .ref m_leads, .ref m_symbolLeads, .ref m_order, .ref m_rank, .ref m_visits, .ref m_length, .ref m_sequence, .ref m_set, .ref m_visited, .int 0, .ref m_production, .ref m_token, .ref m_child, .ref m_parent, .ref m_next, .ref m_known, .ref m_value, .ref m_given, .int (-1), .int (-1)]))] H) (hD : va_D A [(x, .inr (0, [.ref g, .ref an, .ref tr, .ref w])), (an, .inr (2, [.ref g, .ref an_leads, .ref an_ranking, .ref an_sequences, .int 0, .int 0, .int (-1), .int (-1)])), (mo, .inr (8, [.int 0, .int 0, .ref m_attributes, .ref m_inherits, .int 0, .ref m_positions, .ref m_symbolAt, .ref m_form, .ref m_ruleX, .ref m_ruleY, .int 0, .int 0, .int (-1), .int (-1), .ref m_uses, .ref m_leads, .ref m_symbolLeads, .ref m_order, .ref m_rank, .ref m_visits, .ref m_length, .ref m_sequence, .ref m_set, .ref m_visited, .int 0, .ref m_production, .ref m_token, .ref m_child, .ref m_parent, .ref m_next, .ref m_known, .ref m_value, .ref m_given, .int (-1), .int (-1)]))]) (hS : va_S A s.heap H locs) (hl : lv_has ls 7 [(4, .int 0), (3, .ref out), (2, .ref mo), (1, .ref x), (0, .ref b)]) : W p l e room_1 s m #[Value.ref b] below meth c H locs 62 9096 (lw_Z below #[Value.ref b] s) (F0 m 412 ls []) := by
  obtain ⟨hx, hb, hr, hml, hown, hts0, hX, hbl, hlocks, -⟩ := hAt
  have hts : ∀ w ∈ WS, w.before #[Value.ref b] s = true := fun w hw => hts0 w (WS_tbl w hw)
  have hN : ∀ q : Nat, A q → ∀ cell : Cell, s.heap[q]? = some cell → cell.vm.isStatics = false := fun q hq cell hc => absurd (Array.getElem?_eq_some_iff.mp hc).1 (Nat.not_lt.mpr (hA2 q hq))
  refine lv_aload_n hx hb d_L_law_412 rfl (lv_at hl 3 rfl) ?_
  refine lv_aload_n hx hb d_L_law_413 rfl (lv_at hl 4 rfl) ?_
  refine lv_iload hx hb d_L_law_414 (lv_at hl 0 rfl) ?_
  refine lv_iconst (v := 1) hx hb d_L_law_416 (by decide) ?_
  refine lv_iadd hx hb d_L_law_417 ?_
  refine vq_top (y := 1) (by decide) ?_
  refine va_sld (i := 1) hx hb hX hbl hbA hS (show ¬ ((1 : Int32) < 0 ∨ 6 ≤ Int32.toNatClampNeg 1) by decide) d_L_law_418 ?_
  refine vq_top (y := xs 1) rfl ?_
  have hPc := hP.sub (ws' := [(x, .inr (0, [.ref g, .ref an, .ref tr, .ref w])), (an, .inr (2, [.ref g, .ref an_leads, .ref an_ranking, .ref an_sequences, .int 0, .int 0, .int (-1), .int (-1)]))]) [0, 1] rfl
  have hDc := hD.sub (ws' := [(x, .inr (0, [.ref g, .ref an, .ref tr, .ref w])), (an, .inr (2, [.ref g, .ref an_leads, .ref an_ranking, .ref an_sequences, .int 0, .int 0, .int (-1), .int (-1)]))]) [0, 1] (by decide) rfl
  have hKc := hK.sub (tys' := []) [] rfl
  have hFc := va_free (wc := [(x, .inr (0, [.ref g, .ref an, .ref tr, .ref w])), (an, .inr (2, [.ref g, .ref an_leads, .ref an_ranking, .ref an_sequences, .int 0, .int 0, .int (-1), .int (-1)]))]) hD hS hA [0, 1] rfl
  refine va_calli (va_runV (As := [.int (xs 1)]) (rest := []) ⟨hx, hb, hml, hown, hts⟩ (c_V_faultD l htr dC dI x (xs 1) g an tr w an_leads an_ranking an_sequences H.size ho) (vq_cV WSk hts 1 rfl rfl ⟨by decide, by decide⟩ k_197 k_143 k_434 k_435 k_436 (by decide +kernel)) ⟨vq_blind, va_recv hK hP (ci := 0) (q0 := 0) rfl rfl, vq_here hst hS hN hPc hKc hDc⟩ rfl rfl hl.1 rfl (lv_room (Nat.le_of_ble_eq_true rfl)) d_L_law_419 ⟨by decide, by decide⟩) hS (fun q _ h => hFc q h) hFc (fun r1 u t H1 locs ht hvm hw hB hz1 hk1 hS => ?_)
  obtain ⟨hP1, hK1, hD1⟩ := hB
  rw [ht] at hP1
  have hK1 := va_K.moved hvm.symm hK1
  have hw : r1 = (-1) := hw
  subst hw
  obtain ⟨hP, hD⟩ := va_join (wr := [(mo, .inr (8, [.int 0, .int 0, .ref m_attributes, .ref m_inherits, .int 0, .ref m_positions, .ref m_symbolAt, .ref m_form, .ref m_ruleX, .ref m_ruleY, .int 0, .int 0, .int (-1), .int (-1), .ref m_uses, .ref m_leads, .ref m_symbolLeads, .ref m_order, .ref m_rank, .ref m_visits, .ref m_length, .ref m_sequence, .ref m_set, .ref m_visited, .int 0, .ref m_production, .ref m_token, .ref m_child, .ref m_parent, .ref m_next, .ref m_known, .ref m_value, .ref m_given, .int (-1), .int (-1)]))]) (w1 := [(x, .inr (0, [.ref g, .ref an, .ref tr, .ref w])), (an, .inr (2, [.ref g, .ref an_leads, .ref an_ranking, .ref an_sequences, .int 0, .int 0, .int (-1), .int (-1)]))]) hP hD [0, 1] [2] rfl rfl (by decide) (by decide) hk1 hFc hP1 hD1
  have hK := (hK.sub (tys' := []) [] rfl).app hK1
  generalize H1 = H at hP hS ⊢
  have hP : va_P (dC, dI) CL [(mo, .inr (8, [.int 0, .int 0, .ref m_attributes, .ref m_inherits, .int 0, .ref m_positions, .ref m_symbolAt, .ref m_form, .ref m_ruleX, .ref m_ruleY, .int 0, .int 0, .int (-1), .int (-1), .ref m_uses, .ref m_leads, .ref m_symbolLeads, .ref m_order, .ref m_rank, .ref m_visits, .ref m_length, .ref m_sequence, .ref m_set, .ref m_visited, .int 0, .ref m_production, .ref m_token, .ref m_child, .ref m_parent, .ref m_next, .ref m_known, .ref m_value, .ref m_given, .int (-1), .int (-1)])), (x, .inr (0, [.ref g, .ref an, .ref tr, .ref w])), (an, .inr (2, [.ref g, .ref an_leads, .ref an_ranking, .ref an_sequences, .int 0, .int 0, .int (-1), .int (-1)]))] H := hP
  have hD : va_D A [(mo, .inr (8, [.int 0, .int 0, .ref m_attributes, .ref m_inherits, .int 0, .ref m_positions, .ref m_symbolAt, .ref m_form, .ref m_ruleX, .ref m_ruleY, .int 0, .int 0, .int (-1), .int (-1), .ref m_uses, .ref m_leads, .ref m_symbolLeads, .ref m_order, .ref m_rank, .ref m_visits, .ref m_length, .ref m_sequence, .ref m_set, .ref m_visited, .int 0, .ref m_production, .ref m_token, .ref m_child, .ref m_parent, .ref m_next, .ref m_known, .ref m_value, .ref m_given, .int (-1), .int (-1)])), (x, .inr (0, [.ref g, .ref an, .ref tr, .ref w])), (an, .inr (2, [.ref g, .ref an_leads, .ref an_ranking, .ref an_sequences, .int 0, .int 0, .int (-1), .int (-1)]))] := hD
  have hK : va_K (dC, dI) CL [] s := hK
  refine W.widen (k := 62) (n := 9096) (by decide) (by decide) ?_
  refine lv_aload_n hx hb d_L_law_422 rfl (lv_at hl 2 rfl) ?_
  refine lv_aload_n hx hb d_L_law_423 rfl (lv_at hl 4 rfl) ?_
  refine lv_iload hx hb d_L_law_424 (lv_at hl 0 rfl) ?_
  refine lv_iconst (v := 1) hx hb d_L_law_426 (by decide) ?_
  refine lv_iadd hx hb d_L_law_427 ?_
  refine vq_top (y := 1) (by decide) ?_
  refine va_sld (i := 1) hx hb hX hbl hbA hS (show ¬ ((1 : Int32) < 0 ∨ 6 ≤ Int32.toNatClampNeg 1) by decide) d_L_law_428 ?_
  refine vq_top (y := xs 1) rfl ?_
  have hPc := hP.sub (ws' := [(mo, .inr (8, [.int 0, .int 0, .ref m_attributes, .ref m_inherits, .int 0, .ref m_positions, .ref m_symbolAt, .ref m_form, .ref m_ruleX, .ref m_ruleY, .int 0, .int 0, .int (-1), .int (-1), .ref m_uses, .ref m_leads, .ref m_symbolLeads, .ref m_order, .ref m_rank, .ref m_visits, .ref m_length, .ref m_sequence, .ref m_set, .ref m_visited, .int 0, .ref m_production, .ref m_token, .ref m_child, .ref m_parent, .ref m_next, .ref m_known, .ref m_value, .ref m_given, .int (-1), .int (-1)]))]) [0] rfl
  have hDc := hD.sub (ws' := [(mo, .inr (8, [.int 0, .int 0, .ref m_attributes, .ref m_inherits, .int 0, .ref m_positions, .ref m_symbolAt, .ref m_form, .ref m_ruleX, .ref m_ruleY, .int 0, .int 0, .int (-1), .int (-1), .ref m_uses, .ref m_leads, .ref m_symbolLeads, .ref m_order, .ref m_rank, .ref m_visits, .ref m_length, .ref m_sequence, .ref m_set, .ref m_visited, .int 0, .ref m_production, .ref m_token, .ref m_child, .ref m_parent, .ref m_next, .ref m_known, .ref m_value, .ref m_given, .int (-1), .int (-1)]))]) [0] (by decide) rfl
  have hKc := hK.sub (tys' := []) [] rfl
  have hFc := va_free (wc := [(mo, .inr (8, [.int 0, .int 0, .ref m_attributes, .ref m_inherits, .int 0, .ref m_positions, .ref m_symbolAt, .ref m_form, .ref m_ruleX, .ref m_ruleY, .int 0, .int 0, .int (-1), .int (-1), .ref m_uses, .ref m_leads, .ref m_symbolLeads, .ref m_order, .ref m_rank, .ref m_visits, .ref m_length, .ref m_sequence, .ref m_set, .ref m_visited, .int 0, .ref m_production, .ref m_token, .ref m_child, .ref m_parent, .ref m_next, .ref m_known, .ref m_value, .ref m_given, .int (-1), .int (-1)]))]) hD hS hA [0] rfl
  refine va_calli (va_runV (As := [.int (xs 1)]) (rest := [.int (-1)]) ⟨hx, hb, hml, hown, hts⟩ (c_M_faultD l htr dC dI mo (xs 1) m_attributes m_inherits m_positions m_symbolAt m_form m_ruleX m_ruleY m_uses m_leads m_symbolLeads m_order m_rank m_visits m_length m_sequence m_set m_visited m_production m_token m_child m_parent m_next m_known m_value m_given H.size e0 e1 e2) (vq_cV WSk hts 1 rfl rfl ⟨by decide, by decide⟩ k_273 k_235 k_437 k_438 k_439 (by decide +kernel)) ⟨vq_blind, va_recv hK hP (ci := 8) (q0 := 0) rfl rfl, vq_here hst hS hN hPc hKc hDc⟩ rfl rfl hl.1 rfl (lv_room (Nat.le_of_ble_eq_true rfl)) d_L_law_429 ⟨by decide, by decide⟩) hS (fun q _ h => hFc q h) hFc (fun r2 u t H1 locs ht hvm hw hB hz1 hk1 hS => ?_)
  obtain ⟨hP1, hK1, hD1⟩ := hB
  rw [ht] at hP1
  have hK1 := va_K.moved hvm.symm hK1
  have hw : r2 = (-1) := hw
  subst hw
  obtain ⟨hP, hD⟩ := va_join (wr := [(x, .inr (0, [.ref g, .ref an, .ref tr, .ref w])), (an, .inr (2, [.ref g, .ref an_leads, .ref an_ranking, .ref an_sequences, .int 0, .int 0, .int (-1), .int (-1)]))]) (w1 := [(mo, .inr (8, [.int 0, .int 0, .ref m_attributes, .ref m_inherits, .int 0, .ref m_positions, .ref m_symbolAt, .ref m_form, .ref m_ruleX, .ref m_ruleY, .int 0, .int 0, .int (-1), .int (-1), .ref m_uses, .ref m_leads, .ref m_symbolLeads, .ref m_order, .ref m_rank, .ref m_visits, .ref m_length, .ref m_sequence, .ref m_set, .ref m_visited, .int 0, .ref m_production, .ref m_token, .ref m_child, .ref m_parent, .ref m_next, .ref m_known, .ref m_value, .ref m_given, .int (-1), .int (-1)]))]) hP hD [0] [1, 2] rfl rfl (by decide) (by decide) hk1 hFc hP1 hD1
  have hK := (hK.sub (tys' := []) [] rfl).app hK1
  generalize H1 = H at hP hS ⊢
  have hP : va_P (dC, dI) CL [(x, .inr (0, [.ref g, .ref an, .ref tr, .ref w])), (an, .inr (2, [.ref g, .ref an_leads, .ref an_ranking, .ref an_sequences, .int 0, .int 0, .int (-1), .int (-1)])), (mo, .inr (8, [.int 0, .int 0, .ref m_attributes, .ref m_inherits, .int 0, .ref m_positions, .ref m_symbolAt, .ref m_form, .ref m_ruleX, .ref m_ruleY, .int 0, .int 0, .int (-1), .int (-1), .ref m_uses, .ref m_leads, .ref m_symbolLeads, .ref m_order, .ref m_rank, .ref m_visits, .ref m_length, .ref m_sequence, .ref m_set, .ref m_visited, .int 0, .ref m_production, .ref m_token, .ref m_child, .ref m_parent, .ref m_next, .ref m_known, .ref m_value, .ref m_given, .int (-1), .int (-1)]))] H := hP
  have hD : va_D A [(x, .inr (0, [.ref g, .ref an, .ref tr, .ref w])), (an, .inr (2, [.ref g, .ref an_leads, .ref an_ranking, .ref an_sequences, .int 0, .int 0, .int (-1), .int (-1)])), (mo, .inr (8, [.int 0, .int 0, .ref m_attributes, .ref m_inherits, .int 0, .ref m_positions, .ref m_symbolAt, .ref m_form, .ref m_ruleX, .ref m_ruleY, .int 0, .int 0, .int (-1), .int (-1), .ref m_uses, .ref m_leads, .ref m_symbolLeads, .ref m_order, .ref m_rank, .ref m_visits, .ref m_length, .ref m_sequence, .ref m_set, .ref m_visited, .int 0, .ref m_production, .ref m_token, .ref m_child, .ref m_parent, .ref m_next, .ref m_known, .ref m_value, .ref m_given, .int (-1), .int (-1)]))] := hD
  have hK : va_K (dC, dI) CL [] s := hK
  refine W.widen (k := 62) (n := 9096) (by decide) (by decide) ?_
  refine lv_icmp_eq (tgt := 1053) hx hb d_L_law_432 (by decide) (fun _ => ?_) (fun h9 => absurd (by decide) h9)
  refine lv_iinc (k := 0) (v := 6) (lv' := [(4, .int 6), (3, .ref out), (2, .ref mo), (1, .ref x), (0, .ref b)]) hx hb d_L_law_1053 hl rfl (by decide) (by decide) rfl (fun ls hl => ?_)
  refine lv_goto (tgt := 23) hx hb d_L_law_1056 (by decide) ?_
  refine lv_iload hx hb d_L_law_23 (lv_at hl 0 rfl) ?_
  refine lv_aload_n hx hb d_L_law_25 rfl (lv_at hl 4 rfl) ?_
  refine va_slen hx hb hX hbl hbA hS d_L_law_26 ?_
  refine vq_top (y := 6) (by decide) ?_
  refine lv_bipush (v := 6) hx hb d_L_law_27 (by decide) ?_
  refine lv_isub hx hb d_L_law_29 ?_
  refine vq_top (y := 0) (by decide) ?_
  refine lv_icmp_gt (tgt := 1059) hx hb d_L_law_30 (by decide) (fun _ => ?_) (fun h9 => absurd (by decide) h9)
  refine lv_iconst (v := 1) hx hb d_L_law_1059 (by decide) ?_
  refine va_forget (fun q hq => hA2 _ (hS.2.2 q hq)) ?_
  refine W.widen (k := 85) (n := 9238) (by decide) (by decide) ?_
  exact lw_ret hx hb hr hlocks d_L_law_1060

set_option maxHeartbeats 4000000 in
set_option maxRecDepth 100000 in
theorem arm_D {p : Program} {e : Env} {s : State} {m : MethodId} {below : List Frame} {meth : Method} {c : Code} (l : Launch) (htr : l.stackTraces = false) {b : Nat} {xs : Nat → Int32} {A : Nat → Prop} (dC : Nat → ClassId) (dI : Nat → Nat → Nat) (out : Nat) (mo : Nat) (x : Nat) {H : Heap} {locs : List Loc} {ls : Array Slot} (hAt : lw_At p s m meth c b 6 xs) (hst : vq_st s) (hA : ∀ q : Nat, s.heap.size ≤ q → A q) (hA2 : ∀ q : Nat, A q → s.heap.size ≤ q) (hbA : ¬ A b) (hK : va_K (dC, dI) CL [] s) (hP : va_P (dC, dI) CL [] H) (hD : va_D A []) (hS : va_S A s.heap H locs) (hl : lv_has ls 7 [(4, .int 0), (3, .ref out), (2, .ref mo), (1, .ref x), (0, .ref b)]) : W p l e room_1 s m #[Value.ref b] below meth c H locs 62 9096 (lw_Z below #[Value.ref b] s) (F0 m 1053 ls []) := by
  obtain ⟨hx, hb, hr, hml, hown, hts0, hX, hbl, hlocks, -⟩ := hAt
  have hts : ∀ w ∈ WS, w.before #[Value.ref b] s = true := fun w hw => hts0 w (WS_tbl w hw)
  have hN : ∀ q : Nat, A q → ∀ cell : Cell, s.heap[q]? = some cell → cell.vm.isStatics = false := fun q hq cell hc => absurd (Array.getElem?_eq_some_iff.mp hc).1 (Nat.not_lt.mpr (hA2 q hq))
  refine lv_iinc (k := 0) (v := 6) (lv' := [(4, .int 6), (3, .ref out), (2, .ref mo), (1, .ref x), (0, .ref b)]) hx hb d_L_law_1053 hl rfl (by decide) (by decide) rfl (fun ls hl => ?_)
  refine lv_goto (tgt := 23) hx hb d_L_law_1056 (by decide) ?_
  refine lv_iload hx hb d_L_law_23 (lv_at hl 0 rfl) ?_
  refine lv_aload_n hx hb d_L_law_25 rfl (lv_at hl 4 rfl) ?_
  refine va_slen hx hb hX hbl hbA hS d_L_law_26 ?_
  refine vq_top (y := 6) (by decide) ?_
  refine lv_bipush (v := 6) hx hb d_L_law_27 (by decide) ?_
  refine lv_isub hx hb d_L_law_29 ?_
  refine vq_top (y := 0) (by decide) ?_
  refine lv_icmp_gt (tgt := 1059) hx hb d_L_law_30 (by decide) (fun _ => ?_) (fun h9 => absurd (by decide) h9)
  refine lv_iconst (v := 1) hx hb d_L_law_1059 (by decide) ?_
  refine va_forget (fun q hq => hA2 _ (hS.2.2 q hq)) ?_
  refine W.widen (k := 85) (n := 9238) (by decide) (by decide) ?_
  exact lw_ret hx hb hr hlocks d_L_law_1060

