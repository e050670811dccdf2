set_option maxHeartbeats 4000000 in
set_option maxRecDepth 100000 in
theorem c_U_end (l : Launch) (htr : l.stackTraces = false) (dC : Nat → ClassId) (dI : Nat → Nat → Nat) (w : Nat) (g : Nat) (an_sequences : Nat) (tr : Nat) (w_given : Nat) (w_values : Nat) (w_knownBits : Nat) (w_instructionsDone : Nat) (st0 : Int32) (sz : Nat) : Met l y_U_end WS ({ frames := 0, cells := 0, slots := 0, locals := 0 }) (va_Pc [.ref w] (vq_Pre (dC, dI) CL sz [(w, .inr (7, [.ref g, .ref an_sequences, .ref tr, .ref w_given, .ref w_values, .ref w_knownBits, .ref w_instructionsDone, .int st0, .int 0, .int 0]))] [])) (va_Qv (fun _ : Unit => True) (fun _ t => vq_Post (dC, dI) CL (va_A [(w, .inr (7, [.ref g, .ref an_sequences, .ref tr, .ref w_given, .ref w_values, .ref w_knownBits, .ref w_instructionsDone, .int st0, .int 0, .int 0]))] sz) [(w, .inr (7, [.ref g, .ref an_sequences, .ref tr, .ref w_given, .ref w_values, .ref w_knownBits, .ref w_instructionsDone, .int 0, .int 0, .int 0]))] [] t) (va_A [(w, .inr (7, [.ref g, .ref an_sequences, .ref tr, .ref w_given, .ref w_values, .ref w_knownBits, .ref w_instructionsDone, .int st0, .int 0, .int 0]))] sz)) 0 0 (va_A [(w, .inr (7, [.ref g, .ref an_sequences, .ref tr, .ref w_given, .ref w_values, .ref w_knownBits, .ref w_instructionsDone, .int st0, .int 0, .int 0]))] sz) := by
  refine vq_ofW (cc := prog_8_method_3_code) (maxL := 1) (ret := (Option.none : Option Jvm.ClassFile.FieldType)) (by decide) (vq_his k_101) ?_
  intro p e s m args below meth c s₁ B hml hv
  obtain ⟨rfl, hst, hsz, hP, hK, hD0⟩ := hv
  have hx := B.exec
  have hb := B.bytes
  have hr := B.returns
  have hts := atoms_spec (ws := WS) B.pre
  have hown : s.vm.findClass R_U = some m.cls := findClass_of_methodNamed B.named
  have hlocks := B.notSynchronized
  have hno := vq_noH B (hts _ k_101)
  subst hsz
  have hN := vq_ns hP
  have hD := hD0.self (sz := s.heap.size)
  generalize hAe : va_A [(w, .inr (7, [.ref g, .ref an_sequences, .ref tr, .ref w_given, .ref w_values, .ref w_knownBits, .ref w_instructionsDone, .int st0, .int 0, .int 0]))] s.heap.size = A at hD hN ⊢
  have hA : ∀ q : Nat, s.heap.size ≤ q → A q := fun q h => by rw [← hAe]; exact Or.inr h
  have hS : va_S A s.heap s.heap [] := va_S.rf
  have hP : va_P (dC, dI) CL [(w, .inr (7, [.ref g, .ref an_sequences, .ref tr, .ref w_given, .ref w_values, .ref w_knownBits, .ref w_instructionsDone, .int st0, .int 0, .int 0]))] s.heap := hP
  have hD : va_D A [(w, .inr (7, [.ref g, .ref an_sequences, .ref tr, .ref w_given, .ref w_values, .ref w_knownBits, .ref w_instructionsDone, .int st0, .int 0, .int 0]))] := hD
  have hl := lv_entry ([.ref w]) (n := 1) (Nat.le_of_ble_eq_true rfl)
  rw [lg_entry_eq]
  generalize (lg_sl ([.ref w]) ++ List.replicate (1 - (lg_sl ([.ref w])).length) Slot.unset).toArray = ls at hl ⊢
  have hl : lv_has ls 1 [(0, .ref w)] := hl
  refine lv_aload_n hx hb d_U_end_0 rfl (lv_at hl 0 rfl) ?_
  refine lv_iconst (v := 0) hx hb d_U_end_1 (by decide) ?_
  refine va_put (D := (dC, dI)) (ci := 7) (v := .int 0) (ty := .int) (C := R_U) (T := F_U) (N := 10) hx hb hts u_U t_U t_U_ok n_U hown hK hP hD hS 0 rfl rfl 7 (by decide) (hts _ k_102) (fun _ h9 => h9) rfl (by decide +kernel) rfl rfl (Nat.le_of_ble_eq_true rfl) d_U_end_2 (fun H locs hP hD hS => ?_)
  have hP : va_P (dC, dI) CL [(w, .inr (7, [.ref g, .ref an_sequences, .ref tr, .ref w_given, .ref w_values, .ref w_knownBits, .ref w_instructionsDone, .int 0, .int 0, .int 0]))] H := hP
  have hD : va_D A [(w, .inr (7, [.ref g, .ref an_sequences, .ref tr, .ref w_given, .ref w_values, .ref w_knownBits, .ref w_instructionsDone, .int 0, .int 0, .int 0]))] := hD
  have hP9 := hP.sub (ws' := [(w, .inr (7, [.ref g, .ref an_sequences, .ref tr, .ref w_given, .ref w_values, .ref w_knownBits, .ref w_instructionsDone, .int 0, .int 0, .int 0]))]) [0] rfl
  have hD9 := hD.sub (ws' := [(w, .inr (7, [.ref g, .ref an_sequences, .ref tr, .ref w_given, .ref w_values, .ref w_knownBits, .ref w_instructionsDone, .int 0, .int 0, .int 0]))]) [0] (by decide) rfl
  have hK9 := hK.sub (tys' := []) [] rfl
  refine W.widen (k := 0) (n := 0) (by decide) (by decide) ?_
  exact W.vret hx hb hr (fun t ht hW => ⟨⟨(), rfl, trivial, by rw [ht]; exact hP9, va_K.moved hW.alike hK9, hD9⟩, hS.F ht⟩) hS.2.2 d_U_end_5

set_option maxHeartbeats 4000000 in
set_option maxRecDepth 100000 in
theorem c_V_drop (l : Launch) (htr : l.stackTraces = false) (dC : Nat → ClassId) (dI : Nat → Nat → Nat) (x : Nat) (g : Nat) (an : Nat) (tr : Nat) (w : Nat) (an_leads : Nat) (an_ranking : Nat) (an_sequences : Nat) (w_given : Nat) (w_values : Nat) (w_knownBits : Nat) (w_instructionsDone : Nat) (sz : Nat) : Met l y_V_dropAnalysis WS ({ frames := 1, cells := 0, slots := 0, locals := 20 }) (va_Pc [.ref x] (vq_Pre (dC, dI) CL sz [(x, .inr (0, [.ref g, .ref an, .ref tr, .ref w])), (an, .inr (2, [.ref g, .ref an_leads, .ref an_ranking, .ref an_sequences, .int 0, .int 0, .int (-1), .int (-1)])), (w, .inr (7, [.ref g, .ref an_sequences, .ref tr, .ref w_given, .ref w_values, .ref w_knownBits, .ref w_instructionsDone, .int 0, .int 0, .int 0]))] [])) (va_Qv (fun _ : Unit => True) (fun _ t => vq_Post (dC, dI) CL (va_A [(x, .inr (0, [.ref g, .ref an, .ref tr, .ref w])), (an, .inr (2, [.ref g, .ref an_leads, .ref an_ranking, .ref an_sequences, .int 0, .int 0, .int (-1), .int (-1)])), (w, .inr (7, [.ref g, .ref an_sequences, .ref tr, .ref w_given, .ref w_values, .ref w_knownBits, .ref w_instructionsDone, .int 0, .int 0, .int 0]))] sz) [(x, .inr (0, [.ref g, .ref an, .ref tr, .ref w])), (an, .inr (2, [.ref g, .ref an_leads, .ref an_ranking, .ref an_sequences, .int 0, .int 0, .int (-1), .int (-1)])), (w, .inr (7, [.ref g, .ref an_sequences, .ref tr, .ref w_given, .ref w_values, .ref w_knownBits, .ref w_instructionsDone, .int 0, .int 0, .int 0]))] [] t) (va_A [(x, .inr (0, [.ref g, .ref an, .ref tr, .ref w])), (an, .inr (2, [.ref g, .ref an_leads, .ref an_ranking, .ref an_sequences, .int 0, .int 0, .int (-1), .int (-1)])), (w, .inr (7, [.ref g, .ref an_sequences, .ref tr, .ref w_given, .ref w_values, .ref w_knownBits, .ref w_instructionsDone, .int 0, .int 0, .int 0]))] sz)) 0 0 (va_A [(x, .inr (0, [.ref g, .ref an, .ref tr, .ref w])), (an, .inr (2, [.ref g, .ref an_leads, .ref an_ranking, .ref an_sequences, .int 0, .int 0, .int (-1), .int (-1)])), (w, .inr (7, [.ref g, .ref an_sequences, .ref tr, .ref w_given, .ref w_values, .ref w_knownBits, .ref w_instructionsDone, .int 0, .int 0, .int 0]))] sz) := by
  refine vq_ofW (cc := prog_1_method_19_code) (maxL := 1) (ret := (Option.none : Option Jvm.ClassFile.FieldType)) (by decide) (vq_his k_103) ?_
  intro p e s m args below meth c s₁ B hml hv
  obtain ⟨rfl, hst, hsz, hP, hK, hD0⟩ := hv
  have hx := B.exec
  have hb := B.bytes
  have hr := B.returns
  have hts := atoms_spec (ws := WS) B.pre
  have hown : s.vm.findClass R_V = some m.cls := findClass_of_methodNamed B.named
  have hlocks := B.notSynchronized
  have hno := vq_noH B (hts _ k_103)
  subst hsz
  have hN := vq_ns hP
  have hD := hD0.self (sz := s.heap.size)
  generalize hAe : va_A [(x, .inr (0, [.ref g, .ref an, .ref tr, .ref w])), (an, .inr (2, [.ref g, .ref an_leads, .ref an_ranking, .ref an_sequences, .int 0, .int 0, .int (-1), .int (-1)])), (w, .inr (7, [.ref g, .ref an_sequences, .ref tr, .ref w_given, .ref w_values, .ref w_knownBits, .ref w_instructionsDone, .int 0, .int 0, .int 0]))] s.heap.size = A at hD hN ⊢
  have hA : ∀ q : Nat, s.heap.size ≤ q → A q := fun q h => by rw [← hAe]; exact Or.inr h
  have hS : va_S A s.heap s.heap [] := va_S.rf
  have hP : va_P (dC, dI) CL [(x, .inr (0, [.ref g, .ref an, .ref tr, .ref w])), (an, .inr (2, [.ref g, .ref an_leads, .ref an_ranking, .ref an_sequences, .int 0, .int 0, .int (-1), .int (-1)])), (w, .inr (7, [.ref g, .ref an_sequences, .ref tr, .ref w_given, .ref w_values, .ref w_knownBits, .ref w_instructionsDone, .int 0, .int 0, .int 0]))] s.heap := hP
  have hD : va_D A [(x, .inr (0, [.ref g, .ref an, .ref tr, .ref w])), (an, .inr (2, [.ref g, .ref an_leads, .ref an_ranking, .ref an_sequences, .int 0, .int 0, .int (-1), .int (-1)])), (w, .inr (7, [.ref g, .ref an_sequences, .ref tr, .ref w_given, .ref w_values, .ref w_knownBits, .ref w_instructionsDone, .int 0, .int 0, .int 0]))] := hD
  have hl := lv_entry ([.ref x]) (n := 1) (Nat.le_of_ble_eq_true rfl)
  rw [lg_entry_eq]
  generalize (lg_sl ([.ref x]) ++ List.replicate (1 - (lg_sl ([.ref x])).length) Slot.unset).toArray = ls at hl ⊢
  have hl : lv_has ls 1 [(0, .ref x)] := hl
  refine lv_aload_n hx hb d_V_dropAnalysis_0 rfl (lv_at hl 0 rfl) ?_
  refine va_get (D := (dC, dI)) (ci := 0) (v := .ref an) (C := R_V) (T := F_V) (N := 4) hx hb hts u_V hown hK hP 0 rfl rfl 1 (by decide) (hts _ k_87) (fun _ h9 => h9) rfl d_V_dropAnalysis_1 ?_
  refine lv_iconst (v := 0) hx hb d_V_dropAnalysis_4 (by decide) ?_
  refine va_putN (D := (dC, dI)) (ci := 2) (v := .int 0) (ty := .boolean) (C := R_A) (T := F_A) (N := 8) hx hb hts u_A t_A t_A_ok n_A hown hK hP hD hS 1 rfl rfl 4 (by decide) (hts _ k_104) (fun _ h9 => h9) rfl (by decide +kernel) rfl rfl (Nat.le_of_ble_eq_true rfl) d_V_dropAnalysis_5 (fun H locs hP hD hS => ?_)
  have hP : va_P (dC, dI) CL [(x, .inr (0, [.ref g, .ref an, .ref tr, .ref w])), (an, .inr (2, [.ref g, .ref an_leads, .ref an_ranking, .ref an_sequences, .int 0, .int 0, .int (-1), .int (-1)])), (w, .inr (7, [.ref g, .ref an_sequences, .ref tr, .ref w_given, .ref w_values, .ref w_knownBits, .ref w_instructionsDone, .int 0, .int 0, .int 0]))] H := hP
  have hD : va_D A [(x, .inr (0, [.ref g, .ref an, .ref tr, .ref w])), (an, .inr (2, [.ref g, .ref an_leads, .ref an_ranking, .ref an_sequences, .int 0, .int 0, .int (-1), .int (-1)])), (w, .inr (7, [.ref g, .ref an_sequences, .ref tr, .ref w_given, .ref w_values, .ref w_knownBits, .ref w_instructionsDone, .int 0, .int 0, .int 0]))] := hD
  refine lv_aload_n hx hb d_V_dropAnalysis_8 rfl (lv_at hl 0 rfl) ?_
  refine va_get (D := (dC, dI)) (ci := 0) (v := .ref w) (C := R_V) (T := F_V) (N := 4) hx hb hts u_V hown hK hP 0 rfl rfl 3 (by decide) (hts _ k_100) (fun _ h9 => h9) rfl d_V_dropAnalysis_9 ?_
  have hPc := hP.sub (ws' := [(w, .inr (7, [.ref g, .ref an_sequences, .ref tr, .ref w_given, .ref w_values, .ref w_knownBits, .ref w_instructionsDone, .int 0, .int 0, .int 0]))]) [2] rfl
  have hDc := hD.sub (ws' := [(w, .inr (7, [.ref g, .ref an_sequences, .ref tr, .ref w_given, .ref w_values, .ref w_knownBits, .ref w_instructionsDone, .int 0, .int 0, .int 0]))]) [2] (by decide) rfl
  have hKc := hK.sub (tys' := []) [] rfl
  have hFc := va_free (wc := [(w, .inr (7, [.ref g, .ref an_sequences, .ref tr, .ref w_given, .ref w_values, .ref w_knownBits, .ref w_instructionsDone, .int 0, .int 0, .int 0]))]) hD hS hA [2] rfl
  refine va_callv (va_runV (As := []) (rest := []) ⟨hx, hb, hml, hown, hts⟩ (c_U_end l htr dC dI w g an_sequences tr w_given w_values w_knownBits w_instructionsDone 0 H.size) (vq_cV WSk hts 0 rfl rfl ⟨by decide, by decide⟩ k_101 k_96 k_105 k_106 k_107 (by decide +kernel)) ⟨vq_blind, va_recv hK hP (ci := 7) (q0 := 2) rfl rfl, vq_here hst hS hN hPc hKc hDc⟩ rfl rfl hl.1 rfl (lv_room (Nat.le_of_ble_eq_true rfl)) d_V_dropAnalysis_12 ⟨by decide, by decide⟩) hS (fun q _ h => hFc q h) hFc (fun u t H1 locs ht hvm hw hB hz1 hk1 hS => ?_)
  obtain ⟨hP1, hK1, hD1⟩ := hB
  rw [ht] at hP1
  have hK1 := va_K.moved hvm.symm hK1
  obtain ⟨hP, hD⟩ := va_join (wr := [(x, .inr (0, [.ref g, .ref an, .ref tr, .ref w])), (an, .inr (2, [.ref g, .ref an_leads, .ref an_ranking, .ref an_sequences, .int 0, .int 0, .int (-1), .int (-1)]))]) (w1 := [(w, .inr (7, [.ref g, .ref an_sequences, .ref tr, .ref w_given, .ref w_values, .ref w_knownBits, .ref w_instructionsDone, .int 0, .int 0, .int 0]))]) hP hD [2] [0, 1] rfl rfl (by decide) (by decide) hk1 hFc hP1 hD1
  have hK := (hK.sub (tys' := []) [] rfl).app hK1
  generalize H1 = H at hP hS ⊢
  have hP : va_P (dC, dI) CL [(x, .inr (0, [.ref g, .ref an, .ref tr, .ref w])), (an, .inr (2, [.ref g, .ref an_leads, .ref an_ranking, .ref an_sequences, .int 0, .int 0, .int (-1), .int (-1)])), (w, .inr (7, [.ref g, .ref an_sequences, .ref tr, .ref w_given, .ref w_values, .ref w_knownBits, .ref w_instructionsDone, .int 0, .int 0, .int 0]))] H := hP
  have hD : va_D A [(x, .inr (0, [.ref g, .ref an, .ref tr, .ref w])), (an, .inr (2, [.ref g, .ref an_leads, .ref an_ranking, .ref an_sequences, .int 0, .int 0, .int (-1), .int (-1)])), (w, .inr (7, [.ref g, .ref an_sequences, .ref tr, .ref w_given, .ref w_values, .ref w_knownBits, .ref w_instructionsDone, .int 0, .int 0, .int 0]))] := hD
  have hK : va_K (dC, dI) CL [] s := hK
  refine W.widen (k := 0) (n := 0) (by decide) (by decide) ?_
  have hP9 := hP.sub (ws' := [(x, .inr (0, [.ref g, .ref an, .ref tr, .ref w])), (an, .inr (2, [.ref g, .ref an_leads, .ref an_ranking, .ref an_sequences, .int 0, .int 0, .int (-1), .int (-1)])), (w, .inr (7, [.ref g, .ref an_sequences, .ref tr, .ref w_given, .ref w_values, .ref w_knownBits, .ref w_instructionsDone, .int 0, .int 0, .int 0]))]) [0, 1, 2] rfl
  have hD9 := hD.sub (ws' := [(x, .inr (0, [.ref g, .ref an, .ref tr, .ref w])), (an, .inr (2, [.ref g, .ref an_leads, .ref an_ranking, .ref an_sequences, .int 0, .int 0, .int (-1), .int (-1)])), (w, .inr (7, [.ref g, .ref an_sequences, .ref tr, .ref w_given, .ref w_values, .ref w_knownBits, .ref w_instructionsDone, .int 0, .int 0, .int 0]))]) [0, 1, 2] (by decide) rfl
  have hK9 := hK.sub (tys' := []) [] rfl
  refine W.widen (k := 0) (n := 0) (by decide) (by decide) ?_
  exact W.vret hx hb hr (fun t ht hW => ⟨⟨(), rfl, trivial, by rw [ht]; exact hP9, va_K.moved hW.alike hK9, hD9⟩, hS.F ht⟩) hS.2.2 d_V_dropAnalysis_15

set_option maxHeartbeats 4000000 in
set_option maxRecDepth 100000 in
theorem t_V_reqA (l : Launch) (htr : l.stackTraces = false) (dC : Nat → ClassId) (dI : Nat → Nat → Nat) (x : Nat) (g : Nat) (an : Nat) (tr : Nat) (w : Nat) (an_leads : Nat) (an_ranking : Nat) (an_sequences : Nat) (sz : Nat) : vq_T l y_V_requireAnalysis WS ({ frames := 6, cells := 1, slots := 6, locals := 82 }) (va_Pc [.ref x] (vq_Pre (dC, dI) CL sz [(x, .inr (0, [.ref g, .ref an, .ref tr, .ref w])), (an, .inr (2, [.ref g, .ref an_leads, .ref an_ranking, .ref an_sequences, .int 0, .int 0, .int (-1), .int (-1)]))] [])) "java/lang/IllegalStateException" (va_A [(x, .inr (0, [.ref g, .ref an, .ref tr, .ref w])), (an, .inr (2, [.ref g, .ref an_leads, .ref an_ranking, .ref an_sequences, .int 0, .int 0, .int (-1), .int (-1)]))] sz) 1 6 := by
  refine vq_ofT (cc := prog_1_method_20_code) (maxL := 1) (ret := (Option.none : Option Jvm.ClassFile.FieldType)) (by decide) (vq_his k_108) ?_
  intro p e s m args below meth c s₁ B hml hv
  obtain ⟨rfl, hst, hsz, hP, hK, hD0⟩ := hv
  have hx := B.exec
  have hb := B.bytes
  have hr := B.returns
  have hts := atoms_spec (ws := WS) B.pre
  have hown : s.vm.findClass R_V = some m.cls := findClass_of_methodNamed B.named
  have hlocks := B.notSynchronized
  have hno := vq_noH B (hts _ k_108)
  subst hsz
  have hN := vq_ns hP
  have hD := hD0.self (sz := s.heap.size)
  generalize hAe : va_A [(x, .inr (0, [.ref g, .ref an, .ref tr, .ref w])), (an, .inr (2, [.ref g, .ref an_leads, .ref an_ranking, .ref an_sequences, .int 0, .int 0, .int (-1), .int (-1)]))] s.heap.size = A at hD hN ⊢
  have hA : ∀ q : Nat, s.heap.size ≤ q → A q := fun q h => by rw [← hAe]; exact Or.inr h
  have hS : va_S A s.heap s.heap [] := va_S.rf
  have hP : va_P (dC, dI) CL [(x, .inr (0, [.ref g, .ref an, .ref tr, .ref w])), (an, .inr (2, [.ref g, .ref an_leads, .ref an_ranking, .ref an_sequences, .int 0, .int 0, .int (-1), .int (-1)]))] s.heap := hP
  have hD : va_D A [(x, .inr (0, [.ref g, .ref an, .ref tr, .ref w])), (an, .inr (2, [.ref g, .ref an_leads, .ref an_ranking, .ref an_sequences, .int 0, .int 0, .int (-1), .int (-1)]))] := hD
  have hl := lv_entry ([.ref x]) (n := 1) (Nat.le_of_ble_eq_true rfl)
  rw [lg_entry_eq]
  generalize (lg_sl ([.ref x]) ++ List.replicate (1 - (lg_sl ([.ref x])).length) Slot.unset).toArray = ls at hl ⊢
  have hl : lv_has ls 1 [(0, .ref x)] := hl
  refine lv_aload_n hx hb d_V_requireAnalysis_0 rfl (lv_at hl 0 rfl) ?_
  refine va_get (D := (dC, dI)) (ci := 0) (v := .ref an) (C := R_V) (T := F_V) (N := 4) hx hb hts u_V hown hK hP 0 rfl rfl 1 (by decide) (hts _ k_87) (fun _ h9 => h9) rfl d_V_requireAnalysis_1 ?_
  refine va_getN (D := (dC, dI)) (ci := 2) (v := .int 0) (C := R_A) (T := F_A) (N := 8) hx hb hts u_A hown hK hP 1 rfl rfl 4 (by decide) (hts _ k_104) (fun _ h9 => h9) rfl d_V_requireAnalysis_4 ?_
  refine lv_if_ne (tgt := 20) hx hb d_V_requireAnalysis_7 (by decide) (fun h9 => absurd (by decide) h9) (fun _ => ?_)
  exact vq_throw (names := up_names) hx hb htr hown (by decide +kernel) (by decide +kernel) (at_V_IllegalStateException hts hst) (hts _ k_110) (hts _ k_111) (hts _ k_112) hS hA hN hno hlocks (by decide) (hl.1.trans hml.symm) d_V_requireAnalysis_10 d_V_requireAnalysis_13 d_V_requireAnalysis_14 d_V_requireAnalysis_16 d_V_requireAnalysis_19

set_option maxHeartbeats 4000000 in
set_option maxRecDepth 100000 in
theorem c_G_hasS (l : Launch) (htr : l.stackTraces = false) (dC : Nat → ClassId) (dI : Nat → Nat → Nat) (g : Nat) (k : Int32) (g_attributeCounts : Nat) (g_inheritedBits : Nat) (g_symbolsAt : Nat) (g_lastPositions : Nat) (g_presentBits : Nat) (g_toDefineBits : Nat) (g_ruledBits : Nat) (g_forms : Nat) (g_firsts : Nat) (g_seconds : Nat) (g_usedBits : Nat) (sz : Nat) : Met l y_G_hasSymbol WS ({ frames := 0, cells := 0, slots := 0, locals := 0 }) (va_Pc [.ref g, .int k] (vq_Pre (dC, dI) CL sz [(g, .inr (1, [.ref g_attributeCounts, .ref g_inheritedBits, .int 0, .ref g_symbolsAt, .ref g_lastPositions, .ref g_presentBits, .ref g_toDefineBits, .int 0, .ref g_ruledBits, .ref g_forms, .ref g_firsts, .ref g_seconds, .ref g_usedBits]))] [])) (va_Qi (fun (r : Int32) (_ : Unit) => r = 0) (fun _ t => vq_Post (dC, dI) CL (va_A [(g, .inr (1, [.ref g_attributeCounts, .ref g_inheritedBits, .int 0, .ref g_symbolsAt, .ref g_lastPositions, .ref g_presentBits, .ref g_toDefineBits, .int 0, .ref g_ruledBits, .ref g_forms, .ref g_firsts, .ref g_seconds, .ref g_usedBits]))] sz) [(g, .inr (1, [.ref g_attributeCounts, .ref g_inheritedBits, .int 0, .ref g_symbolsAt, .ref g_lastPositions, .ref g_presentBits, .ref g_toDefineBits, .int 0, .ref g_ruledBits, .ref g_forms, .ref g_firsts, .ref g_seconds, .ref g_usedBits]))] [] t) (va_A [(g, .inr (1, [.ref g_attributeCounts, .ref g_inheritedBits, .int 0, .ref g_symbolsAt, .ref g_lastPositions, .ref g_presentBits, .ref g_toDefineBits, .int 0, .ref g_ruledBits, .ref g_forms, .ref g_firsts, .ref g_seconds, .ref g_usedBits]))] sz)) 0 0 (va_A [(g, .inr (1, [.ref g_attributeCounts, .ref g_inheritedBits, .int 0, .ref g_symbolsAt, .ref g_lastPositions, .ref g_presentBits, .ref g_toDefineBits, .int 0, .ref g_ruledBits, .ref g_forms, .ref g_firsts, .ref g_seconds, .ref g_usedBits]))] sz) := by
  refine vq_ofW (cc := prog_3_method_2_code) (maxL := 2) (ret := (Option.some Jvm.ClassFile.FieldType.boolean)) (by decide) (vq_his k_113) ?_
  intro p e s m args below meth c s₁ B hml hv
  obtain ⟨rfl, hst, hsz, hP, hK, hD0⟩ := hv
  have hx := B.exec
  have hb := B.bytes
  have hr := B.returns
  have hts := atoms_spec (ws := WS) B.pre
  have hown : s.vm.findClass R_G = some m.cls := findClass_of_methodNamed B.named
  have hlocks := B.notSynchronized
  have hno := vq_noH B (hts _ k_113)
  subst hsz
  have hN := vq_ns hP
  have hD := hD0.self (sz := s.heap.size)
  generalize hAe : va_A [(g, .inr (1, [.ref g_attributeCounts, .ref g_inheritedBits, .int 0, .ref g_symbolsAt, .ref g_lastPositions, .ref g_presentBits, .ref g_toDefineBits, .int 0, .ref g_ruledBits, .ref g_forms, .ref g_firsts, .ref g_seconds, .ref g_usedBits]))] s.heap.size = A at hD hN ⊢
  have hA : ∀ q : Nat, s.heap.size ≤ q → A q := fun q h => by rw [← hAe]; exact Or.inr h
  have hS : va_S A s.heap s.heap [] := va_S.rf
  have hP : va_P (dC, dI) CL [(g, .inr (1, [.ref g_attributeCounts, .ref g_inheritedBits, .int 0, .ref g_symbolsAt, .ref g_lastPositions, .ref g_presentBits, .ref g_toDefineBits, .int 0, .ref g_ruledBits, .ref g_forms, .ref g_firsts, .ref g_seconds, .ref g_usedBits]))] s.heap := hP
  have hD : va_D A [(g, .inr (1, [.ref g_attributeCounts, .ref g_inheritedBits, .int 0, .ref g_symbolsAt, .ref g_lastPositions, .ref g_presentBits, .ref g_toDefineBits, .int 0, .ref g_ruledBits, .ref g_forms, .ref g_firsts, .ref g_seconds, .ref g_usedBits]))] := hD
  have hl := lv_entry ([.ref g, .int k]) (n := 2) (Nat.le_of_ble_eq_true rfl)
  rw [lg_entry_eq]
  generalize (lg_sl ([.ref g, .int k]) ++ List.replicate (2 - (lg_sl ([.ref g, .int k])).length) Slot.unset).toArray = ls at hl ⊢
  have hl : lv_has ls 2 [(0, .ref g), (1, .int k)] := hl
  refine lv_iload_n hx hb d_G_hasSymbol_0 rfl (lv_at hl 1 rfl) ?_
  refine lv_if_lt (tgt := 16) hx hb d_G_hasSymbol_1 (by decide) (fun hc1 => ?_) (fun hc1 => ?_)
  ·
    refine lv_iconst (v := 0) hx hb d_G_hasSymbol_16 (by decide) ?_
    have hP9 := hP.sub (ws' := [(g, .inr (1, [.ref g_attributeCounts, .ref g_inheritedBits, .int 0, .ref g_symbolsAt, .ref g_lastPositions, .ref g_presentBits, .ref g_toDefineBits, .int 0, .ref g_ruledBits, .ref g_forms, .ref g_firsts, .ref g_seconds, .ref g_usedBits]))]) [0] rfl
    have hD9 := hD.sub (ws' := [(g, .inr (1, [.ref g_attributeCounts, .ref g_inheritedBits, .int 0, .ref g_symbolsAt, .ref g_lastPositions, .ref g_presentBits, .ref g_toDefineBits, .int 0, .ref g_ruledBits, .ref g_forms, .ref g_firsts, .ref g_seconds, .ref g_usedBits]))]) [0] (by decide) rfl
    have hK9 := hK.sub (tys' := []) [] rfl
    refine W.widen (k := 0) (n := 0) (by decide) (by decide) ?_
    exact W.zret (v := 0) (ty := .boolean) hx hb hr (by decide) (fun t ht hW => ⟨⟨0, (), rfl, rfl, by rw [ht]; exact hP9, va_K.moved hW.alike hK9, hD9⟩, hS.F ht⟩) hS.2.2 d_G_hasSymbol_17
  ·
    refine lv_iload_n hx hb d_G_hasSymbol_4 rfl (lv_at hl 1 rfl) ?_
    refine lv_aload_n hx hb d_G_hasSymbol_5 rfl (lv_at hl 0 rfl) ?_
    refine va_get (D := (dC, dI)) (ci := 1) (v := .int 0) (C := R_G) (T := F_G) (N := 13) hx hb hts u_G hown hK hP 0 rfl rfl 2 (by decide) (hts _ k_114) (fun _ h9 => h9) rfl d_G_hasSymbol_6 ?_
    refine lv_icmp_ge (tgt := 16) hx hb d_G_hasSymbol_9 (by decide) (fun _ => ?_) (fun h9 => absurd (Int32.not_lt.mp hc1) h9)
    refine lv_iconst (v := 0) hx hb d_G_hasSymbol_16 (by decide) ?_
    have hP9 := hP.sub (ws' := [(g, .inr (1, [.ref g_attributeCounts, .ref g_inheritedBits, .int 0, .ref g_symbolsAt, .ref g_lastPositions, .ref g_presentBits, .ref g_toDefineBits, .int 0, .ref g_ruledBits, .ref g_forms, .ref g_firsts, .ref g_seconds, .ref g_usedBits]))]) [0] rfl
    have hD9 := hD.sub (ws' := [(g, .inr (1, [.ref g_attributeCounts, .ref g_inheritedBits, .int 0, .ref g_symbolsAt, .ref g_lastPositions, .ref g_presentBits, .ref g_toDefineBits, .int 0, .ref g_ruledBits, .ref g_forms, .ref g_firsts, .ref g_seconds, .ref g_usedBits]))]) [0] (by decide) rfl
    have hK9 := hK.sub (tys' := []) [] rfl
    refine W.widen (k := 0) (n := 0) (by decide) (by decide) ?_
    exact W.zret (v := 0) (ty := .boolean) hx hb hr (by decide) (fun t ht hW => ⟨⟨0, (), rfl, rfl, by rw [ht]; exact hP9, va_K.moved hW.alike hK9, hD9⟩, hS.F ht⟩) hS.2.2 d_G_hasSymbol_17

set_option maxHeartbeats 4000000 in
set_option maxRecDepth 100000 in
theorem c_G_hasP (l : Launch) (htr : l.stackTraces = false) (dC : Nat → ClassId) (dI : Nat → Nat → Nat) (g : Nat) (k : Int32) (g_attributeCounts : Nat) (g_inheritedBits : Nat) (g_symbolsAt : Nat) (g_lastPositions : Nat) (g_presentBits : Nat) (g_toDefineBits : Nat) (g_ruledBits : Nat) (g_forms : Nat) (g_firsts : Nat) (g_seconds : Nat) (g_usedBits : Nat) (sz : Nat) : Met l y_G_hasProduction WS ({ frames := 0, cells := 0, slots := 0, locals := 0 }) (va_Pc [.ref g, .int k] (vq_Pre (dC, dI) CL sz [(g, .inr (1, [.ref g_attributeCounts, .ref g_inheritedBits, .int 0, .ref g_symbolsAt, .ref g_lastPositions, .ref g_presentBits, .ref g_toDefineBits, .int 0, .ref g_ruledBits, .ref g_forms, .ref g_firsts, .ref g_seconds, .ref g_usedBits]))] [])) (va_Qi (fun (r : Int32) (_ : Unit) => r = 0) (fun _ t => vq_Post (dC, dI) CL (va_A [(g, .inr (1, [.ref g_attributeCounts, .ref g_inheritedBits, .int 0, .ref g_symbolsAt, .ref g_lastPositions, .ref g_presentBits, .ref g_toDefineBits, .int 0, .ref g_ruledBits, .ref g_forms, .ref g_firsts, .ref g_seconds, .ref g_usedBits]))] sz) [(g, .inr (1, [.ref g_attributeCounts, .ref g_inheritedBits, .int 0, .ref g_symbolsAt, .ref g_lastPositions, .ref g_presentBits, .ref g_toDefineBits, .int 0, .ref g_ruledBits, .ref g_forms, .ref g_firsts, .ref g_seconds, .ref g_usedBits]))] [] t) (va_A [(g, .inr (1, [.ref g_attributeCounts, .ref g_inheritedBits, .int 0, .ref g_symbolsAt, .ref g_lastPositions, .ref g_presentBits, .ref g_toDefineBits, .int 0, .ref g_ruledBits, .ref g_forms, .ref g_firsts, .ref g_seconds, .ref g_usedBits]))] sz)) 0 0 (va_A [(g, .inr (1, [.ref g_attributeCounts, .ref g_inheritedBits, .int 0, .ref g_symbolsAt, .ref g_lastPositions, .ref g_presentBits, .ref g_toDefineBits, .int 0, .ref g_ruledBits, .ref g_forms, .ref g_firsts, .ref g_seconds, .ref g_usedBits]))] sz) := by
  refine vq_ofW (cc := prog_3_method_4_code) (maxL := 2) (ret := (Option.some Jvm.ClassFile.FieldType.boolean)) (by decide) (vq_his k_115) ?_
  intro p e s m args below meth c s₁ B hml hv
  obtain ⟨rfl, hst, hsz, hP, hK, hD0⟩ := hv
  have hx := B.exec
  have hb := B.bytes
  have hr := B.returns
  have hts := atoms_spec (ws := WS) B.pre
  have hown : s.vm.findClass R_G = some m.cls := findClass_of_methodNamed B.named
  have hlocks := B.notSynchronized
  have hno := vq_noH B (hts _ k_115)
  subst hsz
  have hN := vq_ns hP
  have hD := hD0.self (sz := s.heap.size)
  generalize hAe : va_A [(g, .inr (1, [.ref g_attributeCounts, .ref g_inheritedBits, .int 0, .ref g_symbolsAt, .ref g_lastPositions, .ref g_presentBits, .ref g_toDefineBits, .int 0, .ref g_ruledBits, .ref g_forms, .ref g_firsts, .ref g_seconds, .ref g_usedBits]))] s.heap.size = A at hD hN ⊢
  have hA : ∀ q : Nat, s.heap.size ≤ q → A q := fun q h => by rw [← hAe]; exact Or.inr h
  have hS : va_S A s.heap s.heap [] := va_S.rf
  have hP : va_P (dC, dI) CL [(g, .inr (1, [.ref g_attributeCounts, .ref g_inheritedBits, .int 0, .ref g_symbolsAt, .ref g_lastPositions, .ref g_presentBits, .ref g_toDefineBits, .int 0, .ref g_ruledBits, .ref g_forms, .ref g_firsts, .ref g_seconds, .ref g_usedBits]))] s.heap := hP
  have hD : va_D A [(g, .inr (1, [.ref g_attributeCounts, .ref g_inheritedBits, .int 0, .ref g_symbolsAt, .ref g_lastPositions, .ref g_presentBits, .ref g_toDefineBits, .int 0, .ref g_ruledBits, .ref g_forms, .ref g_firsts, .ref g_seconds, .ref g_usedBits]))] := hD
  have hl := lv_entry ([.ref g, .int k]) (n := 2) (Nat.le_of_ble_eq_true rfl)
  rw [lg_entry_eq]
  generalize (lg_sl ([.ref g, .int k]) ++ List.replicate (2 - (lg_sl ([.ref g, .int k])).length) Slot.unset).toArray = ls at hl ⊢
  have hl : lv_has ls 2 [(0, .ref g), (1, .int k)] := hl
  refine lv_iload_n hx hb d_G_hasProduction_0 rfl (lv_at hl 1 rfl) ?_
  refine lv_if_lt (tgt := 16) hx hb d_G_hasProduction_1 (by decide) (fun hc1 => ?_) (fun hc1 => ?_)
  ·
    refine lv_iconst (v := 0) hx hb d_G_hasProduction_16 (by decide) ?_
    have hP9 := hP.sub (ws' := [(g, .inr (1, [.ref g_attributeCounts, .ref g_inheritedBits, .int 0, .ref g_symbolsAt, .ref g_lastPositions, .ref g_presentBits, .ref g_toDefineBits, .int 0, .ref g_ruledBits, .ref g_forms, .ref g_firsts, .ref g_seconds, .ref g_usedBits]))]) [0] rfl
    have hD9 := hD.sub (ws' := [(g, .inr (1, [.ref g_attributeCounts, .ref g_inheritedBits, .int 0, .ref g_symbolsAt, .ref g_lastPositions, .ref g_presentBits, .ref g_toDefineBits, .int 0, .ref g_ruledBits, .ref g_forms, .ref g_firsts, .ref g_seconds, .ref g_usedBits]))]) [0] (by decide) rfl
    have hK9 := hK.sub (tys' := []) [] rfl
    refine W.widen (k := 0) (n := 0) (by decide) (by decide) ?_
    exact W.zret (v := 0) (ty := .boolean) hx hb hr (by decide) (fun t ht hW => ⟨⟨0, (), rfl, rfl, by rw [ht]; exact hP9, va_K.moved hW.alike hK9, hD9⟩, hS.F ht⟩) hS.2.2 d_G_hasProduction_17
  ·
    refine lv_iload_n hx hb d_G_hasProduction_4 rfl (lv_at hl 1 rfl) ?_
    refine lv_aload_n hx hb d_G_hasProduction_5 rfl (lv_at hl 0 rfl) ?_
    refine va_get (D := (dC, dI)) (ci := 1) (v := .int 0) (C := R_G) (T := F_G) (N := 13) hx hb hts u_G hown hK hP 0 rfl rfl 7 (by decide) (hts _ k_116) (fun _ h9 => h9) rfl d_G_hasProduction_6 ?_
    refine lv_icmp_ge (tgt := 16) hx hb d_G_hasProduction_9 (by decide) (fun _ => ?_) (fun h9 => absurd (Int32.not_lt.mp hc1) h9)
    refine lv_iconst (v := 0) hx hb d_G_hasProduction_16 (by decide) ?_
    have hP9 := hP.sub (ws' := [(g, .inr (1, [.ref g_attributeCounts, .ref g_inheritedBits, .int 0, .ref g_symbolsAt, .ref g_lastPositions, .ref g_presentBits, .ref g_toDefineBits, .int 0, .ref g_ruledBits, .ref g_forms, .ref g_firsts, .ref g_seconds, .ref g_usedBits]))]) [0] rfl
    have hD9 := hD.sub (ws' := [(g, .inr (1, [.ref g_attributeCounts, .ref g_inheritedBits, .int 0, .ref g_symbolsAt, .ref g_lastPositions, .ref g_presentBits, .ref g_toDefineBits, .int 0, .ref g_ruledBits, .ref g_forms, .ref g_firsts, .ref g_seconds, .ref g_usedBits]))]) [0] (by decide) rfl
    have hK9 := hK.sub (tys' := []) [] rfl
    refine W.widen (k := 0) (n := 0) (by decide) (by decide) ?_
    exact W.zret (v := 0) (ty := .boolean) hx hb hr (by decide) (fun t ht hW => ⟨⟨0, (), rfl, rfl, by rw [ht]; exact hP9, va_K.moved hW.alike hK9, hD9⟩, hS.F ht⟩) hS.2.2 d_G_hasProduction_17

set_option maxHeartbeats 4000000 in
set_option maxRecDepth 100000 in
theorem c_T_hasN (l : Launch) (htr : l.stackTraces = false) (dC : Nat → ClassId) (dI : Nat → Nat → Nat) (tr : Nat) (k : Int32) (g : Nat) (tr_productions : Nat) (tr_tokens : Nat) (tr_parents : Nat) (tr_nodesAt : Nat) (sz : Nat) : Met l y_Z_hasNode WS ({ frames := 0, cells := 0, slots := 0, locals := 0 }) (va_Pc [.ref tr, .int k] (vq_Pre (dC, dI) CL sz [(tr, .inr (6, [.ref g, .ref tr_productions, .ref tr_tokens, .ref tr_parents, .ref tr_nodesAt, .int 0]))] [])) (va_Qi (fun (r : Int32) (_ : Unit) => r = 0) (fun _ t => vq_Post (dC, dI) CL (va_A [(tr, .inr (6, [.ref g, .ref tr_productions, .ref tr_tokens, .ref tr_parents, .ref tr_nodesAt, .int 0]))] sz) [(tr, .inr (6, [.ref g, .ref tr_productions, .ref tr_tokens, .ref tr_parents, .ref tr_nodesAt, .int 0]))] [] t) (va_A [(tr, .inr (6, [.ref g, .ref tr_productions, .ref tr_tokens, .ref tr_parents, .ref tr_nodesAt, .int 0]))] sz)) 0 0 (va_A [(tr, .inr (6, [.ref g, .ref tr_productions, .ref tr_tokens, .ref tr_parents, .ref tr_nodesAt, .int 0]))] sz) := by
  refine vq_ofW (cc := prog_7_method_2_code) (maxL := 2) (ret := (Option.some Jvm.ClassFile.FieldType.boolean)) (by decide) (vq_his k_117) ?_
  intro p e s m args below meth c s₁ B hml hv
  obtain ⟨rfl, hst, hsz, hP, hK, hD0⟩ := hv
  have hx := B.exec
  have hb := B.bytes
  have hr := B.returns
  have hts := atoms_spec (ws := WS) B.pre
  have hown : s.vm.findClass R_Z = some m.cls := findClass_of_methodNamed B.named
  have hlocks := B.notSynchronized
  have hno := vq_noH B (hts _ k_117)
  subst hsz
  have hN := vq_ns hP
  have hD := hD0.self (sz := s.heap.size)
  generalize hAe : va_A [(tr, .inr (6, [.ref g, .ref tr_productions, .ref tr_tokens, .ref tr_parents, .ref tr_nodesAt, .int 0]))] s.heap.size = A at hD hN ⊢
  have hA : ∀ q : Nat, s.heap.size ≤ q → A q := fun q h => by rw [← hAe]; exact Or.inr h
  have hS : va_S A s.heap s.heap [] := va_S.rf
  have hP : va_P (dC, dI) CL [(tr, .inr (6, [.ref g, .ref tr_productions, .ref tr_tokens, .ref tr_parents, .ref tr_nodesAt, .int 0]))] s.heap := hP
  have hD : va_D A [(tr, .inr (6, [.ref g, .ref tr_productions, .ref tr_tokens, .ref tr_parents, .ref tr_nodesAt, .int 0]))] := hD
  have hl := lv_entry ([.ref tr, .int k]) (n := 2) (Nat.le_of_ble_eq_true rfl)
  rw [lg_entry_eq]
  generalize (lg_sl ([.ref tr, .int k]) ++ List.replicate (2 - (lg_sl ([.ref tr, .int k])).length) Slot.unset).toArray = ls at hl ⊢
  have hl : lv_has ls 2 [(0, .ref tr), (1, .int k)] := hl
  refine lv_iload_n hx hb d_Z_hasNode_0 rfl (lv_at hl 1 rfl) ?_
  refine lv_if_lt (tgt := 16) hx hb d_Z_hasNode_1 (by decide) (fun hc1 => ?_) (fun hc1 => ?_)
  ·
    refine lv_iconst (v := 0) hx hb d_Z_hasNode_16 (by decide) ?_
    have hP9 := hP.sub (ws' := [(tr, .inr (6, [.ref g, .ref tr_productions, .ref tr_tokens, .ref tr_parents, .ref tr_nodesAt, .int 0]))]) [0] rfl
    have hD9 := hD.sub (ws' := [(tr, .inr (6, [.ref g, .ref tr_productions, .ref tr_tokens, .ref tr_parents, .ref tr_nodesAt, .int 0]))]) [0] (by decide) rfl
    have hK9 := hK.sub (tys' := []) [] rfl
    refine W.widen (k := 0) (n := 0) (by decide) (by decide) ?_
    exact W.zret (v := 0) (ty := .boolean) hx hb hr (by decide) (fun t ht hW => ⟨⟨0, (), rfl, rfl, by rw [ht]; exact hP9, va_K.moved hW.alike hK9, hD9⟩, hS.F ht⟩) hS.2.2 d_Z_hasNode_17
  ·
    refine lv_iload_n hx hb d_Z_hasNode_4 rfl (lv_at hl 1 rfl) ?_
    refine lv_aload_n hx hb d_Z_hasNode_5 rfl (lv_at hl 0 rfl) ?_
    refine va_get (D := (dC, dI)) (ci := 6) (v := .int 0) (C := R_Z) (T := F_Z) (N := 6) hx hb hts u_Z hown hK hP 0 rfl rfl 5 (by decide) (hts _ k_118) (fun _ h9 => h9) rfl d_Z_hasNode_6 ?_
    refine lv_icmp_ge (tgt := 16) hx hb d_Z_hasNode_9 (by decide) (fun _ => ?_) (fun h9 => absurd (Int32.not_lt.mp hc1) h9)
    refine lv_iconst (v := 0) hx hb d_Z_hasNode_16 (by decide) ?_
    have hP9 := hP.sub (ws' := [(tr, .inr (6, [.ref g, .ref tr_productions, .ref tr_tokens, .ref tr_parents, .ref tr_nodesAt, .int 0]))]) [0] rfl
    have hD9 := hD.sub (ws' := [(tr, .inr (6, [.ref g, .ref tr_productions, .ref tr_tokens, .ref tr_parents, .ref tr_nodesAt, .int 0]))]) [0] (by decide) rfl
    have hK9 := hK.sub (tys' := []) [] rfl
    refine W.widen (k := 0) (n := 0) (by decide) (by decide) ?_
    exact W.zret (v := 0) (ty := .boolean) hx hb hr (by decide) (fun t ht hW => ⟨⟨0, (), rfl, rfl, by rw [ht]; exact hP9, va_K.moved hW.alike hK9, hD9⟩, hS.F ht⟩) hS.2.2 d_Z_hasNode_17

set_option maxHeartbeats 4000000 in
set_option maxRecDepth 100000 in
theorem c_T_clear (l : Launch) (htr : l.stackTraces = false) (dC : Nat → ClassId) (dI : Nat → Nat → Nat) (tr : Nat) (g : Nat) (tr_productions : Nat) (tr_tokens : Nat) (tr_parents : Nat) (tr_nodesAt : Nat) (sz : Nat) : Met l y_Z_clear WS ({ frames := 0, cells := 0, slots := 0, locals := 0 }) (va_Pc [.ref tr] (vq_Pre (dC, dI) CL sz [(tr, .inr (6, [.ref g, .ref tr_productions, .ref tr_tokens, .ref tr_parents, .ref tr_nodesAt, .int 0]))] [])) (va_Qv (fun _ : Unit => True) (fun _ t => vq_Post (dC, dI) CL (va_A [(tr, .inr (6, [.ref g, .ref tr_productions, .ref tr_tokens, .ref tr_parents, .ref tr_nodesAt, .int 0]))] sz) [(tr, .inr (6, [.ref g, .ref tr_productions, .ref tr_tokens, .ref tr_parents, .ref tr_nodesAt, .int 0]))] [] t) (va_A [(tr, .inr (6, [.ref g, .ref tr_productions, .ref tr_tokens, .ref tr_parents, .ref tr_nodesAt, .int 0]))] sz)) 0 0 (va_A [(tr, .inr (6, [.ref g, .ref tr_productions, .ref tr_tokens, .ref tr_parents, .ref tr_nodesAt, .int 0]))] sz) := by
  refine vq_ofW (cc := prog_7_method_9_code) (maxL := 1) (ret := (Option.none : Option Jvm.ClassFile.FieldType)) (by decide) (vq_his k_119) ?_
  intro p e s m args below meth c s₁ B hml hv
  obtain ⟨rfl, hst, hsz, hP, hK, hD0⟩ := hv
  have hx := B.exec
  have hb := B.bytes
  have hr := B.returns
  have hts := atoms_spec (ws := WS) B.pre
  have hown : s.vm.findClass R_Z = some m.cls := findClass_of_methodNamed B.named
  have hlocks := B.notSynchronized
  have hno := vq_noH B (hts _ k_119)
  subst hsz
  have hN := vq_ns hP
  have hD := hD0.self (sz := s.heap.size)
  generalize hAe : va_A [(tr, .inr (6, [.ref g, .ref tr_productions, .ref tr_tokens, .ref tr_parents, .ref tr_nodesAt, .int 0]))] s.heap.size = A at hD hN ⊢
  have hA : ∀ q : Nat, s.heap.size ≤ q → A q := fun q h => by rw [← hAe]; exact Or.inr h
  have hS : va_S A s.heap s.heap [] := va_S.rf
  have hP : va_P (dC, dI) CL [(tr, .inr (6, [.ref g, .ref tr_productions, .ref tr_tokens, .ref tr_parents, .ref tr_nodesAt, .int 0]))] s.heap := hP
  have hD : va_D A [(tr, .inr (6, [.ref g, .ref tr_productions, .ref tr_tokens, .ref tr_parents, .ref tr_nodesAt, .int 0]))] := hD
  have hl := lv_entry ([.ref tr]) (n := 1) (Nat.le_of_ble_eq_true rfl)
  rw [lg_entry_eq]
  generalize (lg_sl ([.ref tr]) ++ List.replicate (1 - (lg_sl ([.ref tr])).length) Slot.unset).toArray = ls at hl ⊢
  have hl : lv_has ls 1 [(0, .ref tr)] := hl
  refine lv_aload_n hx hb d_Z_clear_0 rfl (lv_at hl 0 rfl) ?_
  refine lv_iconst (v := 0) hx hb d_Z_clear_1 (by decide) ?_
  refine va_put (D := (dC, dI)) (ci := 6) (v := .int 0) (ty := .int) (C := R_Z) (T := F_Z) (N := 6) hx hb hts u_Z t_Z t_Z_ok n_Z hown hK hP hD hS 0 rfl rfl 5 (by decide) (hts _ k_118) (fun _ h9 => h9) rfl (by decide +kernel) rfl rfl (Nat.le_of_ble_eq_true rfl) d_Z_clear_2 (fun H locs hP hD hS => ?_)
  have hP : va_P (dC, dI) CL [(tr, .inr (6, [.ref g, .ref tr_productions, .ref tr_tokens, .ref tr_parents, .ref tr_nodesAt, .int 0]))] H := hP
  have hD : va_D A [(tr, .inr (6, [.ref g, .ref tr_productions, .ref tr_tokens, .ref tr_parents, .ref tr_nodesAt, .int 0]))] := hD
  have hP9 := hP.sub (ws' := [(tr, .inr (6, [.ref g, .ref tr_productions, .ref tr_tokens, .ref tr_parents, .ref tr_nodesAt, .int 0]))]) [0] rfl
  have hD9 := hD.sub (ws' := [(tr, .inr (6, [.ref g, .ref tr_productions, .ref tr_tokens, .ref tr_parents, .ref tr_nodesAt, .int 0]))]) [0] (by decide) rfl
  have hK9 := hK.sub (tys' := []) [] rfl
  refine W.widen (k := 0) (n := 0) (by decide) (by decide) ?_
  exact W.vret hx hb hr (fun t ht hW => ⟨⟨(), rfl, trivial, by rw [ht]; exact hP9, va_K.moved hW.alike hK9, hD9⟩, hS.F ht⟩) hS.2.2 d_Z_clear_5

set_option maxHeartbeats 4000000 in
set_option maxRecDepth 100000 in
theorem c_G_allA (l : Launch) (htr : l.stackTraces = false) (dC : Nat → ClassId) (dI : Nat → Nat → Nat) (g : Nat) (g_attributeCounts : Nat) (g_inheritedBits : Nat) (g_symbolsAt : Nat) (g_lastPositions : Nat) (g_presentBits : Nat) (g_toDefineBits : Nat) (g_ruledBits : Nat) (g_forms : Nat) (g_firsts : Nat) (g_seconds : Nat) (g_usedBits : Nat) (cac : ClassId) (fac : Nat → Int32) (sz : Nat) : Met l y_G_allAttributes WS ({ frames := 0, cells := 0, slots := 0, locals := 0 }) (va_Pc [.ref g, .int 0] (vq_Pre (dC, dI) CL sz [(g, .inr (1, [.ref g_attributeCounts, .ref g_inheritedBits, .int 0, .ref g_symbolsAt, .ref g_lastPositions, .ref g_presentBits, .ref g_toDefineBits, .int 0, .ref g_ruledBits, .ref g_forms, .ref g_firsts, .ref g_seconds, .ref g_usedBits])), (g_attributeCounts, .inl (cac, 6, .inl fac))] [(cac, .int)])) (va_Qi (fun (_ : Int32) (_ : Unit) => True) (fun _ t => vq_Post (dC, dI) CL (va_A [(g, .inr (1, [.ref g_attributeCounts, .ref g_inheritedBits, .int 0, .ref g_symbolsAt, .ref g_lastPositions, .ref g_presentBits, .ref g_toDefineBits, .int 0, .ref g_ruledBits, .ref g_forms, .ref g_firsts, .ref g_seconds, .ref g_usedBits])), (g_attributeCounts, .inl (cac, 6, .inl fac))] sz) [(g, .inr (1, [.ref g_attributeCounts, .ref g_inheritedBits, .int 0, .ref g_symbolsAt, .ref g_lastPositions, .ref g_presentBits, .ref g_toDefineBits, .int 0, .ref g_ruledBits, .ref g_forms, .ref g_firsts, .ref g_seconds, .ref g_usedBits])), (g_attributeCounts, .inl (cac, 6, .inl fac))] [(cac, .int)] t) (va_A [(g, .inr (1, [.ref g_attributeCounts, .ref g_inheritedBits, .int 0, .ref g_symbolsAt, .ref g_lastPositions, .ref g_presentBits, .ref g_toDefineBits, .int 0, .ref g_ruledBits, .ref g_forms, .ref g_firsts, .ref g_seconds, .ref g_usedBits])), (g_attributeCounts, .inl (cac, 6, .inl fac))] sz)) 0 0 (va_A [(g, .inr (1, [.ref g_attributeCounts, .ref g_inheritedBits, .int 0, .ref g_symbolsAt, .ref g_lastPositions, .ref g_presentBits, .ref g_toDefineBits, .int 0, .ref g_ruledBits, .ref g_forms, .ref g_firsts, .ref g_seconds, .ref g_usedBits])), (g_attributeCounts, .inl (cac, 6, .inl fac))] sz) := by
  refine vq_ofW (cc := prog_3_method_14_code) (maxL := 2) (ret := (Option.some Jvm.ClassFile.FieldType.int)) (by decide) (vq_his k_120) ?_
  intro p e s m args below meth c s₁ B hml hv
  obtain ⟨rfl, hst, hsz, hP, hK, hD0⟩ := hv
  have hx := B.exec
  have hb := B.bytes
  have hr := B.returns
  have hts := atoms_spec (ws := WS) B.pre
  have hown : s.vm.findClass R_G = some m.cls := findClass_of_methodNamed B.named
  have hlocks := B.notSynchronized
  have hno := vq_noH B (hts _ k_120)
  subst hsz
  have hN := vq_ns hP
  have hD := hD0.self (sz := s.heap.size)
  generalize hAe : va_A [(g, .inr (1, [.ref g_attributeCounts, .ref g_inheritedBits, .int 0, .ref g_symbolsAt, .ref g_lastPositions, .ref g_presentBits, .ref g_toDefineBits, .int 0, .ref g_ruledBits, .ref g_forms, .ref g_firsts, .ref g_seconds, .ref g_usedBits])), (g_attributeCounts, .inl (cac, 6, .inl fac))] s.heap.size = A at hD hN ⊢
  have hA : ∀ q : Nat, s.heap.size ≤ q → A q := fun q h => by rw [← hAe]; exact Or.inr h
  have hS : va_S A s.heap s.heap [] := va_S.rf
  have hP : va_P (dC, dI) CL [(g, .inr (1, [.ref g_attributeCounts, .ref g_inheritedBits, .int 0, .ref g_symbolsAt, .ref g_lastPositions, .ref g_presentBits, .ref g_toDefineBits, .int 0, .ref g_ruledBits, .ref g_forms, .ref g_firsts, .ref g_seconds, .ref g_usedBits])), (g_attributeCounts, .inl (cac, 6, .inl fac))] s.heap := hP
  have hD : va_D A [(g, .inr (1, [.ref g_attributeCounts, .ref g_inheritedBits, .int 0, .ref g_symbolsAt, .ref g_lastPositions, .ref g_presentBits, .ref g_toDefineBits, .int 0, .ref g_ruledBits, .ref g_forms, .ref g_firsts, .ref g_seconds, .ref g_usedBits])), (g_attributeCounts, .inl (cac, 6, .inl fac))] := hD
  have hl := lv_entry ([.ref g, .int 0]) (n := 2) (Nat.le_of_ble_eq_true rfl)
  rw [lg_entry_eq]
  generalize (lg_sl ([.ref g, .int 0]) ++ List.replicate (2 - (lg_sl ([.ref g, .int 0])).length) Slot.unset).toArray = ls at hl ⊢
  have hl : lv_has ls 2 [(0, .ref g), (1, .int 0)] := hl
  refine lv_iconst (v := 1) hx hb d_G_allAttributes_0 (by decide) ?_
  refine lv_aload_n hx hb d_G_allAttributes_1 rfl (lv_at hl 0 rfl) ?_
  refine va_get (D := (dC, dI)) (ci := 1) (v := .ref g_attributeCounts) (C := R_G) (T := F_G) (N := 13) hx hb hts u_G hown hK hP 0 rfl rfl 0 (by decide) (hts _ k_5) (fun _ h9 => h9) rfl d_G_allAttributes_2 ?_
  refine lv_iload_n hx hb d_G_allAttributes_5 rfl (lv_at hl 1 rfl) ?_
  refine va_iald (n := 6) (f := fac) hx hb hK hP 1 0 rfl rfl (show ¬ ((0 : Int32) < 0 ∨ 6 ≤ Int32.toNatClampNeg 0) by decide) d_G_allAttributes_6 ?_
  refine lv_topi (fun i1 _ => ?_)
  refine lv_ishl hx hb d_G_allAttributes_7 ?_
  refine lv_topi (fun i2 _ => ?_)
  refine lv_iconst (v := 1) hx hb d_G_allAttributes_8 (by decide) ?_
  refine lv_isub hx hb d_G_allAttributes_9 ?_
  refine lv_topi (fun i3 _ => ?_)
  have hP9 := hP.sub (ws' := [(g, .inr (1, [.ref g_attributeCounts, .ref g_inheritedBits, .int 0, .ref g_symbolsAt, .ref g_lastPositions, .ref g_presentBits, .ref g_toDefineBits, .int 0, .ref g_ruledBits, .ref g_forms, .ref g_firsts, .ref g_seconds, .ref g_usedBits])), (g_attributeCounts, .inl (cac, 6, .inl fac))]) [0, 1] rfl
  have hD9 := hD.sub (ws' := [(g, .inr (1, [.ref g_attributeCounts, .ref g_inheritedBits, .int 0, .ref g_symbolsAt, .ref g_lastPositions, .ref g_presentBits, .ref g_toDefineBits, .int 0, .ref g_ruledBits, .ref g_forms, .ref g_firsts, .ref g_seconds, .ref g_usedBits])), (g_attributeCounts, .inl (cac, 6, .inl fac))]) [0, 1] (by decide) rfl
  have hK9 := hK.sub (tys' := [(cac, .int)]) [0] rfl
  refine W.widen (k := 0) (n := 0) (by decide) (by decide) ?_
  exact W.iret (v := i3) hx hb hr (fun t ht hW => ⟨⟨i3, (), rfl, trivial, by rw [ht]; exact hP9, va_K.moved hW.alike hK9, hD9⟩, hS.F ht⟩) hS.2.2 d_G_allAttributes_10

set_option maxHeartbeats 4000000 in
set_option maxRecDepth 100000 in
theorem c_G_addS (l : Launch) (htr : l.stackTraces = false) (dC : Nat → ClassId) (dI : Nat → Nat → Nat) (g : Nat) (a : Int32) (inh : Int32) (g_attributeCounts : Nat) (g_inheritedBits : Nat) (g_symbolsAt : Nat) (g_lastPositions : Nat) (g_presentBits : Nat) (g_toDefineBits : Nat) (g_ruledBits : Nat) (g_forms : Nat) (g_firsts : Nat) (g_seconds : Nat) (g_usedBits : Nat) (cac : ClassId) (fac : Nat → Int32) (cib : ClassId) (fib : Nat → Int32) (sz : Nat) : Met l y_G_addSymbol WS ({ frames := 1, cells := 0, slots := 0, locals := 21 }) (va_Pc [.ref g, .int a, .int inh] (vq_Pre (dC, dI) CL sz [(g, .inr (1, [.ref g_attributeCounts, .ref g_inheritedBits, .int 0, .ref g_symbolsAt, .ref g_lastPositions, .ref g_presentBits, .ref g_toDefineBits, .int 0, .ref g_ruledBits, .ref g_forms, .ref g_firsts, .ref g_seconds, .ref g_usedBits])), (g_attributeCounts, .inl (cac, 6, .inl fac)), (g_inheritedBits, .inl (cib, 6, .inl fib))] [(cac, .int), (cib, .int)])) (va_Qi (fun (r : Int32) (_ : Unit) => r = 0) (fun _ t => vq_Post (dC, dI) CL (va_A [(g, .inr (1, [.ref g_attributeCounts, .ref g_inheritedBits, .int 0, .ref g_symbolsAt, .ref g_lastPositions, .ref g_presentBits, .ref g_toDefineBits, .int 0, .ref g_ruledBits, .ref g_forms, .ref g_firsts, .ref g_seconds, .ref g_usedBits])), (g_attributeCounts, .inl (cac, 6, .inl fac)), (g_inheritedBits, .inl (cib, 6, .inl fib))] sz) [] [] t) (va_A [(g, .inr (1, [.ref g_attributeCounts, .ref g_inheritedBits, .int 0, .ref g_symbolsAt, .ref g_lastPositions, .ref g_presentBits, .ref g_toDefineBits, .int 0, .ref g_ruledBits, .ref g_forms, .ref g_firsts, .ref g_seconds, .ref g_usedBits])), (g_attributeCounts, .inl (cac, 6, .inl fac)), (g_inheritedBits, .inl (cib, 6, .inl fib))] sz)) 0 0 (va_A [(g, .inr (1, [.ref g_attributeCounts, .ref g_inheritedBits, .int 0, .ref g_symbolsAt, .ref g_lastPositions, .ref g_presentBits, .ref g_toDefineBits, .int 0, .ref g_ruledBits, .ref g_forms, .ref g_firsts, .ref g_seconds, .ref g_usedBits])), (g_attributeCounts, .inl (cac, 6, .inl fac)), (g_inheritedBits, .inl (cib, 6, .inl fib))] sz) := by
  refine vq_ofW (cc := prog_3_method_10_code) (maxL := 4) (ret := (Option.some Jvm.ClassFile.FieldType.int)) (by decide) (vq_his k_121) ?_
  intro p e s m args below meth c s₁ B hml hv
  obtain ⟨rfl, hst, hsz, hP, hK, hD0⟩ := hv
  have hx := B.exec
  have hb := B.bytes
  have hr := B.returns
  have hts := atoms_spec (ws := WS) B.pre
  have hown : s.vm.findClass R_G = some m.cls := findClass_of_methodNamed B.named
  have hlocks := B.notSynchronized
  have hno := vq_noH B (hts _ k_121)
  subst hsz
  have hN := vq_ns hP
  have hD := hD0.self (sz := s.heap.size)
  generalize hAe : va_A [(g, .inr (1, [.ref g_attributeCounts, .ref g_inheritedBits, .int 0, .ref g_symbolsAt, .ref g_lastPositions, .ref g_presentBits, .ref g_toDefineBits, .int 0, .ref g_ruledBits, .ref g_forms, .ref g_firsts, .ref g_seconds, .ref g_usedBits])), (g_attributeCounts, .inl (cac, 6, .inl fac)), (g_inheritedBits, .inl (cib, 6, .inl fib))] s.heap.size = A at hD hN ⊢
  have hA : ∀ q : Nat, s.heap.size ≤ q → A q := fun q h => by rw [← hAe]; exact Or.inr h
  have hS : va_S A s.heap s.heap [] := va_S.rf
  have hP : va_P (dC, dI) CL [(g, .inr (1, [.ref g_attributeCounts, .ref g_inheritedBits, .int 0, .ref g_symbolsAt, .ref g_lastPositions, .ref g_presentBits, .ref g_toDefineBits, .int 0, .ref g_ruledBits, .ref g_forms, .ref g_firsts, .ref g_seconds, .ref g_usedBits])), (g_attributeCounts, .inl (cac, 6, .inl fac)), (g_inheritedBits, .inl (cib, 6, .inl fib))] s.heap := hP
  have hD : va_D A [(g, .inr (1, [.ref g_attributeCounts, .ref g_inheritedBits, .int 0, .ref g_symbolsAt, .ref g_lastPositions, .ref g_presentBits, .ref g_toDefineBits, .int 0, .ref g_ruledBits, .ref g_forms, .ref g_firsts, .ref g_seconds, .ref g_usedBits])), (g_attributeCounts, .inl (cac, 6, .inl fac)), (g_inheritedBits, .inl (cib, 6, .inl fib))] := hD
  have hl := lv_entry ([.ref g, .int a, .int inh]) (n := 4) (Nat.le_of_ble_eq_true rfl)
  rw [lg_entry_eq]
  generalize (lg_sl ([.ref g, .int a, .int inh]) ++ List.replicate (4 - (lg_sl ([.ref g, .int a, .int inh])).length) Slot.unset).toArray = ls at hl ⊢
  have hl : lv_has ls 4 [(0, .ref g), (1, .int a), (2, .int inh)] := hl
  refine lv_aload_n hx hb d_G_addSymbol_0 rfl (lv_at hl 0 rfl) ?_
  refine va_get (D := (dC, dI)) (ci := 1) (v := .int 0) (C := R_G) (T := F_G) (N := 13) hx hb hts u_G hown hK hP 0 rfl rfl 2 (by decide) (hts _ k_114) (fun _ h9 => h9) rfl d_G_addSymbol_1 ?_
  refine lv_istore_n (lv' := [(3, .int 0), (0, .ref g), (1, .int a), (2, .int inh)]) hx hb d_G_addSymbol_4 rfl hl (by decide) rfl (fun ls hl => ?_)
  refine lv_aload_n hx hb d_G_addSymbol_5 rfl (lv_at hl 1 rfl) ?_
  refine va_get (D := (dC, dI)) (ci := 1) (v := .ref g_attributeCounts) (C := R_G) (T := F_G) (N := 13) hx hb hts u_G hown hK hP 0 rfl rfl 0 (by decide) (hts _ k_5) (fun _ h9 => h9) rfl d_G_addSymbol_6 ?_
  refine lv_iload_n hx hb d_G_addSymbol_9 rfl (lv_at hl 0 rfl) ?_
  refine lv_iload_n hx hb d_G_addSymbol_10 rfl (lv_at hl 2 rfl) ?_
  refine va_iast (n := 6) (f := fac) hx hb hK hP hD hS 1 0 rfl rfl (show ¬ ((0 : Int32) < 0 ∨ 6 ≤ Int32.toNatClampNeg 0) by decide) d_G_addSymbol_11 (fun H locs hP hD hS => ?_)
  have hP : va_P (dC, dI) CL [(g, .inr (1, [.ref g_attributeCounts, .ref g_inheritedBits, .int 0, .ref g_symbolsAt, .ref g_lastPositions, .ref g_presentBits, .ref g_toDefineBits, .int 0, .ref g_ruledBits, .ref g_forms, .ref g_firsts, .ref g_seconds, .ref g_usedBits])), (g_attributeCounts, .inl (cac, 6, .inl (upd fac (0 : Int32).toNatClampNeg a))), (g_inheritedBits, .inl (cib, 6, .inl fib))] H := hP
  have hD : va_D A [(g, .inr (1, [.ref g_attributeCounts, .ref g_inheritedBits, .int 0, .ref g_symbolsAt, .ref g_lastPositions, .ref g_presentBits, .ref g_toDefineBits, .int 0, .ref g_ruledBits, .ref g_forms, .ref g_firsts, .ref g_seconds, .ref g_usedBits])), (g_attributeCounts, .inl (cac, 6, .inl (upd fac (0 : Int32).toNatClampNeg a))), (g_inheritedBits, .inl (cib, 6, .inl fib))] := hD
  generalize (upd fac (0 : Int32).toNatClampNeg a) = f1 at hP hD
  refine lv_aload_n hx hb d_G_addSymbol_12 rfl (lv_at hl 1 rfl) ?_
  refine va_get (D := (dC, dI)) (ci := 1) (v := .ref g_inheritedBits) (C := R_G) (T := F_G) (N := 13) hx hb hts u_G hown hK hP 0 rfl rfl 1 (by decide) (hts _ k_6) (fun _ h9 => h9) rfl d_G_addSymbol_13 ?_
  refine lv_iload_n hx hb d_G_addSymbol_16 rfl (lv_at hl 0 rfl) ?_
  refine lv_iload_n hx hb d_G_addSymbol_17 rfl (lv_at hl 3 rfl) ?_
  refine lv_aload_n hx hb d_G_addSymbol_18 rfl (lv_at hl 1 rfl) ?_
  refine lv_iload_n hx hb d_G_addSymbol_19 rfl (lv_at hl 0 rfl) ?_
  have hPc := hP.sub (ws' := [(g, .inr (1, [.ref g_attributeCounts, .ref g_inheritedBits, .int 0, .ref g_symbolsAt, .ref g_lastPositions, .ref g_presentBits, .ref g_toDefineBits, .int 0, .ref g_ruledBits, .ref g_forms, .ref g_firsts, .ref g_seconds, .ref g_usedBits])), (g_attributeCounts, .inl (cac, 6, .inl f1))]) [0, 1] rfl
  have hDc := hD.sub (ws' := [(g, .inr (1, [.ref g_attributeCounts, .ref g_inheritedBits, .int 0, .ref g_symbolsAt, .ref g_lastPositions, .ref g_presentBits, .ref g_toDefineBits, .int 0, .ref g_ruledBits, .ref g_forms, .ref g_firsts, .ref g_seconds, .ref g_usedBits])), (g_attributeCounts, .inl (cac, 6, .inl f1))]) [0, 1] (by decide) rfl
  have hKc := hK.sub (tys' := [(cac, .int)]) [0] rfl
  have hFc := va_free (wc := [(g, .inr (1, [.ref g_attributeCounts, .ref g_inheritedBits, .int 0, .ref g_symbolsAt, .ref g_lastPositions, .ref g_presentBits, .ref g_toDefineBits, .int 0, .ref g_ruledBits, .ref g_forms, .ref g_firsts, .ref g_seconds, .ref g_usedBits])), (g_attributeCounts, .inl (cac, 6, .inl f1))]) hD hS hA [0, 1] rfl
  refine va_calli (va_runV (As := [.int 0]) (rest := [.int inh, .int 0, .ref g_inheritedBits]) ⟨hx, hb, hml, hown, hts⟩ (c_G_allA l htr dC dI g g_attributeCounts g_inheritedBits g_symbolsAt g_lastPositions g_presentBits g_toDefineBits g_ruledBits g_forms g_firsts g_seconds g_usedBits cac f1 H.size) (vq_cV WSk hts 1 rfl rfl ⟨by decide, by decide⟩ k_120 k_78 k_122 k_123 k_124 (by decide +kernel)) ⟨vq_blind, va_recv hK hP (ci := 1) (q0 := 0) rfl rfl, vq_here hst hS hN hPc hKc hDc⟩ rfl rfl hl.1 rfl (lv_room (Nat.le_of_ble_eq_true rfl)) d_G_addSymbol_20 ⟨by decide, by decide⟩) hS (fun q _ h => hFc q h) hFc (fun r2 u t H1 locs ht hvm hw hB hz1 hk1 hS => ?_)
  obtain ⟨hP1, hK1, hD1⟩ := hB
  rw [ht] at hP1
  have hK1 := va_K.moved hvm.symm hK1
  obtain ⟨hP, hD⟩ := va_join (wr := [(g_inheritedBits, .inl (cib, 6, .inl fib))]) (w1 := [(g, .inr (1, [.ref g_attributeCounts, .ref g_inheritedBits, .int 0, .ref g_symbolsAt, .ref g_lastPositions, .ref g_presentBits, .ref g_toDefineBits, .int 0, .ref g_ruledBits, .ref g_forms, .ref g_firsts, .ref g_seconds, .ref g_usedBits])), (g_attributeCounts, .inl (cac, 6, .inl f1))]) hP hD [0, 1] [2] rfl rfl (by decide) (by decide) hk1 hFc hP1 hD1
  have hK := (hK.sub (tys' := [(cib, .int)]) [1] rfl).app hK1
  generalize H1 = H at hP hS ⊢
  have hP : va_P (dC, dI) CL [(g_inheritedBits, .inl (cib, 6, .inl fib)), (g, .inr (1, [.ref g_attributeCounts, .ref g_inheritedBits, .int 0, .ref g_symbolsAt, .ref g_lastPositions, .ref g_presentBits, .ref g_toDefineBits, .int 0, .ref g_ruledBits, .ref g_forms, .ref g_firsts, .ref g_seconds, .ref g_usedBits])), (g_attributeCounts, .inl (cac, 6, .inl f1))] H := hP
  have hD : va_D A [(g_inheritedBits, .inl (cib, 6, .inl fib)), (g, .inr (1, [.ref g_attributeCounts, .ref g_inheritedBits, .int 0, .ref g_symbolsAt, .ref g_lastPositions, .ref g_presentBits, .ref g_toDefineBits, .int 0, .ref g_ruledBits, .ref g_forms, .ref g_firsts, .ref g_seconds, .ref g_usedBits])), (g_attributeCounts, .inl (cac, 6, .inl f1))] := hD
  have hK : va_K (dC, dI) CL [(cib, .int), (cac, .int)] s := hK
  refine W.widen (k := 0) (n := 0) (by decide) (by decide) ?_
  refine lv_iand hx hb d_G_addSymbol_23 ?_
  refine lv_topi (fun i3 _ => ?_)
  refine va_iast (n := 6) (f := fib) hx hb hK hP hD hS 0 0 rfl rfl (show ¬ ((0 : Int32) < 0 ∨ 6 ≤ Int32.toNatClampNeg 0) by decide) d_G_addSymbol_24 (fun H locs hP hD hS => ?_)
  have hP : va_P (dC, dI) CL [(g_inheritedBits, .inl (cib, 6, .inl (upd fib (0 : Int32).toNatClampNeg i3))), (g, .inr (1, [.ref g_attributeCounts, .ref g_inheritedBits, .int 0, .ref g_symbolsAt, .ref g_lastPositions, .ref g_presentBits, .ref g_toDefineBits, .int 0, .ref g_ruledBits, .ref g_forms, .ref g_firsts, .ref g_seconds, .ref g_usedBits])), (g_attributeCounts, .inl (cac, 6, .inl f1))] H := hP
  have hD : va_D A [(g_inheritedBits, .inl (cib, 6, .inl (upd fib (0 : Int32).toNatClampNeg i3))), (g, .inr (1, [.ref g_attributeCounts, .ref g_inheritedBits, .int 0, .ref g_symbolsAt, .ref g_lastPositions, .ref g_presentBits, .ref g_toDefineBits, .int 0, .ref g_ruledBits, .ref g_forms, .ref g_firsts, .ref g_seconds, .ref g_usedBits])), (g_attributeCounts, .inl (cac, 6, .inl f1))] := hD
  generalize (upd fib (0 : Int32).toNatClampNeg i3) = f4 at hP hD
  refine lv_aload_n hx hb d_G_addSymbol_25 rfl (lv_at hl 1 rfl) ?_
  refine lv_dup hx hb d_G_addSymbol_26 rfl ?_
  refine va_get (D := (dC, dI)) (ci := 1) (v := .int 0) (C := R_G) (T := F_G) (N := 13) hx hb hts u_G hown hK hP 1 rfl rfl 2 (by decide) (hts _ k_114) (fun _ h9 => h9) rfl d_G_addSymbol_27 ?_
  refine lv_iconst (v := 1) hx hb d_G_addSymbol_30 (by decide) ?_
  refine lv_iadd hx hb d_G_addSymbol_31 ?_
  refine vq_top (y := 1) (by decide) ?_
  refine va_put (D := (dC, dI)) (ci := 1) (v := .int 1) (ty := .int) (C := R_G) (T := F_G) (N := 13) hx hb hts u_G t_G t_G_ok n_G hown hK hP hD hS 1 rfl rfl 2 (by decide) (hts _ k_114) (fun _ h9 => h9) rfl (by decide +kernel) rfl rfl (Nat.le_of_ble_eq_true rfl) d_G_addSymbol_32 (fun H locs hP hD hS => ?_)
  have hP : va_P (dC, dI) CL [(g_inheritedBits, .inl (cib, 6, .inl f4)), (g, .inr (1, [.ref g_attributeCounts, .ref g_inheritedBits, .int 1, .ref g_symbolsAt, .ref g_lastPositions, .ref g_presentBits, .ref g_toDefineBits, .int 0, .ref g_ruledBits, .ref g_forms, .ref g_firsts, .ref g_seconds, .ref g_usedBits])), (g_attributeCounts, .inl (cac, 6, .inl f1))] H := hP
  have hD : va_D A [(g_inheritedBits, .inl (cib, 6, .inl f4)), (g, .inr (1, [.ref g_attributeCounts, .ref g_inheritedBits, .int 1, .ref g_symbolsAt, .ref g_lastPositions, .ref g_presentBits, .ref g_toDefineBits, .int 0, .ref g_ruledBits, .ref g_forms, .ref g_firsts, .ref g_seconds, .ref g_usedBits])), (g_attributeCounts, .inl (cac, 6, .inl f1))] := hD
  refine lv_iload_n hx hb d_G_addSymbol_35 rfl (lv_at hl 0 rfl) ?_
  have hP9 := hP.sub (ws' := []) [] rfl
  have hD9 := hD.sub (ws' := []) [] (by decide) rfl
  have hK9 := hK.sub (tys' := []) [] rfl
  refine W.widen (k := 0) (n := 0) (by decide) (by decide) ?_
  exact W.iret (v := 0) hx hb hr (fun t ht hW => ⟨⟨0, (), rfl, rfl, by rw [ht]; exact hP9, va_K.moved hW.alike hK9, hD9⟩, hS.F ht⟩) hS.2.2 d_G_addSymbol_36

set_option maxHeartbeats 4000000 in
set_option maxRecDepth 100000 in
theorem c_A_forg (l : Launch) (htr : l.stackTraces = false) (dC : Nat → ClassId) (dI : Nat → Nat → Nat) (an : Nat) (g : Nat) (an_leads : Nat) (an_ranking : Nat) (an_sequences : Nat) (sz : Nat) : Met l y_A_forgetFault WS ({ frames := 0, cells := 0, slots := 0, locals := 0 }) (va_Pc [.ref an] (vq_Pre (dC, dI) CL sz [(an, .inr (2, [.ref g, .ref an_leads, .ref an_ranking, .ref an_sequences, .int 0, .int 0, .int (-1), .int (-1)]))] [])) (va_Qv (fun _ : Unit => True) (fun _ t => vq_Post (dC, dI) CL (va_A [(an, .inr (2, [.ref g, .ref an_leads, .ref an_ranking, .ref an_sequences, .int 0, .int 0, .int (-1), .int (-1)]))] sz) [(an, .inr (2, [.ref g, .ref an_leads, .ref an_ranking, .ref an_sequences, .int 0, .int 0, .int (-1), .int (-1)]))] [] t) (va_A [(an, .inr (2, [.ref g, .ref an_leads, .ref an_ranking, .ref an_sequences, .int 0, .int 0, .int (-1), .int (-1)]))] sz)) 0 0 (va_A [(an, .inr (2, [.ref g, .ref an_leads, .ref an_ranking, .ref an_sequences, .int 0, .int 0, .int (-1), .int (-1)]))] sz) := by
  refine vq_ofW (cc := prog_2_method_3_code) (maxL := 1) (ret := (Option.none : Option Jvm.ClassFile.FieldType)) (by decide) (vq_his k_125) ?_
  intro p e s m args below meth c s₁ B hml hv
  obtain ⟨rfl, hst, hsz, hP, hK, hD0⟩ := hv
  have hx := B.exec
  have hb := B.bytes
  have hr := B.returns
  have hts := atoms_spec (ws := WS) B.pre
  have hown : s.vm.findClass R_A = some m.cls := findClass_of_methodNamed B.named
  have hlocks := B.notSynchronized
  have hno := vq_noH B (hts _ k_125)
  subst hsz
  have hN := vq_ns hP
  have hD := hD0.self (sz := s.heap.size)
  generalize hAe : va_A [(an, .inr (2, [.ref g, .ref an_leads, .ref an_ranking, .ref an_sequences, .int 0, .int 0, .int (-1), .int (-1)]))] s.heap.size = A at hD hN ⊢
  have hA : ∀ q : Nat, s.heap.size ≤ q → A q := fun q h => by rw [← hAe]; exact Or.inr h
  have hS : va_S A s.heap s.heap [] := va_S.rf
  have hP : va_P (dC, dI) CL [(an, .inr (2, [.ref g, .ref an_leads, .ref an_ranking, .ref an_sequences, .int 0, .int 0, .int (-1), .int (-1)]))] s.heap := hP
  have hD : va_D A [(an, .inr (2, [.ref g, .ref an_leads, .ref an_ranking, .ref an_sequences, .int 0, .int 0, .int (-1), .int (-1)]))] := hD
  have hl := lv_entry ([.ref an]) (n := 1) (Nat.le_of_ble_eq_true rfl)
  rw [lg_entry_eq]
  generalize (lg_sl ([.ref an]) ++ List.replicate (1 - (lg_sl ([.ref an])).length) Slot.unset).toArray = ls at hl ⊢
  have hl : lv_has ls 1 [(0, .ref an)] := hl
  refine lv_aload_n hx hb d_A_forgetFault_0 rfl (lv_at hl 0 rfl) ?_
  refine lv_iconst (v := 0) hx hb d_A_forgetFault_1 (by decide) ?_
  refine va_put (D := (dC, dI)) (ci := 2) (v := .int 0) (ty := .int) (C := R_A) (T := F_A) (N := 8) hx hb hts u_A t_A t_A_ok n_A hown hK hP hD hS 0 rfl rfl 5 (by decide) (hts _ k_126) (fun _ h9 => h9) rfl (by decide +kernel) rfl rfl (Nat.le_of_ble_eq_true rfl) d_A_forgetFault_2 (fun H locs hP hD hS => ?_)
  have hP : va_P (dC, dI) CL [(an, .inr (2, [.ref g, .ref an_leads, .ref an_ranking, .ref an_sequences, .int 0, .int 0, .int (-1), .int (-1)]))] H := hP
  have hD : va_D A [(an, .inr (2, [.ref g, .ref an_leads, .ref an_ranking, .ref an_sequences, .int 0, .int 0, .int (-1), .int (-1)]))] := hD
  refine lv_aload_n hx hb d_A_forgetFault_5 rfl (lv_at hl 0 rfl) ?_
  refine lv_iconst (v := (-1)) hx hb d_A_forgetFault_6 (by decide) ?_
  refine va_put (D := (dC, dI)) (ci := 2) (v := .int (-1)) (ty := .int) (C := R_A) (T := F_A) (N := 8) hx hb hts u_A t_A t_A_ok n_A hown hK hP hD hS 0 rfl rfl 6 (by decide) (hts _ k_37) (fun _ h9 => h9) rfl (by decide +kernel) rfl rfl (Nat.le_of_ble_eq_true rfl) d_A_forgetFault_7 (fun H locs hP hD hS => ?_)
  have hP : va_P (dC, dI) CL [(an, .inr (2, [.ref g, .ref an_leads, .ref an_ranking, .ref an_sequences, .int 0, .int 0, .int (-1), .int (-1)]))] H := hP
  have hD : va_D A [(an, .inr (2, [.ref g, .ref an_leads, .ref an_ranking, .ref an_sequences, .int 0, .int 0, .int (-1), .int (-1)]))] := hD
  refine lv_aload_n hx hb d_A_forgetFault_10 rfl (lv_at hl 0 rfl) ?_
  refine lv_iconst (v := (-1)) hx hb d_A_forgetFault_11 (by decide) ?_
  refine va_put (D := (dC, dI)) (ci := 2) (v := .int (-1)) (ty := .int) (C := R_A) (T := F_A) (N := 8) hx hb hts u_A t_A t_A_ok n_A hown hK hP hD hS 0 rfl rfl 7 (by decide) (hts _ k_38) (fun _ h9 => h9) rfl (by decide +kernel) rfl rfl (Nat.le_of_ble_eq_true rfl) d_A_forgetFault_12 (fun H locs hP hD hS => ?_)
  have hP : va_P (dC, dI) CL [(an, .inr (2, [.ref g, .ref an_leads, .ref an_ranking, .ref an_sequences, .int 0, .int 0, .int (-1), .int (-1)]))] H := hP
  have hD : va_D A [(an, .inr (2, [.ref g, .ref an_leads, .ref an_ranking, .ref an_sequences, .int 0, .int 0, .int (-1), .int (-1)]))] := hD
  have hP9 := hP.sub (ws' := [(an, .inr (2, [.ref g, .ref an_leads, .ref an_ranking, .ref an_sequences, .int 0, .int 0, .int (-1), .int (-1)]))]) [0] rfl
  have hD9 := hD.sub (ws' := [(an, .inr (2, [.ref g, .ref an_leads, .ref an_ranking, .ref an_sequences, .int 0, .int 0, .int (-1), .int (-1)]))]) [0] (by decide) rfl
  have hK9 := hK.sub (tys' := []) [] rfl
  refine W.widen (k := 0) (n := 0) (by decide) (by decide) ?_
  exact W.vret hx hb hr (fun t ht hW => ⟨⟨(), rfl, trivial, by rw [ht]; exact hP9, va_K.moved hW.alike hK9, hD9⟩, hS.F ht⟩) hS.2.2 d_A_forgetFault_15

set_option maxHeartbeats 4000000 in
set_option maxRecDepth 100000 in
theorem c_A_make (l : Launch) (htr : l.stackTraces = false) (dC : Nat → ClassId) (dI : Nat → Nat → Nat) (an : Nat) (g : Nat) (an_leads : Nat) (an_ranking : Nat) (an_sequences : Nat) (g_attributeCounts : Nat) (g_inheritedBits : Nat) (g_symbolsAt : Nat) (g_lastPositions : Nat) (g_presentBits : Nat) (g_toDefineBits : Nat) (g_ruledBits : Nat) (g_forms : Nat) (g_firsts : Nat) (g_seconds : Nat) (g_usedBits : Nat) (sz : Nat) : Met l y_A_make WS ({ frames := 1, cells := 0, slots := 0, locals := 20 }) (va_Pc [.ref an] (vq_Pre (dC, dI) CL sz [(an, .inr (2, [.ref g, .ref an_leads, .ref an_ranking, .ref an_sequences, .int 0, .int 0, .int (-1), .int (-1)])), (g, .inr (1, [.ref g_attributeCounts, .ref g_inheritedBits, .int 0, .ref g_symbolsAt, .ref g_lastPositions, .ref g_presentBits, .ref g_toDefineBits, .int 0, .ref g_ruledBits, .ref g_forms, .ref g_firsts, .ref g_seconds, .ref g_usedBits]))] [])) (va_Qv (fun _ : Unit => True) (fun _ t => vq_Post (dC, dI) CL (va_A [(an, .inr (2, [.ref g, .ref an_leads, .ref an_ranking, .ref an_sequences, .int 0, .int 0, .int (-1), .int (-1)])), (g, .inr (1, [.ref g_attributeCounts, .ref g_inheritedBits, .int 0, .ref g_symbolsAt, .ref g_lastPositions, .ref g_presentBits, .ref g_toDefineBits, .int 0, .ref g_ruledBits, .ref g_forms, .ref g_firsts, .ref g_seconds, .ref g_usedBits]))] sz) [(g, .inr (1, [.ref g_attributeCounts, .ref g_inheritedBits, .int 0, .ref g_symbolsAt, .ref g_lastPositions, .ref g_presentBits, .ref g_toDefineBits, .int 0, .ref g_ruledBits, .ref g_forms, .ref g_firsts, .ref g_seconds, .ref g_usedBits])), (an, .inr (2, [.ref g, .ref an_leads, .ref an_ranking, .ref an_sequences, .int 0, .int 0, .int (-1), .int (-1)]))] [] t) (va_A [(an, .inr (2, [.ref g, .ref an_leads, .ref an_ranking, .ref an_sequences, .int 0, .int 0, .int (-1), .int (-1)])), (g, .inr (1, [.ref g_attributeCounts, .ref g_inheritedBits, .int 0, .ref g_symbolsAt, .ref g_lastPositions, .ref g_presentBits, .ref g_toDefineBits, .int 0, .ref g_ruledBits, .ref g_forms, .ref g_firsts, .ref g_seconds, .ref g_usedBits]))] sz)) 0 0 (va_A [(an, .inr (2, [.ref g, .ref an_leads, .ref an_ranking, .ref an_sequences, .int 0, .int 0, .int (-1), .int (-1)])), (g, .inr (1, [.ref g_attributeCounts, .ref g_inheritedBits, .int 0, .ref g_symbolsAt, .ref g_lastPositions, .ref g_presentBits, .ref g_toDefineBits, .int 0, .ref g_ruledBits, .ref g_forms, .ref g_firsts, .ref g_seconds, .ref g_usedBits]))] sz) := by
  refine vq_ofW (cc := prog_2_method_2_code) (maxL := 1) (ret := (Option.none : Option Jvm.ClassFile.FieldType)) (by decide) (vq_his k_127) ?_
  intro p e s m args below meth c s₁ B hml hv
  obtain ⟨rfl, hst, hsz, hP, hK, hD0⟩ := hv
  have hx := B.exec
  have hb := B.bytes
  have hr := B.returns
  have hts := atoms_spec (ws := WS) B.pre
  have hown : s.vm.findClass R_A = some m.cls := findClass_of_methodNamed B.named
  have hlocks := B.notSynchronized
  have hno := vq_noH B (hts _ k_127)
  subst hsz
  have hN := vq_ns hP
  have hD := hD0.self (sz := s.heap.size)
  generalize hAe : va_A [(an, .inr (2, [.ref g, .ref an_leads, .ref an_ranking, .ref an_sequences, .int 0, .int 0, .int (-1), .int (-1)])), (g, .inr (1, [.ref g_attributeCounts, .ref g_inheritedBits, .int 0, .ref g_symbolsAt, .ref g_lastPositions, .ref g_presentBits, .ref g_toDefineBits, .int 0, .ref g_ruledBits, .ref g_forms, .ref g_firsts, .ref g_seconds, .ref g_usedBits]))] s.heap.size = A at hD hN ⊢
  have hA : ∀ q : Nat, s.heap.size ≤ q → A q := fun q h => by rw [← hAe]; exact Or.inr h
  have hS : va_S A s.heap s.heap [] := va_S.rf
  have hP : va_P (dC, dI) CL [(an, .inr (2, [.ref g, .ref an_leads, .ref an_ranking, .ref an_sequences, .int 0, .int 0, .int (-1), .int (-1)])), (g, .inr (1, [.ref g_attributeCounts, .ref g_inheritedBits, .int 0, .ref g_symbolsAt, .ref g_lastPositions, .ref g_presentBits, .ref g_toDefineBits, .int 0, .ref g_ruledBits, .ref g_forms, .ref g_firsts, .ref g_seconds, .ref g_usedBits]))] s.heap := hP
  have hD : va_D A [(an, .inr (2, [.ref g, .ref an_leads, .ref an_ranking, .ref an_sequences, .int 0, .int 0, .int (-1), .int (-1)])), (g, .inr (1, [.ref g_attributeCounts, .ref g_inheritedBits, .int 0, .ref g_symbolsAt, .ref g_lastPositions, .ref g_presentBits, .ref g_toDefineBits, .int 0, .ref g_ruledBits, .ref g_forms, .ref g_firsts, .ref g_seconds, .ref g_usedBits]))] := hD
  have hl := lv_entry ([.ref an]) (n := 1) (Nat.le_of_ble_eq_true rfl)
  rw [lg_entry_eq]
  generalize (lg_sl ([.ref an]) ++ List.replicate (1 - (lg_sl ([.ref an])).length) Slot.unset).toArray = ls at hl ⊢
  have hl : lv_has ls 1 [(0, .ref an)] := hl
  refine lv_aload_n hx hb d_A_make_0 rfl (lv_at hl 0 rfl) ?_
  have hPc := hP.sub (ws' := [(an, .inr (2, [.ref g, .ref an_leads, .ref an_ranking, .ref an_sequences, .int 0, .int 0, .int (-1), .int (-1)]))]) [0] rfl
  have hDc := hD.sub (ws' := [(an, .inr (2, [.ref g, .ref an_leads, .ref an_ranking, .ref an_sequences, .int 0, .int 0, .int (-1), .int (-1)]))]) [0] (by decide) rfl
  have hKc := hK.sub (tys' := []) [] rfl
  have hFc := va_free (wc := [(an, .inr (2, [.ref g, .ref an_leads, .ref an_ranking, .ref an_sequences, .int 0, .int 0, .int (-1), .int (-1)]))]) hD hS hA [0] rfl
  refine va_callv (va_runV (As := []) (rest := []) ⟨hx, hb, hml, hown, hts⟩ (c_A_forg l htr dC dI an g an_leads an_ranking an_sequences s.heap.size) (vq_cV WSk hts 0 rfl rfl ⟨by decide, by decide⟩ k_125 k_84 k_128 k_129 k_130 (by decide +kernel)) ⟨vq_blind, va_recv hK hP (ci := 2) (q0 := 0) rfl rfl, vq_here hst hS hN hPc hKc hDc⟩ rfl rfl hl.1 rfl (lv_room (Nat.le_of_ble_eq_true rfl)) d_A_make_1 ⟨by decide, by decide⟩) hS (fun q _ h => hFc q h) hFc (fun u t H1 locs ht hvm hw hB hz1 hk1 hS => ?_)
  obtain ⟨hP1, hK1, hD1⟩ := hB
  rw [ht] at hP1
  have hK1 := va_K.moved hvm.symm hK1
  obtain ⟨hP, hD⟩ := va_join (wr := [(g, .inr (1, [.ref g_attributeCounts, .ref g_inheritedBits, .int 0, .ref g_symbolsAt, .ref g_lastPositions, .ref g_presentBits, .ref g_toDefineBits, .int 0, .ref g_ruledBits, .ref g_forms, .ref g_firsts, .ref g_seconds, .ref g_usedBits]))]) (w1 := [(an, .inr (2, [.ref g, .ref an_leads, .ref an_ranking, .ref an_sequences, .int 0, .int 0, .int (-1), .int (-1)]))]) hP hD [0] [1] rfl rfl (by decide) (by decide) hk1 hFc hP1 hD1
  have hK := (hK.sub (tys' := []) [] rfl).app hK1
  generalize H1 = H at hP hS ⊢
  have hP : va_P (dC, dI) CL [(g, .inr (1, [.ref g_attributeCounts, .ref g_inheritedBits, .int 0, .ref g_symbolsAt, .ref g_lastPositions, .ref g_presentBits, .ref g_toDefineBits, .int 0, .ref g_ruledBits, .ref g_forms, .ref g_firsts, .ref g_seconds, .ref g_usedBits])), (an, .inr (2, [.ref g, .ref an_leads, .ref an_ranking, .ref an_sequences, .int 0, .int 0, .int (-1), .int (-1)]))] H := hP
  have hD : va_D A [(g, .inr (1, [.ref g_attributeCounts, .ref g_inheritedBits, .int 0, .ref g_symbolsAt, .ref g_lastPositions, .ref g_presentBits, .ref g_toDefineBits, .int 0, .ref g_ruledBits, .ref g_forms, .ref g_firsts, .ref g_seconds, .ref g_usedBits])), (an, .inr (2, [.ref g, .ref an_leads, .ref an_ranking, .ref an_sequences, .int 0, .int 0, .int (-1), .int (-1)]))] := hD
  have hK : va_K (dC, dI) CL [] s := hK
  refine W.widen (k := 0) (n := 0) (by decide) (by decide) ?_
  refine lv_aload_n hx hb d_A_make_4 rfl (lv_at hl 0 rfl) ?_
  refine lv_aload_n hx hb d_A_make_5 rfl (lv_at hl 0 rfl) ?_
  refine va_get (D := (dC, dI)) (ci := 2) (v := .ref g) (C := R_A) (T := F_A) (N := 8) hx hb hts u_A hown hK hP 1 rfl rfl 0 (by decide) (hts _ k_39) (fun _ h9 => h9) rfl d_A_make_6 ?_
  refine va_getN (D := (dC, dI)) (ci := 1) (v := .int 0) (C := R_G) (T := F_G) (N := 13) hx hb hts u_G hown hK hP 0 rfl rfl 7 (by decide) (hts _ k_131) (fun _ h9 => h9) rfl d_A_make_9 ?_
  refine lv_if_le (tgt := 40) hx hb d_A_make_12 (by decide) (fun _ => ?_) (fun h9 => absurd (by decide) h9)
  refine lv_iconst (v := 0) hx hb d_A_make_40 (by decide) ?_
  refine va_put (D := (dC, dI)) (ci := 2) (v := .int 0) (ty := .boolean) (C := R_A) (T := F_A) (N := 8) hx hb hts u_A t_A t_A_ok n_A hown hK hP hD hS 1 rfl rfl 4 (by decide) (hts _ k_132) (fun _ h9 => h9) rfl (by decide +kernel) rfl rfl (Nat.le_of_ble_eq_true rfl) d_A_make_41 (fun H locs hP hD hS => ?_)
  have hP : va_P (dC, dI) CL [(g, .inr (1, [.ref g_attributeCounts, .ref g_inheritedBits, .int 0, .ref g_symbolsAt, .ref g_lastPositions, .ref g_presentBits, .ref g_toDefineBits, .int 0, .ref g_ruledBits, .ref g_forms, .ref g_firsts, .ref g_seconds, .ref g_usedBits])), (an, .inr (2, [.ref g, .ref an_leads, .ref an_ranking, .ref an_sequences, .int 0, .int 0, .int (-1), .int (-1)]))] H := hP
  have hD : va_D A [(g, .inr (1, [.ref g_attributeCounts, .ref g_inheritedBits, .int 0, .ref g_symbolsAt, .ref g_lastPositions, .ref g_presentBits, .ref g_toDefineBits, .int 0, .ref g_ruledBits, .ref g_forms, .ref g_firsts, .ref g_seconds, .ref g_usedBits])), (an, .inr (2, [.ref g, .ref an_leads, .ref an_ranking, .ref an_sequences, .int 0, .int 0, .int (-1), .int (-1)]))] := hD
  refine lv_aload_n hx hb d_A_make_44 rfl (lv_at hl 0 rfl) ?_
  refine va_get (D := (dC, dI)) (ci := 2) (v := .int 0) (C := R_A) (T := F_A) (N := 8) hx hb hts u_A hown hK hP 1 rfl rfl 4 (by decide) (hts _ k_132) (fun _ h9 => h9) rfl d_A_make_45 ?_
  refine lv_if_eq (tgt := 58) hx hb d_A_make_48 (by decide) (fun _ => ?_) (fun h9 => absurd (by decide) h9)
  have hP9 := hP.sub (ws' := [(g, .inr (1, [.ref g_attributeCounts, .ref g_inheritedBits, .int 0, .ref g_symbolsAt, .ref g_lastPositions, .ref g_presentBits, .ref g_toDefineBits, .int 0, .ref g_ruledBits, .ref g_forms, .ref g_firsts, .ref g_seconds, .ref g_usedBits])), (an, .inr (2, [.ref g, .ref an_leads, .ref an_ranking, .ref an_sequences, .int 0, .int 0, .int (-1), .int (-1)]))]) [0, 1] rfl
  have hD9 := hD.sub (ws' := [(g, .inr (1, [.ref g_attributeCounts, .ref g_inheritedBits, .int 0, .ref g_symbolsAt, .ref g_lastPositions, .ref g_presentBits, .ref g_toDefineBits, .int 0, .ref g_ruledBits, .ref g_forms, .ref g_firsts, .ref g_seconds, .ref g_usedBits])), (an, .inr (2, [.ref g, .ref an_leads, .ref an_ranking, .ref an_sequences, .int 0, .int 0, .int (-1), .int (-1)]))]) [0, 1] (by decide) rfl
  have hK9 := hK.sub (tys' := []) [] rfl
  refine W.widen (k := 0) (n := 0) (by decide) (by decide) ?_
  exact W.vret hx hb hr (fun t ht hW => ⟨⟨(), rfl, trivial, by rw [ht]; exact hP9, va_K.moved hW.alike hK9, hD9⟩, hS.F ht⟩) hS.2.2 d_A_make_58

set_option maxHeartbeats 4000000 in
set_option maxRecDepth 100000 in
theorem t_V_reqT (l : Launch) (htr : l.stackTraces = false) (dC : Nat → ClassId) (dI : Nat → Nat → Nat) (x : Nat) (n : Int32) (a : Int32) (g : Nat) (an : Nat) (tr : Nat) (w : Nat) (tr_productions : Nat) (tr_tokens : Nat) (tr_parents : Nat) (tr_nodesAt : Nat) (sz : Nat) : vq_T l y_V_requireAttribute WS ({ frames := 6, cells := 1, slots := 6, locals := 82 }) (va_Pc [.ref x, .int n, .int a] (vq_Pre (dC, dI) CL sz [(x, .inr (0, [.ref g, .ref an, .ref tr, .ref w])), (tr, .inr (6, [.ref g, .ref tr_productions, .ref tr_tokens, .ref tr_parents, .ref tr_nodesAt, .int 0]))] [])) "java/lang/IndexOutOfBoundsException" (va_A [(x, .inr (0, [.ref g, .ref an, .ref tr, .ref w])), (tr, .inr (6, [.ref g, .ref tr_productions, .ref tr_tokens, .ref tr_parents, .ref tr_nodesAt, .int 0]))] sz) 1 6 := by
  refine vq_ofT (cc := prog_1_method_21_code) (maxL := 3) (ret := (Option.none : Option Jvm.ClassFile.FieldType)) (by decide) (vq_his k_133) ?_
  intro p e s m args below meth c s₁ B hml hv
  obtain ⟨rfl, hst, hsz, hP, hK, hD0⟩ := hv
  have hx := B.exec
  have hb := B.bytes
  have hr := B.returns
  have hts := atoms_spec (ws := WS) B.pre
  have hown : s.vm.findClass R_V = some m.cls := findClass_of_methodNamed B.named
  have hlocks := B.notSynchronized
  have hno := vq_noH B (hts _ k_133)
  subst hsz
  have hN := vq_ns hP
  have hD := hD0.self (sz := s.heap.size)
  generalize hAe : va_A [(x, .inr (0, [.ref g, .ref an, .ref tr, .ref w])), (tr, .inr (6, [.ref g, .ref tr_productions, .ref tr_tokens, .ref tr_parents, .ref tr_nodesAt, .int 0]))] s.heap.size = A at hD hN ⊢
  have hA : ∀ q : Nat, s.heap.size ≤ q → A q := fun q h => by rw [← hAe]; exact Or.inr h
  have hS : va_S A s.heap s.heap [] := va_S.rf
  have hP : va_P (dC, dI) CL [(x, .inr (0, [.ref g, .ref an, .ref tr, .ref w])), (tr, .inr (6, [.ref g, .ref tr_productions, .ref tr_tokens, .ref tr_parents, .ref tr_nodesAt, .int 0]))] s.heap := hP
  have hD : va_D A [(x, .inr (0, [.ref g, .ref an, .ref tr, .ref w])), (tr, .inr (6, [.ref g, .ref tr_productions, .ref tr_tokens, .ref tr_parents, .ref tr_nodesAt, .int 0]))] := hD
  have hl := lv_entry ([.ref x, .int n, .int a]) (n := 3) (Nat.le_of_ble_eq_true rfl)
  rw [lg_entry_eq]
  generalize (lg_sl ([.ref x, .int n, .int a]) ++ List.replicate (3 - (lg_sl ([.ref x, .int n, .int a])).length) Slot.unset).toArray = ls at hl ⊢
  have hl : lv_has ls 3 [(0, .ref x), (1, .int n), (2, .int a)] := hl
  refine lv_aload_n hx hb d_V_requireAttribute_0 rfl (lv_at hl 0 rfl) ?_
  refine va_get (D := (dC, dI)) (ci := 0) (v := .ref tr) (C := R_V) (T := F_V) (N := 4) hx hb hts u_V hown hK hP 0 rfl rfl 2 (by decide) (hts _ k_93) (fun _ h9 => h9) rfl d_V_requireAttribute_1 ?_
  refine lv_iload_n hx hb d_V_requireAttribute_4 rfl (lv_at hl 1 rfl) ?_
  have hPc := hP.sub (ws' := [(tr, .inr (6, [.ref g, .ref tr_productions, .ref tr_tokens, .ref tr_parents, .ref tr_nodesAt, .int 0]))]) [1] rfl
  have hDc := hD.sub (ws' := [(tr, .inr (6, [.ref g, .ref tr_productions, .ref tr_tokens, .ref tr_parents, .ref tr_nodesAt, .int 0]))]) [1] (by decide) rfl
  have hKc := hK.sub (tys' := []) [] rfl
  have hFc := va_free (wc := [(tr, .inr (6, [.ref g, .ref tr_productions, .ref tr_tokens, .ref tr_parents, .ref tr_nodesAt, .int 0]))]) hD hS hA [1] rfl
  refine va_calli (va_runV (As := [.int n]) (rest := []) ⟨hx, hb, hml, hown, hts⟩ (c_T_hasN l htr dC dI tr n g tr_productions tr_tokens tr_parents tr_nodesAt s.heap.size) (vq_cV WSk hts 1 rfl rfl ⟨by decide, by decide⟩ k_117 k_90 k_134 k_135 k_136 (by decide +kernel)) ⟨vq_blind, va_recv hK hP (ci := 6) (q0 := 1) rfl rfl, vq_here hst hS hN hPc hKc hDc⟩ rfl rfl hl.1 rfl (lv_room (Nat.le_of_ble_eq_true rfl)) d_V_requireAttribute_5 ⟨by decide, by decide⟩) hS (fun q _ h => hFc q h) hFc (fun r1 u t H1 locs ht hvm hw hB hz1 hk1 hS => ?_)
  obtain ⟨hP1, hK1, hD1⟩ := hB
  rw [ht] at hP1
  have hK1 := va_K.moved hvm.symm hK1
  have hw : r1 = 0 := hw
  subst hw
  obtain ⟨hP, hD⟩ := va_join (wr := [(x, .inr (0, [.ref g, .ref an, .ref tr, .ref w]))]) (w1 := [(tr, .inr (6, [.ref g, .ref tr_productions, .ref tr_tokens, .ref tr_parents, .ref tr_nodesAt, .int 0]))]) hP hD [1] [0] rfl rfl (by decide) (by decide) hk1 hFc hP1 hD1
  have hK := (hK.sub (tys' := []) [] rfl).app hK1
  generalize H1 = H at hP hS ⊢
  have hP : va_P (dC, dI) CL [(x, .inr (0, [.ref g, .ref an, .ref tr, .ref w])), (tr, .inr (6, [.ref g, .ref tr_productions, .ref tr_tokens, .ref tr_parents, .ref tr_nodesAt, .int 0]))] H := hP
  have hD : va_D A [(x, .inr (0, [.ref g, .ref an, .ref tr, .ref w])), (tr, .inr (6, [.ref g, .ref tr_productions, .ref tr_tokens, .ref tr_parents, .ref tr_nodesAt, .int 0]))] := hD
  have hK : va_K (dC, dI) CL [] s := hK
  refine W.widen (k := 0) (n := 0) (by decide) (by decide) ?_
  refine lv_if_eq (tgt := 30) hx hb d_V_requireAttribute_8 (by decide) (fun _ => ?_) (fun h9 => absurd (by decide) h9)
  exact vq_throw (names := up_names) hx hb htr hown (by decide +kernel) (by decide +kernel) (at_V_IndexOutOfBoundsException hts hst) (hts _ k_138) (hts _ k_139) (hts _ k_140) hS hA hN hno hlocks (by decide) (hl.1.trans hml.symm) d_V_requireAttribute_30 d_V_requireAttribute_33 d_V_requireAttribute_34 d_V_requireAttribute_36 d_V_requireAttribute_39

