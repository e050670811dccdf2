set_option maxHeartbeats 4000000 in
set_option maxRecDepth 100000 in
theorem c_U_begin (l : Launch) (htr : l.stackTraces = false) (dC : Nat → ClassId) (dI : Nat → Nat → Nat) (ad : Nat → Nat) (ca : Nat → ClassId) (N : Nat) (σ : vS) (a0 : Int32) (v : Int32 × vS) (h : f_U_begin N σ a0 = some v) (sz : Nat) : Met l y_U_begin WS ({ frames := 2, cells := 0, slots := 0, locals := 60 }) (va_Pc [.ref (ad 7), .int a0] (vq_Pre (dC, dI) CL sz (Xw ad ca σ) (Xt ca))) (va_Qv (fun _ : Unit => True) (fun _ t => vq_Post (dC, dI) CL (va_A (Xw ad ca σ) sz) (Xw ad ca v.2) (Xt ca) t) (va_A (Xw ad ca σ) sz)) 0 0 (va_A (Xw ad ca σ) sz) := by
  refine vq_ofW (cc := prog_8_method_2_code) (maxL := 2) (ret := (Option.none : Option Jvm.ClassFile.FieldType)) pl_U (vq_his k_245) ?_
  intro p e s m args below meth c s₁ B hml hv
  obtain ⟨rfl, hst, hsz, hP, hK, hD0⟩ := hv
  have hx := B.exec
  have hb := B.bytes
  have hr := B.returns
  have hts := atoms_spec (ws := WS) B.pre
  have hown : s.vm.findClass R_U = some m.cls := findClass_of_methodNamed B.named
  have hlocks := B.notSynchronized
  have hno := vq_noH B (hts _ k_245)
  subst hsz
  have hN := vq_ns hP
  have hD := hD0.self (sz := s.heap.size)
  generalize hAe : va_A (Xw ad ca σ) s.heap.size = A at hD hN ⊢
  have hA : ∀ q : Nat, s.heap.size ≤ q → A q := fun q h => by rw [← hAe]; exact Or.inr h
  have hS : va_S A s.heap s.heap [] := va_S.rf
  have hl := lv_entry ([.ref (ad 7), .int a0]) (n := 2) (Nat.le_of_ble_eq_true rfl)
  rw [lg_entry_eq]
  generalize (lg_sl ([.ref (ad 7), .int a0]) ++ List.replicate (2 - (lg_sl ([.ref (ad 7), .int a0])).length) Slot.unset).toArray = ls at hl ⊢
  have hl : lv_has ls 2 [(0, .ref (ad 7)), (1, .int a0)] := hl
  unfold f_U_begin at h
  refine lv_aload_n hx hb d_U_begin_0 rfl (lv_at hl 0 rfl) ?_
  refine g_U_knownBits dC dI ad ca σ hx hb hts hown hK hP k_246 d_U_begin_1 ?_
  refine lv_iconst (v := 0) hx hb d_U_begin_4 (by decide) ?_
  have hPc := hP.sub (ws' := [((ad 33), .inl (ca 33, 40, .inl (σ.2 25)))]) [33] rfl
  have hDc := hD.sub (ws' := [((ad 33), .inl (ca 33, 40, .inl (σ.2 25)))]) [33] (by decide) rfl
  have hKc := hK.sub (tys' := [(ca 33, .int)]) [25] rfl
  have hFc := va_free (wc := [((ad 33), .inl (ca 33, 40, .inl (σ.2 25)))]) hD hS hA [33] rfl
  refine va_callv (va_runS (As := [.ref (ad 33), .int 0]) (rest := []) ⟨hx, hb, hml, hown, hts⟩ (c_R_fill l htr dC dI (ad 33) (ca 33) 40 (by decide) (σ.2 25) 0 s.heap.size) (vq_cS WSk hts 2 rfl rfl ⟨by decide, by decide⟩ k_67 k_68 k_247 k_70 (by decide +kernel)) ⟨vq_blind, vq_here hst hS hN hPc hKc hDc⟩ rfl rfl hl.1 rfl (lv_room (Nat.le_of_ble_eq_true rfl)) d_U_begin_5 ⟨by decide, by decide⟩) hS (fun q _ h => hFc q h) hFc (fun u t H1 locs ht hvm hw hB hz1 hk1 hS => ?_)
  obtain ⟨hP1, -, hD1⟩ := hB
  rw [ht] at hP1
  obtain ⟨hP, hD⟩ := va_join (wr := X33r ad ca σ) (w1 := [((ad 33), .inl (ca 33, 40, .inl (fun _ => 0)))]) hP hD [33] [0, 1, 2, 3, 4, 5, 6, 7, 8, 9, 10, 11, 12, 13, 14, 15, 16, 17, 18, 19, 20, 21, 22, 23, 24, 25, 26, 27, 28, 29, 30, 31, 32, 34] rfl rfl (by decide) (by decide) hk1 hFc hP1 hD1
  have hP := hP.sub (ws' := (Xw ad ca (sfill σ 25 0))) [0, 1, 2, 3, 4, 5, 6, 7, 8, 9, 10, 11, 12, 13, 14, 15, 16, 17, 18, 19, 20, 21, 22, 23, 24, 25, 26, 27, 28, 29, 30, 31, 32, 34, 33] rfl
  have hD := hD.sub (ws' := (Xw ad ca (sfill σ 25 0))) [0, 1, 2, 3, 4, 5, 6, 7, 8, 9, 10, 11, 12, 13, 14, 15, 16, 17, 18, 19, 20, 21, 22, 23, 24, 25, 26, 27, 28, 29, 30, 31, 32, 34, 33] (by decide) rfl
  generalize H1 = H at hP hS ⊢
  refine W.widen (k := 0) (n := 0) (by decide) (by decide) ?_
  obtain ⟨σ1, eσ1, h⟩ := vq_let h
  rw [← eσ1] at hP hD
  refine lv_aload_n hx hb d_U_begin_8 rfl (lv_at hl 0 rfl) ?_
  refine g_U_instructionsDone dC dI ad ca σ1 hx hb hts hown hK hP k_248 d_U_begin_9 ?_
  refine lv_iconst (v := 0) hx hb d_U_begin_12 (by decide) ?_
  have hPc := hP.sub (ws' := [((ad 34), .inl (ca 34, 40, .inl (σ1.2 26)))]) [34] rfl
  have hDc := hD.sub (ws' := [((ad 34), .inl (ca 34, 40, .inl (σ1.2 26)))]) [34] (by decide) rfl
  have hKc := hK.sub (tys' := [(ca 34, .int)]) [26] rfl
  have hFc := va_free (wc := [((ad 34), .inl (ca 34, 40, .inl (σ1.2 26)))]) hD hS hA [34] rfl
  refine va_callv (va_runS (As := [.ref (ad 34), .int 0]) (rest := []) ⟨hx, hb, hml, hown, hts⟩ (c_R_fill l htr dC dI (ad 34) (ca 34) 40 (by decide) (σ1.2 26) 0 H.size) (vq_cS WSk hts 2 rfl rfl ⟨by decide, by decide⟩ k_67 k_68 k_247 k_70 (by decide +kernel)) ⟨vq_blind, vq_here hst hS hN hPc hKc hDc⟩ rfl rfl hl.1 rfl (lv_room (Nat.le_of_ble_eq_true rfl)) d_U_begin_13 ⟨by decide, by decide⟩) hS (fun q _ h => hFc q h) hFc (fun u t H1 locs ht hvm hw hB hz1 hk1 hS => ?_)
  obtain ⟨hP1, -, hD1⟩ := hB
  rw [ht] at hP1
  obtain ⟨hP, hD⟩ := va_join (wr := X34r ad ca σ1) (w1 := [((ad 34), .inl (ca 34, 40, .inl (fun _ => 0)))]) hP hD [34] [0, 1, 2, 3, 4, 5, 6, 7, 8, 9, 10, 11, 12, 13, 14, 15, 16, 17, 18, 19, 20, 21, 22, 23, 24, 25, 26, 27, 28, 29, 30, 31, 32, 33] rfl rfl (by decide) (by decide) hk1 hFc hP1 hD1
  have hP := hP.sub (ws' := (Xw ad ca (sfill σ1 26 0))) [0, 1, 2, 3, 4, 5, 6, 7, 8, 9, 10, 11, 12, 13, 14, 15, 16, 17, 18, 19, 20, 21, 22, 23, 24, 25, 26, 27, 28, 29, 30, 31, 32, 33, 34] rfl
  have hD := hD.sub (ws' := (Xw ad ca (sfill σ1 26 0))) [0, 1, 2, 3, 4, 5, 6, 7, 8, 9, 10, 11, 12, 13, 14, 15, 16, 17, 18, 19, 20, 21, 22, 23, 24, 25, 26, 27, 28, 29, 30, 31, 32, 33, 34] (by decide) rfl
  generalize H1 = H at hP hS ⊢
  refine W.widen (k := 0) (n := 0) (by decide) (by decide) ?_
  obtain ⟨σ2, eσ2, h⟩ := vq_let h
  rw [← eσ2] at hP hD
  refine lv_aload_n hx hb d_U_begin_16 rfl (lv_at hl 0 rfl) ?_
  refine g_U_given dC dI ad ca σ2 hx hb hts hown hK hP k_249 d_U_begin_17 ?_
  refine lv_iconst (v := 0) hx hb d_U_begin_20 (by decide) ?_
  refine lv_aload_n hx hb d_U_begin_21 rfl (lv_at hl 0 rfl) ?_
  refine g_U_values dC dI ad ca σ2 hx hb hts hown hK hP k_250 d_U_begin_22 ?_
  refine lv_iload_n hx hb d_U_begin_25 rfl (lv_at hl 1 rfl) ?_
  refine lv_iconst (v := 4) hx hb d_U_begin_26 (by decide) ?_
  refine lv_imul hx hb d_U_begin_27 ?_
  refine lv_iconst (v := 4) hx hb d_U_begin_28 (by decide) ?_
  obtain ⟨hi3, h⟩ := vq_bd h
  refine va_copyi hx hb (hml.trans hl.1.symm) hown (hts _ k_251) (hts _ k_252) (hts _ k_253) (hts _ k_254) hK hP hD hS 31 32 23 24 rfl rfl rfl rfl rfl (by decide) (bIn_nn hi3) (by decide) (by decide) (bIn_le hi3 (by decide)) (fun i _ => rfl) (by decide) (by decide) d_U_begin_29 (fun H locs hP hD hS => ?_)
  have hP : va_P (dC, dI) CL (Xw ad ca (scpy σ2 23 24 (a0 * 4).toNatClampNeg 4)) H := hP
  have hD : va_D A (Xw ad ca (scpy σ2 23 24 (a0 * 4).toNatClampNeg 4)) := hD
  obtain ⟨σ4, eσ4, h⟩ := vq_let h
  rw [← eσ4] at hP hD
  refine lv_aload_n hx hb d_U_begin_32 rfl (lv_at hl 0 rfl) ?_
  refine g_U_knownBits dC dI ad ca σ4 hx hb hts hown hK hP k_246 d_U_begin_33 ?_
  refine lv_iload_n hx hb d_U_begin_36 rfl (lv_at hl 1 rfl) ?_
  refine lv_aload_n hx hb d_U_begin_37 rfl (lv_at hl 0 rfl) ?_
  refine g_U_grammar dC dI ad ca σ4 hx hb hts hown hK hP k_255 d_U_begin_38 ?_
  refine gN_G_inheritedBits dC dI ad ca σ4 hx hb hts hown hK hP k_256 d_U_begin_41 ?_
  refine lv_aload_n hx hb d_U_begin_44 rfl (lv_at hl 0 rfl) ?_
  refine g_U_tree dC dI ad ca σ4 hx hb hts hown hK hP k_257 d_U_begin_45 ?_
  refine lv_iload_n hx hb d_U_begin_48 rfl (lv_at hl 1 rfl) ?_
  obtain ⟨q5, h6, h⟩ := vq_bi h
  have hFc := vq_freeAll hD hS hA
  refine va_calli (va_runV (As := [.int a0]) (rest := [.ref (ad 9), .int a0, .ref (ad 33)]) ⟨hx, hb, hml, hown, hts⟩ (c_Z_symbolOf l htr dC dI ad ca N σ4 a0 q5 h6 H.size) (vq_cV WSk hts 1 rfl rfl ⟨by decide, by decide⟩ k_218 k_226 k_258 k_232 k_233 (by decide +kernel)) ⟨vq_blind, va_recv hK hP (ci := 6) (q0 := 6) rfl rfl, vq_here hst hS hN hP hK hD⟩ rfl rfl hl.1 rfl (lv_room (Nat.le_of_ble_eq_true rfl)) d_U_begin_49 ⟨by decide, by decide⟩) hS (fun q _ h => hFc q h) hFc (fun r u t H1 locs ht hvm hw hB hz1 hk1 hS => ?_)
  obtain ⟨hP, -, hD1⟩ := hB
  rw [ht] at hP
  have hD := hD1.weaken (fun _ _ _ h => hFc _ h)
  have hw : r = q5.1 := hw
  subst hw
  generalize H1 = H at hP hS ⊢
  refine W.widen (k := 0) (n := 0) (by decide) (by decide) ?_
  obtain ⟨hi7, h⟩ := vq_bd h
  refine al_X1 dC dI ad ca q5.2 hx hb hts hown hK hP hi7 d_U_begin_52 ?_
  obtain ⟨i8, ei8, h⟩ := vq_let h
  refine vq_top ei8.symm ?_
  obtain ⟨hi9, h⟩ := vq_bd h
  refine as_X25 dC dI ad ca q5.2 hx hb hts hown hK hP hD hS hi9 d_U_begin_53 (fun H locs hP hD hS => ?_)
  obtain ⟨σ10, eσ10, h⟩ := vq_let h
  rw [← eσ10] at hP hD
  refine lv_aload_n hx hb d_U_begin_54 rfl (lv_at hl 0 rfl) ?_
  refine lv_iload_n hx hb d_U_begin_55 rfl (lv_at hl 1 rfl) ?_
  refine p_U_root dC dI ad ca σ10 hx hb hts hown hK hP hD hS k_259 d_U_begin_56 (fun H locs hP hD hS => ?_)
  obtain ⟨σ11, eσ11, h⟩ := vq_let h
  rw [← eσ11] at hP hD
  refine lv_aload_n hx hb d_U_begin_59 rfl (lv_at hl 0 rfl) ?_
  refine lv_iload_n hx hb d_U_begin_60 rfl (lv_at hl 1 rfl) ?_
  refine p_U_nodeAtHand dC dI ad ca σ11 hx hb hts hown hK hP hD hS k_260 d_U_begin_61 (fun H locs hP hD hS => ?_)
  obtain ⟨σ12, eσ12, h⟩ := vq_let h
  rw [← eσ12] at hP hD
  refine lv_aload_n hx hb d_U_begin_64 rfl (lv_at hl 0 rfl) ?_
  refine lv_iconst (v := 1) hx hb d_U_begin_65 (by decide) ?_
  refine p_U_state dC dI ad ca σ12 hx hb hts hown hK hP hD hS k_261 d_U_begin_66 (fun H locs hP hD hS => ?_)
  obtain ⟨σ13, eσ13, h⟩ := vq_let h
  rw [← eσ13] at hP hD
  have h9 := Option.some.inj h
  rw [← h9]
  exact W.vret hx hb hr (fun t ht hW => ⟨⟨(), rfl, trivial, by rw [ht]; exact hP, va_K.moved hW.alike hK, hD⟩, hS.F ht⟩) hS.2.2 d_U_begin_69

set_option maxHeartbeats 4000000 in
set_option maxRecDepth 100000 in
theorem c_U_end (l : Launch) (htr : l.stackTraces = false) (dC : Nat → ClassId) (dI : Nat → Nat → Nat) (ad : Nat → Nat) (ca : Nat → ClassId) (N : Nat) (σ : vS) (v : Int32 × vS) (h : f_U_end N σ = some v) (sz : Nat) : Met l y_U_end WS ({ frames := 0, cells := 0, slots := 0, locals := 0 }) (va_Pc [.ref (ad 7)] (vq_Pre (dC, dI) CL sz (Xw ad ca σ) (Xt ca))) (va_Qv (fun _ : Unit => True) (fun _ t => vq_Post (dC, dI) CL (va_A (Xw ad ca σ) sz) (Xw ad ca v.2) (Xt ca) t) (va_A (Xw ad ca σ) sz)) 0 0 (va_A (Xw ad ca σ) sz) := by
  refine vq_ofW (cc := prog_8_method_3_code) (maxL := 1) (ret := (Option.none : Option Jvm.ClassFile.FieldType)) pl_U (vq_his k_262) ?_
  intro p e s m args below meth c s₁ B hml hv
  obtain ⟨rfl, hst, hsz, hP, hK, hD0⟩ := hv
  have hx := B.exec
  have hb := B.bytes
  have hr := B.returns
  have hts := atoms_spec (ws := WS) B.pre
  have hown : s.vm.findClass R_U = some m.cls := findClass_of_methodNamed B.named
  have hlocks := B.notSynchronized
  have hno := vq_noH B (hts _ k_262)
  subst hsz
  have hN := vq_ns hP
  have hD := hD0.self (sz := s.heap.size)
  generalize hAe : va_A (Xw ad ca σ) s.heap.size = A at hD hN ⊢
  have hA : ∀ q : Nat, s.heap.size ≤ q → A q := fun q h => by rw [← hAe]; exact Or.inr h
  have hS : va_S A s.heap s.heap [] := va_S.rf
  have hl := lv_entry ([.ref (ad 7)]) (n := 1) (Nat.le_of_ble_eq_true rfl)
  rw [lg_entry_eq]
  generalize (lg_sl ([.ref (ad 7)]) ++ List.replicate (1 - (lg_sl ([.ref (ad 7)])).length) Slot.unset).toArray = ls at hl ⊢
  have hl : lv_has ls 1 [(0, .ref (ad 7))] := hl
  unfold f_U_end at h
  refine lv_aload_n hx hb d_U_end_0 rfl (lv_at hl 0 rfl) ?_
  refine lv_iconst (v := 0) hx hb d_U_end_1 (by decide) ?_
  refine p_U_state dC dI ad ca σ hx hb hts hown hK hP hD hS k_261 d_U_end_2 (fun H locs hP hD hS => ?_)
  obtain ⟨σ1, eσ1, h⟩ := vq_let h
  rw [← eσ1] at hP hD
  have h9 := Option.some.inj h
  rw [← h9]
  exact W.vret hx hb hr (fun t ht hW => ⟨⟨(), rfl, trivial, by rw [ht]; exact hP, va_K.moved hW.alike hK, hD⟩, hS.F ht⟩) hS.2.2 d_U_end_5

set_option maxHeartbeats 4000000 in
set_option maxRecDepth 100000 in
theorem c_U_isKnown (l : Launch) (htr : l.stackTraces = false) (dC : Nat → ClassId) (dI : Nat → Nat → Nat) (ad : Nat → Nat) (ca : Nat → ClassId) (N : Nat) (σ : vS) (a0 : Int32) (a1 : Int32) (v : Int32 × vS) (h : f_U_isKnown N σ a0 a1 = some v) (sz : Nat) : Met l y_U_isKnown WS ({ frames := 1, cells := 0, slots := 0, locals := 21 }) (va_Pc [.ref (ad 7), .int a0, .int a1] (vq_Pre (dC, dI) CL sz (Xw ad ca σ) (Xt ca))) (va_Qi (fun (r : Int32) (_ : Unit) => r = v.1) (fun _ t => vq_Post (dC, dI) CL (va_A (Xw ad ca σ) sz) (Xw ad ca v.2) (Xt ca) t) (va_A (Xw ad ca σ) sz)) 0 0 (va_A (Xw ad ca σ) sz) := by
  refine vq_ofW (cc := prog_8_method_4_code) (maxL := 3) (ret := (Option.some Jvm.ClassFile.FieldType.boolean)) pl_U (vq_his k_263) ?_
  intro p e s m args below meth c s₁ B hml hv
  obtain ⟨rfl, hst, hsz, hP, hK, hD0⟩ := hv
  have hx := B.exec
  have hb := B.bytes
  have hr := B.returns
  have hts := atoms_spec (ws := WS) B.pre
  have hown : s.vm.findClass R_U = some m.cls := findClass_of_methodNamed B.named
  have hlocks := B.notSynchronized
  have hno := vq_noH B (hts _ k_263)
  subst hsz
  have hN := vq_ns hP
  have hD := hD0.self (sz := s.heap.size)
  generalize hAe : va_A (Xw ad ca σ) s.heap.size = A at hD hN ⊢
  have hA : ∀ q : Nat, s.heap.size ≤ q → A q := fun q h => by rw [← hAe]; exact Or.inr h
  have hS : va_S A s.heap s.heap [] := va_S.rf
  have hl := lv_entry ([.ref (ad 7), .int a0, .int a1]) (n := 3) (Nat.le_of_ble_eq_true rfl)
  rw [lg_entry_eq]
  generalize (lg_sl ([.ref (ad 7), .int a0, .int a1]) ++ List.replicate (3 - (lg_sl ([.ref (ad 7), .int a0, .int a1])).length) Slot.unset).toArray = ls at hl ⊢
  have hl : lv_has ls 3 [(0, .ref (ad 7)), (1, .int a0), (2, .int a1)] := hl
  unfold f_U_isKnown at h
  refine lv_aload_n hx hb d_U_isKnown_0 rfl (lv_at hl 0 rfl) ?_
  refine g_U_state dC dI ad ca σ hx hb hts hown hK hP k_261 d_U_isKnown_1 ?_
  refine lv_if_eq (tgt := 24) hx hb d_U_isKnown_4 (by decide) (fun hc1 => ?_) (fun hc1 => ?_)
  ·
    rw [if_pos hc1] at h
    refine lv_iconst (v := 0) hx hb d_U_isKnown_24 (by decide) ?_
    have h9 := Option.some.inj h
    rw [← h9]
    exact W.zret (v := 0) (ty := .boolean) hx hb hr (by decide) (fun t ht hW => ⟨⟨0, (), rfl, rfl, by rw [ht]; exact hP, va_K.moved hW.alike hK, hD⟩, hS.F ht⟩) hS.2.2 d_U_isKnown_25
  ·
    rw [if_neg hc1] at h
    refine lv_aload_n hx hb d_U_isKnown_7 rfl (lv_at hl 0 rfl) ?_
    refine g_U_knownBits dC dI ad ca σ hx hb hts hown hK hP k_246 d_U_isKnown_8 ?_
    refine lv_iload_n hx hb d_U_isKnown_11 rfl (lv_at hl 1 rfl) ?_
    obtain ⟨hi2, h⟩ := vq_bd h
    refine al_X25 dC dI ad ca σ hx hb hts hown hK hP hi2 d_U_isKnown_12 ?_
    obtain ⟨i3, ei3, h⟩ := vq_let h
    refine vq_top ei3.symm ?_
    refine lv_iload_n hx hb d_U_isKnown_13 rfl (lv_at hl 2 rfl) ?_
    obtain ⟨q4, h5, h⟩ := vq_bi h
    have hKe := hK.sub (tys' := []) [] rfl
    refine va_calli (va_runSN (As := [.int i3, .int a1]) (rest := []) ⟨hx, hb, hml, hown, hts⟩ (c_V_holds l htr dC dI N i3 a1 q4 h5 s.heap.size) (vq_cSN WSk hts 2 rfl rfl ⟨by decide, by decide⟩ k_0 k_22 k_264 k_24 (by decide +kernel)) ⟨vq_blind, vq_here hst hS hN vq_P0 hKe vq_D0⟩ rfl rfl hl.1 rfl (lv_room (Nat.le_of_ble_eq_true rfl)) d_U_isKnown_14 ⟨by decide, by decide⟩) hS (fun q _ h => vq_keepA h (fun hz => hA q (Nat.le_trans hS.1 hz))) (fun q h => vq_keepA h (fun hz => hA q (Nat.le_trans hS.1 hz))) (fun r u t H1 locs ht hvm hw hB hz1 hk1 hS => ?_)
    have hw : r = q4 := hw
    rw [hw]
    have hP := vq_keepP hP hk1
    generalize H1 = H at hP hS ⊢
    refine W.widen (k := 0) (n := 0) (by decide) (by decide) ?_
    refine lv_if_eq (tgt := 24) hx hb d_U_isKnown_17 (by decide) (fun hc6 => ?_) (fun hc6 => ?_)
    ·
      rw [if_pos hc6] at h
      refine lv_iconst (v := 0) hx hb d_U_isKnown_24 (by decide) ?_
      have h9 := Option.some.inj h
      rw [← h9]
      exact W.zret (v := 0) (ty := .boolean) hx hb hr (by decide) (fun t ht hW => ⟨⟨0, (), rfl, rfl, by rw [ht]; exact hP, va_K.moved hW.alike hK, hD⟩, hS.F ht⟩) hS.2.2 d_U_isKnown_25
    ·
      rw [if_neg hc6] at h
      refine lv_iconst (v := 1) hx hb d_U_isKnown_20 (by decide) ?_
      refine lv_goto (tgt := 25) hx hb d_U_isKnown_21 (by decide) ?_
      have h9 := Option.some.inj h
      rw [← h9]
      exact W.zret (v := 1) (ty := .boolean) hx hb hr (by decide) (fun t ht hW => ⟨⟨1, (), rfl, rfl, by rw [ht]; exact hP, va_K.moved hW.alike hK, hD⟩, hS.F ht⟩) hS.2.2 d_U_isKnown_25

set_option maxHeartbeats 4000000 in
set_option maxRecDepth 100000 in
theorem c_U_leaveNode (l : Launch) (htr : l.stackTraces = false) (dC : Nat → ClassId) (dI : Nat → Nat → Nat) (ad : Nat → Nat) (ca : Nat → ClassId) (N : Nat) (σ : vS) (a0 : Int32) (v : Int32 × vS) (h : f_U_leaveNode N σ a0 = some v) (sz : Nat) : Met l y_U_leaveNode WS ({ frames := 0, cells := 0, slots := 0, locals := 0 }) (va_Pc [.ref (ad 7), .int a0] (vq_Pre (dC, dI) CL sz (Xw ad ca σ) (Xt ca))) (va_Qv (fun _ : Unit => True) (fun _ t => vq_Post (dC, dI) CL (va_A (Xw ad ca σ) sz) (Xw ad ca v.2) (Xt ca) t) (va_A (Xw ad ca σ) sz)) 0 0 (va_A (Xw ad ca σ) sz) := by
  refine vq_ofW (cc := prog_8_method_7_code) (maxL := 2) (ret := (Option.none : Option Jvm.ClassFile.FieldType)) pl_U (vq_his k_265) ?_
  intro p e s m args below meth c s₁ B hml hv
  obtain ⟨rfl, hst, hsz, hP, hK, hD0⟩ := hv
  have hx := B.exec
  have hb := B.bytes
  have hr := B.returns
  have hts := atoms_spec (ws := WS) B.pre
  have hown : s.vm.findClass R_U = some m.cls := findClass_of_methodNamed B.named
  have hlocks := B.notSynchronized
  have hno := vq_noH B (hts _ k_265)
  subst hsz
  have hN := vq_ns hP
  have hD := hD0.self (sz := s.heap.size)
  generalize hAe : va_A (Xw ad ca σ) s.heap.size = A at hD hN ⊢
  have hA : ∀ q : Nat, s.heap.size ≤ q → A q := fun q h => by rw [← hAe]; exact Or.inr h
  have hS : va_S A s.heap s.heap [] := va_S.rf
  have hl := lv_entry ([.ref (ad 7), .int a0]) (n := 2) (Nat.le_of_ble_eq_true rfl)
  rw [lg_entry_eq]
  generalize (lg_sl ([.ref (ad 7), .int a0]) ++ List.replicate (2 - (lg_sl ([.ref (ad 7), .int a0])).length) Slot.unset).toArray = ls at hl ⊢
  have hl : lv_has ls 2 [(0, .ref (ad 7)), (1, .int a0)] := hl
  unfold f_U_leaveNode at h
  refine lv_aload_n hx hb d_U_leaveNode_0 rfl (lv_at hl 0 rfl) ?_
  refine g_U_nodeAtHand dC dI ad ca σ hx hb hts hown hK hP k_260 d_U_leaveNode_1 ?_
  refine lv_aload_n hx hb d_U_leaveNode_4 rfl (lv_at hl 0 rfl) ?_
  refine g_U_root dC dI ad ca σ hx hb hts hown hK hP k_259 d_U_leaveNode_5 ?_
  refine lv_icmp_eq (tgt := 30) hx hb d_U_leaveNode_8 (by decide) (fun hc1 => ?_) (fun hc1 => ?_)
  ·
    rw [if_pos hc1] at h
    refine lv_aload_n hx hb d_U_leaveNode_30 rfl (lv_at hl 0 rfl) ?_
    refine g_U_instructionsDone dC dI ad ca σ hx hb hts hown hK hP k_248 d_U_leaveNode_31 ?_
    refine lv_aload_n hx hb d_U_leaveNode_34 rfl (lv_at hl 0 rfl) ?_
    refine g_U_root dC dI ad ca σ hx hb hts hown hK hP k_259 d_U_leaveNode_35 ?_
    obtain ⟨hi2, h⟩ := vq_bd h
    refine al_X26 dC dI ad ca σ hx hb hts hown hK hP hi2 d_U_leaveNode_38 ?_
    obtain ⟨i3, ei3, h⟩ := vq_let h
    refine vq_top ei3.symm ?_
    refine lv_aload_n hx hb d_U_leaveNode_39 rfl (lv_at hl 0 rfl) ?_
    refine g_U_sequences dC dI ad ca σ hx hb hts hown hK hP k_266 d_U_leaveNode_40 ?_
    refine gN_Q_lengths dC dI ad ca σ hx hb hts hown hK hP k_267 d_U_leaveNode_43 ?_
    refine lv_iload_n hx hb d_U_leaveNode_46 rfl (lv_at hl 1 rfl) ?_
    obtain ⟨hi4, h⟩ := vq_bd h
    refine al_X17 dC dI ad ca σ hx hb hts hown hK hP hi4 d_U_leaveNode_47 ?_
    obtain ⟨i5, ei5, h⟩ := vq_let h
    refine vq_top ei5.symm ?_
    refine lv_icmp_ne (tgt := 56) hx hb d_U_leaveNode_48 (by decide) (fun hc6 => ?_) (fun hc6 => ?_)
    ·
      rw [if_neg hc6] at h
      have h9 := Option.some.inj h
      rw [← h9]
      exact W.vret hx hb hr (fun t ht hW => ⟨⟨(), rfl, trivial, by rw [ht]; exact hP, va_K.moved hW.alike hK, hD⟩, hS.F ht⟩) hS.2.2 d_U_leaveNode_56
    ·
      rw [if_pos hc6] at h
      refine lv_aload_n hx hb d_U_leaveNode_51 rfl (lv_at hl 0 rfl) ?_
      refine lv_iconst (v := 2) hx hb d_U_leaveNode_52 (by decide) ?_
      refine p_U_state dC dI ad ca σ hx hb hts hown hK hP hD hS k_261 d_U_leaveNode_53 (fun H locs hP hD hS => ?_)
      obtain ⟨σ7, eσ7, h⟩ := vq_let h
      rw [← eσ7] at hP hD
      have h9 := Option.some.inj h
      rw [← h9]
      exact W.vret hx hb hr (fun t ht hW => ⟨⟨(), rfl, trivial, by rw [ht]; exact hP, va_K.moved hW.alike hK, hD⟩, hS.F ht⟩) hS.2.2 d_U_leaveNode_56
  ·
    rw [if_neg hc1] at h
    refine lv_aload_n hx hb d_U_leaveNode_11 rfl (lv_at hl 0 rfl) ?_
    refine lv_aload_n hx hb d_U_leaveNode_12 rfl (lv_at hl 0 rfl) ?_
    refine g_U_tree dC dI ad ca σ hx hb hts hown hK hP k_257 d_U_leaveNode_13 ?_
    refine gN_Z_parents dC dI ad ca σ hx hb hts hown hK hP k_268 d_U_leaveNode_16 ?_
    refine lv_aload_n hx hb d_U_leaveNode_19 rfl (lv_at hl 0 rfl) ?_
    refine g_U_nodeAtHand dC dI ad ca σ hx hb hts hown hK hP k_260 d_U_leaveNode_20 ?_
    obtain ⟨hi8, h⟩ := vq_bd h
    refine al_X21 dC dI ad ca σ hx hb hts hown hK hP hi8 d_U_leaveNode_23 ?_
    obtain ⟨i9, ei9, h⟩ := vq_let h
    refine vq_top ei9.symm ?_
    refine p_U_nodeAtHand dC dI ad ca σ hx hb hts hown hK hP hD hS k_260 d_U_leaveNode_24 (fun H locs hP hD hS => ?_)
    obtain ⟨σ10, eσ10, h⟩ := vq_let h
    rw [← eσ10] at hP hD
    refine lv_goto (tgt := 56) hx hb d_U_leaveNode_27 (by decide) ?_
    have h9 := Option.some.inj h
    rw [← h9]
    exact W.vret hx hb hr (fun t ht hW => ⟨⟨(), rfl, trivial, by rw [ht]; exact hP, va_K.moved hW.alike hK, hD⟩, hS.F ht⟩) hS.2.2 d_U_leaveNode_56

set_option maxHeartbeats 4000000 in
set_option maxRecDepth 100000 in
theorem c_U_setOccurrence (l : Launch) (htr : l.stackTraces = false) (dC : Nat → ClassId) (dI : Nat → Nat → Nat) (ad : Nat → Nat) (ca : Nat → ClassId) (N : Nat) (σ : vS) (a0 : Int32) (a1 : Int32) (v : Int32 × vS) (h : f_U_setOccurrence N σ a0 a1 = some v) (sz : Nat) : Met l y_U_setOccurrence WS ({ frames := 1, cells := 0, slots := 0, locals := 22 }) (va_Pc [.ref (ad 7), .int a0, .int a1] (vq_Pre (dC, dI) CL sz (Xw ad ca σ) (Xt ca))) (va_Qv (fun _ : Unit => True) (fun _ t => vq_Post (dC, dI) CL (va_A (Xw ad ca σ) sz) (Xw ad ca v.2) (Xt ca) t) (va_A (Xw ad ca σ) sz)) 0 0 (va_A (Xw ad ca σ) sz) := by
  refine vq_ofW (cc := prog_8_method_8_code) (maxL := 5) (ret := (Option.none : Option Jvm.ClassFile.FieldType)) pl_U (vq_his k_269) ?_
  intro p e s m args below meth c s₁ B hml hv
  obtain ⟨rfl, hst, hsz, hP, hK, hD0⟩ := hv
  have hx := B.exec
  have hb := B.bytes
  have hr := B.returns
  have hts := atoms_spec (ws := WS) B.pre
  have hown : s.vm.findClass R_U = some m.cls := findClass_of_methodNamed B.named
  have hlocks := B.notSynchronized
  have hno := vq_noH B (hts _ k_269)
  subst hsz
  have hN := vq_ns hP
  have hD := hD0.self (sz := s.heap.size)
  generalize hAe : va_A (Xw ad ca σ) s.heap.size = A at hD hN ⊢
  have hA : ∀ q : Nat, s.heap.size ≤ q → A q := fun q h => by rw [← hAe]; exact Or.inr h
  have hS : va_S A s.heap s.heap [] := va_S.rf
  have hl := lv_entry ([.ref (ad 7), .int a0, .int a1]) (n := 5) (Nat.le_of_ble_eq_true rfl)
  rw [lg_entry_eq]
  generalize (lg_sl ([.ref (ad 7), .int a0, .int a1]) ++ List.replicate (5 - (lg_sl ([.ref (ad 7), .int a0, .int a1])).length) Slot.unset).toArray = ls at hl ⊢
  have hl : lv_has ls 5 [(0, .ref (ad 7)), (1, .int a0), (2, .int a1)] := hl
  unfold f_U_setOccurrence at h
  refine lv_aload_n hx hb d_U_setOccurrence_0 rfl (lv_at hl 0 rfl) ?_
  refine g_U_tree dC dI ad ca σ hx hb hts hown hK hP k_257 d_U_setOccurrence_1 ?_
  refine lv_aload_n hx hb d_U_setOccurrence_4 rfl (lv_at hl 0 rfl) ?_
  refine g_U_nodeAtHand dC dI ad ca σ hx hb hts hown hK hP k_260 d_U_setOccurrence_5 ?_
  refine lv_iload_n hx hb d_U_setOccurrence_8 rfl (lv_at hl 1 rfl) ?_
  refine lv_iconst (v := 4) hx hb d_U_setOccurrence_9 (by decide) ?_
  refine lv_idiv hx hb d_U_setOccurrence_10 (by decide) ?_
  obtain ⟨q1, h2, h⟩ := vq_bi h
  have hFc := vq_freeAll hD hS hA
  refine va_calli (va_runV (As := [.int (σ.1 11), .int (a0 / 4)]) (rest := []) ⟨hx, hb, hml, hown, hts⟩ (c_Z_nodeAt l htr dC dI ad ca N σ (σ.1 11) (a0 / 4) q1 h2 s.heap.size) (vq_cV WSk hts 2 rfl rfl ⟨by decide, by decide⟩ k_222 k_226 k_270 k_271 k_272 (by decide +kernel)) ⟨vq_blind, va_recv hK hP (ci := 6) (q0 := 6) rfl rfl, vq_here hst hS hN hP hK hD⟩ rfl rfl hl.1 rfl (lv_room (Nat.le_of_ble_eq_true rfl)) d_U_setOccurrence_11 ⟨by decide, by decide⟩) hS (fun q _ h => hFc q h) hFc (fun r u t H1 locs ht hvm hw hB hz1 hk1 hS => ?_)
  obtain ⟨hP, -, hD1⟩ := hB
  rw [ht] at hP
  have hD := hD1.weaken (fun _ _ _ h => hFc _ h)
  have hw : r = q1.1 := hw
  subst hw
  generalize H1 = H at hP hS ⊢
  refine W.widen (k := 0) (n := 0) (by decide) (by decide) ?_
  refine lv_istore_n (lv' := [(3, .int (q1.1)), (0, .ref (ad 7)), (1, .int a0), (2, .int a1)]) hx hb d_U_setOccurrence_14 rfl hl (by decide) rfl (fun ls hl => ?_)
  refine lv_iload_n hx hb d_U_setOccurrence_15 rfl (lv_at hl 2 rfl) ?_
  refine lv_iconst (v := 4) hx hb d_U_setOccurrence_16 (by decide) ?_
  refine lv_irem hx hb d_U_setOccurrence_17 (by decide) ?_
  refine lv_istore (lv' := [(4, .int (a0 - a0 / 4 * 4)), (3, .int (q1.1)), (0, .ref (ad 7)), (1, .int a0), (2, .int a1)]) hx hb d_U_setOccurrence_18 hl (by decide) rfl (fun ls hl => ?_)
  refine lv_aload_n hx hb d_U_setOccurrence_20 rfl (lv_at hl 2 rfl) ?_
  refine g_U_values dC dI ad ca q1.2 hx hb hts hown hK hP k_250 d_U_setOccurrence_21 ?_
  refine lv_iload_n hx hb d_U_setOccurrence_24 rfl (lv_at hl 1 rfl) ?_
  refine lv_iconst (v := 4) hx hb d_U_setOccurrence_25 (by decide) ?_
  refine lv_imul hx hb d_U_setOccurrence_26 ?_
  refine lv_iload hx hb d_U_setOccurrence_27 (lv_at hl 0 rfl) ?_
  refine lv_iadd hx hb d_U_setOccurrence_29 ?_
  obtain ⟨i3, ei3, h⟩ := vq_let h
  refine vq_top ei3.symm ?_
  refine lv_iload_n hx hb d_U_setOccurrence_30 rfl (lv_at hl 4 rfl) ?_
  obtain ⟨hi4, h⟩ := vq_bd h
  refine as_X24 dC dI ad ca q1.2 hx hb hts hown hK hP hD hS hi4 d_U_setOccurrence_31 (fun H locs hP hD hS => ?_)
  obtain ⟨σ5, eσ5, h⟩ := vq_let h
  rw [← eσ5] at hP hD
  refine lv_aload_n hx hb d_U_setOccurrence_32 rfl (lv_at hl 2 rfl) ?_
  refine g_U_knownBits dC dI ad ca σ5 hx hb hts hown hK hP k_246 d_U_setOccurrence_33 ?_
  refine lv_iload_n hx hb d_U_setOccurrence_36 rfl (lv_at hl 1 rfl) ?_
  refine lv_dup2_11 hx hb d_U_setOccurrence_37 rfl rfl ?_
  obtain ⟨hi6, h⟩ := vq_bd h
  refine al_X25 dC dI ad ca σ5 hx hb hts hown hK hP hi6 d_U_setOccurrence_38 ?_
  obtain ⟨i7, ei7, h⟩ := vq_let h
  refine vq_top ei7.symm ?_
  refine lv_iconst (v := 1) hx hb d_U_setOccurrence_39 (by decide) ?_
  refine lv_iload hx hb d_U_setOccurrence_40 (lv_at hl 0 rfl) ?_
  refine lv_ishl hx hb d_U_setOccurrence_42 ?_
  obtain ⟨i8, ei8, h⟩ := vq_let h
  refine vq_top ei8.symm ?_
  refine lv_ior hx hb d_U_setOccurrence_43 ?_
  obtain ⟨hi9, h⟩ := vq_bd h
  refine as_X25 dC dI ad ca σ5 hx hb hts hown hK hP hD hS hi9 d_U_setOccurrence_44 (fun H locs hP hD hS => ?_)
  obtain ⟨σ10, eσ10, h⟩ := vq_let h
  rw [← eσ10] at hP hD
  have h9 := Option.some.inj h
  rw [← h9]
  exact W.vret hx hb hr (fun t ht hW => ⟨⟨(), rfl, trivial, by rw [ht]; exact hP, va_K.moved hW.alike hK, hD⟩, hS.F ht⟩) hS.2.2 d_U_setOccurrence_45

set_option maxHeartbeats 4000000 in
set_option maxRecDepth 100000 in
theorem c_U_valueOf (l : Launch) (htr : l.stackTraces = false) (dC : Nat → ClassId) (dI : Nat → Nat → Nat) (ad : Nat → Nat) (ca : Nat → ClassId) (N : Nat) (σ : vS) (a0 : Int32) (v : Int32 × vS) (h : f_U_valueOf N σ a0 = some v) (sz : Nat) : Met l y_U_valueOf WS ({ frames := 1, cells := 0, slots := 0, locals := 22 }) (va_Pc [.ref (ad 7), .int a0] (vq_Pre (dC, dI) CL sz (Xw ad ca σ) (Xt ca))) (va_Qi (fun (r : Int32) (_ : Unit) => r = v.1) (fun _ t => vq_Post (dC, dI) CL (va_A (Xw ad ca σ) sz) (Xw ad ca v.2) (Xt ca) t) (va_A (Xw ad ca σ) sz)) 0 0 (va_A (Xw ad ca σ) sz) := by
  refine vq_ofW (cc := prog_8_method_10_code) (maxL := 3) (ret := (Option.some Jvm.ClassFile.FieldType.int)) pl_U (vq_his k_273) ?_
  intro p e s m args below meth c s₁ B hml hv
  obtain ⟨rfl, hst, hsz, hP, hK, hD0⟩ := hv
  have hx := B.exec
  have hb := B.bytes
  have hr := B.returns
  have hts := atoms_spec (ws := WS) B.pre
  have hown : s.vm.findClass R_U = some m.cls := findClass_of_methodNamed B.named
  have hlocks := B.notSynchronized
  have hno := vq_noH B (hts _ k_273)
  subst hsz
  have hN := vq_ns hP
  have hD := hD0.self (sz := s.heap.size)
  generalize hAe : va_A (Xw ad ca σ) s.heap.size = A at hD hN ⊢
  have hA : ∀ q : Nat, s.heap.size ≤ q → A q := fun q h => by rw [← hAe]; exact Or.inr h
  have hS : va_S A s.heap s.heap [] := va_S.rf
  have hl := lv_entry ([.ref (ad 7), .int a0]) (n := 3) (Nat.le_of_ble_eq_true rfl)
  rw [lg_entry_eq]
  generalize (lg_sl ([.ref (ad 7), .int a0]) ++ List.replicate (3 - (lg_sl ([.ref (ad 7), .int a0])).length) Slot.unset).toArray = ls at hl ⊢
  have hl : lv_has ls 3 [(0, .ref (ad 7)), (1, .int a0)] := hl
  unfold f_U_valueOf at h
  refine lv_aload_n hx hb d_U_valueOf_0 rfl (lv_at hl 0 rfl) ?_
  refine g_U_tree dC dI ad ca σ hx hb hts hown hK hP k_257 d_U_valueOf_1 ?_
  refine lv_aload_n hx hb d_U_valueOf_4 rfl (lv_at hl 0 rfl) ?_
  refine g_U_nodeAtHand dC dI ad ca σ hx hb hts hown hK hP k_260 d_U_valueOf_5 ?_
  refine lv_iload_n hx hb d_U_valueOf_8 rfl (lv_at hl 1 rfl) ?_
  refine lv_iconst (v := 4) hx hb d_U_valueOf_9 (by decide) ?_
  refine lv_idiv hx hb d_U_valueOf_10 (by decide) ?_
  obtain ⟨q1, h2, h⟩ := vq_bi h
  have hFc := vq_freeAll hD hS hA
  refine va_calli (va_runV (As := [.int (σ.1 11), .int (a0 / 4)]) (rest := []) ⟨hx, hb, hml, hown, hts⟩ (c_Z_nodeAt l htr dC dI ad ca N σ (σ.1 11) (a0 / 4) q1 h2 s.heap.size) (vq_cV WSk hts 2 rfl rfl ⟨by decide, by decide⟩ k_222 k_226 k_270 k_271 k_272 (by decide +kernel)) ⟨vq_blind, va_recv hK hP (ci := 6) (q0 := 6) rfl rfl, vq_here hst hS hN hP hK hD⟩ rfl rfl hl.1 rfl (lv_room (Nat.le_of_ble_eq_true rfl)) d_U_valueOf_11 ⟨by decide, by decide⟩) hS (fun q _ h => hFc q h) hFc (fun r u t H1 locs ht hvm hw hB hz1 hk1 hS => ?_)
  obtain ⟨hP, -, hD1⟩ := hB
  rw [ht] at hP
  have hD := hD1.weaken (fun _ _ _ h => hFc _ h)
  have hw : r = q1.1 := hw
  subst hw
  generalize H1 = H at hP hS ⊢
  refine W.widen (k := 0) (n := 0) (by decide) (by decide) ?_
  refine lv_istore_n (lv' := [(2, .int (q1.1)), (0, .ref (ad 7)), (1, .int a0)]) hx hb d_U_valueOf_14 rfl hl (by decide) rfl (fun ls hl => ?_)
  refine lv_aload_n hx hb d_U_valueOf_15 rfl (lv_at hl 1 rfl) ?_
  refine g_U_values dC dI ad ca q1.2 hx hb hts hown hK hP k_250 d_U_valueOf_16 ?_
  refine lv_iload_n hx hb d_U_valueOf_19 rfl (lv_at hl 0 rfl) ?_
  refine lv_iconst (v := 4) hx hb d_U_valueOf_20 (by decide) ?_
  refine lv_imul hx hb d_U_valueOf_21 ?_
  refine lv_iload_n hx hb d_U_valueOf_22 rfl (lv_at hl 2 rfl) ?_
  refine lv_iconst (v := 4) hx hb d_U_valueOf_23 (by decide) ?_
  refine lv_irem hx hb d_U_valueOf_24 (by decide) ?_
  refine lv_iadd hx hb d_U_valueOf_25 ?_
  obtain ⟨i3, ei3, h⟩ := vq_let h
  refine vq_top ei3.symm ?_
  obtain ⟨hi4, h⟩ := vq_bd h
  refine al_X24 dC dI ad ca q1.2 hx hb hts hown hK hP hi4 d_U_valueOf_26 ?_
  obtain ⟨i5, ei5, h⟩ := vq_let h
  refine vq_top ei5.symm ?_
  have h9 := Option.some.inj h
  rw [← h9]
  exact W.iret (v := i5) hx hb hr (fun t ht hW => ⟨⟨i5, (), rfl, rfl, by rw [ht]; exact hP, va_K.moved hW.alike hK, hD⟩, hS.F ht⟩) hS.2.2 d_U_valueOf_27

set_option maxHeartbeats 4000000 in
set_option maxRecDepth 100000 in
theorem c_U_result (l : Launch) (htr : l.stackTraces = false) (dC : Nat → ClassId) (dI : Nat → Nat → Nat) (ad : Nat → Nat) (ca : Nat → ClassId) (N : Nat) (σ : vS) (a0 : Int32) (v : Int32 × vS) (h : f_U_result N σ a0 = some v) (sz : Nat) : Met l y_U_result WS ({ frames := 2, cells := 0, slots := 0, locals := 44 }) (va_Pc [.ref (ad 7), .int a0] (vq_Pre (dC, dI) CL sz (Xw ad ca σ) (Xt ca))) (va_Qi (fun (r : Int32) (_ : Unit) => r = v.1) (fun _ t => vq_Post (dC, dI) CL (va_A (Xw ad ca σ) sz) (Xw ad ca v.2) (Xt ca) t) (va_A (Xw ad ca σ) sz)) 0 0 (va_A (Xw ad ca σ) sz) := by
  refine vq_ofW (cc := prog_8_method_9_code) (maxL := 4) (ret := (Option.some Jvm.ClassFile.FieldType.int)) pl_U (vq_his k_274) ?_
  intro p e s m args below meth c s₁ B hml hv
  obtain ⟨rfl, hst, hsz, hP, hK, hD0⟩ := hv
  have hx := B.exec
  have hb := B.bytes
  have hr := B.returns
  have hts := atoms_spec (ws := WS) B.pre
  have hown : s.vm.findClass R_U = some m.cls := findClass_of_methodNamed B.named
  have hlocks := B.notSynchronized
  have hno := vq_noH B (hts _ k_274)
  subst hsz
  have hN := vq_ns hP
  have hD := hD0.self (sz := s.heap.size)
  generalize hAe : va_A (Xw ad ca σ) s.heap.size = A at hD hN ⊢
  have hA : ∀ q : Nat, s.heap.size ≤ q → A q := fun q h => by rw [← hAe]; exact Or.inr h
  have hS : va_S A s.heap s.heap [] := va_S.rf
  have hl := lv_entry ([.ref (ad 7), .int a0]) (n := 4) (Nat.le_of_ble_eq_true rfl)
  rw [lg_entry_eq]
  generalize (lg_sl ([.ref (ad 7), .int a0]) ++ List.replicate (4 - (lg_sl ([.ref (ad 7), .int a0])).length) Slot.unset).toArray = ls at hl ⊢
  have hl : lv_has ls 4 [(0, .ref (ad 7)), (1, .int a0)] := hl
  unfold f_U_result at h
  refine lv_aload_n hx hb d_U_result_0 rfl (lv_at hl 0 rfl) ?_
  refine g_U_grammar dC dI ad ca σ hx hb hts hown hK hP k_255 d_U_result_1 ?_
  refine gN_G_firsts dC dI ad ca σ hx hb hts hown hK hP k_275 d_U_result_4 ?_
  refine lv_iload_n hx hb d_U_result_7 rfl (lv_at hl 1 rfl) ?_
  obtain ⟨hi1, h⟩ := vq_bd h
  refine al_X8 dC dI ad ca σ hx hb hts hown hK hP hi1 d_U_result_8 ?_
  obtain ⟨i2, ei2, h⟩ := vq_let h
  refine vq_top ei2.symm ?_
  refine lv_istore_n (lv' := [(2, .int i2), (0, .ref (ad 7)), (1, .int a0)]) hx hb d_U_result_9 rfl hl (by decide) rfl (fun ls hl => ?_)
  refine lv_aload_n hx hb d_U_result_10 rfl (lv_at hl 1 rfl) ?_
  refine g_U_grammar dC dI ad ca σ hx hb hts hown hK hP k_255 d_U_result_11 ?_
  refine gN_G_seconds dC dI ad ca σ hx hb hts hown hK hP k_276 d_U_result_14 ?_
  refine lv_iload_n hx hb d_U_result_17 rfl (lv_at hl 2 rfl) ?_
  obtain ⟨hi3, h⟩ := vq_bd h
  refine al_X9 dC dI ad ca σ hx hb hts hown hK hP hi3 d_U_result_18 ?_
  obtain ⟨i4, ei4, h⟩ := vq_let h
  refine vq_top ei4.symm ?_
  refine lv_istore_n (lv' := [(3, .int i4), (2, .int i2), (0, .ref (ad 7)), (1, .int a0)]) hx hb d_U_result_19 rfl hl (by decide) rfl (fun ls hl => ?_)
  refine lv_aload_n hx hb d_U_result_20 rfl (lv_at hl 2 rfl) ?_
  refine g_U_grammar dC dI ad ca σ hx hb hts hown hK hP k_255 d_U_result_21 ?_
  refine gN_G_forms dC dI ad ca σ hx hb hts hown hK hP k_277 d_U_result_24 ?_
  refine lv_iload_n hx hb d_U_result_27 rfl (lv_at hl 3 rfl) ?_
  obtain ⟨hi5, h⟩ := vq_bd h
  refine al_X7 dC dI ad ca σ hx hb hts hown hK hP hi5 d_U_result_28 ?_
  obtain ⟨i6, ei6, h⟩ := vq_let h
  refine vq_top ei6.symm ?_
  by_cases hc7 : i6 = 0
  ·
    rw [if_pos hc7] at h
    refine vq_top (y := 0) hc7 ?_
    refine lv_tableIn (x := 0) (off := 43) (tgt := 72) hx hb d_U_result_29 (by decide) (by decide) (by decide) (by decide) ?_
    refine lv_iload_n hx hb d_U_result_72 rfl (lv_at hl 1 rfl) ?_
    have h9 := Option.some.inj h
    rw [← h9]
    exact W.iret (v := i2) hx hb hr (fun t ht hW => ⟨⟨i2, (), rfl, rfl, by rw [ht]; exact hP, va_K.moved hW.alike hK, hD⟩, hS.F ht⟩) hS.2.2 d_U_result_73
  rw [if_neg hc7] at h
  by_cases hc8 : i6 = 1
  ·
    rw [if_pos hc8] at h
    refine vq_top (y := 1) hc8 ?_
    refine lv_tableIn (x := 1) (off := 45) (tgt := 74) hx hb d_U_result_29 (by decide) (by decide) (by decide) (by decide) ?_
    refine lv_aload_n hx hb d_U_result_74 rfl (lv_at hl 2 rfl) ?_
    refine g_U_tree dC dI ad ca σ hx hb hts hown hK hP k_257 d_U_result_75 ?_
    refine gN_Z_tokens dC dI ad ca σ hx hb hts hown hK hP k_278 d_U_result_78 ?_
    refine lv_aload_n hx hb d_U_result_81 rfl (lv_at hl 2 rfl) ?_
    refine g_U_nodeAtHand dC dI ad ca σ hx hb hts hown hK hP k_260 d_U_result_82 ?_
    obtain ⟨hi9, h⟩ := vq_bd h
    refine al_X20 dC dI ad ca σ hx hb hts hown hK hP hi9 d_U_result_85 ?_
    obtain ⟨i10, ei10, h⟩ := vq_let h
    refine vq_top ei10.symm ?_
    have h9 := Option.some.inj h
    rw [← h9]
    exact W.iret (v := i10) hx hb hr (fun t ht hW => ⟨⟨i10, (), rfl, rfl, by rw [ht]; exact hP, va_K.moved hW.alike hK, hD⟩, hS.F ht⟩) hS.2.2 d_U_result_86
  rw [if_neg hc8] at h
  by_cases hc11 : i6 = 2
  ·
    rw [if_pos hc11] at h
    refine vq_top (y := 2) hc11 ?_
    refine lv_tableIn (x := 2) (off := 58) (tgt := 87) hx hb d_U_result_29 (by decide) (by decide) (by decide) (by decide) ?_
    refine lv_aload_n hx hb d_U_result_87 rfl (lv_at hl 2 rfl) ?_
    refine lv_iload_n hx hb d_U_result_88 rfl (lv_at hl 1 rfl) ?_
    obtain ⟨q12, h13, h⟩ := vq_bi h
    have hFc := vq_freeAll hD hS hA
    refine va_calli (va_runV (As := [.int i2]) (rest := []) ⟨hx, hb, hml, hown, hts⟩ (c_U_valueOf l htr dC dI ad ca N σ i2 q12 h13 s.heap.size) (vq_cV WSk hts 1 rfl rfl ⟨by decide, by decide⟩ k_273 k_279 k_280 k_281 k_282 (by decide +kernel)) ⟨vq_blind, va_recv hK hP (ci := 7) (q0 := 7) rfl rfl, vq_here hst hS hN hP hK hD⟩ rfl rfl hl.1 rfl (lv_room (Nat.le_of_ble_eq_true rfl)) d_U_result_89 ⟨by decide, by decide⟩) hS (fun q _ h => hFc q h) hFc (fun r u t H1 locs ht hvm hw hB hz1 hk1 hS => ?_)
    obtain ⟨hP, -, hD1⟩ := hB
    rw [ht] at hP
    have hD := hD1.weaken (fun _ _ _ h => hFc _ h)
    have hw : r = q12.1 := hw
    subst hw
    generalize H1 = H at hP hS ⊢
    refine W.widen (k := 0) (n := 0) (by decide) (by decide) ?_
    have h9 := Option.some.inj h
    rw [← h9]
    exact W.iret (v := (q12.1)) hx hb hr (fun t ht hW => ⟨⟨(q12.1), (), rfl, rfl, by rw [ht]; exact hP, va_K.moved hW.alike hK, hD⟩, hS.F ht⟩) hS.2.2 d_U_result_92
  rw [if_neg hc11] at h
  by_cases hc14 : i6 = 3
  ·
    rw [if_pos hc14] at h
    refine vq_top (y := 3) hc14 ?_
    refine lv_tableIn (x := 3) (off := 64) (tgt := 93) hx hb d_U_result_29 (by decide) (by decide) (by decide) (by decide) ?_
    refine lv_aload_n hx hb d_U_result_93 rfl (lv_at hl 2 rfl) ?_
    refine lv_iload_n hx hb d_U_result_94 rfl (lv_at hl 1 rfl) ?_
    obtain ⟨q15, h16, h⟩ := vq_bi h
    have hFc := vq_freeAll hD hS hA
    refine va_calli (va_runV (As := [.int i2]) (rest := []) ⟨hx, hb, hml, hown, hts⟩ (c_U_valueOf l htr dC dI ad ca N σ i2 q15 h16 s.heap.size) (vq_cV WSk hts 1 rfl rfl ⟨by decide, by decide⟩ k_273 k_279 k_280 k_281 k_282 (by decide +kernel)) ⟨vq_blind, va_recv hK hP (ci := 7) (q0 := 7) rfl rfl, vq_here hst hS hN hP hK hD⟩ rfl rfl hl.1 rfl (lv_room (Nat.le_of_ble_eq_true rfl)) d_U_result_95 ⟨by decide, by decide⟩) hS (fun q _ h => hFc q h) hFc (fun r u t H1 locs ht hvm hw hB hz1 hk1 hS => ?_)
    obtain ⟨hP, -, hD1⟩ := hB
    rw [ht] at hP
    have hD := hD1.weaken (fun _ _ _ h => hFc _ h)
    have hw : r = q15.1 := hw
    subst hw
    generalize H1 = H at hP hS ⊢
    refine W.widen (k := 0) (n := 0) (by decide) (by decide) ?_
    refine lv_aload_n hx hb d_U_result_98 rfl (lv_at hl 2 rfl) ?_
    refine lv_iload_n hx hb d_U_result_99 rfl (lv_at hl 0 rfl) ?_
    obtain ⟨q17, h18, h⟩ := vq_bi h
    have hFc := vq_freeAll hD hS hA
    refine va_calli (va_runV (As := [.int i4]) (rest := [.int (q15.1)]) ⟨hx, hb, hml, hown, hts⟩ (c_U_valueOf l htr dC dI ad ca N q15.2 i4 q17 h18 H.size) (vq_cV WSk hts 1 rfl rfl ⟨by decide, by decide⟩ k_273 k_279 k_280 k_281 k_282 (by decide +kernel)) ⟨vq_blind, va_recv hK hP (ci := 7) (q0 := 7) rfl rfl, vq_here hst hS hN hP hK hD⟩ rfl rfl hl.1 rfl (lv_room (Nat.le_of_ble_eq_true rfl)) d_U_result_100 ⟨by decide, by decide⟩) hS (fun q _ h => hFc q h) hFc (fun r u t H1 locs ht hvm hw hB hz1 hk1 hS => ?_)
    obtain ⟨hP, -, hD1⟩ := hB
    rw [ht] at hP
    have hD := hD1.weaken (fun _ _ _ h => hFc _ h)
    have hw : r = q17.1 := hw
    subst hw
    generalize H1 = H at hP hS ⊢
    refine W.widen (k := 0) (n := 0) (by decide) (by decide) ?_
    refine lv_iadd hx hb d_U_result_103 ?_
    have h9 := Option.some.inj h
    rw [← h9]
    exact W.iret (v := ((q15.1) + (q17.1))) hx hb hr (fun t ht hW => ⟨⟨((q15.1) + (q17.1)), (), rfl, rfl, by rw [ht]; exact hP, va_K.moved hW.alike hK, hD⟩, hS.F ht⟩) hS.2.2 d_U_result_104
  rw [if_neg hc14] at h
  by_cases hc19 : i6 = 4
  ·
    rw [if_pos hc19] at h
    refine vq_top (y := 4) hc19 ?_
    refine lv_tableIn (x := 4) (off := 76) (tgt := 105) hx hb d_U_result_29 (by decide) (by decide) (by decide) (by decide) ?_
    refine lv_aload_n hx hb d_U_result_105 rfl (lv_at hl 2 rfl) ?_
    refine lv_iload_n hx hb d_U_result_106 rfl (lv_at hl 1 rfl) ?_
    obtain ⟨q20, h21, h⟩ := vq_bi h
    have hFc := vq_freeAll hD hS hA
    refine va_calli (va_runV (As := [.int i2]) (rest := []) ⟨hx, hb, hml, hown, hts⟩ (c_U_valueOf l htr dC dI ad ca N σ i2 q20 h21 s.heap.size) (vq_cV WSk hts 1 rfl rfl ⟨by decide, by decide⟩ k_273 k_279 k_280 k_281 k_282 (by decide +kernel)) ⟨vq_blind, va_recv hK hP (ci := 7) (q0 := 7) rfl rfl, vq_here hst hS hN hP hK hD⟩ rfl rfl hl.1 rfl (lv_room (Nat.le_of_ble_eq_true rfl)) d_U_result_107 ⟨by decide, by decide⟩) hS (fun q _ h => hFc q h) hFc (fun r u t H1 locs ht hvm hw hB hz1 hk1 hS => ?_)
    obtain ⟨hP, -, hD1⟩ := hB
    rw [ht] at hP
    have hD := hD1.weaken (fun _ _ _ h => hFc _ h)
    have hw : r = q20.1 := hw
    subst hw
    generalize H1 = H at hP hS ⊢
    refine W.widen (k := 0) (n := 0) (by decide) (by decide) ?_
    refine lv_aload_n hx hb d_U_result_110 rfl (lv_at hl 2 rfl) ?_
    refine lv_iload_n hx hb d_U_result_111 rfl (lv_at hl 0 rfl) ?_
    obtain ⟨q22, h23, h⟩ := vq_bi h
    have hFc := vq_freeAll hD hS hA
    refine va_calli (va_runV (As := [.int i4]) (rest := [.int (q20.1)]) ⟨hx, hb, hml, hown, hts⟩ (c_U_valueOf l htr dC dI ad ca N q20.2 i4 q22 h23 H.size) (vq_cV WSk hts 1 rfl rfl ⟨by decide, by decide⟩ k_273 k_279 k_280 k_281 k_282 (by decide +kernel)) ⟨vq_blind, va_recv hK hP (ci := 7) (q0 := 7) rfl rfl, vq_here hst hS hN hP hK hD⟩ rfl rfl hl.1 rfl (lv_room (Nat.le_of_ble_eq_true rfl)) d_U_result_112 ⟨by decide, by decide⟩) hS (fun q _ h => hFc q h) hFc (fun r u t H1 locs ht hvm hw hB hz1 hk1 hS => ?_)
    obtain ⟨hP, -, hD1⟩ := hB
    rw [ht] at hP
    have hD := hD1.weaken (fun _ _ _ h => hFc _ h)
    have hw : r = q22.1 := hw
    subst hw
    generalize H1 = H at hP hS ⊢
    refine W.widen (k := 0) (n := 0) (by decide) (by decide) ?_
    refine lv_isub hx hb d_U_result_115 ?_
    have h9 := Option.some.inj h
    rw [← h9]
    exact W.iret (v := ((q20.1) - (q22.1))) hx hb hr (fun t ht hW => ⟨⟨((q20.1) - (q22.1)), (), rfl, rfl, by rw [ht]; exact hP, va_K.moved hW.alike hK, hD⟩, hS.F ht⟩) hS.2.2 d_U_result_116
  rw [if_neg hc19] at h
  by_cases hc24 : i6 = 5
  ·
    rw [if_pos hc24] at h
    refine vq_top (y := 5) hc24 ?_
    refine lv_tableIn (x := 5) (off := 88) (tgt := 117) hx hb d_U_result_29 (by decide) (by decide) (by decide) (by decide) ?_
    refine lv_aload_n hx hb d_U_result_117 rfl (lv_at hl 2 rfl) ?_
    refine lv_iload_n hx hb d_U_result_118 rfl (lv_at hl 1 rfl) ?_
    obtain ⟨q25, h26, h⟩ := vq_bi h
    have hFc := vq_freeAll hD hS hA
    refine va_calli (va_runV (As := [.int i2]) (rest := []) ⟨hx, hb, hml, hown, hts⟩ (c_U_valueOf l htr dC dI ad ca N σ i2 q25 h26 s.heap.size) (vq_cV WSk hts 1 rfl rfl ⟨by decide, by decide⟩ k_273 k_279 k_280 k_281 k_282 (by decide +kernel)) ⟨vq_blind, va_recv hK hP (ci := 7) (q0 := 7) rfl rfl, vq_here hst hS hN hP hK hD⟩ rfl rfl hl.1 rfl (lv_room (Nat.le_of_ble_eq_true rfl)) d_U_result_119 ⟨by decide, by decide⟩) hS (fun q _ h => hFc q h) hFc (fun r u t H1 locs ht hvm hw hB hz1 hk1 hS => ?_)
    obtain ⟨hP, -, hD1⟩ := hB
    rw [ht] at hP
    have hD := hD1.weaken (fun _ _ _ h => hFc _ h)
    have hw : r = q25.1 := hw
    subst hw
    generalize H1 = H at hP hS ⊢
    refine W.widen (k := 0) (n := 0) (by decide) (by decide) ?_
    refine lv_aload_n hx hb d_U_result_122 rfl (lv_at hl 2 rfl) ?_
    refine lv_iload_n hx hb d_U_result_123 rfl (lv_at hl 0 rfl) ?_
    obtain ⟨q27, h28, h⟩ := vq_bi h
    have hFc := vq_freeAll hD hS hA
    refine va_calli (va_runV (As := [.int i4]) (rest := [.int (q25.1)]) ⟨hx, hb, hml, hown, hts⟩ (c_U_valueOf l htr dC dI ad ca N q25.2 i4 q27 h28 H.size) (vq_cV WSk hts 1 rfl rfl ⟨by decide, by decide⟩ k_273 k_279 k_280 k_281 k_282 (by decide +kernel)) ⟨vq_blind, va_recv hK hP (ci := 7) (q0 := 7) rfl rfl, vq_here hst hS hN hP hK hD⟩ rfl rfl hl.1 rfl (lv_room (Nat.le_of_ble_eq_true rfl)) d_U_result_124 ⟨by decide, by decide⟩) hS (fun q _ h => hFc q h) hFc (fun r u t H1 locs ht hvm hw hB hz1 hk1 hS => ?_)
    obtain ⟨hP, -, hD1⟩ := hB
    rw [ht] at hP
    have hD := hD1.weaken (fun _ _ _ h => hFc _ h)
    have hw : r = q27.1 := hw
    subst hw
    generalize H1 = H at hP hS ⊢
    refine W.widen (k := 0) (n := 0) (by decide) (by decide) ?_
    refine lv_imul hx hb d_U_result_127 ?_
    have h9 := Option.some.inj h
    rw [← h9]
    exact W.iret (v := ((q25.1) * (q27.1))) hx hb hr (fun t ht hW => ⟨⟨((q25.1) * (q27.1)), (), rfl, rfl, by rw [ht]; exact hP, va_K.moved hW.alike hK, hD⟩, hS.F ht⟩) hS.2.2 d_U_result_128
  rw [if_neg hc24] at h
  by_cases hc29 : i6 = 6
  ·
    rw [if_pos hc29] at h
    refine vq_top (y := 6) hc29 ?_
    refine lv_tableIn (x := 6) (off := 100) (tgt := 129) hx hb d_U_result_29 (by decide) (by decide) (by decide) (by decide) ?_
    refine lv_aload_n hx hb d_U_result_129 rfl (lv_at hl 2 rfl) ?_
    refine lv_iload_n hx hb d_U_result_130 rfl (lv_at hl 1 rfl) ?_
    obtain ⟨q30, h31, h⟩ := vq_bi h
    have hFc := vq_freeAll hD hS hA
    refine va_calli (va_runV (As := [.int i2]) (rest := []) ⟨hx, hb, hml, hown, hts⟩ (c_U_valueOf l htr dC dI ad ca N σ i2 q30 h31 s.heap.size) (vq_cV WSk hts 1 rfl rfl ⟨by decide, by decide⟩ k_273 k_279 k_280 k_281 k_282 (by decide +kernel)) ⟨vq_blind, va_recv hK hP (ci := 7) (q0 := 7) rfl rfl, vq_here hst hS hN hP hK hD⟩ rfl rfl hl.1 rfl (lv_room (Nat.le_of_ble_eq_true rfl)) d_U_result_131 ⟨by decide, by decide⟩) hS (fun q _ h => hFc q h) hFc (fun r u t H1 locs ht hvm hw hB hz1 hk1 hS => ?_)
    obtain ⟨hP, -, hD1⟩ := hB
    rw [ht] at hP
    have hD := hD1.weaken (fun _ _ _ h => hFc _ h)
    have hw : r = q30.1 := hw
    subst hw
    generalize H1 = H at hP hS ⊢
    refine W.widen (k := 0) (n := 0) (by decide) (by decide) ?_
    refine lv_aload_n hx hb d_U_result_134 rfl (lv_at hl 2 rfl) ?_
    refine lv_iload_n hx hb d_U_result_135 rfl (lv_at hl 0 rfl) ?_
    obtain ⟨q32, h33, h⟩ := vq_bi h
    have hFc := vq_freeAll hD hS hA
    refine va_calli (va_runV (As := [.int i4]) (rest := [.int (q30.1)]) ⟨hx, hb, hml, hown, hts⟩ (c_U_valueOf l htr dC dI ad ca N q30.2 i4 q32 h33 H.size) (vq_cV WSk hts 1 rfl rfl ⟨by decide, by decide⟩ k_273 k_279 k_280 k_281 k_282 (by decide +kernel)) ⟨vq_blind, va_recv hK hP (ci := 7) (q0 := 7) rfl rfl, vq_here hst hS hN hP hK hD⟩ rfl rfl hl.1 rfl (lv_room (Nat.le_of_ble_eq_true rfl)) d_U_result_136 ⟨by decide, by decide⟩) hS (fun q _ h => hFc q h) hFc (fun r u t H1 locs ht hvm hw hB hz1 hk1 hS => ?_)
    obtain ⟨hP, -, hD1⟩ := hB
    rw [ht] at hP
    have hD := hD1.weaken (fun _ _ _ h => hFc _ h)
    have hw : r = q32.1 := hw
    subst hw
    generalize H1 = H at hP hS ⊢
    refine W.widen (k := 0) (n := 0) (by decide) (by decide) ?_
    refine va_mmax hx hb (hml.trans hl.1.symm) hown (hts _ k_283) (hts _ k_118) (hts _ k_119) (hts _ k_120) (by decide) (by decide) (by decide) (by decide) d_U_result_139 ?_
    have h9 := Option.some.inj h
    rw [← h9]
    exact W.iret (v := (if (q30.1) < (q32.1) then (q32.1) else (q30.1))) hx hb hr (fun t ht hW => ⟨⟨(if (q30.1) < (q32.1) then (q32.1) else (q30.1)), (), rfl, rfl, by rw [ht]; exact hP, va_K.moved hW.alike hK, hD⟩, hS.F ht⟩) hS.2.2 d_U_result_142
  rw [if_neg hc29] at h
  refine lv_tableOut (tgt := 143) hx hb d_U_result_29 (vq_out7 hc7 hc8 hc11 hc14 hc19 hc24 hc29) (by decide) ?_
  refine lv_aload_n hx hb d_U_result_143 rfl (lv_at hl 2 rfl) ?_
  refine g_U_tree dC dI ad ca σ hx hb hts hown hK hP k_257 d_U_result_144 ?_
  refine gN_Z_tokens dC dI ad ca σ hx hb hts hown hK hP k_278 d_U_result_147 ?_
  refine lv_aload_n hx hb d_U_result_150 rfl (lv_at hl 2 rfl) ?_
  refine g_U_nodeAtHand dC dI ad ca σ hx hb hts hown hK hP k_260 d_U_result_151 ?_
  obtain ⟨hi34, h⟩ := vq_bd h
  refine al_X20 dC dI ad ca σ hx hb hts hown hK hP hi34 d_U_result_154 ?_
  obtain ⟨i35, ei35, h⟩ := vq_let h
  refine vq_top ei35.symm ?_
  refine lv_aload_n hx hb d_U_result_155 rfl (lv_at hl 2 rfl) ?_
  refine lv_iload_n hx hb d_U_result_156 rfl (lv_at hl 1 rfl) ?_
  obtain ⟨q36, h37, h⟩ := vq_bi h
  have hFc := vq_freeAll hD hS hA
  refine va_calli (va_runV (As := [.int i2]) (rest := [.int i35]) ⟨hx, hb, hml, hown, hts⟩ (c_U_valueOf l htr dC dI ad ca N σ i2 q36 h37 s.heap.size) (vq_cV WSk hts 1 rfl rfl ⟨by decide, by decide⟩ k_273 k_279 k_280 k_281 k_282 (by decide +kernel)) ⟨vq_blind, va_recv hK hP (ci := 7) (q0 := 7) rfl rfl, vq_here hst hS hN hP hK hD⟩ rfl rfl hl.1 rfl (lv_room (Nat.le_of_ble_eq_true rfl)) d_U_result_157 ⟨by decide, by decide⟩) hS (fun q _ h => hFc q h) hFc (fun r u t H1 locs ht hvm hw hB hz1 hk1 hS => ?_)
  obtain ⟨hP, -, hD1⟩ := hB
  rw [ht] at hP
  have hD := hD1.weaken (fun _ _ _ h => hFc _ h)
  have hw : r = q36.1 := hw
  subst hw
  generalize H1 = H at hP hS ⊢
  refine W.widen (k := 0) (n := 0) (by decide) (by decide) ?_
  refine lv_iadd hx hb d_U_result_160 ?_
  have h9 := Option.some.inj h
  rw [← h9]
  exact W.iret (v := (i35 + (q36.1))) hx hb hr (fun t ht hW => ⟨⟨(i35 + (q36.1)), (), rfl, rfl, by rw [ht]; exact hP, va_K.moved hW.alike hK, hD⟩, hS.F ht⟩) hS.2.2 d_U_result_161

set_option maxHeartbeats 4000000 in
set_option maxRecDepth 100000 in
theorem c_U_step (l : Launch) (htr : l.stackTraces = false) (dC : Nat → ClassId) (dI : Nat → Nat → Nat) (ad : Nat → Nat) (ca : Nat → ClassId) (N : Nat) (σ : vS) (v : Int32 × vS) (h : f_U_step N σ = some v) (sz : Nat) : Met l y_U_step WS ({ frames := 3, cells := 0, slots := 0, locals := 67 }) (va_Pc [.ref (ad 7)] (vq_Pre (dC, dI) CL sz (Xw ad ca σ) (Xt ca))) (va_Qv (fun _ : Unit => True) (fun _ t => vq_Post (dC, dI) CL (va_A (Xw ad ca σ) sz) (Xw ad ca v.2) (Xt ca) t) (va_A (Xw ad ca σ) sz)) 0 0 (va_A (Xw ad ca σ) sz) := by
  refine vq_ofW (cc := prog_8_method_6_code) (maxL := 3) (ret := (Option.none : Option Jvm.ClassFile.FieldType)) pl_U (vq_his k_284) ?_
  intro p e s m args below meth c s₁ B hml hv
  obtain ⟨rfl, hst, hsz, hP, hK, hD0⟩ := hv
  have hx := B.exec
  have hb := B.bytes
  have hr := B.returns
  have hts := atoms_spec (ws := WS) B.pre
  have hown : s.vm.findClass R_U = some m.cls := findClass_of_methodNamed B.named
  have hlocks := B.notSynchronized
  have hno := vq_noH B (hts _ k_284)
  subst hsz
  have hN := vq_ns hP
  have hD := hD0.self (sz := s.heap.size)
  generalize hAe : va_A (Xw ad ca σ) s.heap.size = A at hD hN ⊢
  have hA : ∀ q : Nat, s.heap.size ≤ q → A q := fun q h => by rw [← hAe]; exact Or.inr h
  have hS : va_S A s.heap s.heap [] := va_S.rf
  have hl := lv_entry ([.ref (ad 7)]) (n := 3) (Nat.le_of_ble_eq_true rfl)
  rw [lg_entry_eq]
  generalize (lg_sl ([.ref (ad 7)]) ++ List.replicate (3 - (lg_sl ([.ref (ad 7)])).length) Slot.unset).toArray = ls at hl ⊢
  have hl : lv_has ls 3 [(0, .ref (ad 7))] := hl
  unfold f_U_step at h
  refine lv_aload_n hx hb d_U_step_0 rfl (lv_at hl 0 rfl) ?_
  refine g_U_tree dC dI ad ca σ hx hb hts hown hK hP k_257 d_U_step_1 ?_
  refine gN_Z_productions dC dI ad ca σ hx hb hts hown hK hP k_285 d_U_step_4 ?_
  refine lv_aload_n hx hb d_U_step_7 rfl (lv_at hl 0 rfl) ?_
  refine g_U_nodeAtHand dC dI ad ca σ hx hb hts hown hK hP k_260 d_U_step_8 ?_
  obtain ⟨hi1, h⟩ := vq_bd h
  refine al_X19 dC dI ad ca σ hx hb hts hown hK hP hi1 d_U_step_11 ?_
  obtain ⟨i2, ei2, h⟩ := vq_let h
  refine vq_top ei2.symm ?_
  refine lv_istore_n (lv' := [(1, .int i2), (0, .ref (ad 7))]) hx hb d_U_step_12 rfl hl (by decide) rfl (fun ls hl => ?_)
  refine lv_aload_n hx hb d_U_step_13 rfl (lv_at hl 1 rfl) ?_
  refine g_U_sequences dC dI ad ca σ hx hb hts hown hK hP k_266 d_U_step_14 ?_
  refine lv_iload_n hx hb d_U_step_17 rfl (lv_at hl 0 rfl) ?_
  refine lv_aload_n hx hb d_U_step_18 rfl (lv_at hl 1 rfl) ?_
  refine g_U_instructionsDone dC dI ad ca σ hx hb hts hown hK hP k_248 d_U_step_19 ?_
  refine lv_aload_n hx hb d_U_step_22 rfl (lv_at hl 1 rfl) ?_
  refine g_U_nodeAtHand dC dI ad ca σ hx hb hts hown hK hP k_260 d_U_step_23 ?_
  obtain ⟨hi3, h⟩ := vq_bd h
  refine al_X26 dC dI ad ca σ hx hb hts hown hK hP hi3 d_U_step_26 ?_
  obtain ⟨i4, ei4, h⟩ := vq_let h
  refine vq_top ei4.symm ?_
  obtain ⟨q5, h6, h⟩ := vq_bi h
  have hFc := vq_freeAll hD hS hA
  refine va_calli (va_runV (As := [.int i2, .int i4]) (rest := []) ⟨hx, hb, hml, hown, hts⟩ (c_Q_at l htr dC dI ad ca N σ i2 i4 q5 h6 s.heap.size) (vq_cV WSk hts 2 rfl rfl ⟨by decide, by decide⟩ k_149 k_169 k_286 k_287 k_288 (by decide +kernel)) ⟨vq_blind, va_recv hK hP (ci := 5) (q0 := 5) rfl rfl, vq_here hst hS hN hP hK hD⟩ rfl rfl hl.1 rfl (lv_room (Nat.le_of_ble_eq_true rfl)) d_U_step_27 ⟨by decide, by decide⟩) hS (fun q _ h => hFc q h) hFc (fun r u t H1 locs ht hvm hw hB hz1 hk1 hS => ?_)
  obtain ⟨hP, -, hD1⟩ := hB
  rw [ht] at hP
  have hD := hD1.weaken (fun _ _ _ h => hFc _ h)
  have hw : r = q5.1 := hw
  subst hw
  generalize H1 = H at hP hS ⊢
  refine W.widen (k := 0) (n := 0) (by decide) (by decide) ?_
  refine lv_istore_n (lv' := [(2, .int (q5.1)), (1, .int i2), (0, .ref (ad 7))]) hx hb d_U_step_30 rfl hl (by decide) rfl (fun ls hl => ?_)
  refine lv_aload_n hx hb d_U_step_31 rfl (lv_at hl 2 rfl) ?_
  refine g_U_instructionsDone dC dI ad ca q5.2 hx hb hts hown hK hP k_248 d_U_step_32 ?_
  refine lv_aload_n hx hb d_U_step_35 rfl (lv_at hl 2 rfl) ?_
  refine g_U_nodeAtHand dC dI ad ca q5.2 hx hb hts hown hK hP k_260 d_U_step_36 ?_
  refine lv_dup2_11 hx hb d_U_step_39 rfl rfl ?_
  obtain ⟨hi7, h⟩ := vq_bd h
  refine al_X26 dC dI ad ca q5.2 hx hb hts hown hK hP hi7 d_U_step_40 ?_
  obtain ⟨i8, ei8, h⟩ := vq_let h
  refine vq_top ei8.symm ?_
  refine lv_iconst (v := 1) hx hb d_U_step_41 (by decide) ?_
  refine lv_iadd hx hb d_U_step_42 ?_
  obtain ⟨hi9, h⟩ := vq_bd h
  refine as_X26 dC dI ad ca q5.2 hx hb hts hown hK hP hD hS hi9 d_U_step_43 (fun H locs hP hD hS => ?_)
  obtain ⟨σ10, eσ10, h⟩ := vq_let h
  rw [← eσ10] at hP hD
  refine lv_iload_n hx hb d_U_step_44 rfl (lv_at hl 0 rfl) ?_
  refine lv_sipush (v := 1000) hx hb d_U_step_45 (by decide) ?_
  refine lv_icmp_lt (tgt := 59) hx hb d_U_step_48 (by decide) (fun hc11 => ?_) (fun hc11 => ?_)
  ·
    rw [if_pos hc11] at h
    refine lv_iload_n hx hb d_U_step_59 rfl (lv_at hl 0 rfl) ?_
    refine lv_bipush (v := 100) hx hb d_U_step_60 (by decide) ?_
    refine lv_icmp_lt (tgt := 87) hx hb d_U_step_62 (by decide) (fun hc12 => ?_) (fun hc12 => ?_)
    ·
      rw [if_pos hc12] at h
      refine lv_iload_n hx hb d_U_step_87 rfl (lv_at hl 0 rfl) ?_
      refine lv_if_lt (tgt := 106) hx hb d_U_step_88 (by decide) (fun hc13 => ?_) (fun hc13 => ?_)
      ·
        rw [if_pos hc13] at h
        have h9 := Option.some.inj h
        rw [← h9]
        exact W.vret hx hb hr (fun t ht hW => ⟨⟨(), rfl, trivial, by rw [ht]; exact hP, va_K.moved hW.alike hK, hD⟩, hS.F ht⟩) hS.2.2 d_U_step_106
      ·
        rw [if_neg hc13] at h
        refine lv_aload_n hx hb d_U_step_91 rfl (lv_at hl 2 rfl) ?_
        refine lv_iload_n hx hb d_U_step_92 rfl (lv_at hl 0 rfl) ?_
        refine lv_aload_n hx hb d_U_step_93 rfl (lv_at hl 2 rfl) ?_
        refine lv_iload_n hx hb d_U_step_94 rfl (lv_at hl 1 rfl) ?_
        refine lv_bipush (v := 16) hx hb d_U_step_95 (by decide) ?_
        refine lv_imul hx hb d_U_step_97 ?_
        refine lv_iload_n hx hb d_U_step_98 rfl (lv_at hl 0 rfl) ?_
        refine lv_iadd hx hb d_U_step_99 ?_
        obtain ⟨q14, h15, h⟩ := vq_bi h
        have hFc := vq_freeAll hD hS hA
        refine va_calli (va_runV (As := [.int ((i2 * 16) + (q5.1))]) (rest := [.int (q5.1), .ref (ad 7)]) ⟨hx, hb, hml, hown, hts⟩ (c_U_result l htr dC dI ad ca N σ10 ((i2 * 16) + (q5.1)) q14 h15 H.size) (vq_cV WSk hts 1 rfl rfl ⟨by decide, by decide⟩ k_274 k_279 k_289 k_290 k_291 (by decide +kernel)) ⟨vq_blind, va_recv hK hP (ci := 7) (q0 := 7) rfl rfl, vq_here hst hS hN hP hK hD⟩ rfl rfl hl.1 rfl (lv_room (Nat.le_of_ble_eq_true rfl)) d_U_step_100 ⟨by decide, by decide⟩) hS (fun q _ h => hFc q h) hFc (fun r u t H1 locs ht hvm hw hB hz1 hk1 hS => ?_)
        obtain ⟨hP, -, hD1⟩ := hB
        rw [ht] at hP
        have hD := hD1.weaken (fun _ _ _ h => hFc _ h)
        have hw : r = q14.1 := hw
        subst hw
        generalize H1 = H at hP hS ⊢
        refine W.widen (k := 0) (n := 0) (by decide) (by decide) ?_
        obtain ⟨q16, h17, h⟩ := vq_bi h
        have hFc := vq_freeAll hD hS hA
        refine va_callv (va_runV (As := [.int (q5.1), .int (q14.1)]) (rest := []) ⟨hx, hb, hml, hown, hts⟩ (c_U_setOccurrence l htr dC dI ad ca N q14.2 (q5.1) (q14.1) q16 h17 H.size) (vq_cV WSk hts 2 rfl rfl ⟨by decide, by decide⟩ k_269 k_279 k_292 k_293 k_294 (by decide +kernel)) ⟨vq_blind, va_recv hK hP (ci := 7) (q0 := 7) rfl rfl, vq_here hst hS hN hP hK hD⟩ rfl rfl hl.1 rfl (lv_room (Nat.le_of_ble_eq_true rfl)) d_U_step_103 ⟨by decide, by decide⟩) hS (fun q _ h => hFc q h) hFc (fun u t H1 locs ht hvm hw hB hz1 hk1 hS => ?_)
        obtain ⟨hP, -, hD1⟩ := hB
        rw [ht] at hP
        have hD := hD1.weaken (fun _ _ _ h => hFc _ h)
        generalize H1 = H at hP hS ⊢
        refine W.widen (k := 0) (n := 0) (by decide) (by decide) ?_
        have h9 := Option.some.inj h
        rw [← h9]
        exact W.vret hx hb hr (fun t ht hW => ⟨⟨(), rfl, trivial, by rw [ht]; exact hP, va_K.moved hW.alike hK, hD⟩, hS.F ht⟩) hS.2.2 d_U_step_106
    ·
      rw [if_neg hc12] at h
      refine lv_aload_n hx hb d_U_step_65 rfl (lv_at hl 2 rfl) ?_
      refine lv_aload_n hx hb d_U_step_66 rfl (lv_at hl 2 rfl) ?_
      refine g_U_tree dC dI ad ca σ10 hx hb hts hown hK hP k_257 d_U_step_67 ?_
      refine lv_aload_n hx hb d_U_step_70 rfl (lv_at hl 2 rfl) ?_
      refine g_U_nodeAtHand dC dI ad ca σ10 hx hb hts hown hK hP k_260 d_U_step_71 ?_
      refine lv_iload_n hx hb d_U_step_74 rfl (lv_at hl 0 rfl) ?_
      refine lv_bipush (v := 100) hx hb d_U_step_75 (by decide) ?_
      refine lv_idiv hx hb d_U_step_77 (by decide) ?_
      obtain ⟨q18, h19, h⟩ := vq_bi h
      have hFc := vq_freeAll hD hS hA
      refine va_calli (va_runV (As := [.int (σ10.1 11), .int ((q5.1) / 100)]) (rest := [.ref (ad 7)]) ⟨hx, hb, hml, hown, hts⟩ (c_Z_nodeAt l htr dC dI ad ca N σ10 (σ10.1 11) ((q5.1) / 100) q18 h19 H.size) (vq_cV WSk hts 2 rfl rfl ⟨by decide, by decide⟩ k_222 k_226 k_270 k_271 k_272 (by decide +kernel)) ⟨vq_blind, va_recv hK hP (ci := 6) (q0 := 6) rfl rfl, vq_here hst hS hN hP hK hD⟩ rfl rfl hl.1 rfl (lv_room (Nat.le_of_ble_eq_true rfl)) d_U_step_78 ⟨by decide, by decide⟩) hS (fun q _ h => hFc q h) hFc (fun r u t H1 locs ht hvm hw hB hz1 hk1 hS => ?_)
      obtain ⟨hP, -, hD1⟩ := hB
      rw [ht] at hP
      have hD := hD1.weaken (fun _ _ _ h => hFc _ h)
      have hw : r = q18.1 := hw
      subst hw
      generalize H1 = H at hP hS ⊢
      refine W.widen (k := 0) (n := 0) (by decide) (by decide) ?_
      refine p_U_nodeAtHand dC dI ad ca q18.2 hx hb hts hown hK hP hD hS k_260 d_U_step_81 (fun H locs hP hD hS => ?_)
      obtain ⟨σ20, eσ20, h⟩ := vq_let h
      rw [← eσ20] at hP hD
      refine lv_goto (tgt := 106) hx hb d_U_step_84 (by decide) ?_
      have h9 := Option.some.inj h
      rw [← h9]
      exact W.vret hx hb hr (fun t ht hW => ⟨⟨(), rfl, trivial, by rw [ht]; exact hP, va_K.moved hW.alike hK, hD⟩, hS.F ht⟩) hS.2.2 d_U_step_106
  ·
    rw [if_neg hc11] at h
    refine lv_aload_n hx hb d_U_step_51 rfl (lv_at hl 2 rfl) ?_
    refine lv_iload_n hx hb d_U_step_52 rfl (lv_at hl 1 rfl) ?_
    obtain ⟨q21, h22, h⟩ := vq_bi h
    have hFc := vq_freeAll hD hS hA
    refine va_callv (va_runV (As := [.int i2]) (rest := []) ⟨hx, hb, hml, hown, hts⟩ (c_U_leaveNode l htr dC dI ad ca N σ10 i2 q21 h22 H.size) (vq_cV WSk hts 1 rfl rfl ⟨by decide, by decide⟩ k_265 k_279 k_295 k_296 k_297 (by decide +kernel)) ⟨vq_blind, va_recv hK hP (ci := 7) (q0 := 7) rfl rfl, vq_here hst hS hN hP hK hD⟩ rfl rfl hl.1 rfl (lv_room (Nat.le_of_ble_eq_true rfl)) d_U_step_53 ⟨by decide, by decide⟩) hS (fun q _ h => hFc q h) hFc (fun u t H1 locs ht hvm hw hB hz1 hk1 hS => ?_)
    obtain ⟨hP, -, hD1⟩ := hB
    rw [ht] at hP
    have hD := hD1.weaken (fun _ _ _ h => hFc _ h)
    generalize H1 = H at hP hS ⊢
    refine W.widen (k := 0) (n := 0) (by decide) (by decide) ?_
    refine lv_goto (tgt := 106) hx hb d_U_step_56 (by decide) ?_
    have h9 := Option.some.inj h
    rw [← h9]
    exact W.vret hx hb hr (fun t ht hW => ⟨⟨(), rfl, trivial, by rw [ht]; exact hP, va_K.moved hW.alike hK, hD⟩, hS.F ht⟩) hS.2.2 d_U_step_106

set_option maxHeartbeats 4000000 in
set_option maxRecDepth 100000 in
theorem c_U_advance (l : Launch) (htr : l.stackTraces = false) (dC : Nat → ClassId) (dI : Nat → Nat → Nat) (ad : Nat → Nat) (ca : Nat → ClassId) (N : Nat) (σ : vS) (a0 : Int32) (v : Int32 × vS) (h : f_U_advance N σ a0 = some v) (sz : Nat) : Met l y_U_advance WS ({ frames := 4, cells := 0, slots := 0, locals := 89 }) (va_Pc [.ref (ad 7), .int a0] (vq_Pre (dC, dI) CL sz (Xw ad ca σ) (Xt ca))) (va_Qi (fun (r : Int32) (_ : Unit) => r = v.1) (fun _ t => vq_Post (dC, dI) CL (va_A (Xw ad ca σ) sz) (Xw ad ca v.2) (Xt ca) t) (va_A (Xw ad ca σ) sz)) 0 0 (va_A (Xw ad ca σ) sz) := by
  refine vq_ofW (cc := prog_8_method_5_code) (maxL := 3) (ret := (Option.some Jvm.ClassFile.FieldType.int)) pl_U (vq_his k_298) ?_
  intro p e s m args below meth c s₁ B hml hv
  obtain ⟨rfl, hst, hsz, hP, hK, hD0⟩ := hv
  have hx := B.exec
  have hb := B.bytes
  have hr := B.returns
  have hts := atoms_spec (ws := WS) B.pre
  have hown : s.vm.findClass R_U = some m.cls := findClass_of_methodNamed B.named
  have hlocks := B.notSynchronized
  have hno := vq_noH B (hts _ k_298)
  subst hsz
  have hN := vq_ns hP
  have hD := hD0.self (sz := s.heap.size)
  generalize hAe : va_A (Xw ad ca σ) s.heap.size = A at hD hN ⊢
  have hA : ∀ q : Nat, s.heap.size ≤ q → A q := fun q h => by rw [← hAe]; exact Or.inr h
  have hS : va_S A s.heap s.heap [] := va_S.rf
  have hl := lv_entry ([.ref (ad 7), .int a0]) (n := 3) (Nat.le_of_ble_eq_true rfl)
  rw [lg_entry_eq]
  generalize (lg_sl ([.ref (ad 7), .int a0]) ++ List.replicate (3 - (lg_sl ([.ref (ad 7), .int a0])).length) Slot.unset).toArray = ls at hl ⊢
  have hl : lv_has ls 3 [(0, .ref (ad 7)), (1, .int a0)] := hl
  unfold f_U_advance at h
  refine lv_iconst (v := 0) hx hb d_U_advance_0 (by decide) ?_
  refine lv_istore_n (lv' := [(2, .int 0), (0, .ref (ad 7)), (1, .int a0)]) hx hb d_U_advance_1 rfl hl (by decide) rfl (fun ls hl => ?_)
  have L2 : ∀ n2 : Nat, ∀ (τ : vS) (x1 : Int32) (x2 : Int32) (H : Heap) (locs : List Loc) (ls : Array Slot), f_U_advance_2 N n2 τ x1 x2 = some v → lv_has ls 3 [(0, .ref (ad 7)), (1, .int x1), (2, .int x2)] → va_P (dC, dI) CL (Xw ad ca τ) H → va_D A (Xw ad ca τ) → va_S A s.heap H locs → W p l e (headSpec WS ({ frames := 4, cells := 0, slots := 0, locals := 89 })).room s m ([.ref (ad 7), .int a0] : List Value).toArray below meth c H locs 0 0 (MQ below (va_Qi (fun (r : Int32) (_ : Unit) => r = v.1) (fun _ t => vq_Post (dC, dI) CL A (Xw ad ca v.2) (Xt ca) t) A) ([.ref (ad 7), .int a0] : List Value).toArray s 0 0 A) (F0 m 2 ls []) := by
    intro n2
    induction n2 with
    | zero =>
      intro τ x1 x2 H locs ls h hl hP hD hS
      rw [f_U_advance_2] at h
      cases h
    | succ n2 ih2 =>
      intro τ x1 x2 H locs ls h hl hP hD hS
      rw [f_U_advance_2] at h
      dsimp only at h
      refine lv_iload_n hx hb d_U_advance_2 rfl (lv_at hl 2 rfl) ?_
      refine lv_iload_n hx hb d_U_advance_3 rfl (lv_at hl 1 rfl) ?_
      refine lv_icmp_ge (tgt := 25) hx hb d_U_advance_4 (by decide) (fun hc1 => ?_) (fun hc1 => ?_)
      ·
        rw [if_pos hc1] at h
        refine lv_iload_n hx hb d_U_advance_25 rfl (lv_at hl 2 rfl) ?_
        have h9 := Option.some.inj h
        rw [← h9]
        exact W.iret (v := x2) hx hb hr (fun t ht hW => ⟨⟨x2, (), rfl, rfl, by rw [ht]; exact hP, va_K.moved hW.alike hK, hD⟩, hS.F ht⟩) hS.2.2 d_U_advance_26
      ·
        rw [if_neg hc1] at h
        refine lv_aload_n hx hb d_U_advance_7 rfl (lv_at hl 0 rfl) ?_
        refine g_U_state dC dI ad ca τ hx hb hts hown hK hP k_261 d_U_advance_8 ?_
        refine lv_iconst (v := 1) hx hb d_U_advance_11 (by decide) ?_
        refine lv_icmp_ne (tgt := 25) hx hb d_U_advance_12 (by decide) (fun hc2 => ?_) (fun hc2 => ?_)
        ·
          rw [if_neg hc2] at h
          refine lv_iload_n hx hb d_U_advance_25 rfl (lv_at hl 2 rfl) ?_
          have h9 := Option.some.inj h
          rw [← h9]
          exact W.iret (v := x2) hx hb hr (fun t ht hW => ⟨⟨x2, (), rfl, rfl, by rw [ht]; exact hP, va_K.moved hW.alike hK, hD⟩, hS.F ht⟩) hS.2.2 d_U_advance_26
        ·
          rw [if_pos hc2] at h
          refine lv_aload_n hx hb d_U_advance_15 rfl (lv_at hl 0 rfl) ?_
          obtain ⟨q3, h4, h⟩ := vq_bi h
          have hFc := vq_freeAll hD hS hA
          refine va_callv (va_runV (As := []) (rest := []) ⟨hx, hb, hml, hown, hts⟩ (c_U_step l htr dC dI ad ca N τ q3 h4 H.size) (vq_cV WSk hts 0 rfl rfl ⟨by decide, by decide⟩ k_284 k_279 k_299 k_300 k_301 (by decide +kernel)) ⟨vq_blind, va_recv hK hP (ci := 7) (q0 := 7) rfl rfl, vq_here hst hS hN hP hK hD⟩ rfl rfl hl.1 rfl (lv_room (Nat.le_of_ble_eq_true rfl)) d_U_advance_16 ⟨by decide, by decide⟩) hS (fun q _ h => hFc q h) hFc (fun u t H1 locs ht hvm hw hB hz1 hk1 hS => ?_)
          obtain ⟨hP, -, hD1⟩ := hB
          rw [ht] at hP
          have hD := hD1.weaken (fun _ _ _ h => hFc _ h)
          generalize H1 = H at hP hS ⊢
          refine W.widen (k := 0) (n := 0) (by decide) (by decide) ?_
          refine lv_iinc (k := 2) (v := (x2 + 1)) (lv' := [(2, .int (x2 + 1)), (0, .ref (ad 7)), (1, .int x1)]) hx hb d_U_advance_19 hl rfl rfl (by decide) rfl (fun ls hl => ?_)
          refine lv_goto (tgt := 2) hx hb d_U_advance_22 (by decide) ?_
          exact ih2 _ _ _ _ _ _ h (lv_sub hl [1, 2, 0] rfl) hP hD hS
  exact L2 N _ _ _ _ _ _ h (lv_sub hl [1, 2, 0] rfl) hP hD hS
