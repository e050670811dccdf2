set_option maxHeartbeats 4000000 in
set_option maxRecDepth 100000 in
theorem c_Z_hasNode (l : Launch) (htr : l.stackTraces = false) (dC : Nat → ClassId) (dI : Nat → Nat → Nat) (ad : Nat → Nat) (ca : Nat → ClassId) (N : Nat) (σ : vS) (a0 : Int32) (v : Int32 × vS) (h : f_Z_hasNode N σ a0 = some v) (sz : Nat) : Met l y_Z_hasNode WS ({ frames := 0, cells := 0, slots := 0, locals := 0 }) (va_Pc [.ref (ad 6), .int a0] (vq_Pre (dC, dI) CL sz (Xw ad ca σ) (Xt ca))) (va_Qi (fun (r : Int32) (_ : Unit) => r = v.1) (fun _ t => vq_Post (dC, dI) CL (va_A (Xw ad ca σ) sz) (Xw ad ca v.2) (Xt ca) t) (va_A (Xw ad ca σ) sz)) 0 0 (va_A (Xw ad ca σ) sz) := by
  refine vq_ofW (cc := prog_7_method_2_code) (maxL := 2) (ret := (Option.some Jvm.ClassFile.FieldType.boolean)) pl_Z (vq_his k_216) ?_
  intro p e s m args below meth c s₁ B hml hv
  obtain ⟨rfl, hst, hsz, hP, hK, hD0⟩ := hv
  have hx := B.exec
  have hb := B.bytes
  have hr := B.returns
  have hts := atoms_spec (ws := WS) B.pre
  have hown : s.vm.findClass R_Z = some m.cls := findClass_of_methodNamed B.named
  have hlocks := B.notSynchronized
  have hno := vq_noH B (hts _ k_216)
  subst hsz
  have hN := vq_ns hP
  have hD := hD0.self (sz := s.heap.size)
  generalize hAe : va_A (Xw ad ca σ) s.heap.size = A at hD hN ⊢
  have hA : ∀ q : Nat, s.heap.size ≤ q → A q := fun q h => by rw [← hAe]; exact Or.inr h
  have hS : va_S A s.heap s.heap [] := va_S.rf
  have hl := lv_entry ([.ref (ad 6), .int a0]) (n := 2) (Nat.le_of_ble_eq_true rfl)
  rw [lg_entry_eq]
  generalize (lg_sl ([.ref (ad 6), .int a0]) ++ List.replicate (2 - (lg_sl ([.ref (ad 6), .int a0])).length) Slot.unset).toArray = ls at hl ⊢
  have hl : lv_has ls 2 [(0, .ref (ad 6)), (1, .int a0)] := hl
  unfold f_Z_hasNode at h
  refine lv_iload_n hx hb d_Z_hasNode_0 rfl (lv_at hl 1 rfl) ?_
  refine lv_if_lt (tgt := 16) hx hb d_Z_hasNode_1 (by decide) (fun hc1 => ?_) (fun hc1 => ?_)
  ·
    rw [if_pos hc1] at h
    refine lv_iconst (v := 0) hx hb d_Z_hasNode_16 (by decide) ?_
    have h9 := Option.some.inj h
    rw [← h9]
    exact W.zret (v := 0) (ty := .boolean) hx hb hr (by decide) (fun t ht hW => ⟨⟨0, (), rfl, rfl, by rw [ht]; exact hP, va_K.moved hW.alike hK, hD⟩, hS.F ht⟩) hS.2.2 d_Z_hasNode_17
  ·
    rw [if_neg hc1] at h
    refine lv_iload_n hx hb d_Z_hasNode_4 rfl (lv_at hl 1 rfl) ?_
    refine lv_aload_n hx hb d_Z_hasNode_5 rfl (lv_at hl 0 rfl) ?_
    refine g_Z_nodeCount dC dI ad ca σ hx hb hts hown hK hP k_217 d_Z_hasNode_6 ?_
    refine lv_icmp_ge (tgt := 16) hx hb d_Z_hasNode_9 (by decide) (fun hc2 => ?_) (fun hc2 => ?_)
    ·
      rw [if_pos hc2] at h
      refine lv_iconst (v := 0) hx hb d_Z_hasNode_16 (by decide) ?_
      have h9 := Option.some.inj h
      rw [← h9]
      exact W.zret (v := 0) (ty := .boolean) hx hb hr (by decide) (fun t ht hW => ⟨⟨0, (), rfl, rfl, by rw [ht]; exact hP, va_K.moved hW.alike hK, hD⟩, hS.F ht⟩) hS.2.2 d_Z_hasNode_17
    ·
      rw [if_neg hc2] at h
      refine lv_iconst (v := 1) hx hb d_Z_hasNode_12 (by decide) ?_
      refine lv_goto (tgt := 17) hx hb d_Z_hasNode_13 (by decide) ?_
      have h9 := Option.some.inj h
      rw [← h9]
      exact W.zret (v := 1) (ty := .boolean) hx hb hr (by decide) (fun t ht hW => ⟨⟨1, (), rfl, rfl, by rw [ht]; exact hP, va_K.moved hW.alike hK, hD⟩, hS.F ht⟩) hS.2.2 d_Z_hasNode_17

set_option maxHeartbeats 4000000 in
set_option maxRecDepth 100000 in
theorem c_Z_symbolOf (l : Launch) (htr : l.stackTraces = false) (dC : Nat → ClassId) (dI : Nat → Nat → Nat) (ad : Nat → Nat) (ca : Nat → ClassId) (N : Nat) (σ : vS) (a0 : Int32) (v : Int32 × vS) (h : f_Z_symbolOf N σ a0 = some v) (sz : Nat) : Met l y_Z_symbolOf WS ({ frames := 1, cells := 0, slots := 0, locals := 22 }) (va_Pc [.ref (ad 6), .int a0] (vq_Pre (dC, dI) CL sz (Xw ad ca σ) (Xt ca))) (va_Qi (fun (r : Int32) (_ : Unit) => r = v.1) (fun _ t => vq_Post (dC, dI) CL (va_A (Xw ad ca σ) sz) (Xw ad ca v.2) (Xt ca) t) (va_A (Xw ad ca σ) sz)) 0 0 (va_A (Xw ad ca σ) sz) := by
  refine vq_ofW (cc := prog_7_method_3_code) (maxL := 2) (ret := (Option.some Jvm.ClassFile.FieldType.int)) pl_Z (vq_his k_218) ?_
  intro p e s m args below meth c s₁ B hml hv
  obtain ⟨rfl, hst, hsz, hP, hK, hD0⟩ := hv
  have hx := B.exec
  have hb := B.bytes
  have hr := B.returns
  have hts := atoms_spec (ws := WS) B.pre
  have hown : s.vm.findClass R_Z = some m.cls := findClass_of_methodNamed B.named
  have hlocks := B.notSynchronized
  have hno := vq_noH B (hts _ k_218)
  subst hsz
  have hN := vq_ns hP
  have hD := hD0.self (sz := s.heap.size)
  generalize hAe : va_A (Xw ad ca σ) s.heap.size = A at hD hN ⊢
  have hA : ∀ q : Nat, s.heap.size ≤ q → A q := fun q h => by rw [← hAe]; exact Or.inr h
  have hS : va_S A s.heap s.heap [] := va_S.rf
  have hl := lv_entry ([.ref (ad 6), .int a0]) (n := 2) (Nat.le_of_ble_eq_true rfl)
  rw [lg_entry_eq]
  generalize (lg_sl ([.ref (ad 6), .int a0]) ++ List.replicate (2 - (lg_sl ([.ref (ad 6), .int a0])).length) Slot.unset).toArray = ls at hl ⊢
  have hl : lv_has ls 2 [(0, .ref (ad 6)), (1, .int a0)] := hl
  unfold f_Z_symbolOf at h
  refine lv_aload_n hx hb d_Z_symbolOf_0 rfl (lv_at hl 0 rfl) ?_
  refine g_Z_grammar dC dI ad ca σ hx hb hts hown hK hP k_219 d_Z_symbolOf_1 ?_
  refine lv_aload_n hx hb d_Z_symbolOf_4 rfl (lv_at hl 0 rfl) ?_
  refine g_Z_productions dC dI ad ca σ hx hb hts hown hK hP k_220 d_Z_symbolOf_5 ?_
  refine lv_iload_n hx hb d_Z_symbolOf_8 rfl (lv_at hl 1 rfl) ?_
  obtain ⟨hi1, h⟩ := vq_bd h
  refine al_X19 dC dI ad ca σ hx hb hts hown hK hP hi1 d_Z_symbolOf_9 ?_
  obtain ⟨i2, ei2, h⟩ := vq_let h
  refine vq_top ei2.symm ?_
  refine lv_iconst (v := 0) hx hb d_Z_symbolOf_10 (by decide) ?_
  obtain ⟨q3, h4, h⟩ := vq_bi h
  have hFc := vq_freeAll hD hS hA
  refine va_calli (va_runV (As := [.int i2, .int 0]) (rest := []) ⟨hx, hb, hml, hown, hts⟩ (c_G_symbolAt l htr dC dI ad ca N σ i2 0 q3 h4 s.heap.size) (vq_cV WSk hts 2 rfl rfl ⟨by decide, by decide⟩ k_40 k_26 k_221 k_81 k_82 (by decide +kernel)) ⟨vq_blind, va_recv hK hP (ci := 1) (q0 := 1) rfl rfl, vq_here hst hS hN hP hK hD⟩ rfl rfl hl.1 rfl (lv_room (Nat.le_of_ble_eq_true rfl)) d_Z_symbolOf_11 ⟨by decide, by decide⟩) hS (fun q _ h => hFc q h) hFc (fun r u t H1 locs ht hvm hw hB hz1 hk1 hS => ?_)
  obtain ⟨hP, -, hD1⟩ := hB
  rw [ht] at hP
  have hD := hD1.weaken (fun _ _ _ h => hFc _ h)
  have hw : r = q3.1 := hw
  subst hw
  generalize H1 = H at hP hS ⊢
  refine W.widen (k := 0) (n := 0) (by decide) (by decide) ?_
  have h9 := Option.some.inj h
  rw [← h9]
  exact W.iret (v := (q3.1)) hx hb hr (fun t ht hW => ⟨⟨(q3.1), (), rfl, rfl, by rw [ht]; exact hP, va_K.moved hW.alike hK, hD⟩, hS.F ht⟩) hS.2.2 d_Z_symbolOf_14

set_option maxHeartbeats 4000000 in
set_option maxRecDepth 100000 in
theorem c_Z_nodeAt (l : Launch) (htr : l.stackTraces = false) (dC : Nat → ClassId) (dI : Nat → Nat → Nat) (ad : Nat → Nat) (ca : Nat → ClassId) (N : Nat) (σ : vS) (a0 : Int32) (a1 : Int32) (v : Int32 × vS) (h : f_Z_nodeAt N σ a0 a1 = some v) (sz : Nat) : Met l y_Z_nodeAt WS ({ frames := 0, cells := 0, slots := 0, locals := 0 }) (va_Pc [.ref (ad 6), .int a0, .int a1] (vq_Pre (dC, dI) CL sz (Xw ad ca σ) (Xt ca))) (va_Qi (fun (r : Int32) (_ : Unit) => r = v.1) (fun _ t => vq_Post (dC, dI) CL (va_A (Xw ad ca σ) sz) (Xw ad ca v.2) (Xt ca) t) (va_A (Xw ad ca σ) sz)) 0 0 (va_A (Xw ad ca σ) sz) := by
  refine vq_ofW (cc := prog_7_method_4_code) (maxL := 3) (ret := (Option.some Jvm.ClassFile.FieldType.int)) pl_Z (vq_his k_222) ?_
  intro p e s m args below meth c s₁ B hml hv
  obtain ⟨rfl, hst, hsz, hP, hK, hD0⟩ := hv
  have hx := B.exec
  have hb := B.bytes
  have hr := B.returns
  have hts := atoms_spec (ws := WS) B.pre
  have hown : s.vm.findClass R_Z = some m.cls := findClass_of_methodNamed B.named
  have hlocks := B.notSynchronized
  have hno := vq_noH B (hts _ k_222)
  subst hsz
  have hN := vq_ns hP
  have hD := hD0.self (sz := s.heap.size)
  generalize hAe : va_A (Xw ad ca σ) s.heap.size = A at hD hN ⊢
  have hA : ∀ q : Nat, s.heap.size ≤ q → A q := fun q h => by rw [← hAe]; exact Or.inr h
  have hS : va_S A s.heap s.heap [] := va_S.rf
  have hl := lv_entry ([.ref (ad 6), .int a0, .int a1]) (n := 3) (Nat.le_of_ble_eq_true rfl)
  rw [lg_entry_eq]
  generalize (lg_sl ([.ref (ad 6), .int a0, .int a1]) ++ List.replicate (3 - (lg_sl ([.ref (ad 6), .int a0, .int a1])).length) Slot.unset).toArray = ls at hl ⊢
  have hl : lv_has ls 3 [(0, .ref (ad 6)), (1, .int a0), (2, .int a1)] := hl
  unfold f_Z_nodeAt at h
  refine lv_aload_n hx hb d_Z_nodeAt_0 rfl (lv_at hl 0 rfl) ?_
  refine g_Z_nodesAt dC dI ad ca σ hx hb hts hown hK hP k_223 d_Z_nodeAt_1 ?_
  refine lv_iload_n hx hb d_Z_nodeAt_4 rfl (lv_at hl 1 rfl) ?_
  refine lv_iconst (v := 4) hx hb d_Z_nodeAt_5 (by decide) ?_
  refine lv_imul hx hb d_Z_nodeAt_6 ?_
  refine lv_iload_n hx hb d_Z_nodeAt_7 rfl (lv_at hl 2 rfl) ?_
  refine lv_iadd hx hb d_Z_nodeAt_8 ?_
  obtain ⟨hi1, h⟩ := vq_bd h
  refine al_X22 dC dI ad ca σ hx hb hts hown hK hP hi1 d_Z_nodeAt_9 ?_
  obtain ⟨i2, ei2, h⟩ := vq_let h
  refine vq_top ei2.symm ?_
  have h9 := Option.some.inj h
  rw [← h9]
  exact W.iret (v := i2) hx hb hr (fun t ht hW => ⟨⟨i2, (), rfl, rfl, by rw [ht]; exact hP, va_K.moved hW.alike hK, hD⟩, hS.F ht⟩) hS.2.2 d_Z_nodeAt_10

set_option maxHeartbeats 4000000 in
set_option maxRecDepth 100000 in
theorem c_Z_canBeChild (l : Launch) (htr : l.stackTraces = false) (dC : Nat → ClassId) (dI : Nat → Nat → Nat) (ad : Nat → Nat) (ca : Nat → ClassId) (N : Nat) (σ : vS) (a0 : Int32) (a1 : Int32) (a2 : Int32) (v : Int32 × vS) (h : f_Z_canBeChild N σ a0 a1 a2 = some v) (sz : Nat) : Met l y_Z_canBeChild WS ({ frames := 2, cells := 0, slots := 0, locals := 43 }) (va_Pc [.ref (ad 6), .int a0, .int a1, .int a2] (vq_Pre (dC, dI) CL sz (Xw ad ca σ) (Xt ca))) (va_Qi (fun (r : Int32) (_ : Unit) => r = v.1) (fun _ t => vq_Post (dC, dI) CL (va_A (Xw ad ca σ) sz) (Xw ad ca v.2) (Xt ca) t) (va_A (Xw ad ca σ) sz)) 0 0 (va_A (Xw ad ca σ) sz) := by
  refine vq_ofW (cc := prog_7_method_6_code) (maxL := 4) (ret := (Option.some Jvm.ClassFile.FieldType.boolean)) pl_Z (vq_his k_224) ?_
  intro p e s m args below meth c s₁ B hml hv
  obtain ⟨rfl, hst, hsz, hP, hK, hD0⟩ := hv
  have hx := B.exec
  have hb := B.bytes
  have hr := B.returns
  have hts := atoms_spec (ws := WS) B.pre
  have hown : s.vm.findClass R_Z = some m.cls := findClass_of_methodNamed B.named
  have hlocks := B.notSynchronized
  have hno := vq_noH B (hts _ k_224)
  subst hsz
  have hN := vq_ns hP
  have hD := hD0.self (sz := s.heap.size)
  generalize hAe : va_A (Xw ad ca σ) s.heap.size = A at hD hN ⊢
  have hA : ∀ q : Nat, s.heap.size ≤ q → A q := fun q h => by rw [← hAe]; exact Or.inr h
  have hS : va_S A s.heap s.heap [] := va_S.rf
  have hl := lv_entry ([.ref (ad 6), .int a0, .int a1, .int a2]) (n := 4) (Nat.le_of_ble_eq_true rfl)
  rw [lg_entry_eq]
  generalize (lg_sl ([.ref (ad 6), .int a0, .int a1, .int a2]) ++ List.replicate (4 - (lg_sl ([.ref (ad 6), .int a0, .int a1, .int a2])).length) Slot.unset).toArray = ls at hl ⊢
  have hl : lv_has ls 4 [(0, .ref (ad 6)), (1, .int a0), (2, .int a1), (3, .int a2)] := hl
  unfold f_Z_canBeChild at h
  refine lv_iload_n hx hb d_Z_canBeChild_0 rfl (lv_at hl 2 rfl) ?_
  refine lv_aload_n hx hb d_Z_canBeChild_1 rfl (lv_at hl 0 rfl) ?_
  refine g_Z_grammar dC dI ad ca σ hx hb hts hown hK hP k_219 d_Z_canBeChild_2 ?_
  refine gN_G_lastPositions dC dI ad ca σ hx hb hts hown hK hP k_225 d_Z_canBeChild_5 ?_
  refine lv_iload_n hx hb d_Z_canBeChild_8 rfl (lv_at hl 1 rfl) ?_
  obtain ⟨hi1, h⟩ := vq_bd h
  refine al_X3 dC dI ad ca σ hx hb hts hown hK hP hi1 d_Z_canBeChild_9 ?_
  obtain ⟨i2, ei2, h⟩ := vq_let h
  refine vq_top ei2.symm ?_
  refine lv_icmp_le (tgt := 24) hx hb d_Z_canBeChild_10 (by decide) (fun hc3 => ?_) (fun hc3 => ?_)
  ·
    rw [if_pos hc3] at h
    refine lv_aload_n hx hb d_Z_canBeChild_24 rfl (lv_at hl 0 rfl) ?_
    refine lv_iload_n hx hb d_Z_canBeChild_25 rfl (lv_at hl 3 rfl) ?_
    obtain ⟨q4, h5, h⟩ := vq_bi h
    have hFc := vq_freeAll hD hS hA
    refine va_calli (va_runV (As := [.int a2]) (rest := []) ⟨hx, hb, hml, hown, hts⟩ (c_Z_hasNode l htr dC dI ad ca N σ a2 q4 h5 s.heap.size) (vq_cV WSk hts 1 rfl rfl ⟨by decide, by decide⟩ k_216 k_226 k_227 k_228 k_229 (by decide +kernel)) ⟨vq_blind, va_recv hK hP (ci := 6) (q0 := 6) rfl rfl, vq_here hst hS hN hP hK hD⟩ rfl rfl hl.1 rfl (lv_room (Nat.le_of_ble_eq_true rfl)) d_Z_canBeChild_26 ⟨by decide, by decide⟩) hS (fun q _ h => hFc q h) hFc (fun r u t H1 locs ht hvm hw hB hz1 hk1 hS => ?_)
    obtain ⟨hP, -, hD1⟩ := hB
    rw [ht] at hP
    have hD := hD1.weaken (fun _ _ _ h => hFc _ h)
    have hw : r = q4.1 := hw
    subst hw
    generalize H1 = H at hP hS ⊢
    refine W.widen (k := 0) (n := 0) (by decide) (by decide) ?_
    refine lv_if_eq (tgt := 63) hx hb d_Z_canBeChild_29 (by decide) (fun hc6 => ?_) (fun hc6 => ?_)
    ·
      rw [if_pos hc6] at h
      refine lv_iconst (v := 0) hx hb d_Z_canBeChild_63 (by decide) ?_
      have h9 := Option.some.inj h
      rw [← h9]
      exact W.zret (v := 0) (ty := .boolean) hx hb hr (by decide) (fun t ht hW => ⟨⟨0, (), rfl, rfl, by rw [ht]; exact hP, va_K.moved hW.alike hK, hD⟩, hS.F ht⟩) hS.2.2 d_Z_canBeChild_64
    ·
      rw [if_neg hc6] at h
      refine lv_aload_n hx hb d_Z_canBeChild_32 rfl (lv_at hl 0 rfl) ?_
      refine g_Z_parents dC dI ad ca q4.2 hx hb hts hown hK hP k_230 d_Z_canBeChild_33 ?_
      refine lv_iload_n hx hb d_Z_canBeChild_36 rfl (lv_at hl 3 rfl) ?_
      obtain ⟨hi7, h⟩ := vq_bd h
      refine al_X21 dC dI ad ca q4.2 hx hb hts hown hK hP hi7 d_Z_canBeChild_37 ?_
      obtain ⟨i8, ei8, h⟩ := vq_let h
      refine vq_top ei8.symm ?_
      refine lv_iconst (v := (-1)) hx hb d_Z_canBeChild_38 (by decide) ?_
      refine lv_icmp_ne (tgt := 63) hx hb d_Z_canBeChild_39 (by decide) (fun hc9 => ?_) (fun hc9 => ?_)
      ·
        rw [if_neg hc9] at h
        refine lv_iconst (v := 0) hx hb d_Z_canBeChild_63 (by decide) ?_
        have h9 := Option.some.inj h
        rw [← h9]
        exact W.zret (v := 0) (ty := .boolean) hx hb hr (by decide) (fun t ht hW => ⟨⟨0, (), rfl, rfl, by rw [ht]; exact hP, va_K.moved hW.alike hK, hD⟩, hS.F ht⟩) hS.2.2 d_Z_canBeChild_64
      ·
        rw [if_pos hc9] at h
        refine lv_aload_n hx hb d_Z_canBeChild_42 rfl (lv_at hl 0 rfl) ?_
        refine lv_iload_n hx hb d_Z_canBeChild_43 rfl (lv_at hl 3 rfl) ?_
        obtain ⟨q10, h11, h⟩ := vq_bi h
        have hFc := vq_freeAll hD hS hA
        refine va_calli (va_runV (As := [.int a2]) (rest := []) ⟨hx, hb, hml, hown, hts⟩ (c_Z_symbolOf l htr dC dI ad ca N q4.2 a2 q10 h11 H.size) (vq_cV WSk hts 1 rfl rfl ⟨by decide, by decide⟩ k_218 k_226 k_231 k_232 k_233 (by decide +kernel)) ⟨vq_blind, va_recv hK hP (ci := 6) (q0 := 6) rfl rfl, vq_here hst hS hN hP hK hD⟩ rfl rfl hl.1 rfl (lv_room (Nat.le_of_ble_eq_true rfl)) d_Z_canBeChild_44 ⟨by decide, by decide⟩) hS (fun q _ h => hFc q h) hFc (fun r u t H1 locs ht hvm hw hB hz1 hk1 hS => ?_)
        obtain ⟨hP, -, hD1⟩ := hB
        rw [ht] at hP
        have hD := hD1.weaken (fun _ _ _ h => hFc _ h)
        have hw : r = q10.1 := hw
        subst hw
        generalize H1 = H at hP hS ⊢
        refine W.widen (k := 0) (n := 0) (by decide) (by decide) ?_
        refine lv_aload_n hx hb d_Z_canBeChild_47 rfl (lv_at hl 0 rfl) ?_
        refine g_Z_grammar dC dI ad ca q10.2 hx hb hts hown hK hP k_219 d_Z_canBeChild_48 ?_
        refine lv_iload_n hx hb d_Z_canBeChild_51 rfl (lv_at hl 1 rfl) ?_
        refine lv_iload_n hx hb d_Z_canBeChild_52 rfl (lv_at hl 2 rfl) ?_
        obtain ⟨q12, h13, h⟩ := vq_bi h
        have hFc := vq_freeAll hD hS hA
        refine va_calli (va_runV (As := [.int a0, .int a1]) (rest := [.int (q10.1)]) ⟨hx, hb, hml, hown, hts⟩ (c_G_symbolAt l htr dC dI ad ca N q10.2 a0 a1 q12 h13 H.size) (vq_cV WSk hts 2 rfl rfl ⟨by decide, by decide⟩ k_40 k_26 k_221 k_81 k_82 (by decide +kernel)) ⟨vq_blind, va_recv hK hP (ci := 1) (q0 := 1) rfl rfl, vq_here hst hS hN hP hK hD⟩ rfl rfl hl.1 rfl (lv_room (Nat.le_of_ble_eq_true rfl)) d_Z_canBeChild_53 ⟨by decide, by decide⟩) hS (fun q _ h => hFc q h) hFc (fun r u t H1 locs ht hvm hw hB hz1 hk1 hS => ?_)
        obtain ⟨hP, -, hD1⟩ := hB
        rw [ht] at hP
        have hD := hD1.weaken (fun _ _ _ h => hFc _ h)
        have hw : r = q12.1 := hw
        subst hw
        generalize H1 = H at hP hS ⊢
        refine W.widen (k := 0) (n := 0) (by decide) (by decide) ?_
        refine lv_icmp_ne (tgt := 63) hx hb d_Z_canBeChild_56 (by decide) (fun hc14 => ?_) (fun hc14 => ?_)
        ·
          rw [if_neg hc14] at h
          refine lv_iconst (v := 0) hx hb d_Z_canBeChild_63 (by decide) ?_
          have h9 := Option.some.inj h
          rw [← h9]
          exact W.zret (v := 0) (ty := .boolean) hx hb hr (by decide) (fun t ht hW => ⟨⟨0, (), rfl, rfl, by rw [ht]; exact hP, va_K.moved hW.alike hK, hD⟩, hS.F ht⟩) hS.2.2 d_Z_canBeChild_64
        ·
          rw [if_pos hc14] at h
          refine lv_iconst (v := 1) hx hb d_Z_canBeChild_59 (by decide) ?_
          refine lv_goto (tgt := 64) hx hb d_Z_canBeChild_60 (by decide) ?_
          have h9 := Option.some.inj h
          rw [← h9]
          exact W.zret (v := 1) (ty := .boolean) hx hb hr (by decide) (fun t ht hW => ⟨⟨1, (), rfl, rfl, by rw [ht]; exact hP, va_K.moved hW.alike hK, hD⟩, hS.F ht⟩) hS.2.2 d_Z_canBeChild_64
  ·
    rw [if_neg hc3] at h
    refine lv_iload_n hx hb d_Z_canBeChild_13 rfl (lv_at hl 3 rfl) ?_
    refine lv_iconst (v := (-1)) hx hb d_Z_canBeChild_14 (by decide) ?_
    refine lv_icmp_ne (tgt := 22) hx hb d_Z_canBeChild_15 (by decide) (fun hc15 => ?_) (fun hc15 => ?_)
    ·
      rw [if_neg hc15] at h
      refine lv_iconst (v := 0) hx hb d_Z_canBeChild_22 (by decide) ?_
      have h9 := Option.some.inj h
      rw [← h9]
      exact W.zret (v := 0) (ty := .boolean) hx hb hr (by decide) (fun t ht hW => ⟨⟨0, (), rfl, rfl, by rw [ht]; exact hP, va_K.moved hW.alike hK, hD⟩, hS.F ht⟩) hS.2.2 d_Z_canBeChild_23
    ·
      rw [if_pos hc15] at h
      refine lv_iconst (v := 1) hx hb d_Z_canBeChild_18 (by decide) ?_
      refine lv_goto (tgt := 23) hx hb d_Z_canBeChild_19 (by decide) ?_
      have h9 := Option.some.inj h
      rw [← h9]
      exact W.zret (v := 1) (ty := .boolean) hx hb hr (by decide) (fun t ht hW => ⟨⟨1, (), rfl, rfl, by rw [ht]; exact hP, va_K.moved hW.alike hK, hD⟩, hS.F ht⟩) hS.2.2 d_Z_canBeChild_23

set_option maxHeartbeats 4000000 in
set_option maxRecDepth 100000 in
theorem c_Z_canBeChildren (l : Launch) (htr : l.stackTraces = false) (dC : Nat → ClassId) (dI : Nat → Nat → Nat) (ad : Nat → Nat) (ca : Nat → ClassId) (N : Nat) (σ : vS) (a0 : Int32) (a1 : Int32) (a2 : Int32) (a3 : Int32) (v : Int32 × vS) (h : f_Z_canBeChildren N σ a0 a1 a2 a3 = some v) (sz : Nat) : Met l y_Z_canBeChildren WS ({ frames := 3, cells := 0, slots := 0, locals := 66 }) (va_Pc [.ref (ad 6), .int a0, .int a1, .int a2, .int a3] (vq_Pre (dC, dI) CL sz (Xw ad ca σ) (Xt ca))) (va_Qi (fun (r : Int32) (_ : Unit) => r = v.1) (fun _ t => vq_Post (dC, dI) CL (va_A (Xw ad ca σ) sz) (Xw ad ca v.2) (Xt ca) t) (va_A (Xw ad ca σ) sz)) 0 0 (va_A (Xw ad ca σ) sz) := by
  refine vq_ofW (cc := prog_7_method_5_code) (maxL := 5) (ret := (Option.some Jvm.ClassFile.FieldType.boolean)) pl_Z (vq_his k_234) ?_
  intro p e s m args below meth c s₁ B hml hv
  obtain ⟨rfl, hst, hsz, hP, hK, hD0⟩ := hv
  have hx := B.exec
  have hb := B.bytes
  have hr := B.returns
  have hts := atoms_spec (ws := WS) B.pre
  have hown : s.vm.findClass R_Z = some m.cls := findClass_of_methodNamed B.named
  have hlocks := B.notSynchronized
  have hno := vq_noH B (hts _ k_234)
  subst hsz
  have hN := vq_ns hP
  have hD := hD0.self (sz := s.heap.size)
  generalize hAe : va_A (Xw ad ca σ) s.heap.size = A at hD hN ⊢
  have hA : ∀ q : Nat, s.heap.size ≤ q → A q := fun q h => by rw [← hAe]; exact Or.inr h
  have hS : va_S A s.heap s.heap [] := va_S.rf
  have hl := lv_entry ([.ref (ad 6), .int a0, .int a1, .int a2, .int a3]) (n := 5) (Nat.le_of_ble_eq_true rfl)
  rw [lg_entry_eq]
  generalize (lg_sl ([.ref (ad 6), .int a0, .int a1, .int a2, .int a3]) ++ List.replicate (5 - (lg_sl ([.ref (ad 6), .int a0, .int a1, .int a2, .int a3])).length) Slot.unset).toArray = ls at hl ⊢
  have hl : lv_has ls 5 [(0, .ref (ad 6)), (1, .int a0), (2, .int a1), (3, .int a2), (4, .int a3)] := hl
  unfold f_Z_canBeChildren at h
  refine lv_aload_n hx hb d_Z_canBeChildren_0 rfl (lv_at hl 0 rfl) ?_
  refine lv_iload_n hx hb d_Z_canBeChildren_1 rfl (lv_at hl 1 rfl) ?_
  refine lv_iconst (v := 1) hx hb d_Z_canBeChildren_2 (by decide) ?_
  refine lv_iload_n hx hb d_Z_canBeChildren_3 rfl (lv_at hl 2 rfl) ?_
  obtain ⟨q1, h2, h⟩ := vq_bi h
  have hFc := vq_freeAll hD hS hA
  refine va_calli (va_runV (As := [.int a0, .int 1, .int a1]) (rest := []) ⟨hx, hb, hml, hown, hts⟩ (c_Z_canBeChild l htr dC dI ad ca N σ a0 1 a1 q1 h2 s.heap.size) (vq_cV WSk hts 3 rfl rfl ⟨by decide, by decide⟩ k_224 k_226 k_235 k_236 k_237 (by decide +kernel)) ⟨vq_blind, va_recv hK hP (ci := 6) (q0 := 6) rfl rfl, vq_here hst hS hN hP hK hD⟩ rfl rfl hl.1 rfl (lv_room (Nat.le_of_ble_eq_true rfl)) d_Z_canBeChildren_4 ⟨by decide, by decide⟩) hS (fun q _ h => hFc q h) hFc (fun r u t H1 locs ht hvm hw hB hz1 hk1 hS => ?_)
  obtain ⟨hP, -, hD1⟩ := hB
  rw [ht] at hP
  have hD := hD1.weaken (fun _ _ _ h => hFc _ h)
  have hw : r = q1.1 := hw
  subst hw
  generalize H1 = H at hP hS ⊢
  refine W.widen (k := 0) (n := 0) (by decide) (by decide) ?_
  refine lv_if_eq (tgt := 62) hx hb d_Z_canBeChildren_7 (by decide) (fun hc3 => ?_) (fun hc3 => ?_)
  ·
    rw [if_pos hc3] at h
    refine lv_iconst (v := 0) hx hb d_Z_canBeChildren_62 (by decide) ?_
    have h9 := Option.some.inj h
    rw [← h9]
    exact W.zret (v := 0) (ty := .boolean) hx hb hr (by decide) (fun t ht hW => ⟨⟨0, (), rfl, rfl, by rw [ht]; exact hP, va_K.moved hW.alike hK, hD⟩, hS.F ht⟩) hS.2.2 d_Z_canBeChildren_63
  ·
    rw [if_neg hc3] at h
    refine lv_aload_n hx hb d_Z_canBeChildren_10 rfl (lv_at hl 0 rfl) ?_
    refine lv_iload_n hx hb d_Z_canBeChildren_11 rfl (lv_at hl 1 rfl) ?_
    refine lv_iconst (v := 2) hx hb d_Z_canBeChildren_12 (by decide) ?_
    refine lv_iload_n hx hb d_Z_canBeChildren_13 rfl (lv_at hl 3 rfl) ?_
    obtain ⟨q4, h5, h⟩ := vq_bi h
    have hFc := vq_freeAll hD hS hA
    refine va_calli (va_runV (As := [.int a0, .int 2, .int a2]) (rest := []) ⟨hx, hb, hml, hown, hts⟩ (c_Z_canBeChild l htr dC dI ad ca N q1.2 a0 2 a2 q4 h5 H.size) (vq_cV WSk hts 3 rfl rfl ⟨by decide, by decide⟩ k_224 k_226 k_235 k_236 k_237 (by decide +kernel)) ⟨vq_blind, va_recv hK hP (ci := 6) (q0 := 6) rfl rfl, vq_here hst hS hN hP hK hD⟩ rfl rfl hl.1 rfl (lv_room (Nat.le_of_ble_eq_true rfl)) d_Z_canBeChildren_14 ⟨by decide, by decide⟩) hS (fun q _ h => hFc q h) hFc (fun r u t H1 locs ht hvm hw hB hz1 hk1 hS => ?_)
    obtain ⟨hP, -, hD1⟩ := hB
    rw [ht] at hP
    have hD := hD1.weaken (fun _ _ _ h => hFc _ h)
    have hw : r = q4.1 := hw
    subst hw
    generalize H1 = H at hP hS ⊢
    refine W.widen (k := 0) (n := 0) (by decide) (by decide) ?_
    refine lv_if_eq (tgt := 62) hx hb d_Z_canBeChildren_17 (by decide) (fun hc6 => ?_) (fun hc6 => ?_)
    ·
      rw [if_pos hc6] at h
      refine lv_iconst (v := 0) hx hb d_Z_canBeChildren_62 (by decide) ?_
      have h9 := Option.some.inj h
      rw [← h9]
      exact W.zret (v := 0) (ty := .boolean) hx hb hr (by decide) (fun t ht hW => ⟨⟨0, (), rfl, rfl, by rw [ht]; exact hP, va_K.moved hW.alike hK, hD⟩, hS.F ht⟩) hS.2.2 d_Z_canBeChildren_63
    ·
      rw [if_neg hc6] at h
      refine lv_aload_n hx hb d_Z_canBeChildren_20 rfl (lv_at hl 0 rfl) ?_
      refine lv_iload_n hx hb d_Z_canBeChildren_21 rfl (lv_at hl 1 rfl) ?_
      refine lv_iconst (v := 3) hx hb d_Z_canBeChildren_22 (by decide) ?_
      refine lv_iload hx hb d_Z_canBeChildren_23 (lv_at hl 4 rfl) ?_
      obtain ⟨q7, h8, h⟩ := vq_bi h
      have hFc := vq_freeAll hD hS hA
      refine va_calli (va_runV (As := [.int a0, .int 3, .int a3]) (rest := []) ⟨hx, hb, hml, hown, hts⟩ (c_Z_canBeChild l htr dC dI ad ca N q4.2 a0 3 a3 q7 h8 H.size) (vq_cV WSk hts 3 rfl rfl ⟨by decide, by decide⟩ k_224 k_226 k_235 k_236 k_237 (by decide +kernel)) ⟨vq_blind, va_recv hK hP (ci := 6) (q0 := 6) rfl rfl, vq_here hst hS hN hP hK hD⟩ rfl rfl hl.1 rfl (lv_room (Nat.le_of_ble_eq_true rfl)) d_Z_canBeChildren_25 ⟨by decide, by decide⟩) hS (fun q _ h => hFc q h) hFc (fun r u t H1 locs ht hvm hw hB hz1 hk1 hS => ?_)
      obtain ⟨hP, -, hD1⟩ := hB
      rw [ht] at hP
      have hD := hD1.weaken (fun _ _ _ h => hFc _ h)
      have hw : r = q7.1 := hw
      subst hw
      generalize H1 = H at hP hS ⊢
      refine W.widen (k := 0) (n := 0) (by decide) (by decide) ?_
      refine lv_if_eq (tgt := 62) hx hb d_Z_canBeChildren_28 (by decide) (fun hc9 => ?_) (fun hc9 => ?_)
      ·
        rw [if_pos hc9] at h
        refine lv_iconst (v := 0) hx hb d_Z_canBeChildren_62 (by decide) ?_
        have h9 := Option.some.inj h
        rw [← h9]
        exact W.zret (v := 0) (ty := .boolean) hx hb hr (by decide) (fun t ht hW => ⟨⟨0, (), rfl, rfl, by rw [ht]; exact hP, va_K.moved hW.alike hK, hD⟩, hS.F ht⟩) hS.2.2 d_Z_canBeChildren_63
      ·
        rw [if_neg hc9] at h
        refine lv_iload_n hx hb d_Z_canBeChildren_31 rfl (lv_at hl 2 rfl) ?_
        refine lv_iconst (v := (-1)) hx hb d_Z_canBeChildren_32 (by decide) ?_
        have J47 : ∀ (τ : vS) (x3 : Int32) (x4 : Int32) (H : Heap) (locs : List Loc) (ls : Array Slot), f_Z_canBeChildren_47 N τ x3 x4 = some v → lv_has ls 5 [(3, .int x3), (4, .int x4)] → va_P (dC, dI) CL (Xw ad ca τ) H → va_D A (Xw ad ca τ) → va_S A s.heap H locs → W p l e (headSpec WS ({ frames := 3, cells := 0, slots := 0, locals := 66 })).room s m ([.ref (ad 6), .int a0, .int a1, .int a2, .int a3] : List Value).toArray below meth c H locs 0 0 (MQ below (va_Qi (fun (r : Int32) (_ : Unit) => r = v.1) (fun _ t => vq_Post (dC, dI) CL A (Xw ad ca v.2) (Xt ca) t) A) ([.ref (ad 6), .int a0, .int a1, .int a2, .int a3] : List Value).toArray s 0 0 A) (F0 m 47 ls []) := by
          intro τ x3 x4 H locs ls h hl hP hD hS
          unfold f_Z_canBeChildren_47 at h
          refine lv_iload_n hx hb d_Z_canBeChildren_47 rfl (lv_at hl 0 rfl) ?_
          refine lv_iconst (v := (-1)) hx hb d_Z_canBeChildren_48 (by decide) ?_
          have J58 : ∀ (τ : vS) (H : Heap) (locs : List Loc) (ls : Array Slot), f_Z_canBeChildren_58 N τ = some v → lv_has ls 5 [] → va_P (dC, dI) CL (Xw ad ca τ) H → va_D A (Xw ad ca τ) → va_S A s.heap H locs → W p l e (headSpec WS ({ frames := 3, cells := 0, slots := 0, locals := 66 })).room s m ([.ref (ad 6), .int a0, .int a1, .int a2, .int a3] : List Value).toArray below meth c H locs 0 0 (MQ below (va_Qi (fun (r : Int32) (_ : Unit) => r = v.1) (fun _ t => vq_Post (dC, dI) CL A (Xw ad ca v.2) (Xt ca) t) A) ([.ref (ad 6), .int a0, .int a1, .int a2, .int a3] : List Value).toArray s 0 0 A) (F0 m 58 ls []) := by
            intro τ H locs ls h hl hP hD hS
            unfold f_Z_canBeChildren_58 at h
            refine lv_iconst (v := 1) hx hb d_Z_canBeChildren_58 (by decide) ?_
            refine lv_goto (tgt := 63) hx hb d_Z_canBeChildren_59 (by decide) ?_
            have h9 := Option.some.inj h
            rw [← h9]
            exact W.zret (v := 1) (ty := .boolean) hx hb hr (by decide) (fun t ht hW => ⟨⟨1, (), rfl, rfl, by rw [ht]; exact hP, va_K.moved hW.alike hK, hD⟩, hS.F ht⟩) hS.2.2 d_Z_canBeChildren_63
          refine lv_icmp_eq (tgt := 58) hx hb d_Z_canBeChildren_49 (by decide) (fun hc10 => ?_) (fun hc10 => ?_)
          ·
            rw [if_pos hc10] at h
            exact J58 _ _ _ _ h (lv_sub hl [] rfl) hP hD hS
          ·
            rw [if_neg hc10] at h
            refine lv_iload_n hx hb d_Z_canBeChildren_52 rfl (lv_at hl 0 rfl) ?_
            refine lv_iload hx hb d_Z_canBeChildren_53 (lv_at hl 1 rfl) ?_
            refine lv_icmp_eq (tgt := 62) hx hb d_Z_canBeChildren_55 (by decide) (fun hc11 => ?_) (fun hc11 => ?_)
            ·
              rw [if_pos hc11] at h
              refine lv_iconst (v := 0) hx hb d_Z_canBeChildren_62 (by decide) ?_
              have h9 := Option.some.inj h
              rw [← h9]
              exact W.zret (v := 0) (ty := .boolean) hx hb hr (by decide) (fun t ht hW => ⟨⟨0, (), rfl, rfl, by rw [ht]; exact hP, va_K.moved hW.alike hK, hD⟩, hS.F ht⟩) hS.2.2 d_Z_canBeChildren_63
            ·
              rw [if_neg hc11] at h
              exact J58 _ _ _ _ h (lv_sub hl [] rfl) hP hD hS
        refine lv_icmp_eq (tgt := 47) hx hb d_Z_canBeChildren_33 (by decide) (fun hc12 => ?_) (fun hc12 => ?_)
        ·
          rw [if_pos hc12] at h
          exact J47 _ _ _ _ _ _ h (lv_sub hl [3, 4] rfl) hP hD hS
        ·
          rw [if_neg hc12] at h
          refine lv_iload_n hx hb d_Z_canBeChildren_36 rfl (lv_at hl 2 rfl) ?_
          refine lv_iload_n hx hb d_Z_canBeChildren_37 rfl (lv_at hl 3 rfl) ?_
          refine lv_icmp_eq (tgt := 62) hx hb d_Z_canBeChildren_38 (by decide) (fun hc13 => ?_) (fun hc13 => ?_)
          ·
            rw [if_pos hc13] at h
            refine lv_iconst (v := 0) hx hb d_Z_canBeChildren_62 (by decide) ?_
            have h9 := Option.some.inj h
            rw [← h9]
            exact W.zret (v := 0) (ty := .boolean) hx hb hr (by decide) (fun t ht hW => ⟨⟨0, (), rfl, rfl, by rw [ht]; exact hP, va_K.moved hW.alike hK, hD⟩, hS.F ht⟩) hS.2.2 d_Z_canBeChildren_63
          ·
            rw [if_neg hc13] at h
            refine lv_iload_n hx hb d_Z_canBeChildren_41 rfl (lv_at hl 2 rfl) ?_
            refine lv_iload hx hb d_Z_canBeChildren_42 (lv_at hl 4 rfl) ?_
            refine lv_icmp_eq (tgt := 62) hx hb d_Z_canBeChildren_44 (by decide) (fun hc14 => ?_) (fun hc14 => ?_)
            ·
              rw [if_pos hc14] at h
              refine lv_iconst (v := 0) hx hb d_Z_canBeChildren_62 (by decide) ?_
              have h9 := Option.some.inj h
              rw [← h9]
              exact W.zret (v := 0) (ty := .boolean) hx hb hr (by decide) (fun t ht hW => ⟨⟨0, (), rfl, rfl, by rw [ht]; exact hP, va_K.moved hW.alike hK, hD⟩, hS.F ht⟩) hS.2.2 d_Z_canBeChildren_63
            ·
              rw [if_neg hc14] at h
              exact J47 _ _ _ _ _ _ h (lv_sub hl [3, 4] rfl) hP hD hS

set_option maxHeartbeats 4000000 in
set_option maxRecDepth 100000 in
theorem c_Z_adopt (l : Launch) (htr : l.stackTraces = false) (dC : Nat → ClassId) (dI : Nat → Nat → Nat) (ad : Nat → Nat) (ca : Nat → ClassId) (N : Nat) (σ : vS) (a0 : Int32) (a1 : Int32) (a2 : Int32) (v : Int32 × vS) (h : f_Z_adopt N σ a0 a1 a2 = some v) (sz : Nat) : Met l y_Z_adopt WS ({ frames := 0, cells := 0, slots := 0, locals := 0 }) (va_Pc [.ref (ad 6), .int a0, .int a1, .int a2] (vq_Pre (dC, dI) CL sz (Xw ad ca σ) (Xt ca))) (va_Qv (fun _ : Unit => True) (fun _ t => vq_Post (dC, dI) CL (va_A (Xw ad ca σ) sz) (Xw ad ca v.2) (Xt ca) t) (va_A (Xw ad ca σ) sz)) 0 0 (va_A (Xw ad ca σ) sz) := by
  refine vq_ofW (cc := prog_7_method_8_code) (maxL := 4) (ret := (Option.none : Option Jvm.ClassFile.FieldType)) pl_Z (vq_his k_238) ?_
  intro p e s m args below meth c s₁ B hml hv
  obtain ⟨rfl, hst, hsz, hP, hK, hD0⟩ := hv
  have hx := B.exec
  have hb := B.bytes
  have hr := B.returns
  have hts := atoms_spec (ws := WS) B.pre
  have hown : s.vm.findClass R_Z = some m.cls := findClass_of_methodNamed B.named
  have hlocks := B.notSynchronized
  have hno := vq_noH B (hts _ k_238)
  subst hsz
  have hN := vq_ns hP
  have hD := hD0.self (sz := s.heap.size)
  generalize hAe : va_A (Xw ad ca σ) s.heap.size = A at hD hN ⊢
  have hA : ∀ q : Nat, s.heap.size ≤ q → A q := fun q h => by rw [← hAe]; exact Or.inr h
  have hS : va_S A s.heap s.heap [] := va_S.rf
  have hl := lv_entry ([.ref (ad 6), .int a0, .int a1, .int a2]) (n := 4) (Nat.le_of_ble_eq_true rfl)
  rw [lg_entry_eq]
  generalize (lg_sl ([.ref (ad 6), .int a0, .int a1, .int a2]) ++ List.replicate (4 - (lg_sl ([.ref (ad 6), .int a0, .int a1, .int a2])).length) Slot.unset).toArray = ls at hl ⊢
  have hl : lv_has ls 4 [(0, .ref (ad 6)), (1, .int a0), (2, .int a1), (3, .int a2)] := hl
  unfold f_Z_adopt at h
  refine lv_aload_n hx hb d_Z_adopt_0 rfl (lv_at hl 0 rfl) ?_
  refine g_Z_nodesAt dC dI ad ca σ hx hb hts hown hK hP k_223 d_Z_adopt_1 ?_
  refine lv_iload_n hx hb d_Z_adopt_4 rfl (lv_at hl 1 rfl) ?_
  refine lv_iconst (v := 4) hx hb d_Z_adopt_5 (by decide) ?_
  refine lv_imul hx hb d_Z_adopt_6 ?_
  refine lv_iload_n hx hb d_Z_adopt_7 rfl (lv_at hl 2 rfl) ?_
  refine lv_iadd hx hb d_Z_adopt_8 ?_
  refine lv_iload_n hx hb d_Z_adopt_9 rfl (lv_at hl 3 rfl) ?_
  obtain ⟨hi1, h⟩ := vq_bd h
  refine as_X22 dC dI ad ca σ hx hb hts hown hK hP hD hS hi1 d_Z_adopt_10 (fun H locs hP hD hS => ?_)
  obtain ⟨σ2, eσ2, h⟩ := vq_let h
  rw [← eσ2] at hP hD
  refine lv_iload_n hx hb d_Z_adopt_11 rfl (lv_at hl 3 rfl) ?_
  refine lv_iconst (v := (-1)) hx hb d_Z_adopt_12 (by decide) ?_
  refine lv_icmp_eq (tgt := 23) hx hb d_Z_adopt_13 (by decide) (fun hc3 => ?_) (fun hc3 => ?_)
  ·
    rw [if_pos hc3] at h
    have h9 := Option.some.inj h
    rw [← h9]
    exact W.vret hx hb hr (fun t ht hW => ⟨⟨(), rfl, trivial, by rw [ht]; exact hP, va_K.moved hW.alike hK, hD⟩, hS.F ht⟩) hS.2.2 d_Z_adopt_23
  ·
    rw [if_neg hc3] at h
    refine lv_aload_n hx hb d_Z_adopt_16 rfl (lv_at hl 0 rfl) ?_
    refine g_Z_parents dC dI ad ca σ2 hx hb hts hown hK hP k_230 d_Z_adopt_17 ?_
    refine lv_iload_n hx hb d_Z_adopt_20 rfl (lv_at hl 3 rfl) ?_
    refine lv_iload_n hx hb d_Z_adopt_21 rfl (lv_at hl 1 rfl) ?_
    obtain ⟨hi4, h⟩ := vq_bd h
    refine as_X21 dC dI ad ca σ2 hx hb hts hown hK hP hD hS hi4 d_Z_adopt_22 (fun H locs hP hD hS => ?_)
    obtain ⟨σ5, eσ5, h⟩ := vq_let h
    rw [← eσ5] at hP hD
    have h9 := Option.some.inj h
    rw [← h9]
    exact W.vret hx hb hr (fun t ht hW => ⟨⟨(), rfl, trivial, by rw [ht]; exact hP, va_K.moved hW.alike hK, hD⟩, hS.F ht⟩) hS.2.2 d_Z_adopt_23

set_option maxHeartbeats 4000000 in
set_option maxRecDepth 100000 in
theorem c_Z_grow (l : Launch) (htr : l.stackTraces = false) (dC : Nat → ClassId) (dI : Nat → Nat → Nat) (ad : Nat → Nat) (ca : Nat → ClassId) (N : Nat) (σ : vS) (a0 : Int32) (a1 : Int32) (a2 : Int32) (a3 : Int32) (a4 : Int32) (v : Int32 × vS) (h : f_Z_grow N σ a0 a1 a2 a3 a4 = some v) (sz : Nat) : Met l y_Z_grow WS ({ frames := 1, cells := 0, slots := 0, locals := 23 }) (va_Pc [.ref (ad 6), .int a0, .int a1, .int a2, .int a3, .int a4] (vq_Pre (dC, dI) CL sz (Xw ad ca σ) (Xt ca))) (va_Qi (fun (r : Int32) (_ : Unit) => r = v.1) (fun _ t => vq_Post (dC, dI) CL (va_A (Xw ad ca σ) sz) (Xw ad ca v.2) (Xt ca) t) (va_A (Xw ad ca σ) sz)) 0 0 (va_A (Xw ad ca σ) sz) := by
  refine vq_ofW (cc := prog_7_method_7_code) (maxL := 7) (ret := (Option.some Jvm.ClassFile.FieldType.int)) pl_Z (vq_his k_239) ?_
  intro p e s m args below meth c s₁ B hml hv
  obtain ⟨rfl, hst, hsz, hP, hK, hD0⟩ := hv
  have hx := B.exec
  have hb := B.bytes
  have hr := B.returns
  have hts := atoms_spec (ws := WS) B.pre
  have hown : s.vm.findClass R_Z = some m.cls := findClass_of_methodNamed B.named
  have hlocks := B.notSynchronized
  have hno := vq_noH B (hts _ k_239)
  subst hsz
  have hN := vq_ns hP
  have hD := hD0.self (sz := s.heap.size)
  generalize hAe : va_A (Xw ad ca σ) s.heap.size = A at hD hN ⊢
  have hA : ∀ q : Nat, s.heap.size ≤ q → A q := fun q h => by rw [← hAe]; exact Or.inr h
  have hS : va_S A s.heap s.heap [] := va_S.rf
  have hl := lv_entry ([.ref (ad 6), .int a0, .int a1, .int a2, .int a3, .int a4]) (n := 7) (Nat.le_of_ble_eq_true rfl)
  rw [lg_entry_eq]
  generalize (lg_sl ([.ref (ad 6), .int a0, .int a1, .int a2, .int a3, .int a4]) ++ List.replicate (7 - (lg_sl ([.ref (ad 6), .int a0, .int a1, .int a2, .int a3, .int a4])).length) Slot.unset).toArray = ls at hl ⊢
  have hl : lv_has ls 7 [(0, .ref (ad 6)), (1, .int a0), (2, .int a1), (3, .int a2), (4, .int a3), (5, .int a4)] := hl
  unfold f_Z_grow at h
  refine lv_aload_n hx hb d_Z_grow_0 rfl (lv_at hl 0 rfl) ?_
  refine g_Z_nodeCount dC dI ad ca σ hx hb hts hown hK hP k_217 d_Z_grow_1 ?_
  refine lv_istore (lv' := [(6, .int (σ.1 8)), (0, .ref (ad 6)), (1, .int a0), (2, .int a1), (3, .int a2), (4, .int a3), (5, .int a4)]) hx hb d_Z_grow_4 hl (by decide) rfl (fun ls hl => ?_)
  refine lv_aload_n hx hb d_Z_grow_6 rfl (lv_at hl 1 rfl) ?_
  refine lv_dup hx hb d_Z_grow_7 rfl ?_
  refine g_Z_nodeCount dC dI ad ca σ hx hb hts hown hK hP k_217 d_Z_grow_8 ?_
  refine lv_iconst (v := 1) hx hb d_Z_grow_11 (by decide) ?_
  refine lv_iadd hx hb d_Z_grow_12 ?_
  refine p_Z_nodeCount dC dI ad ca σ hx hb hts hown hK hP hD hS k_217 d_Z_grow_13 (fun H locs hP hD hS => ?_)
  obtain ⟨σ1, eσ1, h⟩ := vq_let h
  rw [← eσ1] at hP hD
  refine lv_aload_n hx hb d_Z_grow_16 rfl (lv_at hl 1 rfl) ?_
  refine g_Z_productions dC dI ad ca σ1 hx hb hts hown hK hP k_220 d_Z_grow_17 ?_
  refine lv_iload hx hb d_Z_grow_20 (lv_at hl 0 rfl) ?_
  refine lv_iload_n hx hb d_Z_grow_22 rfl (lv_at hl 2 rfl) ?_
  obtain ⟨hi2, h⟩ := vq_bd h
  refine as_X19 dC dI ad ca σ1 hx hb hts hown hK hP hD hS hi2 d_Z_grow_23 (fun H locs hP hD hS => ?_)
  obtain ⟨σ3, eσ3, h⟩ := vq_let h
  rw [← eσ3] at hP hD
  refine lv_aload_n hx hb d_Z_grow_24 rfl (lv_at hl 1 rfl) ?_
  refine g_Z_tokens dC dI ad ca σ3 hx hb hts hown hK hP k_240 d_Z_grow_25 ?_
  refine lv_iload hx hb d_Z_grow_28 (lv_at hl 0 rfl) ?_
  refine lv_iload_n hx hb d_Z_grow_30 rfl (lv_at hl 3 rfl) ?_
  obtain ⟨hi4, h⟩ := vq_bd h
  refine as_X20 dC dI ad ca σ3 hx hb hts hown hK hP hD hS hi4 d_Z_grow_31 (fun H locs hP hD hS => ?_)
  obtain ⟨σ5, eσ5, h⟩ := vq_let h
  rw [← eσ5] at hP hD
  refine lv_aload_n hx hb d_Z_grow_32 rfl (lv_at hl 1 rfl) ?_
  refine g_Z_parents dC dI ad ca σ5 hx hb hts hown hK hP k_230 d_Z_grow_33 ?_
  refine lv_iload hx hb d_Z_grow_36 (lv_at hl 0 rfl) ?_
  refine lv_iconst (v := (-1)) hx hb d_Z_grow_38 (by decide) ?_
  obtain ⟨hi6, h⟩ := vq_bd h
  refine as_X21 dC dI ad ca σ5 hx hb hts hown hK hP hD hS hi6 d_Z_grow_39 (fun H locs hP hD hS => ?_)
  obtain ⟨σ7, eσ7, h⟩ := vq_let h
  rw [← eσ7] at hP hD
  refine lv_aload_n hx hb d_Z_grow_40 rfl (lv_at hl 1 rfl) ?_
  refine g_Z_nodesAt dC dI ad ca σ7 hx hb hts hown hK hP k_223 d_Z_grow_41 ?_
  refine lv_iload hx hb d_Z_grow_44 (lv_at hl 0 rfl) ?_
  refine lv_iconst (v := 4) hx hb d_Z_grow_46 (by decide) ?_
  refine lv_imul hx hb d_Z_grow_47 ?_
  refine lv_iload hx hb d_Z_grow_48 (lv_at hl 0 rfl) ?_
  obtain ⟨hi8, h⟩ := vq_bd h
  refine as_X22 dC dI ad ca σ7 hx hb hts hown hK hP hD hS hi8 d_Z_grow_50 (fun H locs hP hD hS => ?_)
  obtain ⟨σ9, eσ9, h⟩ := vq_let h
  rw [← eσ9] at hP hD
  refine lv_aload_n hx hb d_Z_grow_51 rfl (lv_at hl 1 rfl) ?_
  refine lv_iload hx hb d_Z_grow_52 (lv_at hl 0 rfl) ?_
  refine lv_iconst (v := 1) hx hb d_Z_grow_54 (by decide) ?_
  refine lv_iload_n hx hb d_Z_grow_55 rfl (lv_at hl 4 rfl) ?_
  obtain ⟨q10, h11, h⟩ := vq_bi h
  have hFc := vq_freeAll hD hS hA
  refine va_callv (va_runV (As := [.int (σ.1 8), .int 1, .int a2]) (rest := []) ⟨hx, hb, hml, hown, hts⟩ (c_Z_adopt l htr dC dI ad ca N σ9 (σ.1 8) 1 a2 q10 h11 H.size) (vq_cV WSk hts 3 rfl rfl ⟨by decide, by decide⟩ k_238 k_226 k_241 k_242 k_243 (by decide +kernel)) ⟨vq_blind, va_recv hK hP (ci := 6) (q0 := 6) rfl rfl, vq_here hst hS hN hP hK hD⟩ rfl rfl hl.1 rfl (lv_room (Nat.le_of_ble_eq_true rfl)) d_Z_grow_56 ⟨by decide, by decide⟩) hS (fun q _ h => hFc q h) hFc (fun u t H1 locs ht hvm hw hB hz1 hk1 hS => ?_)
  obtain ⟨hP, -, hD1⟩ := hB
  rw [ht] at hP
  have hD := hD1.weaken (fun _ _ _ h => hFc _ h)
  generalize H1 = H at hP hS ⊢
  refine W.widen (k := 0) (n := 0) (by decide) (by decide) ?_
  refine lv_aload_n hx hb d_Z_grow_59 rfl (lv_at hl 1 rfl) ?_
  refine lv_iload hx hb d_Z_grow_60 (lv_at hl 0 rfl) ?_
  refine lv_iconst (v := 2) hx hb d_Z_grow_62 (by decide) ?_
  refine lv_iload hx hb d_Z_grow_63 (lv_at hl 5 rfl) ?_
  obtain ⟨q12, h13, h⟩ := vq_bi h
  have hFc := vq_freeAll hD hS hA
  refine va_callv (va_runV (As := [.int (σ.1 8), .int 2, .int a3]) (rest := []) ⟨hx, hb, hml, hown, hts⟩ (c_Z_adopt l htr dC dI ad ca N q10.2 (σ.1 8) 2 a3 q12 h13 H.size) (vq_cV WSk hts 3 rfl rfl ⟨by decide, by decide⟩ k_238 k_226 k_241 k_242 k_243 (by decide +kernel)) ⟨vq_blind, va_recv hK hP (ci := 6) (q0 := 6) rfl rfl, vq_here hst hS hN hP hK hD⟩ rfl rfl hl.1 rfl (lv_room (Nat.le_of_ble_eq_true rfl)) d_Z_grow_65 ⟨by decide, by decide⟩) hS (fun q _ h => hFc q h) hFc (fun u t H1 locs ht hvm hw hB hz1 hk1 hS => ?_)
  obtain ⟨hP, -, hD1⟩ := hB
  rw [ht] at hP
  have hD := hD1.weaken (fun _ _ _ h => hFc _ h)
  generalize H1 = H at hP hS ⊢
  refine W.widen (k := 0) (n := 0) (by decide) (by decide) ?_
  refine lv_aload_n hx hb d_Z_grow_68 rfl (lv_at hl 1 rfl) ?_
  refine lv_iload hx hb d_Z_grow_69 (lv_at hl 0 rfl) ?_
  refine lv_iconst (v := 3) hx hb d_Z_grow_71 (by decide) ?_
  refine lv_iload hx hb d_Z_grow_72 (lv_at hl 6 rfl) ?_
  obtain ⟨q14, h15, h⟩ := vq_bi h
  have hFc := vq_freeAll hD hS hA
  refine va_callv (va_runV (As := [.int (σ.1 8), .int 3, .int a4]) (rest := []) ⟨hx, hb, hml, hown, hts⟩ (c_Z_adopt l htr dC dI ad ca N q12.2 (σ.1 8) 3 a4 q14 h15 H.size) (vq_cV WSk hts 3 rfl rfl ⟨by decide, by decide⟩ k_238 k_226 k_241 k_242 k_243 (by decide +kernel)) ⟨vq_blind, va_recv hK hP (ci := 6) (q0 := 6) rfl rfl, vq_here hst hS hN hP hK hD⟩ rfl rfl hl.1 rfl (lv_room (Nat.le_of_ble_eq_true rfl)) d_Z_grow_74 ⟨by decide, by decide⟩) hS (fun q _ h => hFc q h) hFc (fun u t H1 locs ht hvm hw hB hz1 hk1 hS => ?_)
  obtain ⟨hP, -, hD1⟩ := hB
  rw [ht] at hP
  have hD := hD1.weaken (fun _ _ _ h => hFc _ h)
  generalize H1 = H at hP hS ⊢
  refine W.widen (k := 0) (n := 0) (by decide) (by decide) ?_
  refine lv_iload hx hb d_Z_grow_77 (lv_at hl 0 rfl) ?_
  have h9 := Option.some.inj h
  rw [← h9]
  exact W.iret (v := (σ.1 8)) hx hb hr (fun t ht hW => ⟨⟨(σ.1 8), (), rfl, rfl, by rw [ht]; exact hP, va_K.moved hW.alike hK, hD⟩, hS.F ht⟩) hS.2.2 d_Z_grow_79

set_option maxHeartbeats 4000000 in
set_option maxRecDepth 100000 in
theorem c_Z_clear (l : Launch) (htr : l.stackTraces = false) (dC : Nat → ClassId) (dI : Nat → Nat → Nat) (ad : Nat → Nat) (ca : Nat → ClassId) (N : Nat) (σ : vS) (v : Int32 × vS) (h : f_Z_clear N σ = some v) (sz : Nat) : Met l y_Z_clear WS ({ frames := 0, cells := 0, slots := 0, locals := 0 }) (va_Pc [.ref (ad 6)] (vq_Pre (dC, dI) CL sz (Xw ad ca σ) (Xt ca))) (va_Qv (fun _ : Unit => True) (fun _ t => vq_Post (dC, dI) CL (va_A (Xw ad ca σ) sz) (Xw ad ca v.2) (Xt ca) t) (va_A (Xw ad ca σ) sz)) 0 0 (va_A (Xw ad ca σ) sz) := by
  refine vq_ofW (cc := prog_7_method_9_code) (maxL := 1) (ret := (Option.none : Option Jvm.ClassFile.FieldType)) pl_Z (vq_his k_244) ?_
  intro p e s m args below meth c s₁ B hml hv
  obtain ⟨rfl, hst, hsz, hP, hK, hD0⟩ := hv
  have hx := B.exec
  have hb := B.bytes
  have hr := B.returns
  have hts := atoms_spec (ws := WS) B.pre
  have hown : s.vm.findClass R_Z = some m.cls := findClass_of_methodNamed B.named
  have hlocks := B.notSynchronized
  have hno := vq_noH B (hts _ k_244)
  subst hsz
  have hN := vq_ns hP
  have hD := hD0.self (sz := s.heap.size)
  generalize hAe : va_A (Xw ad ca σ) s.heap.size = A at hD hN ⊢
  have hA : ∀ q : Nat, s.heap.size ≤ q → A q := fun q h => by rw [← hAe]; exact Or.inr h
  have hS : va_S A s.heap s.heap [] := va_S.rf
  have hl := lv_entry ([.ref (ad 6)]) (n := 1) (Nat.le_of_ble_eq_true rfl)
  rw [lg_entry_eq]
  generalize (lg_sl ([.ref (ad 6)]) ++ List.replicate (1 - (lg_sl ([.ref (ad 6)])).length) Slot.unset).toArray = ls at hl ⊢
  have hl : lv_has ls 1 [(0, .ref (ad 6))] := hl
  unfold f_Z_clear at h
  refine lv_aload_n hx hb d_Z_clear_0 rfl (lv_at hl 0 rfl) ?_
  refine lv_iconst (v := 0) hx hb d_Z_clear_1 (by decide) ?_
  refine p_Z_nodeCount dC dI ad ca σ hx hb hts hown hK hP hD hS k_217 d_Z_clear_2 (fun H locs hP hD hS => ?_)
  obtain ⟨σ1, eσ1, h⟩ := vq_let h
  rw [← eσ1] at hP hD
  have h9 := Option.some.inj h
  rw [← h9]
  exact W.vret hx hb hr (fun t ht hW => ⟨⟨(), rfl, trivial, by rw [ht]; exact hP, va_K.moved hW.alike hK, hD⟩, hS.F ht⟩) hS.2.2 d_Z_clear_5
