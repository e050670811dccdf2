set_option maxHeartbeats 4000000 in
set_option maxRecDepth 100000 in
theorem c_G_hasSymbol (l : Launch) (htr : l.stackTraces = false) (dC : Nat → ClassId) (dI : Nat → Nat → Nat) (ad : Nat → Nat) (ca : Nat → ClassId) (N : Nat) (σ : vS) (a0 : Int32) (v : Int32 × vS) (h : f_G_hasSymbol N σ a0 = some v) (sz : Nat) : Met l y_G_hasSymbol WS ({ frames := 0, cells := 0, slots := 0, locals := 0 }) (va_Pc [.ref (ad 1), .int a0] (vq_Pre (dC, dI) CL sz (Xw ad ca σ) (Xt ca))) (va_Qi (fun (r : Int32) (_ : Unit) => r = v.1) (fun _ t => vq_Post (dC, dI) CL (va_A (Xw ad ca σ) sz) (Xw ad ca v.2) (Xt ca) t) (va_A (Xw ad ca σ) sz)) 0 0 (va_A (Xw ad ca σ) sz) := by
  refine vq_ofW (cc := prog_3_method_2_code) (maxL := 2) (ret := (Option.some Jvm.ClassFile.FieldType.boolean)) pl_G (vq_his k_14) ?_
  intro p e s m args below meth c s₁ B hml hv
  obtain ⟨rfl, hst, hsz, hP, hK, hD0⟩ := hv
  have hx := B.exec
  have hb := B.bytes
  have hr := B.returns
  have hts := atoms_spec (ws := WS) B.pre
  have hown : s.vm.findClass R_G = some m.cls := findClass_of_methodNamed B.named
  have hlocks := B.notSynchronized
  have hno := vq_noH B (hts _ k_14)
  subst hsz
  have hN := vq_ns hP
  have hD := hD0.self (sz := s.heap.size)
  generalize hAe : va_A (Xw ad ca σ) s.heap.size = A at hD hN ⊢
  have hA : ∀ q : Nat, s.heap.size ≤ q → A q := fun q h => by rw [← hAe]; exact Or.inr h
  have hS : va_S A s.heap s.heap [] := va_S.rf
  have hl := lv_entry ([.ref (ad 1), .int a0]) (n := 2) (Nat.le_of_ble_eq_true rfl)
  rw [lg_entry_eq]
  generalize (lg_sl ([.ref (ad 1), .int a0]) ++ List.replicate (2 - (lg_sl ([.ref (ad 1), .int a0])).length) Slot.unset).toArray = ls at hl ⊢
  have hl : lv_has ls 2 [(0, .ref (ad 1)), (1, .int a0)] := hl
  unfold f_G_hasSymbol at h
  refine lv_iload_n hx hb d_G_hasSymbol_0 rfl (lv_at hl 1 rfl) ?_
  refine lv_if_lt (tgt := 16) hx hb d_G_hasSymbol_1 (by decide) (fun hc1 => ?_) (fun hc1 => ?_)
  ·
    rw [if_pos hc1] at h
    refine lv_iconst (v := 0) hx hb d_G_hasSymbol_16 (by decide) ?_
    have h9 := Option.some.inj h
    rw [← h9]
    exact W.zret (v := 0) (ty := .boolean) hx hb hr (by decide) (fun t ht hW => ⟨⟨0, (), rfl, rfl, by rw [ht]; exact hP, va_K.moved hW.alike hK, hD⟩, hS.F ht⟩) hS.2.2 d_G_hasSymbol_17
  ·
    rw [if_neg hc1] at h
    refine lv_iload_n hx hb d_G_hasSymbol_4 rfl (lv_at hl 1 rfl) ?_
    refine lv_aload_n hx hb d_G_hasSymbol_5 rfl (lv_at hl 0 rfl) ?_
    refine g_G_symbolCount dC dI ad ca σ hx hb hts hown hK hP k_15 d_G_hasSymbol_6 ?_
    refine lv_icmp_ge (tgt := 16) hx hb d_G_hasSymbol_9 (by decide) (fun hc2 => ?_) (fun hc2 => ?_)
    ·
      rw [if_pos hc2] at h
      refine lv_iconst (v := 0) hx hb d_G_hasSymbol_16 (by decide) ?_
      have h9 := Option.some.inj h
      rw [← h9]
      exact W.zret (v := 0) (ty := .boolean) hx hb hr (by decide) (fun t ht hW => ⟨⟨0, (), rfl, rfl, by rw [ht]; exact hP, va_K.moved hW.alike hK, hD⟩, hS.F ht⟩) hS.2.2 d_G_hasSymbol_17
    ·
      rw [if_neg hc2] at h
      refine lv_iconst (v := 1) hx hb d_G_hasSymbol_12 (by decide) ?_
      refine lv_goto (tgt := 17) hx hb d_G_hasSymbol_13 (by decide) ?_
      have h9 := Option.some.inj h
      rw [← h9]
      exact W.zret (v := 1) (ty := .boolean) hx hb hr (by decide) (fun t ht hW => ⟨⟨1, (), rfl, rfl, by rw [ht]; exact hP, va_K.moved hW.alike hK, hD⟩, hS.F ht⟩) hS.2.2 d_G_hasSymbol_17

set_option maxHeartbeats 4000000 in
set_option maxRecDepth 100000 in
theorem c_G_hasAttribute (l : Launch) (htr : l.stackTraces = false) (dC : Nat → ClassId) (dI : Nat → Nat → Nat) (ad : Nat → Nat) (ca : Nat → ClassId) (N : Nat) (σ : vS) (a0 : Int32) (a1 : Int32) (v : Int32 × vS) (h : f_G_hasAttribute N σ a0 a1 = some v) (sz : Nat) : Met l y_G_hasAttribute WS ({ frames := 0, cells := 0, slots := 0, locals := 0 }) (va_Pc [.ref (ad 1), .int a0, .int a1] (vq_Pre (dC, dI) CL sz (Xw ad ca σ) (Xt ca))) (va_Qi (fun (r : Int32) (_ : Unit) => r = v.1) (fun _ t => vq_Post (dC, dI) CL (va_A (Xw ad ca σ) sz) (Xw ad ca v.2) (Xt ca) t) (va_A (Xw ad ca σ) sz)) 0 0 (va_A (Xw ad ca σ) sz) := by
  refine vq_ofW (cc := prog_3_method_3_code) (maxL := 3) (ret := (Option.some Jvm.ClassFile.FieldType.boolean)) pl_G (vq_his k_16) ?_
  intro p e s m args below meth c s₁ B hml hv
  obtain ⟨rfl, hst, hsz, hP, hK, hD0⟩ := hv
  have hx := B.exec
  have hb := B.bytes
  have hr := B.returns
  have hts := atoms_spec (ws := WS) B.pre
  have hown : s.vm.findClass R_G = some m.cls := findClass_of_methodNamed B.named
  have hlocks := B.notSynchronized
  have hno := vq_noH B (hts _ k_16)
  subst hsz
  have hN := vq_ns hP
  have hD := hD0.self (sz := s.heap.size)
  generalize hAe : va_A (Xw ad ca σ) s.heap.size = A at hD hN ⊢
  have hA : ∀ q : Nat, s.heap.size ≤ q → A q := fun q h => by rw [← hAe]; exact Or.inr h
  have hS : va_S A s.heap s.heap [] := va_S.rf
  have hl := lv_entry ([.ref (ad 1), .int a0, .int a1]) (n := 3) (Nat.le_of_ble_eq_true rfl)
  rw [lg_entry_eq]
  generalize (lg_sl ([.ref (ad 1), .int a0, .int a1]) ++ List.replicate (3 - (lg_sl ([.ref (ad 1), .int a0, .int a1])).length) Slot.unset).toArray = ls at hl ⊢
  have hl : lv_has ls 3 [(0, .ref (ad 1)), (1, .int a0), (2, .int a1)] := hl
  unfold f_G_hasAttribute at h
  refine lv_iload_n hx hb d_G_hasAttribute_0 rfl (lv_at hl 2 rfl) ?_
  refine lv_if_lt (tgt := 18) hx hb d_G_hasAttribute_1 (by decide) (fun hc1 => ?_) (fun hc1 => ?_)
  ·
    rw [if_pos hc1] at h
    refine lv_iconst (v := 0) hx hb d_G_hasAttribute_18 (by decide) ?_
    have h9 := Option.some.inj h
    rw [← h9]
    exact W.zret (v := 0) (ty := .boolean) hx hb hr (by decide) (fun t ht hW => ⟨⟨0, (), rfl, rfl, by rw [ht]; exact hP, va_K.moved hW.alike hK, hD⟩, hS.F ht⟩) hS.2.2 d_G_hasAttribute_19
  ·
    rw [if_neg hc1] at h
    refine lv_iload_n hx hb d_G_hasAttribute_4 rfl (lv_at hl 2 rfl) ?_
    refine lv_aload_n hx hb d_G_hasAttribute_5 rfl (lv_at hl 0 rfl) ?_
    refine g_G_attributeCounts dC dI ad ca σ hx hb hts hown hK hP k_17 d_G_hasAttribute_6 ?_
    refine lv_iload_n hx hb d_G_hasAttribute_9 rfl (lv_at hl 1 rfl) ?_
    obtain ⟨hi2, h⟩ := vq_bd h
    refine al_X0 dC dI ad ca σ hx hb hts hown hK hP hi2 d_G_hasAttribute_10 ?_
    obtain ⟨i3, ei3, h⟩ := vq_let h
    refine vq_top ei3.symm ?_
    refine lv_icmp_ge (tgt := 18) hx hb d_G_hasAttribute_11 (by decide) (fun hc4 => ?_) (fun hc4 => ?_)
    ·
      rw [if_pos hc4] at h
      refine lv_iconst (v := 0) hx hb d_G_hasAttribute_18 (by decide) ?_
      have h9 := Option.some.inj h
      rw [← h9]
      exact W.zret (v := 0) (ty := .boolean) hx hb hr (by decide) (fun t ht hW => ⟨⟨0, (), rfl, rfl, by rw [ht]; exact hP, va_K.moved hW.alike hK, hD⟩, hS.F ht⟩) hS.2.2 d_G_hasAttribute_19
    ·
      rw [if_neg hc4] at h
      refine lv_iconst (v := 1) hx hb d_G_hasAttribute_14 (by decide) ?_
      refine lv_goto (tgt := 19) hx hb d_G_hasAttribute_15 (by decide) ?_
      have h9 := Option.some.inj h
      rw [← h9]
      exact W.zret (v := 1) (ty := .boolean) hx hb hr (by decide) (fun t ht hW => ⟨⟨1, (), rfl, rfl, by rw [ht]; exact hP, va_K.moved hW.alike hK, hD⟩, hS.F ht⟩) hS.2.2 d_G_hasAttribute_19

set_option maxHeartbeats 4000000 in
set_option maxRecDepth 100000 in
theorem c_G_hasProduction (l : Launch) (htr : l.stackTraces = false) (dC : Nat → ClassId) (dI : Nat → Nat → Nat) (ad : Nat → Nat) (ca : Nat → ClassId) (N : Nat) (σ : vS) (a0 : Int32) (v : Int32 × vS) (h : f_G_hasProduction N σ a0 = some v) (sz : Nat) : Met l y_G_hasProduction WS ({ frames := 0, cells := 0, slots := 0, locals := 0 }) (va_Pc [.ref (ad 1), .int a0] (vq_Pre (dC, dI) CL sz (Xw ad ca σ) (Xt ca))) (va_Qi (fun (r : Int32) (_ : Unit) => r = v.1) (fun _ t => vq_Post (dC, dI) CL (va_A (Xw ad ca σ) sz) (Xw ad ca v.2) (Xt ca) t) (va_A (Xw ad ca σ) sz)) 0 0 (va_A (Xw ad ca σ) sz) := by
  refine vq_ofW (cc := prog_3_method_4_code) (maxL := 2) (ret := (Option.some Jvm.ClassFile.FieldType.boolean)) pl_G (vq_his k_18) ?_
  intro p e s m args below meth c s₁ B hml hv
  obtain ⟨rfl, hst, hsz, hP, hK, hD0⟩ := hv
  have hx := B.exec
  have hb := B.bytes
  have hr := B.returns
  have hts := atoms_spec (ws := WS) B.pre
  have hown : s.vm.findClass R_G = some m.cls := findClass_of_methodNamed B.named
  have hlocks := B.notSynchronized
  have hno := vq_noH B (hts _ k_18)
  subst hsz
  have hN := vq_ns hP
  have hD := hD0.self (sz := s.heap.size)
  generalize hAe : va_A (Xw ad ca σ) s.heap.size = A at hD hN ⊢
  have hA : ∀ q : Nat, s.heap.size ≤ q → A q := fun q h => by rw [← hAe]; exact Or.inr h
  have hS : va_S A s.heap s.heap [] := va_S.rf
  have hl := lv_entry ([.ref (ad 1), .int a0]) (n := 2) (Nat.le_of_ble_eq_true rfl)
  rw [lg_entry_eq]
  generalize (lg_sl ([.ref (ad 1), .int a0]) ++ List.replicate (2 - (lg_sl ([.ref (ad 1), .int a0])).length) Slot.unset).toArray = ls at hl ⊢
  have hl : lv_has ls 2 [(0, .ref (ad 1)), (1, .int a0)] := hl
  unfold f_G_hasProduction at h
  refine lv_iload_n hx hb d_G_hasProduction_0 rfl (lv_at hl 1 rfl) ?_
  refine lv_if_lt (tgt := 16) hx hb d_G_hasProduction_1 (by decide) (fun hc1 => ?_) (fun hc1 => ?_)
  ·
    rw [if_pos hc1] at h
    refine lv_iconst (v := 0) hx hb d_G_hasProduction_16 (by decide) ?_
    have h9 := Option.some.inj h
    rw [← h9]
    exact W.zret (v := 0) (ty := .boolean) hx hb hr (by decide) (fun t ht hW => ⟨⟨0, (), rfl, rfl, by rw [ht]; exact hP, va_K.moved hW.alike hK, hD⟩, hS.F ht⟩) hS.2.2 d_G_hasProduction_17
  ·
    rw [if_neg hc1] at h
    refine lv_iload_n hx hb d_G_hasProduction_4 rfl (lv_at hl 1 rfl) ?_
    refine lv_aload_n hx hb d_G_hasProduction_5 rfl (lv_at hl 0 rfl) ?_
    refine g_G_productionCount dC dI ad ca σ hx hb hts hown hK hP k_19 d_G_hasProduction_6 ?_
    refine lv_icmp_ge (tgt := 16) hx hb d_G_hasProduction_9 (by decide) (fun hc2 => ?_) (fun hc2 => ?_)
    ·
      rw [if_pos hc2] at h
      refine lv_iconst (v := 0) hx hb d_G_hasProduction_16 (by decide) ?_
      have h9 := Option.some.inj h
      rw [← h9]
      exact W.zret (v := 0) (ty := .boolean) hx hb hr (by decide) (fun t ht hW => ⟨⟨0, (), rfl, rfl, by rw [ht]; exact hP, va_K.moved hW.alike hK, hD⟩, hS.F ht⟩) hS.2.2 d_G_hasProduction_17
    ·
      rw [if_neg hc2] at h
      refine lv_iconst (v := 1) hx hb d_G_hasProduction_12 (by decide) ?_
      refine lv_goto (tgt := 17) hx hb d_G_hasProduction_13 (by decide) ?_
      have h9 := Option.some.inj h
      rw [← h9]
      exact W.zret (v := 1) (ty := .boolean) hx hb hr (by decide) (fun t ht hW => ⟨⟨1, (), rfl, rfl, by rw [ht]; exact hP, va_K.moved hW.alike hK, hD⟩, hS.F ht⟩) hS.2.2 d_G_hasProduction_17

set_option maxHeartbeats 4000000 in
set_option maxRecDepth 100000 in
theorem c_G_hasOccurrence (l : Launch) (htr : l.stackTraces = false) (dC : Nat → ClassId) (dI : Nat → Nat → Nat) (ad : Nat → Nat) (ca : Nat → ClassId) (N : Nat) (σ : vS) (a0 : Int32) (a1 : Int32) (v : Int32 × vS) (h : f_G_hasOccurrence N σ a0 a1 = some v) (sz : Nat) : Met l y_G_hasOccurrence WS ({ frames := 1, cells := 0, slots := 0, locals := 21 }) (va_Pc [.ref (ad 1), .int a0, .int a1] (vq_Pre (dC, dI) CL sz (Xw ad ca σ) (Xt ca))) (va_Qi (fun (r : Int32) (_ : Unit) => r = v.1) (fun _ t => vq_Post (dC, dI) CL (va_A (Xw ad ca σ) sz) (Xw ad ca v.2) (Xt ca) t) (va_A (Xw ad ca σ) sz)) 0 0 (va_A (Xw ad ca σ) sz) := by
  refine vq_ofW (cc := prog_3_method_5_code) (maxL := 3) (ret := (Option.some Jvm.ClassFile.FieldType.boolean)) pl_G (vq_his k_20) ?_
  intro p e s m args below meth c s₁ B hml hv
  obtain ⟨rfl, hst, hsz, hP, hK, hD0⟩ := hv
  have hx := B.exec
  have hb := B.bytes
  have hr := B.returns
  have hts := atoms_spec (ws := WS) B.pre
  have hown : s.vm.findClass R_G = some m.cls := findClass_of_methodNamed B.named
  have hlocks := B.notSynchronized
  have hno := vq_noH B (hts _ k_20)
  subst hsz
  have hN := vq_ns hP
  have hD := hD0.self (sz := s.heap.size)
  generalize hAe : va_A (Xw ad ca σ) s.heap.size = A at hD hN ⊢
  have hA : ∀ q : Nat, s.heap.size ≤ q → A q := fun q h => by rw [← hAe]; exact Or.inr h
  have hS : va_S A s.heap s.heap [] := va_S.rf
  have hl := lv_entry ([.ref (ad 1), .int a0, .int a1]) (n := 3) (Nat.le_of_ble_eq_true rfl)
  rw [lg_entry_eq]
  generalize (lg_sl ([.ref (ad 1), .int a0, .int a1]) ++ List.replicate (3 - (lg_sl ([.ref (ad 1), .int a0, .int a1])).length) Slot.unset).toArray = ls at hl ⊢
  have hl : lv_has ls 3 [(0, .ref (ad 1)), (1, .int a0), (2, .int a1)] := hl
  unfold f_G_hasOccurrence at h
  refine lv_iload_n hx hb d_G_hasOccurrence_0 rfl (lv_at hl 2 rfl) ?_
  refine lv_if_lt (tgt := 27) hx hb d_G_hasOccurrence_1 (by decide) (fun hc1 => ?_) (fun hc1 => ?_)
  ·
    rw [if_pos hc1] at h
    refine lv_iconst (v := 0) hx hb d_G_hasOccurrence_27 (by decide) ?_
    have h9 := Option.some.inj h
    rw [← h9]
    exact W.zret (v := 0) (ty := .boolean) hx hb hr (by decide) (fun t ht hW => ⟨⟨0, (), rfl, rfl, by rw [ht]; exact hP, va_K.moved hW.alike hK, hD⟩, hS.F ht⟩) hS.2.2 d_G_hasOccurrence_28
  ·
    rw [if_neg hc1] at h
    refine lv_iload_n hx hb d_G_hasOccurrence_4 rfl (lv_at hl 2 rfl) ?_
    refine lv_bipush (v := 16) hx hb d_G_hasOccurrence_5 (by decide) ?_
    refine lv_icmp_ge (tgt := 27) hx hb d_G_hasOccurrence_7 (by decide) (fun hc2 => ?_) (fun hc2 => ?_)
    ·
      rw [if_pos hc2] at h
      refine lv_iconst (v := 0) hx hb d_G_hasOccurrence_27 (by decide) ?_
      have h9 := Option.some.inj h
      rw [← h9]
      exact W.zret (v := 0) (ty := .boolean) hx hb hr (by decide) (fun t ht hW => ⟨⟨0, (), rfl, rfl, by rw [ht]; exact hP, va_K.moved hW.alike hK, hD⟩, hS.F ht⟩) hS.2.2 d_G_hasOccurrence_28
    ·
      rw [if_neg hc2] at h
      refine lv_aload_n hx hb d_G_hasOccurrence_10 rfl (lv_at hl 0 rfl) ?_
      refine g_G_presentBits dC dI ad ca σ hx hb hts hown hK hP k_21 d_G_hasOccurrence_11 ?_
      refine lv_iload_n hx hb d_G_hasOccurrence_14 rfl (lv_at hl 1 rfl) ?_
      obtain ⟨hi3, h⟩ := vq_bd h
      refine al_X4 dC dI ad ca σ hx hb hts hown hK hP hi3 d_G_hasOccurrence_15 ?_
      obtain ⟨i4, ei4, h⟩ := vq_let h
      refine vq_top ei4.symm ?_
      refine lv_iload_n hx hb d_G_hasOccurrence_16 rfl (lv_at hl 2 rfl) ?_
      obtain ⟨q5, h6, h⟩ := vq_bi h
      have hKe := hK.sub (tys' := []) [] rfl
      refine va_calli (va_runSN (As := [.int i4, .int a1]) (rest := []) ⟨hx, hb, hml, hown, hts⟩ (c_V_holds l htr dC dI N i4 a1 q5 h6 s.heap.size) (vq_cSN WSk hts 2 rfl rfl ⟨by decide, by decide⟩ k_0 k_22 k_23 k_24 (by decide +kernel)) ⟨vq_blind, vq_here hst hS hN vq_P0 hKe vq_D0⟩ rfl rfl hl.1 rfl (lv_room (Nat.le_of_ble_eq_true rfl)) d_G_hasOccurrence_17 ⟨by decide, by decide⟩) hS (fun q _ h => vq_keepA h (fun hz => hA q (Nat.le_trans hS.1 hz))) (fun q h => vq_keepA h (fun hz => hA q (Nat.le_trans hS.1 hz))) (fun r u t H1 locs ht hvm hw hB hz1 hk1 hS => ?_)
      have hw : r = q5 := hw
      rw [hw]
      have hP := vq_keepP hP hk1
      generalize H1 = H at hP hS ⊢
      refine W.widen (k := 0) (n := 0) (by decide) (by decide) ?_
      refine lv_if_eq (tgt := 27) hx hb d_G_hasOccurrence_20 (by decide) (fun hc7 => ?_) (fun hc7 => ?_)
      ·
        rw [if_pos hc7] at h
        refine lv_iconst (v := 0) hx hb d_G_hasOccurrence_27 (by decide) ?_
        have h9 := Option.some.inj h
        rw [← h9]
        exact W.zret (v := 0) (ty := .boolean) hx hb hr (by decide) (fun t ht hW => ⟨⟨0, (), rfl, rfl, by rw [ht]; exact hP, va_K.moved hW.alike hK, hD⟩, hS.F ht⟩) hS.2.2 d_G_hasOccurrence_28
      ·
        rw [if_neg hc7] at h
        refine lv_iconst (v := 1) hx hb d_G_hasOccurrence_23 (by decide) ?_
        refine lv_goto (tgt := 28) hx hb d_G_hasOccurrence_24 (by decide) ?_
        have h9 := Option.some.inj h
        rw [← h9]
        exact W.zret (v := 1) (ty := .boolean) hx hb hr (by decide) (fun t ht hW => ⟨⟨1, (), rfl, rfl, by rw [ht]; exact hP, va_K.moved hW.alike hK, hD⟩, hS.F ht⟩) hS.2.2 d_G_hasOccurrence_28

set_option maxHeartbeats 4000000 in
set_option maxRecDepth 100000 in
theorem c_G_isToBeDefined (l : Launch) (htr : l.stackTraces = false) (dC : Nat → ClassId) (dI : Nat → Nat → Nat) (ad : Nat → Nat) (ca : Nat → ClassId) (N : Nat) (σ : vS) (a0 : Int32) (a1 : Int32) (v : Int32 × vS) (h : f_G_isToBeDefined N σ a0 a1 = some v) (sz : Nat) : Met l y_G_isToBeDefined WS ({ frames := 2, cells := 0, slots := 0, locals := 43 }) (va_Pc [.ref (ad 1), .int a0, .int a1] (vq_Pre (dC, dI) CL sz (Xw ad ca σ) (Xt ca))) (va_Qi (fun (r : Int32) (_ : Unit) => r = v.1) (fun _ t => vq_Post (dC, dI) CL (va_A (Xw ad ca σ) sz) (Xw ad ca v.2) (Xt ca) t) (va_A (Xw ad ca σ) sz)) 0 0 (va_A (Xw ad ca σ) sz) := by
  refine vq_ofW (cc := prog_3_method_6_code) (maxL := 3) (ret := (Option.some Jvm.ClassFile.FieldType.boolean)) pl_G (vq_his k_25) ?_
  intro p e s m args below meth c s₁ B hml hv
  obtain ⟨rfl, hst, hsz, hP, hK, hD0⟩ := hv
  have hx := B.exec
  have hb := B.bytes
  have hr := B.returns
  have hts := atoms_spec (ws := WS) B.pre
  have hown : s.vm.findClass R_G = some m.cls := findClass_of_methodNamed B.named
  have hlocks := B.notSynchronized
  have hno := vq_noH B (hts _ k_25)
  subst hsz
  have hN := vq_ns hP
  have hD := hD0.self (sz := s.heap.size)
  generalize hAe : va_A (Xw ad ca σ) s.heap.size = A at hD hN ⊢
  have hA : ∀ q : Nat, s.heap.size ≤ q → A q := fun q h => by rw [← hAe]; exact Or.inr h
  have hS : va_S A s.heap s.heap [] := va_S.rf
  have hl := lv_entry ([.ref (ad 1), .int a0, .int a1]) (n := 3) (Nat.le_of_ble_eq_true rfl)
  rw [lg_entry_eq]
  generalize (lg_sl ([.ref (ad 1), .int a0, .int a1]) ++ List.replicate (3 - (lg_sl ([.ref (ad 1), .int a0, .int a1])).length) Slot.unset).toArray = ls at hl ⊢
  have hl : lv_has ls 3 [(0, .ref (ad 1)), (1, .int a0), (2, .int a1)] := hl
  unfold f_G_isToBeDefined at h
  refine lv_aload_n hx hb d_G_isToBeDefined_0 rfl (lv_at hl 0 rfl) ?_
  refine lv_iload_n hx hb d_G_isToBeDefined_1 rfl (lv_at hl 1 rfl) ?_
  refine lv_iload_n hx hb d_G_isToBeDefined_2 rfl (lv_at hl 2 rfl) ?_
  obtain ⟨q1, h2, h⟩ := vq_bi h
  have hFc := vq_freeAll hD hS hA
  refine va_calli (va_runV (As := [.int a0, .int a1]) (rest := []) ⟨hx, hb, hml, hown, hts⟩ (c_G_hasOccurrence l htr dC dI ad ca N σ a0 a1 q1 h2 s.heap.size) (vq_cV WSk hts 2 rfl rfl ⟨by decide, by decide⟩ k_20 k_26 k_27 k_28 k_29 (by decide +kernel)) ⟨vq_blind, va_recv hK hP (ci := 1) (q0 := 1) rfl rfl, vq_here hst hS hN hP hK hD⟩ rfl rfl hl.1 rfl (lv_room (Nat.le_of_ble_eq_true rfl)) d_G_isToBeDefined_3 ⟨by decide, by decide⟩) hS (fun q _ h => hFc q h) hFc (fun r u t H1 locs ht hvm hw hB hz1 hk1 hS => ?_)
  obtain ⟨hP, -, hD1⟩ := hB
  rw [ht] at hP
  have hD := hD1.weaken (fun _ _ _ h => hFc _ h)
  have hw : r = q1.1 := hw
  subst hw
  generalize H1 = H at hP hS ⊢
  refine W.widen (k := 0) (n := 0) (by decide) (by decide) ?_
  refine lv_if_eq (tgt := 26) hx hb d_G_isToBeDefined_6 (by decide) (fun hc3 => ?_) (fun hc3 => ?_)
  ·
    rw [if_pos hc3] at h
    refine lv_iconst (v := 0) hx hb d_G_isToBeDefined_26 (by decide) ?_
    have h9 := Option.some.inj h
    rw [← h9]
    exact W.zret (v := 0) (ty := .boolean) hx hb hr (by decide) (fun t ht hW => ⟨⟨0, (), rfl, rfl, by rw [ht]; exact hP, va_K.moved hW.alike hK, hD⟩, hS.F ht⟩) hS.2.2 d_G_isToBeDefined_27
  ·
    rw [if_neg hc3] at h
    refine lv_aload_n hx hb d_G_isToBeDefined_9 rfl (lv_at hl 0 rfl) ?_
    refine g_G_toDefineBits dC dI ad ca q1.2 hx hb hts hown hK hP k_30 d_G_isToBeDefined_10 ?_
    refine lv_iload_n hx hb d_G_isToBeDefined_13 rfl (lv_at hl 1 rfl) ?_
    obtain ⟨hi4, h⟩ := vq_bd h
    refine al_X5 dC dI ad ca q1.2 hx hb hts hown hK hP hi4 d_G_isToBeDefined_14 ?_
    obtain ⟨i5, ei5, h⟩ := vq_let h
    refine vq_top ei5.symm ?_
    refine lv_iload_n hx hb d_G_isToBeDefined_15 rfl (lv_at hl 2 rfl) ?_
    obtain ⟨q6, h7, h⟩ := vq_bi h
    have hKe := hK.sub (tys' := []) [] rfl
    refine va_calli (va_runSN (As := [.int i5, .int a1]) (rest := []) ⟨hx, hb, hml, hown, hts⟩ (c_V_holds l htr dC dI N i5 a1 q6 h7 H.size) (vq_cSN WSk hts 2 rfl rfl ⟨by decide, by decide⟩ k_0 k_22 k_23 k_24 (by decide +kernel)) ⟨vq_blind, vq_here hst hS hN vq_P0 hKe vq_D0⟩ rfl rfl hl.1 rfl (lv_room (Nat.le_of_ble_eq_true rfl)) d_G_isToBeDefined_16 ⟨by decide, by decide⟩) hS (fun q _ h => vq_keepA h (fun hz => hA q (Nat.le_trans hS.1 hz))) (fun q h => vq_keepA h (fun hz => hA q (Nat.le_trans hS.1 hz))) (fun r u t H1 locs ht hvm hw hB hz1 hk1 hS => ?_)
    have hw : r = q6 := hw
    rw [hw]
    have hP := vq_keepP hP hk1
    generalize H1 = H at hP hS ⊢
    refine W.widen (k := 0) (n := 0) (by decide) (by decide) ?_
    refine lv_if_eq (tgt := 26) hx hb d_G_isToBeDefined_19 (by decide) (fun hc8 => ?_) (fun hc8 => ?_)
    ·
      rw [if_pos hc8] at h
      refine lv_iconst (v := 0) hx hb d_G_isToBeDefined_26 (by decide) ?_
      have h9 := Option.some.inj h
      rw [← h9]
      exact W.zret (v := 0) (ty := .boolean) hx hb hr (by decide) (fun t ht hW => ⟨⟨0, (), rfl, rfl, by rw [ht]; exact hP, va_K.moved hW.alike hK, hD⟩, hS.F ht⟩) hS.2.2 d_G_isToBeDefined_27
    ·
      rw [if_neg hc8] at h
      refine lv_iconst (v := 1) hx hb d_G_isToBeDefined_22 (by decide) ?_
      refine lv_goto (tgt := 27) hx hb d_G_isToBeDefined_23 (by decide) ?_
      have h9 := Option.some.inj h
      rw [← h9]
      exact W.zret (v := 1) (ty := .boolean) hx hb hr (by decide) (fun t ht hW => ⟨⟨1, (), rfl, rfl, by rw [ht]; exact hP, va_K.moved hW.alike hK, hD⟩, hS.F ht⟩) hS.2.2 d_G_isToBeDefined_27

set_option maxHeartbeats 4000000 in
set_option maxRecDepth 100000 in
theorem c_G_isRight (l : Launch) (htr : l.stackTraces = false) (dC : Nat → ClassId) (dI : Nat → Nat → Nat) (ad : Nat → Nat) (ca : Nat → ClassId) (N : Nat) (σ : vS) (a0 : Int32) (a1 : Int32) (a2 : Int32) (v : Int32 × vS) (h : f_G_isRight N σ a0 a1 a2 = some v) (sz : Nat) : Met l y_G_isRight WS ({ frames := 1, cells := 0, slots := 0, locals := 21 }) (va_Pc [.ref (ad 1), .int a0, .int a1, .int a2] (vq_Pre (dC, dI) CL sz (Xw ad ca σ) (Xt ca))) (va_Qi (fun (r : Int32) (_ : Unit) => r = v.1) (fun _ t => vq_Post (dC, dI) CL (va_A (Xw ad ca σ) sz) (Xw ad ca v.2) (Xt ca) t) (va_A (Xw ad ca σ) sz)) 0 0 (va_A (Xw ad ca σ) sz) := by
  refine vq_ofW (cc := prog_3_method_7_code) (maxL := 4) (ret := (Option.some Jvm.ClassFile.FieldType.boolean)) pl_G (vq_his k_31) ?_
  intro p e s m args below meth c s₁ B hml hv
  obtain ⟨rfl, hst, hsz, hP, hK, hD0⟩ := hv
  have hx := B.exec
  have hb := B.bytes
  have hr := B.returns
  have hts := atoms_spec (ws := WS) B.pre
  have hown : s.vm.findClass R_G = some m.cls := findClass_of_methodNamed B.named
  have hlocks := B.notSynchronized
  have hno := vq_noH B (hts _ k_31)
  subst hsz
  have hN := vq_ns hP
  have hD := hD0.self (sz := s.heap.size)
  generalize hAe : va_A (Xw ad ca σ) s.heap.size = A at hD hN ⊢
  have hA : ∀ q : Nat, s.heap.size ≤ q → A q := fun q h => by rw [← hAe]; exact Or.inr h
  have hS : va_S A s.heap s.heap [] := va_S.rf
  have hl := lv_entry ([.ref (ad 1), .int a0, .int a1, .int a2]) (n := 4) (Nat.le_of_ble_eq_true rfl)
  rw [lg_entry_eq]
  generalize (lg_sl ([.ref (ad 1), .int a0, .int a1, .int a2]) ++ List.replicate (4 - (lg_sl ([.ref (ad 1), .int a0, .int a1, .int a2])).length) Slot.unset).toArray = ls at hl ⊢
  have hl : lv_has ls 4 [(0, .ref (ad 1)), (1, .int a0), (2, .int a1), (3, .int a2)] := hl
  unfold f_G_isRight at h
  refine lv_iload_n hx hb d_G_isRight_0 rfl (lv_at hl 1 rfl) ?_
  refine lv_iconst (v := (-1)) hx hb d_G_isRight_1 (by decide) ?_
  refine lv_icmp_ne (tgt := 21) hx hb d_G_isRight_2 (by decide) (fun hc1 => ?_) (fun hc1 => ?_)
  ·
    rw [if_neg hc1] at h
    refine lv_iload_n hx hb d_G_isRight_21 rfl (lv_at hl 2 rfl) ?_
    refine lv_iconst (v := (-1)) hx hb d_G_isRight_22 (by decide) ?_
    refine lv_icmp_ne (tgt := 45) hx hb d_G_isRight_23 (by decide) (fun hc2 => ?_) (fun hc2 => ?_)
    ·
      rw [if_neg hc2] at h
      refine lv_aload_n hx hb d_G_isRight_45 rfl (lv_at hl 0 rfl) ?_
      refine lv_iload_n hx hb d_G_isRight_46 rfl (lv_at hl 1 rfl) ?_
      obtain ⟨q3, h4, h⟩ := vq_bi h
      have hFc := vq_freeAll hD hS hA
      refine va_calli (va_runV (As := [.int a0]) (rest := []) ⟨hx, hb, hml, hown, hts⟩ (c_G_hasSymbol l htr dC dI ad ca N σ a0 q3 h4 s.heap.size) (vq_cV WSk hts 1 rfl rfl ⟨by decide, by decide⟩ k_14 k_26 k_32 k_33 k_34 (by decide +kernel)) ⟨vq_blind, va_recv hK hP (ci := 1) (q0 := 1) rfl rfl, vq_here hst hS hN hP hK hD⟩ rfl rfl hl.1 rfl (lv_room (Nat.le_of_ble_eq_true rfl)) d_G_isRight_47 ⟨by decide, by decide⟩) hS (fun q _ h => hFc q h) hFc (fun r u t H1 locs ht hvm hw hB hz1 hk1 hS => ?_)
      obtain ⟨hP, -, hD1⟩ := hB
      rw [ht] at hP
      have hD := hD1.weaken (fun _ _ _ h => hFc _ h)
      have hw : r = q3.1 := hw
      subst hw
      generalize H1 = H at hP hS ⊢
      refine W.widen (k := 0) (n := 0) (by decide) (by decide) ?_
      refine lv_if_eq (tgt := 78) hx hb d_G_isRight_50 (by decide) (fun hc5 => ?_) (fun hc5 => ?_)
      ·
        rw [if_pos hc5] at h
        refine lv_iconst (v := 0) hx hb d_G_isRight_78 (by decide) ?_
        have h9 := Option.some.inj h
        rw [← h9]
        exact W.zret (v := 0) (ty := .boolean) hx hb hr (by decide) (fun t ht hW => ⟨⟨0, (), rfl, rfl, by rw [ht]; exact hP, va_K.moved hW.alike hK, hD⟩, hS.F ht⟩) hS.2.2 d_G_isRight_79
      ·
        rw [if_neg hc5] at h
        refine lv_aload_n hx hb d_G_isRight_53 rfl (lv_at hl 0 rfl) ?_
        refine lv_iload_n hx hb d_G_isRight_54 rfl (lv_at hl 2 rfl) ?_
        obtain ⟨q6, h7, h⟩ := vq_bi h
        have hFc := vq_freeAll hD hS hA
        refine va_calli (va_runV (As := [.int a1]) (rest := []) ⟨hx, hb, hml, hown, hts⟩ (c_G_hasSymbol l htr dC dI ad ca N q3.2 a1 q6 h7 H.size) (vq_cV WSk hts 1 rfl rfl ⟨by decide, by decide⟩ k_14 k_26 k_32 k_33 k_34 (by decide +kernel)) ⟨vq_blind, va_recv hK hP (ci := 1) (q0 := 1) rfl rfl, vq_here hst hS hN hP hK hD⟩ rfl rfl hl.1 rfl (lv_room (Nat.le_of_ble_eq_true rfl)) d_G_isRight_55 ⟨by decide, by decide⟩) hS (fun q _ h => hFc q h) hFc (fun r u t H1 locs ht hvm hw hB hz1 hk1 hS => ?_)
        obtain ⟨hP, -, hD1⟩ := hB
        rw [ht] at hP
        have hD := hD1.weaken (fun _ _ _ h => hFc _ h)
        have hw : r = q6.1 := hw
        subst hw
        generalize H1 = H at hP hS ⊢
        refine W.widen (k := 0) (n := 0) (by decide) (by decide) ?_
        refine lv_if_eq (tgt := 78) hx hb d_G_isRight_58 (by decide) (fun hc8 => ?_) (fun hc8 => ?_)
        ·
          rw [if_pos hc8] at h
          refine lv_iconst (v := 0) hx hb d_G_isRight_78 (by decide) ?_
          have h9 := Option.some.inj h
          rw [← h9]
          exact W.zret (v := 0) (ty := .boolean) hx hb hr (by decide) (fun t ht hW => ⟨⟨0, (), rfl, rfl, by rw [ht]; exact hP, va_K.moved hW.alike hK, hD⟩, hS.F ht⟩) hS.2.2 d_G_isRight_79
        ·
          rw [if_neg hc8] at h
          refine lv_iload_n hx hb d_G_isRight_61 rfl (lv_at hl 3 rfl) ?_
          refine lv_iconst (v := (-1)) hx hb d_G_isRight_62 (by decide) ?_
          have J74 : ∀ (τ : vS) (H : Heap) (locs : List Loc) (ls : Array Slot), f_G_isRight_74 N τ = some v → lv_has ls 4 [] → va_P (dC, dI) CL (Xw ad ca τ) H → va_D A (Xw ad ca τ) → va_S A s.heap H locs → W p l e (headSpec WS ({ frames := 1, cells := 0, slots := 0, locals := 21 })).room s m ([.ref (ad 1), .int a0, .int a1, .int a2] : List Value).toArray below meth c H locs 0 0 (MQ below (va_Qi (fun (r : Int32) (_ : Unit) => r = v.1) (fun _ t => vq_Post (dC, dI) CL A (Xw ad ca v.2) (Xt ca) t) A) ([.ref (ad 1), .int a0, .int a1, .int a2] : List Value).toArray s 0 0 A) (F0 m 74 ls []) := by
            intro τ H locs ls h hl hP hD hS
            unfold f_G_isRight_74 at h
            refine lv_iconst (v := 1) hx hb d_G_isRight_74 (by decide) ?_
            refine lv_goto (tgt := 79) hx hb d_G_isRight_75 (by decide) ?_
            have h9 := Option.some.inj h
            rw [← h9]
            exact W.zret (v := 1) (ty := .boolean) hx hb hr (by decide) (fun t ht hW => ⟨⟨1, (), rfl, rfl, by rw [ht]; exact hP, va_K.moved hW.alike hK, hD⟩, hS.F ht⟩) hS.2.2 d_G_isRight_79
          refine lv_icmp_eq (tgt := 74) hx hb d_G_isRight_63 (by decide) (fun hc9 => ?_) (fun hc9 => ?_)
          ·
            rw [if_pos hc9] at h
            exact J74 _ _ _ _ h (lv_sub hl [] rfl) hP hD hS
          ·
            rw [if_neg hc9] at h
            refine lv_aload_n hx hb d_G_isRight_66 rfl (lv_at hl 0 rfl) ?_
            refine lv_iload_n hx hb d_G_isRight_67 rfl (lv_at hl 3 rfl) ?_
            obtain ⟨q10, h11, h⟩ := vq_bi h
            have hFc := vq_freeAll hD hS hA
            refine va_calli (va_runV (As := [.int a2]) (rest := []) ⟨hx, hb, hml, hown, hts⟩ (c_G_hasSymbol l htr dC dI ad ca N q6.2 a2 q10 h11 H.size) (vq_cV WSk hts 1 rfl rfl ⟨by decide, by decide⟩ k_14 k_26 k_32 k_33 k_34 (by decide +kernel)) ⟨vq_blind, va_recv hK hP (ci := 1) (q0 := 1) rfl rfl, vq_here hst hS hN hP hK hD⟩ rfl rfl hl.1 rfl (lv_room (Nat.le_of_ble_eq_true rfl)) d_G_isRight_68 ⟨by decide, by decide⟩) hS (fun q _ h => hFc q h) hFc (fun r u t H1 locs ht hvm hw hB hz1 hk1 hS => ?_)
            obtain ⟨hP, -, hD1⟩ := hB
            rw [ht] at hP
            have hD := hD1.weaken (fun _ _ _ h => hFc _ h)
            have hw : r = q10.1 := hw
            subst hw
            generalize H1 = H at hP hS ⊢
            refine W.widen (k := 0) (n := 0) (by decide) (by decide) ?_
            refine lv_if_eq (tgt := 78) hx hb d_G_isRight_71 (by decide) (fun hc12 => ?_) (fun hc12 => ?_)
            ·
              rw [if_pos hc12] at h
              refine lv_iconst (v := 0) hx hb d_G_isRight_78 (by decide) ?_
              have h9 := Option.some.inj h
              rw [← h9]
              exact W.zret (v := 0) (ty := .boolean) hx hb hr (by decide) (fun t ht hW => ⟨⟨0, (), rfl, rfl, by rw [ht]; exact hP, va_K.moved hW.alike hK, hD⟩, hS.F ht⟩) hS.2.2 d_G_isRight_79
            ·
              rw [if_neg hc12] at h
              exact J74 _ _ _ _ h (lv_sub hl [] rfl) hP hD hS
    ·
      rw [if_pos hc2] at h
      refine lv_aload_n hx hb d_G_isRight_26 rfl (lv_at hl 0 rfl) ?_
      refine lv_iload_n hx hb d_G_isRight_27 rfl (lv_at hl 1 rfl) ?_
      obtain ⟨q13, h14, h⟩ := vq_bi h
      have hFc := vq_freeAll hD hS hA
      refine va_calli (va_runV (As := [.int a0]) (rest := []) ⟨hx, hb, hml, hown, hts⟩ (c_G_hasSymbol l htr dC dI ad ca N σ a0 q13 h14 s.heap.size) (vq_cV WSk hts 1 rfl rfl ⟨by decide, by decide⟩ k_14 k_26 k_32 k_33 k_34 (by decide +kernel)) ⟨vq_blind, va_recv hK hP (ci := 1) (q0 := 1) rfl rfl, vq_here hst hS hN hP hK hD⟩ rfl rfl hl.1 rfl (lv_room (Nat.le_of_ble_eq_true rfl)) d_G_isRight_28 ⟨by decide, by decide⟩) hS (fun q _ h => hFc q h) hFc (fun r u t H1 locs ht hvm hw hB hz1 hk1 hS => ?_)
      obtain ⟨hP, -, hD1⟩ := hB
      rw [ht] at hP
      have hD := hD1.weaken (fun _ _ _ h => hFc _ h)
      have hw : r = q13.1 := hw
      subst hw
      generalize H1 = H at hP hS ⊢
      refine W.widen (k := 0) (n := 0) (by decide) (by decide) ?_
      refine lv_if_eq (tgt := 43) hx hb d_G_isRight_31 (by decide) (fun hc15 => ?_) (fun hc15 => ?_)
      ·
        rw [if_pos hc15] at h
        refine lv_iconst (v := 0) hx hb d_G_isRight_43 (by decide) ?_
        have h9 := Option.some.inj h
        rw [← h9]
        exact W.zret (v := 0) (ty := .boolean) hx hb hr (by decide) (fun t ht hW => ⟨⟨0, (), rfl, rfl, by rw [ht]; exact hP, va_K.moved hW.alike hK, hD⟩, hS.F ht⟩) hS.2.2 d_G_isRight_44
      ·
        rw [if_neg hc15] at h
        refine lv_iload_n hx hb d_G_isRight_34 rfl (lv_at hl 3 rfl) ?_
        refine lv_iconst (v := (-1)) hx hb d_G_isRight_35 (by decide) ?_
        refine lv_icmp_ne (tgt := 43) hx hb d_G_isRight_36 (by decide) (fun hc16 => ?_) (fun hc16 => ?_)
        ·
          rw [if_neg hc16] at h
          refine lv_iconst (v := 0) hx hb d_G_isRight_43 (by decide) ?_
          have h9 := Option.some.inj h
          rw [← h9]
          exact W.zret (v := 0) (ty := .boolean) hx hb hr (by decide) (fun t ht hW => ⟨⟨0, (), rfl, rfl, by rw [ht]; exact hP, va_K.moved hW.alike hK, hD⟩, hS.F ht⟩) hS.2.2 d_G_isRight_44
        ·
          rw [if_pos hc16] at h
          refine lv_iconst (v := 1) hx hb d_G_isRight_39 (by decide) ?_
          refine lv_goto (tgt := 44) hx hb d_G_isRight_40 (by decide) ?_
          have h9 := Option.some.inj h
          rw [← h9]
          exact W.zret (v := 1) (ty := .boolean) hx hb hr (by decide) (fun t ht hW => ⟨⟨1, (), rfl, rfl, by rw [ht]; exact hP, va_K.moved hW.alike hK, hD⟩, hS.F ht⟩) hS.2.2 d_G_isRight_44
  ·
    rw [if_pos hc1] at h
    refine lv_iload_n hx hb d_G_isRight_5 rfl (lv_at hl 2 rfl) ?_
    refine lv_iconst (v := (-1)) hx hb d_G_isRight_6 (by decide) ?_
    refine lv_icmp_ne (tgt := 19) hx hb d_G_isRight_7 (by decide) (fun hc17 => ?_) (fun hc17 => ?_)
    ·
      rw [if_neg hc17] at h
      refine lv_iconst (v := 0) hx hb d_G_isRight_19 (by decide) ?_
      have h9 := Option.some.inj h
      rw [← h9]
      exact W.zret (v := 0) (ty := .boolean) hx hb hr (by decide) (fun t ht hW => ⟨⟨0, (), rfl, rfl, by rw [ht]; exact hP, va_K.moved hW.alike hK, hD⟩, hS.F ht⟩) hS.2.2 d_G_isRight_20
    ·
      rw [if_pos hc17] at h
      refine lv_iload_n hx hb d_G_isRight_10 rfl (lv_at hl 3 rfl) ?_
      refine lv_iconst (v := (-1)) hx hb d_G_isRight_11 (by decide) ?_
      refine lv_icmp_ne (tgt := 19) hx hb d_G_isRight_12 (by decide) (fun hc18 => ?_) (fun hc18 => ?_)
      ·
        rw [if_neg hc18] at h
        refine lv_iconst (v := 0) hx hb d_G_isRight_19 (by decide) ?_
        have h9 := Option.some.inj h
        rw [← h9]
        exact W.zret (v := 0) (ty := .boolean) hx hb hr (by decide) (fun t ht hW => ⟨⟨0, (), rfl, rfl, by rw [ht]; exact hP, va_K.moved hW.alike hK, hD⟩, hS.F ht⟩) hS.2.2 d_G_isRight_20
      ·
        rw [if_pos hc18] at h
        refine lv_iconst (v := 1) hx hb d_G_isRight_15 (by decide) ?_
        refine lv_goto (tgt := 20) hx hb d_G_isRight_16 (by decide) ?_
        have h9 := Option.some.inj h
        rw [← h9]
        exact W.zret (v := 1) (ty := .boolean) hx hb hr (by decide) (fun t ht hW => ⟨⟨1, (), rfl, rfl, by rw [ht]; exact hP, va_K.moved hW.alike hK, hD⟩, hS.F ht⟩) hS.2.2 d_G_isRight_20

set_option maxHeartbeats 4000000 in
set_option maxRecDepth 100000 in
theorem c_G_isForm (l : Launch) (htr : l.stackTraces = false) (dC : Nat → ClassId) (dI : Nat → Nat → Nat) (ad : Nat → Nat) (ca : Nat → ClassId) (N : Nat) (σ : vS) (a0 : Int32) (a1 : Int32) (a2 : Int32) (a3 : Int32) (v : Int32 × vS) (h : f_G_isForm N σ a0 a1 a2 a3 = some v) (sz : Nat) : Met l y_G_isForm WS ({ frames := 2, cells := 0, slots := 0, locals := 43 }) (va_Pc [.ref (ad 1), .int a0, .int a1, .int a2, .int a3] (vq_Pre (dC, dI) CL sz (Xw ad ca σ) (Xt ca))) (va_Qi (fun (r : Int32) (_ : Unit) => r = v.1) (fun _ t => vq_Post (dC, dI) CL (va_A (Xw ad ca σ) sz) (Xw ad ca v.2) (Xt ca) t) (va_A (Xw ad ca σ) sz)) 0 0 (va_A (Xw ad ca σ) sz) := by
  refine vq_ofW (cc := prog_3_method_8_code) (maxL := 5) (ret := (Option.some Jvm.ClassFile.FieldType.boolean)) pl_G (vq_his k_35) ?_
  intro p e s m args below meth c s₁ B hml hv
  obtain ⟨rfl, hst, hsz, hP, hK, hD0⟩ := hv
  have hx := B.exec
  have hb := B.bytes
  have hr := B.returns
  have hts := atoms_spec (ws := WS) B.pre
  have hown : s.vm.findClass R_G = some m.cls := findClass_of_methodNamed B.named
  have hlocks := B.notSynchronized
  have hno := vq_noH B (hts _ k_35)
  subst hsz
  have hN := vq_ns hP
  have hD := hD0.self (sz := s.heap.size)
  generalize hAe : va_A (Xw ad ca σ) s.heap.size = A at hD hN ⊢
  have hA : ∀ q : Nat, s.heap.size ≤ q → A q := fun q h => by rw [← hAe]; exact Or.inr h
  have hS : va_S A s.heap s.heap [] := va_S.rf
  have hl := lv_entry ([.ref (ad 1), .int a0, .int a1, .int a2, .int a3]) (n := 5) (Nat.le_of_ble_eq_true rfl)
  rw [lg_entry_eq]
  generalize (lg_sl ([.ref (ad 1), .int a0, .int a1, .int a2, .int a3]) ++ List.replicate (5 - (lg_sl ([.ref (ad 1), .int a0, .int a1, .int a2, .int a3])).length) Slot.unset).toArray = ls at hl ⊢
  have hl : lv_has ls 5 [(0, .ref (ad 1)), (1, .int a0), (2, .int a1), (3, .int a2), (4, .int a3)] := hl
  unfold f_G_isForm at h
  refine lv_iload_n hx hb d_G_isForm_0 rfl (lv_at hl 2 rfl) ?_
  refine lv_if_lt (tgt := 47) hx hb d_G_isForm_1 (by decide) (fun hc1 => ?_) (fun hc1 => ?_)
  ·
    rw [if_pos hc1] at h
    refine lv_iconst (v := 0) hx hb d_G_isForm_47 (by decide) ?_
    have h9 := Option.some.inj h
    rw [← h9]
    exact W.zret (v := 0) (ty := .boolean) hx hb hr (by decide) (fun t ht hW => ⟨⟨0, (), rfl, rfl, by rw [ht]; exact hP, va_K.moved hW.alike hK, hD⟩, hS.F ht⟩) hS.2.2 d_G_isForm_48
  ·
    rw [if_neg hc1] at h
    refine lv_iload_n hx hb d_G_isForm_4 rfl (lv_at hl 2 rfl) ?_
    refine lv_bipush (v := 7) hx hb d_G_isForm_5 (by decide) ?_
    refine lv_icmp_gt (tgt := 47) hx hb d_G_isForm_7 (by decide) (fun hc2 => ?_) (fun hc2 => ?_)
    ·
      rw [if_pos hc2] at h
      refine lv_iconst (v := 0) hx hb d_G_isForm_47 (by decide) ?_
      have h9 := Option.some.inj h
      rw [← h9]
      exact W.zret (v := 0) (ty := .boolean) hx hb hr (by decide) (fun t ht hW => ⟨⟨0, (), rfl, rfl, by rw [ht]; exact hP, va_K.moved hW.alike hK, hD⟩, hS.F ht⟩) hS.2.2 d_G_isForm_48
    ·
      rw [if_neg hc2] at h
      refine lv_iload_n hx hb d_G_isForm_10 rfl (lv_at hl 2 rfl) ?_
      obtain ⟨q3, h4, h⟩ := vq_bi h
      have hKe := hK.sub (tys' := []) [] rfl
      refine va_calli (va_runS (As := [.int a1]) (rest := []) ⟨hx, hb, hml, hown, hts⟩ (c_G_usesFirst l htr dC dI N a1 q3 h4 s.heap.size) (vq_cS WSk hts 1 rfl rfl ⟨by decide, by decide⟩ k_2 k_26 k_36 k_37 (by decide +kernel)) ⟨vq_blind, vq_here hst hS hN vq_P0 hKe vq_D0⟩ rfl rfl hl.1 rfl (lv_room (Nat.le_of_ble_eq_true rfl)) d_G_isForm_11 ⟨by decide, by decide⟩) hS (fun q _ h => vq_keepA h (fun hz => hA q (Nat.le_trans hS.1 hz))) (fun q h => vq_keepA h (fun hz => hA q (Nat.le_trans hS.1 hz))) (fun r u t H1 locs ht hvm hw hB hz1 hk1 hS => ?_)
      have hw : r = q3 := hw
      rw [hw]
      have hP := vq_keepP hP hk1
      generalize H1 = H at hP hS ⊢
      refine W.widen (k := 0) (n := 0) (by decide) (by decide) ?_
      have J26 : ∀ (τ : vS) (x1 : Int32) (x2 : Int32) (x4 : Int32) (H : Heap) (locs : List Loc) (ls : Array Slot), f_G_isForm_26 N τ x1 x2 x4 = some v → lv_has ls 5 [(0, .ref (ad 1)), (1, .int x1), (2, .int x2), (4, .int x4)] → va_P (dC, dI) CL (Xw ad ca τ) H → va_D A (Xw ad ca τ) → va_S A s.heap H locs → W p l e (headSpec WS ({ frames := 2, cells := 0, slots := 0, locals := 43 })).room s m ([.ref (ad 1), .int a0, .int a1, .int a2, .int a3] : List Value).toArray below meth c H locs 0 0 (MQ below (va_Qi (fun (r : Int32) (_ : Unit) => r = v.1) (fun _ t => vq_Post (dC, dI) CL A (Xw ad ca v.2) (Xt ca) t) A) ([.ref (ad 1), .int a0, .int a1, .int a2, .int a3] : List Value).toArray s 0 0 A) (F0 m 26 ls []) := by
        intro τ x1 x2 x4 H locs ls h hl hP hD hS
        unfold f_G_isForm_26 at h
        refine lv_iload_n hx hb d_G_isForm_26 rfl (lv_at hl 2 rfl) ?_
        obtain ⟨q5, h6, h⟩ := vq_bi h
        have hKe := hK.sub (tys' := []) [] rfl
        refine va_calli (va_runS (As := [.int x2]) (rest := []) ⟨hx, hb, hml, hown, hts⟩ (c_G_usesSecond l htr dC dI N x2 q5 h6 H.size) (vq_cS WSk hts 1 rfl rfl ⟨by decide, by decide⟩ k_3 k_26 k_38 k_39 (by decide +kernel)) ⟨vq_blind, vq_here hst hS hN vq_P0 hKe vq_D0⟩ rfl rfl hl.1 rfl (lv_room (Nat.le_of_ble_eq_true rfl)) d_G_isForm_27 ⟨by decide, by decide⟩) hS (fun q _ h => vq_keepA h (fun hz => hA q (Nat.le_trans hS.1 hz))) (fun q h => vq_keepA h (fun hz => hA q (Nat.le_trans hS.1 hz))) (fun r u t H1 locs ht hvm hw hB hz1 hk1 hS => ?_)
        have hw : r = q5 := hw
        rw [hw]
        have hP := vq_keepP hP hk1
        generalize H1 = H at hP hS ⊢
        refine W.widen (k := 0) (n := 0) (by decide) (by decide) ?_
        have J43 : ∀ (τ : vS) (H : Heap) (locs : List Loc) (ls : Array Slot), f_G_isForm_43 N τ = some v → lv_has ls 5 [] → va_P (dC, dI) CL (Xw ad ca τ) H → va_D A (Xw ad ca τ) → va_S A s.heap H locs → W p l e (headSpec WS ({ frames := 2, cells := 0, slots := 0, locals := 43 })).room s m ([.ref (ad 1), .int a0, .int a1, .int a2, .int a3] : List Value).toArray below meth c H locs 0 0 (MQ below (va_Qi (fun (r : Int32) (_ : Unit) => r = v.1) (fun _ t => vq_Post (dC, dI) CL A (Xw ad ca v.2) (Xt ca) t) A) ([.ref (ad 1), .int a0, .int a1, .int a2, .int a3] : List Value).toArray s 0 0 A) (F0 m 43 ls []) := by
          intro τ H locs ls h hl hP hD hS
          unfold f_G_isForm_43 at h
          refine lv_iconst (v := 1) hx hb d_G_isForm_43 (by decide) ?_
          refine lv_goto (tgt := 48) hx hb d_G_isForm_44 (by decide) ?_
          have h9 := Option.some.inj h
          rw [← h9]
          exact W.zret (v := 1) (ty := .boolean) hx hb hr (by decide) (fun t ht hW => ⟨⟨1, (), rfl, rfl, by rw [ht]; exact hP, va_K.moved hW.alike hK, hD⟩, hS.F ht⟩) hS.2.2 d_G_isForm_48
        refine lv_if_eq (tgt := 43) hx hb d_G_isForm_30 (by decide) (fun hc7 => ?_) (fun hc7 => ?_)
        ·
          rw [if_pos hc7] at h
          exact J43 _ _ _ _ h (lv_sub hl [] rfl) hP hD hS
        ·
          rw [if_neg hc7] at h
          refine lv_aload_n hx hb d_G_isForm_33 rfl (lv_at hl 0 rfl) ?_
          refine lv_iload_n hx hb d_G_isForm_34 rfl (lv_at hl 1 rfl) ?_
          refine lv_iload hx hb d_G_isForm_35 (lv_at hl 3 rfl) ?_
          obtain ⟨q8, h9, h⟩ := vq_bi h
          have hFc := vq_freeAll hD hS hA
          refine va_calli (va_runV (As := [.int x1, .int x4]) (rest := []) ⟨hx, hb, hml, hown, hts⟩ (c_G_hasOccurrence l htr dC dI ad ca N τ x1 x4 q8 h9 H.size) (vq_cV WSk hts 2 rfl rfl ⟨by decide, by decide⟩ k_20 k_26 k_27 k_28 k_29 (by decide +kernel)) ⟨vq_blind, va_recv hK hP (ci := 1) (q0 := 1) rfl rfl, vq_here hst hS hN hP hK hD⟩ rfl rfl hl.1 rfl (lv_room (Nat.le_of_ble_eq_true rfl)) d_G_isForm_37 ⟨by decide, by decide⟩) hS (fun q _ h => hFc q h) hFc (fun r u t H1 locs ht hvm hw hB hz1 hk1 hS => ?_)
          obtain ⟨hP, -, hD1⟩ := hB
          rw [ht] at hP
          have hD := hD1.weaken (fun _ _ _ h => hFc _ h)
          have hw : r = q8.1 := hw
          subst hw
          generalize H1 = H at hP hS ⊢
          refine W.widen (k := 0) (n := 0) (by decide) (by decide) ?_
          refine lv_if_eq (tgt := 47) hx hb d_G_isForm_40 (by decide) (fun hc10 => ?_) (fun hc10 => ?_)
          ·
            rw [if_pos hc10] at h
            refine lv_iconst (v := 0) hx hb d_G_isForm_47 (by decide) ?_
            have h9 := Option.some.inj h
            rw [← h9]
            exact W.zret (v := 0) (ty := .boolean) hx hb hr (by decide) (fun t ht hW => ⟨⟨0, (), rfl, rfl, by rw [ht]; exact hP, va_K.moved hW.alike hK, hD⟩, hS.F ht⟩) hS.2.2 d_G_isForm_48
          ·
            rw [if_neg hc10] at h
            exact J43 _ _ _ _ h (lv_sub hl [] rfl) hP hD hS
      refine lv_if_eq (tgt := 26) hx hb d_G_isForm_14 (by decide) (fun hc11 => ?_) (fun hc11 => ?_)
      ·
        rw [if_pos hc11] at h
        exact J26 _ _ _ _ _ _ _ h (lv_sub hl [0, 1, 2, 4] rfl) hP hD hS
      ·
        rw [if_neg hc11] at h
        refine lv_aload_n hx hb d_G_isForm_17 rfl (lv_at hl 0 rfl) ?_
        refine lv_iload_n hx hb d_G_isForm_18 rfl (lv_at hl 1 rfl) ?_
        refine lv_iload_n hx hb d_G_isForm_19 rfl (lv_at hl 3 rfl) ?_
        obtain ⟨q12, h13, h⟩ := vq_bi h
        have hFc := vq_freeAll hD hS hA
        refine va_calli (va_runV (As := [.int a0, .int a2]) (rest := []) ⟨hx, hb, hml, hown, hts⟩ (c_G_hasOccurrence l htr dC dI ad ca N σ a0 a2 q12 h13 H.size) (vq_cV WSk hts 2 rfl rfl ⟨by decide, by decide⟩ k_20 k_26 k_27 k_28 k_29 (by decide +kernel)) ⟨vq_blind, va_recv hK hP (ci := 1) (q0 := 1) rfl rfl, vq_here hst hS hN hP hK hD⟩ rfl rfl hl.1 rfl (lv_room (Nat.le_of_ble_eq_true rfl)) d_G_isForm_20 ⟨by decide, by decide⟩) hS (fun q _ h => hFc q h) hFc (fun r u t H1 locs ht hvm hw hB hz1 hk1 hS => ?_)
        obtain ⟨hP, -, hD1⟩ := hB
        rw [ht] at hP
        have hD := hD1.weaken (fun _ _ _ h => hFc _ h)
        have hw : r = q12.1 := hw
        subst hw
        generalize H1 = H at hP hS ⊢
        refine W.widen (k := 0) (n := 0) (by decide) (by decide) ?_
        refine lv_if_eq (tgt := 47) hx hb d_G_isForm_23 (by decide) (fun hc14 => ?_) (fun hc14 => ?_)
        ·
          rw [if_pos hc14] at h
          refine lv_iconst (v := 0) hx hb d_G_isForm_47 (by decide) ?_
          have h9 := Option.some.inj h
          rw [← h9]
          exact W.zret (v := 0) (ty := .boolean) hx hb hr (by decide) (fun t ht hW => ⟨⟨0, (), rfl, rfl, by rw [ht]; exact hP, va_K.moved hW.alike hK, hD⟩, hS.F ht⟩) hS.2.2 d_G_isForm_48
        ·
          rw [if_neg hc14] at h
          exact J26 _ _ _ _ _ _ _ h (lv_sub hl [0, 1, 2, 4] rfl) hP hD hS

set_option maxHeartbeats 4000000 in
set_option maxRecDepth 100000 in
theorem c_G_symbolAt (l : Launch) (htr : l.stackTraces = false) (dC : Nat → ClassId) (dI : Nat → Nat → Nat) (ad : Nat → Nat) (ca : Nat → ClassId) (N : Nat) (σ : vS) (a0 : Int32) (a1 : Int32) (v : Int32 × vS) (h : f_G_symbolAt N σ a0 a1 = some v) (sz : Nat) : Met l y_G_symbolAt WS ({ frames := 0, cells := 0, slots := 0, locals := 0 }) (va_Pc [.ref (ad 1), .int a0, .int a1] (vq_Pre (dC, dI) CL sz (Xw ad ca σ) (Xt ca))) (va_Qi (fun (r : Int32) (_ : Unit) => r = v.1) (fun _ t => vq_Post (dC, dI) CL (va_A (Xw ad ca σ) sz) (Xw ad ca v.2) (Xt ca) t) (va_A (Xw ad ca σ) sz)) 0 0 (va_A (Xw ad ca σ) sz) := by
  refine vq_ofW (cc := prog_3_method_9_code) (maxL := 3) (ret := (Option.some Jvm.ClassFile.FieldType.int)) pl_G (vq_his k_40) ?_
  intro p e s m args below meth c s₁ B hml hv
  obtain ⟨rfl, hst, hsz, hP, hK, hD0⟩ := hv
  have hx := B.exec
  have hb := B.bytes
  have hr := B.returns
  have hts := atoms_spec (ws := WS) B.pre
  have hown : s.vm.findClass R_G = some m.cls := findClass_of_methodNamed B.named
  have hlocks := B.notSynchronized
  have hno := vq_noH B (hts _ k_40)
  subst hsz
  have hN := vq_ns hP
  have hD := hD0.self (sz := s.heap.size)
  generalize hAe : va_A (Xw ad ca σ) s.heap.size = A at hD hN ⊢
  have hA : ∀ q : Nat, s.heap.size ≤ q → A q := fun q h => by rw [← hAe]; exact Or.inr h
  have hS : va_S A s.heap s.heap [] := va_S.rf
  have hl := lv_entry ([.ref (ad 1), .int a0, .int a1]) (n := 3) (Nat.le_of_ble_eq_true rfl)
  rw [lg_entry_eq]
  generalize (lg_sl ([.ref (ad 1), .int a0, .int a1]) ++ List.replicate (3 - (lg_sl ([.ref (ad 1), .int a0, .int a1])).length) Slot.unset).toArray = ls at hl ⊢
  have hl : lv_has ls 3 [(0, .ref (ad 1)), (1, .int a0), (2, .int a1)] := hl
  unfold f_G_symbolAt at h
  refine lv_aload_n hx hb d_G_symbolAt_0 rfl (lv_at hl 0 rfl) ?_
  refine g_G_symbolsAt dC dI ad ca σ hx hb hts hown hK hP k_41 d_G_symbolAt_1 ?_
  refine lv_iload_n hx hb d_G_symbolAt_4 rfl (lv_at hl 1 rfl) ?_
  refine lv_iconst (v := 4) hx hb d_G_symbolAt_5 (by decide) ?_
  refine lv_imul hx hb d_G_symbolAt_6 ?_
  refine lv_iload_n hx hb d_G_symbolAt_7 rfl (lv_at hl 2 rfl) ?_
  refine lv_iadd hx hb d_G_symbolAt_8 ?_
  obtain ⟨hi1, h⟩ := vq_bd h
  refine al_X2 dC dI ad ca σ hx hb hts hown hK hP hi1 d_G_symbolAt_9 ?_
  obtain ⟨i2, ei2, h⟩ := vq_let h
  refine vq_top ei2.symm ?_
  have h9 := Option.some.inj h
  rw [← h9]
  exact W.iret (v := i2) hx hb hr (fun t ht hW => ⟨⟨i2, (), rfl, rfl, by rw [ht]; exact hP, va_K.moved hW.alike hK, hD⟩, hS.F ht⟩) hS.2.2 d_G_symbolAt_10

set_option maxHeartbeats 4000000 in
set_option maxRecDepth 100000 in
theorem c_G_allAttributes (l : Launch) (htr : l.stackTraces = false) (dC : Nat → ClassId) (dI : Nat → Nat → Nat) (ad : Nat → Nat) (ca : Nat → ClassId) (N : Nat) (σ : vS) (a0 : Int32) (v : Int32 × vS) (h : f_G_allAttributes N σ a0 = some v) (sz : Nat) : Met l y_G_allAttributes WS ({ frames := 0, cells := 0, slots := 0, locals := 0 }) (va_Pc [.ref (ad 1), .int a0] (vq_Pre (dC, dI) CL sz (Xw ad ca σ) (Xt ca))) (va_Qi (fun (r : Int32) (_ : Unit) => r = v.1) (fun _ t => vq_Post (dC, dI) CL (va_A (Xw ad ca σ) sz) (Xw ad ca v.2) (Xt ca) t) (va_A (Xw ad ca σ) sz)) 0 0 (va_A (Xw ad ca σ) sz) := by
  refine vq_ofW (cc := prog_3_method_14_code) (maxL := 2) (ret := (Option.some Jvm.ClassFile.FieldType.int)) pl_G (vq_his k_42) ?_
  intro p e s m args below meth c s₁ B hml hv
  obtain ⟨rfl, hst, hsz, hP, hK, hD0⟩ := hv
  have hx := B.exec
  have hb := B.bytes
  have hr := B.returns
  have hts := atoms_spec (ws := WS) B.pre
  have hown : s.vm.findClass R_G = some m.cls := findClass_of_methodNamed B.named
  have hlocks := B.notSynchronized
  have hno := vq_noH B (hts _ k_42)
  subst hsz
  have hN := vq_ns hP
  have hD := hD0.self (sz := s.heap.size)
  generalize hAe : va_A (Xw ad ca σ) s.heap.size = A at hD hN ⊢
  have hA : ∀ q : Nat, s.heap.size ≤ q → A q := fun q h => by rw [← hAe]; exact Or.inr h
  have hS : va_S A s.heap s.heap [] := va_S.rf
  have hl := lv_entry ([.ref (ad 1), .int a0]) (n := 2) (Nat.le_of_ble_eq_true rfl)
  rw [lg_entry_eq]
  generalize (lg_sl ([.ref (ad 1), .int a0]) ++ List.replicate (2 - (lg_sl ([.ref (ad 1), .int a0])).length) Slot.unset).toArray = ls at hl ⊢
  have hl : lv_has ls 2 [(0, .ref (ad 1)), (1, .int a0)] := hl
  unfold f_G_allAttributes at h
  refine lv_iconst (v := 1) hx hb d_G_allAttributes_0 (by decide) ?_
  refine lv_aload_n hx hb d_G_allAttributes_1 rfl (lv_at hl 0 rfl) ?_
  refine g_G_attributeCounts dC dI ad ca σ hx hb hts hown hK hP k_17 d_G_allAttributes_2 ?_
  refine lv_iload_n hx hb d_G_allAttributes_5 rfl (lv_at hl 1 rfl) ?_
  obtain ⟨hi1, h⟩ := vq_bd h
  refine al_X0 dC dI ad ca σ hx hb hts hown hK hP hi1 d_G_allAttributes_6 ?_
  obtain ⟨i2, ei2, h⟩ := vq_let h
  refine vq_top ei2.symm ?_
  refine lv_ishl hx hb d_G_allAttributes_7 ?_
  refine lv_iconst (v := 1) hx hb d_G_allAttributes_8 (by decide) ?_
  refine lv_isub hx hb d_G_allAttributes_9 ?_
  obtain ⟨i3, ei3, h⟩ := vq_let h
  refine vq_top ei3.symm ?_
  have h9 := Option.some.inj h
  rw [← h9]
  exact W.iret (v := i3) hx hb hr (fun t ht hW => ⟨⟨i3, (), rfl, rfl, by rw [ht]; exact hP, va_K.moved hW.alike hK, hD⟩, hS.F ht⟩) hS.2.2 d_G_allAttributes_10

set_option maxHeartbeats 4000000 in
set_option maxRecDepth 100000 in
theorem c_G_addSymbol (l : Launch) (htr : l.stackTraces = false) (dC : Nat → ClassId) (dI : Nat → Nat → Nat) (ad : Nat → Nat) (ca : Nat → ClassId) (N : Nat) (σ : vS) (a0 : Int32) (a1 : Int32) (v : Int32 × vS) (h : f_G_addSymbol N σ a0 a1 = some v) (sz : Nat) : Met l y_G_addSymbol WS ({ frames := 1, cells := 0, slots := 0, locals := 21 }) (va_Pc [.ref (ad 1), .int a0, .int a1] (vq_Pre (dC, dI) CL sz (Xw ad ca σ) (Xt ca))) (va_Qi (fun (r : Int32) (_ : Unit) => r = v.1) (fun _ t => vq_Post (dC, dI) CL (va_A (Xw ad ca σ) sz) (Xw ad ca v.2) (Xt ca) t) (va_A (Xw ad ca σ) sz)) 0 0 (va_A (Xw ad ca σ) sz) := by
  refine vq_ofW (cc := prog_3_method_10_code) (maxL := 4) (ret := (Option.some Jvm.ClassFile.FieldType.int)) pl_G (vq_his k_43) ?_
  intro p e s m args below meth c s₁ B hml hv
  obtain ⟨rfl, hst, hsz, hP, hK, hD0⟩ := hv
  have hx := B.exec
  have hb := B.bytes
  have hr := B.returns
  have hts := atoms_spec (ws := WS) B.pre
  have hown : s.vm.findClass R_G = some m.cls := findClass_of_methodNamed B.named
  have hlocks := B.notSynchronized
  have hno := vq_noH B (hts _ k_43)
  subst hsz
  have hN := vq_ns hP
  have hD := hD0.self (sz := s.heap.size)
  generalize hAe : va_A (Xw ad ca σ) s.heap.size = A at hD hN ⊢
  have hA : ∀ q : Nat, s.heap.size ≤ q → A q := fun q h => by rw [← hAe]; exact Or.inr h
  have hS : va_S A s.heap s.heap [] := va_S.rf
  have hl := lv_entry ([.ref (ad 1), .int a0, .int a1]) (n := 4) (Nat.le_of_ble_eq_true rfl)
  rw [lg_entry_eq]
  generalize (lg_sl ([.ref (ad 1), .int a0, .int a1]) ++ List.replicate (4 - (lg_sl ([.ref (ad 1), .int a0, .int a1])).length) Slot.unset).toArray = ls at hl ⊢
  have hl : lv_has ls 4 [(0, .ref (ad 1)), (1, .int a0), (2, .int a1)] := hl
  unfold f_G_addSymbol at h
  refine lv_aload_n hx hb d_G_addSymbol_0 rfl (lv_at hl 0 rfl) ?_
  refine g_G_symbolCount dC dI ad ca σ hx hb hts hown hK hP k_15 d_G_addSymbol_1 ?_
  refine lv_istore_n (lv' := [(3, .int (σ.1 0)), (0, .ref (ad 1)), (1, .int a0), (2, .int a1)]) hx hb d_G_addSymbol_4 rfl hl (by decide) rfl (fun ls hl => ?_)
  refine lv_aload_n hx hb d_G_addSymbol_5 rfl (lv_at hl 1 rfl) ?_
  refine g_G_attributeCounts dC dI ad ca σ hx hb hts hown hK hP k_17 d_G_addSymbol_6 ?_
  refine lv_iload_n hx hb d_G_addSymbol_9 rfl (lv_at hl 0 rfl) ?_
  refine lv_iload_n hx hb d_G_addSymbol_10 rfl (lv_at hl 2 rfl) ?_
  obtain ⟨hi1, h⟩ := vq_bd h
  refine as_X0 dC dI ad ca σ hx hb hts hown hK hP hD hS hi1 d_G_addSymbol_11 (fun H locs hP hD hS => ?_)
  obtain ⟨σ2, eσ2, h⟩ := vq_let h
  rw [← eσ2] at hP hD
  refine lv_aload_n hx hb d_G_addSymbol_12 rfl (lv_at hl 1 rfl) ?_
  refine g_G_inheritedBits dC dI ad ca σ2 hx hb hts hown hK hP k_44 d_G_addSymbol_13 ?_
  refine lv_iload_n hx hb d_G_addSymbol_16 rfl (lv_at hl 0 rfl) ?_
  refine lv_iload_n hx hb d_G_addSymbol_17 rfl (lv_at hl 3 rfl) ?_
  refine lv_aload_n hx hb d_G_addSymbol_18 rfl (lv_at hl 1 rfl) ?_
  refine lv_iload_n hx hb d_G_addSymbol_19 rfl (lv_at hl 0 rfl) ?_
  obtain ⟨q3, h4, h⟩ := vq_bi h
  have hFc := vq_freeAll hD hS hA
  refine va_calli (va_runV (As := [.int (σ.1 0)]) (rest := [.int a1, .int (σ.1 0), .ref (ad 9)]) ⟨hx, hb, hml, hown, hts⟩ (c_G_allAttributes l htr dC dI ad ca N σ2 (σ.1 0) q3 h4 H.size) (vq_cV WSk hts 1 rfl rfl ⟨by decide, by decide⟩ k_42 k_26 k_45 k_46 k_47 (by decide +kernel)) ⟨vq_blind, va_recv hK hP (ci := 1) (q0 := 1) rfl rfl, vq_here hst hS hN hP hK hD⟩ rfl rfl hl.1 rfl (lv_room (Nat.le_of_ble_eq_true rfl)) d_G_addSymbol_20 ⟨by decide, by decide⟩) hS (fun q _ h => hFc q h) hFc (fun r u t H1 locs ht hvm hw hB hz1 hk1 hS => ?_)
  obtain ⟨hP, -, hD1⟩ := hB
  rw [ht] at hP
  have hD := hD1.weaken (fun _ _ _ h => hFc _ h)
  have hw : r = q3.1 := hw
  subst hw
  generalize H1 = H at hP hS ⊢
  refine W.widen (k := 0) (n := 0) (by decide) (by decide) ?_
  refine lv_iand hx hb d_G_addSymbol_23 ?_
  obtain ⟨hi5, h⟩ := vq_bd h
  refine as_X1 dC dI ad ca q3.2 hx hb hts hown hK hP hD hS hi5 d_G_addSymbol_24 (fun H locs hP hD hS => ?_)
  obtain ⟨σ6, eσ6, h⟩ := vq_let h
  rw [← eσ6] at hP hD
  refine lv_aload_n hx hb d_G_addSymbol_25 rfl (lv_at hl 1 rfl) ?_
  refine lv_dup hx hb d_G_addSymbol_26 rfl ?_
  refine g_G_symbolCount dC dI ad ca σ6 hx hb hts hown hK hP k_15 d_G_addSymbol_27 ?_
  refine lv_iconst (v := 1) hx hb d_G_addSymbol_30 (by decide) ?_
  refine lv_iadd hx hb d_G_addSymbol_31 ?_
  refine p_G_symbolCount dC dI ad ca σ6 hx hb hts hown hK hP hD hS k_15 d_G_addSymbol_32 (fun H locs hP hD hS => ?_)
  obtain ⟨σ7, eσ7, h⟩ := vq_let h
  rw [← eσ7] at hP hD
  refine lv_iload_n hx hb d_G_addSymbol_35 rfl (lv_at hl 0 rfl) ?_
  have h9 := Option.some.inj h
  rw [← h9]
  exact W.iret (v := (σ.1 0)) hx hb hr (fun t ht hW => ⟨⟨(σ.1 0), (), rfl, rfl, by rw [ht]; exact hP, va_K.moved hW.alike hK, hD⟩, hS.F ht⟩) hS.2.2 d_G_addSymbol_36

set_option maxHeartbeats 4000000 in
set_option maxRecDepth 100000 in
theorem c_G_place (l : Launch) (htr : l.stackTraces = false) (dC : Nat → ClassId) (dI : Nat → Nat → Nat) (ad : Nat → Nat) (ca : Nat → ClassId) (N : Nat) (σ : vS) (a0 : Int32) (a1 : Int32) (a2 : Int32) (v : Int32 × vS) (h : f_G_place N σ a0 a1 a2 = some v) (sz : Nat) : Met l y_G_place WS ({ frames := 1, cells := 0, slots := 0, locals := 21 }) (va_Pc [.ref (ad 1), .int a0, .int a1, .int a2] (vq_Pre (dC, dI) CL sz (Xw ad ca σ) (Xt ca))) (va_Qv (fun _ : Unit => True) (fun _ t => vq_Post (dC, dI) CL (va_A (Xw ad ca σ) sz) (Xw ad ca v.2) (Xt ca) t) (va_A (Xw ad ca σ) sz)) 0 0 (va_A (Xw ad ca σ) sz) := by
  refine vq_ofW (cc := prog_3_method_12_code) (maxL := 8) (ret := (Option.none : Option Jvm.ClassFile.FieldType)) pl_G (vq_his k_48) ?_
  intro p e s m args below meth c s₁ B hml hv
  obtain ⟨rfl, hst, hsz, hP, hK, hD0⟩ := hv
  have hx := B.exec
  have hb := B.bytes
  have hr := B.returns
  have hts := atoms_spec (ws := WS) B.pre
  have hown : s.vm.findClass R_G = some m.cls := findClass_of_methodNamed B.named
  have hlocks := B.notSynchronized
  have hno := vq_noH B (hts _ k_48)
  subst hsz
  have hN := vq_ns hP
  have hD := hD0.self (sz := s.heap.size)
  generalize hAe : va_A (Xw ad ca σ) s.heap.size = A at hD hN ⊢
  have hA : ∀ q : Nat, s.heap.size ≤ q → A q := fun q h => by rw [← hAe]; exact Or.inr h
  have hS : va_S A s.heap s.heap [] := va_S.rf
  have hl := lv_entry ([.ref (ad 1), .int a0, .int a1, .int a2]) (n := 8) (Nat.le_of_ble_eq_true rfl)
  rw [lg_entry_eq]
  generalize (lg_sl ([.ref (ad 1), .int a0, .int a1, .int a2]) ++ List.replicate (8 - (lg_sl ([.ref (ad 1), .int a0, .int a1, .int a2])).length) Slot.unset).toArray = ls at hl ⊢
  have hl : lv_has ls 8 [(0, .ref (ad 1)), (1, .int a0), (2, .int a1), (3, .int a2)] := hl
  unfold f_G_place at h
  refine lv_iload_n hx hb d_G_place_0 rfl (lv_at hl 3 rfl) ?_
  refine lv_iconst (v := (-1)) hx hb d_G_place_1 (by decide) ?_
  refine lv_icmp_ne (tgt := 6) hx hb d_G_place_2 (by decide) (fun hc1 => ?_) (fun hc1 => ?_)
  ·
    rw [if_neg hc1] at h
    refine lv_aload_n hx hb d_G_place_6 rfl (lv_at hl 0 rfl) ?_
    refine g_G_inheritedBits dC dI ad ca σ hx hb hts hown hK hP k_44 d_G_place_7 ?_
    refine lv_iload_n hx hb d_G_place_10 rfl (lv_at hl 3 rfl) ?_
    obtain ⟨hi2, h⟩ := vq_bd h
    refine al_X1 dC dI ad ca σ hx hb hts hown hK hP hi2 d_G_place_11 ?_
    obtain ⟨i3, ei3, h⟩ := vq_let h
    refine vq_top ei3.symm ?_
    refine lv_istore (lv' := [(4, .int i3), (0, .ref (ad 1)), (1, .int a0), (2, .int a1), (3, .int a2)]) hx hb d_G_place_12 hl (by decide) rfl (fun ls hl => ?_)
    refine lv_aload_n hx hb d_G_place_14 rfl (lv_at hl 1 rfl) ?_
    refine lv_iload_n hx hb d_G_place_15 rfl (lv_at hl 4 rfl) ?_
    obtain ⟨q4, h5, h⟩ := vq_bi h
    have hFc := vq_freeAll hD hS hA
    refine va_calli (va_runV (As := [.int a2]) (rest := []) ⟨hx, hb, hml, hown, hts⟩ (c_G_allAttributes l htr dC dI ad ca N σ a2 q4 h5 s.heap.size) (vq_cV WSk hts 1 rfl rfl ⟨by decide, by decide⟩ k_42 k_26 k_45 k_46 k_47 (by decide +kernel)) ⟨vq_blind, va_recv hK hP (ci := 1) (q0 := 1) rfl rfl, vq_here hst hS hN hP hK hD⟩ rfl rfl hl.1 rfl (lv_room (Nat.le_of_ble_eq_true rfl)) d_G_place_16 ⟨by decide, by decide⟩) hS (fun q _ h => hFc q h) hFc (fun r u t H1 locs ht hvm hw hB hz1 hk1 hS => ?_)
    obtain ⟨hP, -, hD1⟩ := hB
    rw [ht] at hP
    have hD := hD1.weaken (fun _ _ _ h => hFc _ h)
    have hw : r = q4.1 := hw
    subst hw
    generalize H1 = H at hP hS ⊢
    refine W.widen (k := 0) (n := 0) (by decide) (by decide) ?_
    refine lv_istore (lv' := [(5, .int (q4.1)), (4, .int i3), (0, .ref (ad 1)), (1, .int a0), (2, .int a1), (3, .int a2)]) hx hb d_G_place_19 hl (by decide) rfl (fun ls hl => ?_)
    refine lv_iload_n hx hb d_G_place_21 rfl (lv_at hl 4 rfl) ?_
    have J37 : ∀ (τ : vS) (x1 : Int32) (x2 : Int32) (x3 : Int32) (x5 : Int32) (y0 : Int32) (H : Heap) (locs : List Loc) (ls : Array Slot), f_G_place_37 N τ x1 x2 x3 x5 y0 = some v → lv_has ls 8 [(0, .ref (ad 1)), (1, .int x1), (2, .int x2), (3, .int x3), (5, .int x5)] → va_P (dC, dI) CL (Xw ad ca τ) H → va_D A (Xw ad ca τ) → va_S A s.heap H locs → W p l e (headSpec WS ({ frames := 1, cells := 0, slots := 0, locals := 21 })).room s m ([.ref (ad 1), .int a0, .int a1, .int a2] : List Value).toArray below meth c H locs 0 0 (MQ below (va_Qv (fun _ : Unit => True) (fun _ t => vq_Post (dC, dI) CL A (Xw ad ca v.2) (Xt ca) t) A) ([.ref (ad 1), .int a0, .int a1, .int a2] : List Value).toArray s 0 0 A) (F0 m 37 ls [.int y0]) := by
      intro τ x1 x2 x3 x5 y0 H locs ls h hl hP hD hS
      unfold f_G_place_37 at h
      refine lv_istore (lv' := [(6, .int y0), (0, .ref (ad 1)), (1, .int x1), (2, .int x2), (3, .int x3), (5, .int x5)]) hx hb d_G_place_37 hl (by decide) rfl (fun ls hl => ?_)
      refine lv_iload_n hx hb d_G_place_39 rfl (lv_at hl 3 rfl) ?_
      refine lv_iconst (v := 4) hx hb d_G_place_40 (by decide) ?_
      refine lv_imul hx hb d_G_place_41 ?_
      refine lv_istore (lv' := [(7, .int (x2 * 4)), (6, .int y0), (0, .ref (ad 1)), (1, .int x1), (2, .int x2), (3, .int x3), (5, .int x5)]) hx hb d_G_place_42 hl (by decide) rfl (fun ls hl => ?_)
      refine lv_aload_n hx hb d_G_place_44 rfl (lv_at hl 2 rfl) ?_
      refine g_G_symbolsAt dC dI ad ca τ hx hb hts hown hK hP k_41 d_G_place_45 ?_
      refine lv_iload_n hx hb d_G_place_48 rfl (lv_at hl 3 rfl) ?_
      refine lv_iconst (v := 4) hx hb d_G_place_49 (by decide) ?_
      refine lv_imul hx hb d_G_place_50 ?_
      refine lv_iload_n hx hb d_G_place_51 rfl (lv_at hl 4 rfl) ?_
      refine lv_iadd hx hb d_G_place_52 ?_
      refine lv_iload_n hx hb d_G_place_53 rfl (lv_at hl 5 rfl) ?_
      obtain ⟨hi6, h⟩ := vq_bd h
      refine as_X2 dC dI ad ca τ hx hb hts hown hK hP hD hS hi6 d_G_place_54 (fun H locs hP hD hS => ?_)
      obtain ⟨σ7, eσ7, h⟩ := vq_let h
      rw [← eσ7] at hP hD
      refine lv_aload_n hx hb d_G_place_55 rfl (lv_at hl 2 rfl) ?_
      refine g_G_lastPositions dC dI ad ca σ7 hx hb hts hown hK hP k_49 d_G_place_56 ?_
      refine lv_iload_n hx hb d_G_place_59 rfl (lv_at hl 3 rfl) ?_
      refine lv_iload_n hx hb d_G_place_60 rfl (lv_at hl 4 rfl) ?_
      obtain ⟨hi8, h⟩ := vq_bd h
      refine as_X3 dC dI ad ca σ7 hx hb hts hown hK hP hD hS hi8 d_G_place_61 (fun H locs hP hD hS => ?_)
      obtain ⟨σ9, eσ9, h⟩ := vq_let h
      rw [← eσ9] at hP hD
      refine lv_aload_n hx hb d_G_place_62 rfl (lv_at hl 2 rfl) ?_
      refine g_G_presentBits dC dI ad ca σ9 hx hb hts hown hK hP k_21 d_G_place_63 ?_
      refine lv_iload_n hx hb d_G_place_66 rfl (lv_at hl 3 rfl) ?_
      refine lv_dup2_11 hx hb d_G_place_67 rfl rfl ?_
      obtain ⟨hi10, h⟩ := vq_bd h
      refine al_X4 dC dI ad ca σ9 hx hb hts hown hK hP hi10 d_G_place_68 ?_
      obtain ⟨i11, ei11, h⟩ := vq_let h
      refine vq_top ei11.symm ?_
      refine lv_iload hx hb d_G_place_69 (lv_at hl 6 rfl) ?_
      refine lv_iload hx hb d_G_place_71 (lv_at hl 0 rfl) ?_
      refine lv_ishl hx hb d_G_place_73 ?_
      refine lv_ior hx hb d_G_place_74 ?_
      obtain ⟨i12, ei12, h⟩ := vq_let h
      refine vq_top ei12.symm ?_
      obtain ⟨hi13, h⟩ := vq_bd h
      refine as_X4 dC dI ad ca σ9 hx hb hts hown hK hP hD hS hi13 d_G_place_75 (fun H locs hP hD hS => ?_)
      obtain ⟨σ14, eσ14, h⟩ := vq_let h
      rw [← eσ14] at hP hD
      refine lv_aload_n hx hb d_G_place_76 rfl (lv_at hl 2 rfl) ?_
      refine g_G_toDefineBits dC dI ad ca σ14 hx hb hts hown hK hP k_30 d_G_place_77 ?_
      refine lv_iload_n hx hb d_G_place_80 rfl (lv_at hl 3 rfl) ?_
      refine lv_dup2_11 hx hb d_G_place_81 rfl rfl ?_
      obtain ⟨hi15, h⟩ := vq_bd h
      refine al_X5 dC dI ad ca σ14 hx hb hts hown hK hP hi15 d_G_place_82 ?_
      obtain ⟨i16, ei16, h⟩ := vq_let h
      refine vq_top ei16.symm ?_
      refine lv_iload hx hb d_G_place_83 (lv_at hl 1 rfl) ?_
      refine lv_iload hx hb d_G_place_85 (lv_at hl 0 rfl) ?_
      refine lv_ishl hx hb d_G_place_87 ?_
      refine lv_ior hx hb d_G_place_88 ?_
      obtain ⟨i17, ei17, h⟩ := vq_let h
      refine vq_top ei17.symm ?_
      obtain ⟨hi18, h⟩ := vq_bd h
      refine as_X5 dC dI ad ca σ14 hx hb hts hown hK hP hD hS hi18 d_G_place_89 (fun H locs hP hD hS => ?_)
      obtain ⟨σ19, eσ19, h⟩ := vq_let h
      rw [← eσ19] at hP hD
      have h9 := Option.some.inj h
      rw [← h9]
      exact W.vret hx hb hr (fun t ht hW => ⟨⟨(), rfl, trivial, by rw [ht]; exact hP, va_K.moved hW.alike hK, hD⟩, hS.F ht⟩) hS.2.2 d_G_place_90
    refine lv_if_ne (tgt := 35) hx hb d_G_place_22 (by decide) (fun hc20 => ?_) (fun hc20 => ?_)
    ·
      rw [if_neg hc20] at h
      refine lv_iload hx hb d_G_place_35 (lv_at hl 1 rfl) ?_
      exact J37 _ _ _ _ _ _ _ _ _ h (lv_sub hl [2, 3, 4, 5, 0] rfl) hP hD hS
    ·
      rw [if_pos hc20] at h
      refine lv_iload hx hb d_G_place_25 (lv_at hl 0 rfl) ?_
      refine lv_iload hx hb d_G_place_27 (lv_at hl 1 rfl) ?_
      refine lv_iconst (v := (-1)) hx hb d_G_place_29 (by decide) ?_
      refine lv_ixor hx hb d_G_place_30 ?_
      refine lv_iand hx hb d_G_place_31 ?_
      refine lv_goto (tgt := 37) hx hb d_G_place_32 (by decide) ?_
      exact J37 _ _ _ _ _ _ _ _ _ h (lv_sub hl [2, 3, 4, 5, 0] rfl) hP hD hS
  ·
    rw [if_pos hc1] at h
    have h9 := Option.some.inj h
    rw [← h9]
    exact W.vret hx hb hr (fun t ht hW => ⟨⟨(), rfl, trivial, by rw [ht]; exact hP, va_K.moved hW.alike hK, hD⟩, hS.F ht⟩) hS.2.2 d_G_place_5

set_option maxHeartbeats 4000000 in
set_option maxRecDepth 100000 in
theorem c_G_addProduction (l : Launch) (htr : l.stackTraces = false) (dC : Nat → ClassId) (dI : Nat → Nat → Nat) (ad : Nat → Nat) (ca : Nat → ClassId) (N : Nat) (σ : vS) (a0 : Int32) (a1 : Int32) (a2 : Int32) (a3 : Int32) (v : Int32 × vS) (h : f_G_addProduction N σ a0 a1 a2 a3 = some v) (sz : Nat) : Met l y_G_addProduction WS ({ frames := 2, cells := 0, slots := 0, locals := 48 }) (va_Pc [.ref (ad 1), .int a0, .int a1, .int a2, .int a3] (vq_Pre (dC, dI) CL sz (Xw ad ca σ) (Xt ca))) (va_Qi (fun (r : Int32) (_ : Unit) => r = v.1) (fun _ t => vq_Post (dC, dI) CL (va_A (Xw ad ca σ) sz) (Xw ad ca v.2) (Xt ca) t) (va_A (Xw ad ca σ) sz)) 0 0 (va_A (Xw ad ca σ) sz) := by
  refine vq_ofW (cc := prog_3_method_11_code) (maxL := 6) (ret := (Option.some Jvm.ClassFile.FieldType.int)) pl_G (vq_his k_50) ?_
  intro p e s m args below meth c s₁ B hml hv
  obtain ⟨rfl, hst, hsz, hP, hK, hD0⟩ := hv
  have hx := B.exec
  have hb := B.bytes
  have hr := B.returns
  have hts := atoms_spec (ws := WS) B.pre
  have hown : s.vm.findClass R_G = some m.cls := findClass_of_methodNamed B.named
  have hlocks := B.notSynchronized
  have hno := vq_noH B (hts _ k_50)
  subst hsz
  have hN := vq_ns hP
  have hD := hD0.self (sz := s.heap.size)
  generalize hAe : va_A (Xw ad ca σ) s.heap.size = A at hD hN ⊢
  have hA : ∀ q : Nat, s.heap.size ≤ q → A q := fun q h => by rw [← hAe]; exact Or.inr h
  have hS : va_S A s.heap s.heap [] := va_S.rf
  have hl := lv_entry ([.ref (ad 1), .int a0, .int a1, .int a2, .int a3]) (n := 6) (Nat.le_of_ble_eq_true rfl)
  rw [lg_entry_eq]
  generalize (lg_sl ([.ref (ad 1), .int a0, .int a1, .int a2, .int a3]) ++ List.replicate (6 - (lg_sl ([.ref (ad 1), .int a0, .int a1, .int a2, .int a3])).length) Slot.unset).toArray = ls at hl ⊢
  have hl : lv_has ls 6 [(0, .ref (ad 1)), (1, .int a0), (2, .int a1), (3, .int a2), (4, .int a3)] := hl
  unfold f_G_addProduction at h
  refine lv_aload_n hx hb d_G_addProduction_0 rfl (lv_at hl 0 rfl) ?_
  refine g_G_productionCount dC dI ad ca σ hx hb hts hown hK hP k_19 d_G_addProduction_1 ?_
  refine lv_istore (lv' := [(5, .int (σ.1 1)), (0, .ref (ad 1)), (1, .int a0), (2, .int a1), (3, .int a2), (4, .int a3)]) hx hb d_G_addProduction_4 hl (by decide) rfl (fun ls hl => ?_)
  refine lv_aload_n hx hb d_G_addProduction_6 rfl (lv_at hl 1 rfl) ?_
  refine lv_dup hx hb d_G_addProduction_7 rfl ?_
  refine g_G_productionCount dC dI ad ca σ hx hb hts hown hK hP k_19 d_G_addProduction_8 ?_
  refine lv_iconst (v := 1) hx hb d_G_addProduction_11 (by decide) ?_
  refine lv_iadd hx hb d_G_addProduction_12 ?_
  refine p_G_productionCount dC dI ad ca σ hx hb hts hown hK hP hD hS k_19 d_G_addProduction_13 (fun H locs hP hD hS => ?_)
  obtain ⟨σ1, eσ1, h⟩ := vq_let h
  rw [← eσ1] at hP hD
  refine lv_aload_n hx hb d_G_addProduction_16 rfl (lv_at hl 1 rfl) ?_
  refine lv_iload hx hb d_G_addProduction_17 (lv_at hl 0 rfl) ?_
  refine lv_iconst (v := 0) hx hb d_G_addProduction_19 (by decide) ?_
  refine lv_iload_n hx hb d_G_addProduction_20 rfl (lv_at hl 2 rfl) ?_
  obtain ⟨q2, h3, h⟩ := vq_bi h
  have hFc := vq_freeAll hD hS hA
  refine va_callv (va_runV (As := [.int (σ.1 1), .int 0, .int a0]) (rest := []) ⟨hx, hb, hml, hown, hts⟩ (c_G_place l htr dC dI ad ca N σ1 (σ.1 1) 0 a0 q2 h3 H.size) (vq_cV WSk hts 3 rfl rfl ⟨by decide, by decide⟩ k_48 k_26 k_51 k_52 k_53 (by decide +kernel)) ⟨vq_blind, va_recv hK hP (ci := 1) (q0 := 1) rfl rfl, vq_here hst hS hN hP hK hD⟩ rfl rfl hl.1 rfl (lv_room (Nat.le_of_ble_eq_true rfl)) d_G_addProduction_21 ⟨by decide, by decide⟩) hS (fun q _ h => hFc q h) hFc (fun u t H1 locs ht hvm hw hB hz1 hk1 hS => ?_)
  obtain ⟨hP, -, hD1⟩ := hB
  rw [ht] at hP
  have hD := hD1.weaken (fun _ _ _ h => hFc _ h)
  generalize H1 = H at hP hS ⊢
  refine W.widen (k := 0) (n := 0) (by decide) (by decide) ?_
  refine lv_aload_n hx hb d_G_addProduction_24 rfl (lv_at hl 1 rfl) ?_
  refine lv_iload hx hb d_G_addProduction_25 (lv_at hl 0 rfl) ?_
  refine lv_iconst (v := 1) hx hb d_G_addProduction_27 (by decide) ?_
  refine lv_iload_n hx hb d_G_addProduction_28 rfl (lv_at hl 3 rfl) ?_
  obtain ⟨q4, h5, h⟩ := vq_bi h
  have hFc := vq_freeAll hD hS hA
  refine va_callv (va_runV (As := [.int (σ.1 1), .int 1, .int a1]) (rest := []) ⟨hx, hb, hml, hown, hts⟩ (c_G_place l htr dC dI ad ca N q2.2 (σ.1 1) 1 a1 q4 h5 H.size) (vq_cV WSk hts 3 rfl rfl ⟨by decide, by decide⟩ k_48 k_26 k_51 k_52 k_53 (by decide +kernel)) ⟨vq_blind, va_recv hK hP (ci := 1) (q0 := 1) rfl rfl, vq_here hst hS hN hP hK hD⟩ rfl rfl hl.1 rfl (lv_room (Nat.le_of_ble_eq_true rfl)) d_G_addProduction_29 ⟨by decide, by decide⟩) hS (fun q _ h => hFc q h) hFc (fun u t H1 locs ht hvm hw hB hz1 hk1 hS => ?_)
  obtain ⟨hP, -, hD1⟩ := hB
  rw [ht] at hP
  have hD := hD1.weaken (fun _ _ _ h => hFc _ h)
  generalize H1 = H at hP hS ⊢
  refine W.widen (k := 0) (n := 0) (by decide) (by decide) ?_
  refine lv_aload_n hx hb d_G_addProduction_32 rfl (lv_at hl 1 rfl) ?_
  refine lv_iload hx hb d_G_addProduction_33 (lv_at hl 0 rfl) ?_
  refine lv_iconst (v := 2) hx hb d_G_addProduction_35 (by decide) ?_
  refine lv_iload_n hx hb d_G_addProduction_36 rfl (lv_at hl 4 rfl) ?_
  obtain ⟨q6, h7, h⟩ := vq_bi h
  have hFc := vq_freeAll hD hS hA
  refine va_callv (va_runV (As := [.int (σ.1 1), .int 2, .int a2]) (rest := []) ⟨hx, hb, hml, hown, hts⟩ (c_G_place l htr dC dI ad ca N q4.2 (σ.1 1) 2 a2 q6 h7 H.size) (vq_cV WSk hts 3 rfl rfl ⟨by decide, by decide⟩ k_48 k_26 k_51 k_52 k_53 (by decide +kernel)) ⟨vq_blind, va_recv hK hP (ci := 1) (q0 := 1) rfl rfl, vq_here hst hS hN hP hK hD⟩ rfl rfl hl.1 rfl (lv_room (Nat.le_of_ble_eq_true rfl)) d_G_addProduction_37 ⟨by decide, by decide⟩) hS (fun q _ h => hFc q h) hFc (fun u t H1 locs ht hvm hw hB hz1 hk1 hS => ?_)
  obtain ⟨hP, -, hD1⟩ := hB
  rw [ht] at hP
  have hD := hD1.weaken (fun _ _ _ h => hFc _ h)
  generalize H1 = H at hP hS ⊢
  refine W.widen (k := 0) (n := 0) (by decide) (by decide) ?_
  refine lv_aload_n hx hb d_G_addProduction_40 rfl (lv_at hl 1 rfl) ?_
  refine lv_iload hx hb d_G_addProduction_41 (lv_at hl 0 rfl) ?_
  refine lv_iconst (v := 3) hx hb d_G_addProduction_43 (by decide) ?_
  refine lv_iload hx hb d_G_addProduction_44 (lv_at hl 5 rfl) ?_
  obtain ⟨q8, h9, h⟩ := vq_bi h
  have hFc := vq_freeAll hD hS hA
  refine va_callv (va_runV (As := [.int (σ.1 1), .int 3, .int a3]) (rest := []) ⟨hx, hb, hml, hown, hts⟩ (c_G_place l htr dC dI ad ca N q6.2 (σ.1 1) 3 a3 q8 h9 H.size) (vq_cV WSk hts 3 rfl rfl ⟨by decide, by decide⟩ k_48 k_26 k_51 k_52 k_53 (by decide +kernel)) ⟨vq_blind, va_recv hK hP (ci := 1) (q0 := 1) rfl rfl, vq_here hst hS hN hP hK hD⟩ rfl rfl hl.1 rfl (lv_room (Nat.le_of_ble_eq_true rfl)) d_G_addProduction_46 ⟨by decide, by decide⟩) hS (fun q _ h => hFc q h) hFc (fun u t H1 locs ht hvm hw hB hz1 hk1 hS => ?_)
  obtain ⟨hP, -, hD1⟩ := hB
  rw [ht] at hP
  have hD := hD1.weaken (fun _ _ _ h => hFc _ h)
  generalize H1 = H at hP hS ⊢
  refine W.widen (k := 0) (n := 0) (by decide) (by decide) ?_
  refine lv_iload hx hb d_G_addProduction_49 (lv_at hl 0 rfl) ?_
  have h9 := Option.some.inj h
  rw [← h9]
  exact W.iret (v := (σ.1 1)) hx hb hr (fun t ht hW => ⟨⟨(σ.1 1), (), rfl, rfl, by rw [ht]; exact hP, va_K.moved hW.alike hK, hD⟩, hS.F ht⟩) hS.2.2 d_G_addProduction_51

set_option maxHeartbeats 4000000 in
set_option maxRecDepth 100000 in
theorem c_G_setRule (l : Launch) (htr : l.stackTraces = false) (dC : Nat → ClassId) (dI : Nat → Nat → Nat) (ad : Nat → Nat) (ca : Nat → ClassId) (N : Nat) (σ : vS) (a0 : Int32) (a1 : Int32) (a2 : Int32) (a3 : Int32) (a4 : Int32) (v : Int32 × vS) (h : f_G_setRule N σ a0 a1 a2 a3 a4 = some v) (sz : Nat) : Met l y_G_setRule WS ({ frames := 1, cells := 0, slots := 0, locals := 20 }) (va_Pc [.ref (ad 1), .int a0, .int a1, .int a2, .int a3, .int a4] (vq_Pre (dC, dI) CL sz (Xw ad ca σ) (Xt ca))) (va_Qv (fun _ : Unit => True) (fun _ t => vq_Post (dC, dI) CL (va_A (Xw ad ca σ) sz) (Xw ad ca v.2) (Xt ca) t) (va_A (Xw ad ca σ) sz)) 0 0 (va_A (Xw ad ca σ) sz) := by
  refine vq_ofW (cc := prog_3_method_13_code) (maxL := 7) (ret := (Option.none : Option Jvm.ClassFile.FieldType)) pl_G (vq_his k_54) ?_
  intro p e s m args below meth c s₁ B hml hv
  obtain ⟨rfl, hst, hsz, hP, hK, hD0⟩ := hv
  have hx := B.exec
  have hb := B.bytes
  have hr := B.returns
  have hts := atoms_spec (ws := WS) B.pre
  have hown : s.vm.findClass R_G = some m.cls := findClass_of_methodNamed B.named
  have hlocks := B.notSynchronized
  have hno := vq_noH B (hts _ k_54)
  subst hsz
  have hN := vq_ns hP
  have hD := hD0.self (sz := s.heap.size)
  generalize hAe : va_A (Xw ad ca σ) s.heap.size = A at hD hN ⊢
  have hA : ∀ q : Nat, s.heap.size ≤ q → A q := fun q h => by rw [← hAe]; exact Or.inr h
  have hS : va_S A s.heap s.heap [] := va_S.rf
  have hl := lv_entry ([.ref (ad 1), .int a0, .int a1, .int a2, .int a3, .int a4]) (n := 7) (Nat.le_of_ble_eq_true rfl)
  rw [lg_entry_eq]
  generalize (lg_sl ([.ref (ad 1), .int a0, .int a1, .int a2, .int a3, .int a4]) ++ List.replicate (7 - (lg_sl ([.ref (ad 1), .int a0, .int a1, .int a2, .int a3, .int a4])).length) Slot.unset).toArray = ls at hl ⊢
  have hl : lv_has ls 7 [(0, .ref (ad 1)), (1, .int a0), (2, .int a1), (3, .int a2), (4, .int a3), (5, .int a4)] := hl
  unfold f_G_setRule at h
  refine lv_iload_n hx hb d_G_setRule_0 rfl (lv_at hl 1 rfl) ?_
  refine lv_bipush (v := 16) hx hb d_G_setRule_1 (by decide) ?_
  refine lv_imul hx hb d_G_setRule_3 ?_
  refine lv_iload_n hx hb d_G_setRule_4 rfl (lv_at hl 2 rfl) ?_
  refine lv_iadd hx hb d_G_setRule_5 ?_
  refine lv_istore (lv' := [(6, .int ((a0 * 16) + a1)), (0, .ref (ad 1)), (1, .int a0), (2, .int a1), (3, .int a2), (4, .int a3), (5, .int a4)]) hx hb d_G_setRule_6 hl (by decide) rfl (fun ls hl => ?_)
  refine lv_aload_n hx hb d_G_setRule_8 rfl (lv_at hl 1 rfl) ?_
  refine g_G_forms dC dI ad ca σ hx hb hts hown hK hP k_55 d_G_setRule_9 ?_
  refine lv_iload hx hb d_G_setRule_12 (lv_at hl 0 rfl) ?_
  refine lv_iload_n hx hb d_G_setRule_14 rfl (lv_at hl 4 rfl) ?_
  obtain ⟨hi1, h⟩ := vq_bd h
  refine as_X7 dC dI ad ca σ hx hb hts hown hK hP hD hS hi1 d_G_setRule_15 (fun H locs hP hD hS => ?_)
  obtain ⟨σ2, eσ2, h⟩ := vq_let h
  rw [← eσ2] at hP hD
  refine lv_aload_n hx hb d_G_setRule_16 rfl (lv_at hl 1 rfl) ?_
  refine g_G_firsts dC dI ad ca σ2 hx hb hts hown hK hP k_56 d_G_setRule_17 ?_
  refine lv_iload hx hb d_G_setRule_20 (lv_at hl 0 rfl) ?_
  refine lv_iload hx hb d_G_setRule_22 (lv_at hl 5 rfl) ?_
  obtain ⟨hi3, h⟩ := vq_bd h
  refine as_X8 dC dI ad ca σ2 hx hb hts hown hK hP hD hS hi3 d_G_setRule_24 (fun H locs hP hD hS => ?_)
  obtain ⟨σ4, eσ4, h⟩ := vq_let h
  rw [← eσ4] at hP hD
  refine lv_aload_n hx hb d_G_setRule_25 rfl (lv_at hl 1 rfl) ?_
  refine g_G_seconds dC dI ad ca σ4 hx hb hts hown hK hP k_57 d_G_setRule_26 ?_
  refine lv_iload hx hb d_G_setRule_29 (lv_at hl 0 rfl) ?_
  refine lv_iload hx hb d_G_setRule_31 (lv_at hl 6 rfl) ?_
  obtain ⟨hi5, h⟩ := vq_bd h
  refine as_X9 dC dI ad ca σ4 hx hb hts hown hK hP hD hS hi5 d_G_setRule_33 (fun H locs hP hD hS => ?_)
  obtain ⟨σ6, eσ6, h⟩ := vq_let h
  rw [← eσ6] at hP hD
  refine lv_aload_n hx hb d_G_setRule_34 rfl (lv_at hl 1 rfl) ?_
  refine g_G_usedBits dC dI ad ca σ6 hx hb hts hown hK hP k_58 d_G_setRule_35 ?_
  refine lv_iload hx hb d_G_setRule_38 (lv_at hl 0 rfl) ?_
  refine lv_iload_n hx hb d_G_setRule_40 rfl (lv_at hl 4 rfl) ?_
  obtain ⟨q7, h8, h⟩ := vq_bi h
  have hKe := hK.sub (tys' := []) [] rfl
  refine va_calli (va_runS (As := [.int a2]) (rest := [.int ((a0 * 16) + a1), .ref (ad 18)]) ⟨hx, hb, hml, hown, hts⟩ (c_G_usesFirst l htr dC dI N a2 q7 h8 H.size) (vq_cS WSk hts 1 rfl rfl ⟨by decide, by decide⟩ k_2 k_26 k_36 k_37 (by decide +kernel)) ⟨vq_blind, vq_here hst hS hN vq_P0 hKe vq_D0⟩ rfl rfl hl.1 rfl (lv_room (Nat.le_of_ble_eq_true rfl)) d_G_setRule_41 ⟨by decide, by decide⟩) hS (fun q _ h => vq_keepA h (fun hz => hA q (Nat.le_trans hS.1 hz))) (fun q h => vq_keepA h (fun hz => hA q (Nat.le_trans hS.1 hz))) (fun r u t H1 locs ht hvm hw hB hz1 hk1 hS => ?_)
  have hw : r = q7 := hw
  rw [hw]
  have hP := vq_keepP hP hk1
  generalize H1 = H at hP hS ⊢
  refine W.widen (k := 0) (n := 0) (by decide) (by decide) ?_
  have J55 : ∀ (τ : vS) (x1 : Int32) (x2 : Int32) (x3 : Int32) (x5 : Int32) (y0 : Int32) (y1 : Int32) (H : Heap) (locs : List Loc) (ls : Array Slot), f_G_setRule_55 N τ x1 x2 x3 x5 y0 y1 = some v → lv_has ls 7 [(0, .ref (ad 1)), (1, .int x1), (2, .int x2), (3, .int x3), (5, .int x5)] → va_P (dC, dI) CL (Xw ad ca τ) H → va_D A (Xw ad ca τ) → va_S A s.heap H locs → W p l e (headSpec WS ({ frames := 1, cells := 0, slots := 0, locals := 20 })).room s m ([.ref (ad 1), .int a0, .int a1, .int a2, .int a3, .int a4] : List Value).toArray below meth c H locs 0 0 (MQ below (va_Qv (fun _ : Unit => True) (fun _ t => vq_Post (dC, dI) CL A (Xw ad ca v.2) (Xt ca) t) A) ([.ref (ad 1), .int a0, .int a1, .int a2, .int a3, .int a4] : List Value).toArray s 0 0 A) (F0 m 55 ls [.int y0, .int y1, .ref (ad 18)]) := by
    intro τ x1 x2 x3 x5 y0 y1 H locs ls h hl hP hD hS
    unfold f_G_setRule_55 at h
    refine lv_iload_n hx hb d_G_setRule_55 rfl (lv_at hl 3 rfl) ?_
    obtain ⟨q9, h10, h⟩ := vq_bi h
    have hKe := hK.sub (tys' := []) [] rfl
    refine va_calli (va_runS (As := [.int x3]) (rest := [.int y0, .int y1, .ref (ad 18)]) ⟨hx, hb, hml, hown, hts⟩ (c_G_usesSecond l htr dC dI N x3 q9 h10 H.size) (vq_cS WSk hts 1 rfl rfl ⟨by decide, by decide⟩ k_3 k_26 k_38 k_39 (by decide +kernel)) ⟨vq_blind, vq_here hst hS hN vq_P0 hKe vq_D0⟩ rfl rfl hl.1 rfl (lv_room (Nat.le_of_ble_eq_true rfl)) d_G_setRule_56 ⟨by decide, by decide⟩) hS (fun q _ h => vq_keepA h (fun hz => hA q (Nat.le_trans hS.1 hz))) (fun q h => vq_keepA h (fun hz => hA q (Nat.le_trans hS.1 hz))) (fun r u t H1 locs ht hvm hw hB hz1 hk1 hS => ?_)
    have hw : r = q9 := hw
    rw [hw]
    have hP := vq_keepP hP hk1
    generalize H1 = H at hP hS ⊢
    refine W.widen (k := 0) (n := 0) (by decide) (by decide) ?_
    have J70 : ∀ (τ : vS) (x1 : Int32) (x2 : Int32) (y0 : Int32) (y1 : Int32) (y2 : Int32) (H : Heap) (locs : List Loc) (ls : Array Slot), f_G_setRule_70 N τ x1 x2 y0 y1 y2 = some v → lv_has ls 7 [(0, .ref (ad 1)), (1, .int x1), (2, .int x2)] → va_P (dC, dI) CL (Xw ad ca τ) H → va_D A (Xw ad ca τ) → va_S A s.heap H locs → W p l e (headSpec WS ({ frames := 1, cells := 0, slots := 0, locals := 20 })).room s m ([.ref (ad 1), .int a0, .int a1, .int a2, .int a3, .int a4] : List Value).toArray below meth c H locs 0 0 (MQ below (va_Qv (fun _ : Unit => True) (fun _ t => vq_Post (dC, dI) CL A (Xw ad ca v.2) (Xt ca) t) A) ([.ref (ad 1), .int a0, .int a1, .int a2, .int a3, .int a4] : List Value).toArray s 0 0 A) (F0 m 70 ls [.int y0, .int y1, .int y2, .ref (ad 18)]) := by
      intro τ x1 x2 y0 y1 y2 H locs ls h hl hP hD hS
      unfold f_G_setRule_70 at h
      refine lv_ior hx hb d_G_setRule_70 ?_
      obtain ⟨hi11, h⟩ := vq_bd h
      refine as_X10 dC dI ad ca τ hx hb hts hown hK hP hD hS hi11 d_G_setRule_71 (fun H locs hP hD hS => ?_)
      obtain ⟨σ12, eσ12, h⟩ := vq_let h
      rw [← eσ12] at hP hD
      refine lv_aload_n hx hb d_G_setRule_72 rfl (lv_at hl 0 rfl) ?_
      refine g_G_ruledBits dC dI ad ca σ12 hx hb hts hown hK hP k_59 d_G_setRule_73 ?_
      refine lv_iload_n hx hb d_G_setRule_76 rfl (lv_at hl 1 rfl) ?_
      refine lv_dup2_11 hx hb d_G_setRule_77 rfl rfl ?_
      obtain ⟨hi13, h⟩ := vq_bd h
      refine al_X6 dC dI ad ca σ12 hx hb hts hown hK hP hi13 d_G_setRule_78 ?_
      obtain ⟨i14, ei14, h⟩ := vq_let h
      refine vq_top ei14.symm ?_
      refine lv_iconst (v := 1) hx hb d_G_setRule_79 (by decide) ?_
      refine lv_iload_n hx hb d_G_setRule_80 rfl (lv_at hl 2 rfl) ?_
      refine lv_ishl hx hb d_G_setRule_81 ?_
      refine lv_ior hx hb d_G_setRule_82 ?_
      obtain ⟨i15, ei15, h⟩ := vq_let h
      refine vq_top ei15.symm ?_
      obtain ⟨hi16, h⟩ := vq_bd h
      refine as_X6 dC dI ad ca σ12 hx hb hts hown hK hP hD hS hi16 d_G_setRule_83 (fun H locs hP hD hS => ?_)
      obtain ⟨σ17, eσ17, h⟩ := vq_let h
      rw [← eσ17] at hP hD
      have h9 := Option.some.inj h
      rw [← h9]
      exact W.vret hx hb hr (fun t ht hW => ⟨⟨(), rfl, trivial, by rw [ht]; exact hP, va_K.moved hW.alike hK, hD⟩, hS.F ht⟩) hS.2.2 d_G_setRule_84
    refine lv_if_eq (tgt := 69) hx hb d_G_setRule_59 (by decide) (fun hc18 => ?_) (fun hc18 => ?_)
    ·
      rw [if_pos hc18] at h
      refine lv_iconst (v := 0) hx hb d_G_setRule_69 (by decide) ?_
      exact J70 _ _ _ _ _ _ _ _ _ h (lv_sub hl [0, 1, 2] rfl) hP hD hS
    ·
      rw [if_neg hc18] at h
      refine lv_iconst (v := 1) hx hb d_G_setRule_62 (by decide) ?_
      refine lv_iload hx hb d_G_setRule_63 (lv_at hl 4 rfl) ?_
      refine lv_ishl hx hb d_G_setRule_65 ?_
      refine lv_goto (tgt := 70) hx hb d_G_setRule_66 (by decide) ?_
      exact J70 _ _ _ _ _ _ _ _ _ h (lv_sub hl [0, 1, 2] rfl) hP hD hS
  refine lv_if_eq (tgt := 54) hx hb d_G_setRule_44 (by decide) (fun hc19 => ?_) (fun hc19 => ?_)
  ·
    rw [if_pos hc19] at h
    refine lv_iconst (v := 0) hx hb d_G_setRule_54 (by decide) ?_
    exact J55 _ _ _ _ _ _ _ _ _ _ h (lv_sub hl [1, 2, 3, 4, 6] rfl) hP hD hS
  ·
    rw [if_neg hc19] at h
    refine lv_iconst (v := 1) hx hb d_G_setRule_47 (by decide) ?_
    refine lv_iload hx hb d_G_setRule_48 (lv_at hl 5 rfl) ?_
    refine lv_ishl hx hb d_G_setRule_50 ?_
    refine lv_goto (tgt := 55) hx hb d_G_setRule_51 (by decide) ?_
    exact J55 _ _ _ _ _ _ _ _ _ _ h (lv_sub hl [1, 2, 3, 4, 6] rfl) hP hD hS

set_option maxHeartbeats 4000000 in
set_option maxRecDepth 100000 in
theorem c_G_leastWithoutRule (l : Launch) (htr : l.stackTraces = false) (dC : Nat → ClassId) (dI : Nat → Nat → Nat) (ad : Nat → Nat) (ca : Nat → ClassId) (N : Nat) (σ : vS) (a0 : Int32) (v : Int32 × vS) (h : f_G_leastWithoutRule N σ a0 = some v) (sz : Nat) : Met l y_G_leastWithoutRule WS ({ frames := 2, cells := 0, slots := 0, locals := 40 }) (va_Pc [.ref (ad 1), .int a0] (vq_Pre (dC, dI) CL sz (Xw ad ca σ) (Xt ca))) (va_Qi (fun (r : Int32) (_ : Unit) => r = v.1) (fun _ t => vq_Post (dC, dI) CL (va_A (Xw ad ca σ) sz) (Xw ad ca v.2) (Xt ca) t) (va_A (Xw ad ca σ) sz)) 0 0 (va_A (Xw ad ca σ) sz) := by
  refine vq_ofW (cc := prog_3_method_15_code) (maxL := 2) (ret := (Option.some Jvm.ClassFile.FieldType.int)) pl_G (vq_his k_60) ?_
  intro p e s m args below meth c s₁ B hml hv
  obtain ⟨rfl, hst, hsz, hP, hK, hD0⟩ := hv
  have hx := B.exec
  have hb := B.bytes
  have hr := B.returns
  have hts := atoms_spec (ws := WS) B.pre
  have hown : s.vm.findClass R_G = some m.cls := findClass_of_methodNamed B.named
  have hlocks := B.notSynchronized
  have hno := vq_noH B (hts _ k_60)
  subst hsz
  have hN := vq_ns hP
  have hD := hD0.self (sz := s.heap.size)
  generalize hAe : va_A (Xw ad ca σ) s.heap.size = A at hD hN ⊢
  have hA : ∀ q : Nat, s.heap.size ≤ q → A q := fun q h => by rw [← hAe]; exact Or.inr h
  have hS : va_S A s.heap s.heap [] := va_S.rf
  have hl := lv_entry ([.ref (ad 1), .int a0]) (n := 2) (Nat.le_of_ble_eq_true rfl)
  rw [lg_entry_eq]
  generalize (lg_sl ([.ref (ad 1), .int a0]) ++ List.replicate (2 - (lg_sl ([.ref (ad 1), .int a0])).length) Slot.unset).toArray = ls at hl ⊢
  have hl : lv_has ls 2 [(0, .ref (ad 1)), (1, .int a0)] := hl
  unfold f_G_leastWithoutRule at h
  refine lv_aload_n hx hb d_G_leastWithoutRule_0 rfl (lv_at hl 0 rfl) ?_
  refine g_G_toDefineBits dC dI ad ca σ hx hb hts hown hK hP k_30 d_G_leastWithoutRule_1 ?_
  refine lv_iload_n hx hb d_G_leastWithoutRule_4 rfl (lv_at hl 1 rfl) ?_
  obtain ⟨hi1, h⟩ := vq_bd h
  refine al_X5 dC dI ad ca σ hx hb hts hown hK hP hi1 d_G_leastWithoutRule_5 ?_
  obtain ⟨i2, ei2, h⟩ := vq_let h
  refine vq_top ei2.symm ?_
  refine lv_aload_n hx hb d_G_leastWithoutRule_6 rfl (lv_at hl 0 rfl) ?_
  refine g_G_ruledBits dC dI ad ca σ hx hb hts hown hK hP k_59 d_G_leastWithoutRule_7 ?_
  refine lv_iload_n hx hb d_G_leastWithoutRule_10 rfl (lv_at hl 1 rfl) ?_
  obtain ⟨hi3, h⟩ := vq_bd h
  refine al_X6 dC dI ad ca σ hx hb hts hown hK hP hi3 d_G_leastWithoutRule_11 ?_
  obtain ⟨i4, ei4, h⟩ := vq_let h
  refine vq_top ei4.symm ?_
  refine lv_iconst (v := (-1)) hx hb d_G_leastWithoutRule_12 (by decide) ?_
  refine lv_ixor hx hb d_G_leastWithoutRule_13 ?_
  refine lv_iand hx hb d_G_leastWithoutRule_14 ?_
  obtain ⟨q5, h6, h⟩ := vq_bi h
  have hKe := hK.sub (tys' := []) [] rfl
  refine va_calli (va_runSN (As := [.int (i2 &&& (i4 ^^^ (-1)))]) (rest := []) ⟨hx, hb, hml, hown, hts⟩ (c_V_leastOf l htr dC dI N (i2 &&& (i4 ^^^ (-1))) q5 h6 s.heap.size) (vq_cSN WSk hts 1 rfl rfl ⟨by decide, by decide⟩ k_10 k_22 k_61 k_62 (by decide +kernel)) ⟨vq_blind, vq_here hst hS hN vq_P0 hKe vq_D0⟩ rfl rfl hl.1 rfl (lv_room (Nat.le_of_ble_eq_true rfl)) d_G_leastWithoutRule_15 ⟨by decide, by decide⟩) hS (fun q _ h => vq_keepA h (fun hz => hA q (Nat.le_trans hS.1 hz))) (fun q h => vq_keepA h (fun hz => hA q (Nat.le_trans hS.1 hz))) (fun r u t H1 locs ht hvm hw hB hz1 hk1 hS => ?_)
  have hw : r = q5 := hw
  rw [hw]
  have hP := vq_keepP hP hk1
  generalize H1 = H at hP hS ⊢
  refine W.widen (k := 0) (n := 0) (by decide) (by decide) ?_
  have h9 := Option.some.inj h
  rw [← h9]
  exact W.iret (v := q5) hx hb hr (fun t ht hW => ⟨⟨q5, (), rfl, rfl, by rw [ht]; exact hP, va_K.moved hW.alike hK, hD⟩, hS.F ht⟩) hS.2.2 d_G_leastWithoutRule_18
