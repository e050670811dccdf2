set_option maxHeartbeats 4000000 in
set_option maxRecDepth 100000 in
theorem c_V_holds (l : Launch) (htr : l.stackTraces = false) (dC : Nat → ClassId) (dI : Nat → Nat → Nat) (N : Nat) (a0 : Int32) (a1 : Int32) (v : Int32) (h : f_V_holds N a0 a1 = some v) (sz : Nat) : Met l y_V_holds WS ({ frames := 0, cells := 0, slots := 0, locals := 0 }) (va_Pc [.int a0, .int a1] (vq_Pre (dC, dI) CL sz [] [])) (va_Qi (fun (r : Int32) (_ : Unit) => r = v) (fun _ t => vq_Post (dC, dI) CL (va_A [] sz) [] [] t) (va_A [] sz)) 0 0 (va_A [] sz) := by
  refine vq_ofW (cc := prog_1_method_22_code) (maxL := 2) (ret := (Option.some Jvm.ClassFile.FieldType.boolean)) pl_V (vq_his k_0) ?_
  intro p e s m args below meth c s₁ B hml hv
  obtain ⟨rfl, hst, hsz, hP, hK, hD0⟩ := hv
  have hx := B.exec
  have hb := B.bytes
  have hr := B.returns
  have hts := atoms_spec (ws := WS) B.pre
  have hown : s.vm.findClass R_V = some m.cls := findClass_of_methodNamed B.named
  have hlocks := B.notSynchronized
  have hno := vq_noH B (hts _ k_0)
  subst hsz
  have hN := vq_ns hP
  have hD := hD0.self (sz := s.heap.size)
  generalize hAe : va_A [] s.heap.size = A at hD hN ⊢
  have hA : ∀ q : Nat, s.heap.size ≤ q → A q := fun q h => by rw [← hAe]; exact Or.inr h
  have hS : va_S A s.heap s.heap [] := va_S.rf
  have hl := lv_entry ([.int a0, .int a1]) (n := 2) (Nat.le_of_ble_eq_true rfl)
  rw [lg_entry_eq]
  generalize (lg_sl ([.int a0, .int a1]) ++ List.replicate (2 - (lg_sl ([.int a0, .int a1])).length) Slot.unset).toArray = ls at hl ⊢
  have hl : lv_has ls 2 [(0, .int a0), (1, .int a1)] := hl
  unfold f_V_holds at h
  refine lv_iload_n hx hb d_V_holds_0 rfl (lv_at hl 0 rfl) ?_
  refine lv_iload_n hx hb d_V_holds_1 rfl (lv_at hl 1 rfl) ?_
  refine lv_ishr hx hb d_V_holds_2 ?_
  refine lv_iconst (v := 1) hx hb d_V_holds_3 (by decide) ?_
  refine lv_iand hx hb d_V_holds_4 ?_
  refine lv_if_eq (tgt := 12) hx hb d_V_holds_5 (by decide) (fun hc1 => ?_) (fun hc1 => ?_)
  ·
    rw [if_pos hc1] at h
    refine lv_iconst (v := 0) hx hb d_V_holds_12 (by decide) ?_
    have h9 := Option.some.inj h
    rw [← h9]
    exact W.zret (v := 0) (ty := .boolean) hx hb hr (by decide) (fun t ht hW => ⟨⟨0, (), rfl, rfl, by rw [ht]; exact hP, va_K.moved hW.alike hK, hD⟩, hS.F ht⟩) hS.2.2 d_V_holds_13
  ·
    rw [if_neg hc1] at h
    refine lv_iconst (v := 1) hx hb d_V_holds_8 (by decide) ?_
    refine lv_goto (tgt := 13) hx hb d_V_holds_9 (by decide) ?_
    have h9 := Option.some.inj h
    rw [← h9]
    exact W.zret (v := 1) (ty := .boolean) hx hb hr (by decide) (fun t ht hW => ⟨⟨1, (), rfl, rfl, by rw [ht]; exact hP, va_K.moved hW.alike hK, hD⟩, hS.F ht⟩) hS.2.2 d_V_holds_13

set_option maxHeartbeats 4000000 in
set_option maxRecDepth 100000 in
theorem c_V_holdsAll (l : Launch) (htr : l.stackTraces = false) (dC : Nat → ClassId) (dI : Nat → Nat → Nat) (N : Nat) (a0 : Int32) (a1 : Int32) (v : Int32) (h : f_V_holdsAll N a0 a1 = some v) (sz : Nat) : Met l y_V_holdsAll WS ({ frames := 0, cells := 0, slots := 0, locals := 0 }) (va_Pc [.int a0, .int a1] (vq_Pre (dC, dI) CL sz [] [])) (va_Qi (fun (r : Int32) (_ : Unit) => r = v) (fun _ t => vq_Post (dC, dI) CL (va_A [] sz) [] [] t) (va_A [] sz)) 0 0 (va_A [] sz) := by
  refine vq_ofW (cc := prog_1_method_23_code) (maxL := 2) (ret := (Option.some Jvm.ClassFile.FieldType.boolean)) pl_V (vq_his k_1) ?_
  intro p e s m args below meth c s₁ B hml hv
  obtain ⟨rfl, hst, hsz, hP, hK, hD0⟩ := hv
  have hx := B.exec
  have hb := B.bytes
  have hr := B.returns
  have hts := atoms_spec (ws := WS) B.pre
  have hown : s.vm.findClass R_V = some m.cls := findClass_of_methodNamed B.named
  have hlocks := B.notSynchronized
  have hno := vq_noH B (hts _ k_1)
  subst hsz
  have hN := vq_ns hP
  have hD := hD0.self (sz := s.heap.size)
  generalize hAe : va_A [] s.heap.size = A at hD hN ⊢
  have hA : ∀ q : Nat, s.heap.size ≤ q → A q := fun q h => by rw [← hAe]; exact Or.inr h
  have hS : va_S A s.heap s.heap [] := va_S.rf
  have hl := lv_entry ([.int a0, .int a1]) (n := 2) (Nat.le_of_ble_eq_true rfl)
  rw [lg_entry_eq]
  generalize (lg_sl ([.int a0, .int a1]) ++ List.replicate (2 - (lg_sl ([.int a0, .int a1])).length) Slot.unset).toArray = ls at hl ⊢
  have hl : lv_has ls 2 [(0, .int a0), (1, .int a1)] := hl
  unfold f_V_holdsAll at h
  refine lv_iload_n hx hb d_V_holdsAll_0 rfl (lv_at hl 1 rfl) ?_
  refine lv_iload_n hx hb d_V_holdsAll_1 rfl (lv_at hl 0 rfl) ?_
  refine lv_iconst (v := (-1)) hx hb d_V_holdsAll_2 (by decide) ?_
  refine lv_ixor hx hb d_V_holdsAll_3 ?_
  refine lv_iand hx hb d_V_holdsAll_4 ?_
  refine lv_if_ne (tgt := 12) hx hb d_V_holdsAll_5 (by decide) (fun hc1 => ?_) (fun hc1 => ?_)
  ·
    rw [if_neg hc1] at h
    refine lv_iconst (v := 0) hx hb d_V_holdsAll_12 (by decide) ?_
    have h9 := Option.some.inj h
    rw [← h9]
    exact W.zret (v := 0) (ty := .boolean) hx hb hr (by decide) (fun t ht hW => ⟨⟨0, (), rfl, rfl, by rw [ht]; exact hP, va_K.moved hW.alike hK, hD⟩, hS.F ht⟩) hS.2.2 d_V_holdsAll_13
  ·
    rw [if_pos hc1] at h
    refine lv_iconst (v := 1) hx hb d_V_holdsAll_8 (by decide) ?_
    refine lv_goto (tgt := 13) hx hb d_V_holdsAll_9 (by decide) ?_
    have h9 := Option.some.inj h
    rw [← h9]
    exact W.zret (v := 1) (ty := .boolean) hx hb hr (by decide) (fun t ht hW => ⟨⟨1, (), rfl, rfl, by rw [ht]; exact hP, va_K.moved hW.alike hK, hD⟩, hS.F ht⟩) hS.2.2 d_V_holdsAll_13

set_option maxHeartbeats 4000000 in
set_option maxRecDepth 100000 in
theorem c_G_usesFirst (l : Launch) (htr : l.stackTraces = false) (dC : Nat → ClassId) (dI : Nat → Nat → Nat) (N : Nat) (a0 : Int32) (v : Int32) (h : f_G_usesFirst N a0 = some v) (sz : Nat) : Met l y_G_usesFirst WS ({ frames := 0, cells := 0, slots := 0, locals := 0 }) (va_Pc [.int a0] (vq_Pre (dC, dI) CL sz [] [])) (va_Qi (fun (r : Int32) (_ : Unit) => r = v) (fun _ t => vq_Post (dC, dI) CL (va_A [] sz) [] [] t) (va_A [] sz)) 0 0 (va_A [] sz) := by
  refine vq_ofW (cc := prog_3_method_16_code) (maxL := 1) (ret := (Option.some Jvm.ClassFile.FieldType.boolean)) pl_G (vq_his k_2) ?_
  intro p e s m args below meth c s₁ B hml hv
  obtain ⟨rfl, hst, hsz, hP, hK, hD0⟩ := hv
  have hx := B.exec
  have hb := B.bytes
  have hr := B.returns
  have hts := atoms_spec (ws := WS) B.pre
  have hown : s.vm.findClass R_G = some m.cls := findClass_of_methodNamed B.named
  have hlocks := B.notSynchronized
  have hno := vq_noH B (hts _ k_2)
  subst hsz
  have hN := vq_ns hP
  have hD := hD0.self (sz := s.heap.size)
  generalize hAe : va_A [] s.heap.size = A at hD hN ⊢
  have hA : ∀ q : Nat, s.heap.size ≤ q → A q := fun q h => by rw [← hAe]; exact Or.inr h
  have hS : va_S A s.heap s.heap [] := va_S.rf
  have hl := lv_entry ([.int a0]) (n := 1) (Nat.le_of_ble_eq_true rfl)
  rw [lg_entry_eq]
  generalize (lg_sl ([.int a0]) ++ List.replicate (1 - (lg_sl ([.int a0])).length) Slot.unset).toArray = ls at hl ⊢
  have hl : lv_has ls 1 [(0, .int a0)] := hl
  unfold f_G_usesFirst at h
  refine lv_iload_n hx hb d_G_usesFirst_0 rfl (lv_at hl 0 rfl) ?_
  refine lv_iconst (v := 2) hx hb d_G_usesFirst_1 (by decide) ?_
  refine lv_icmp_lt (tgt := 9) hx hb d_G_usesFirst_2 (by decide) (fun hc1 => ?_) (fun hc1 => ?_)
  ·
    rw [if_pos hc1] at h
    refine lv_iconst (v := 0) hx hb d_G_usesFirst_9 (by decide) ?_
    have h9 := Option.some.inj h
    rw [← h9]
    exact W.zret (v := 0) (ty := .boolean) hx hb hr (by decide) (fun t ht hW => ⟨⟨0, (), rfl, rfl, by rw [ht]; exact hP, va_K.moved hW.alike hK, hD⟩, hS.F ht⟩) hS.2.2 d_G_usesFirst_10
  ·
    rw [if_neg hc1] at h
    refine lv_iconst (v := 1) hx hb d_G_usesFirst_5 (by decide) ?_
    refine lv_goto (tgt := 10) hx hb d_G_usesFirst_6 (by decide) ?_
    have h9 := Option.some.inj h
    rw [← h9]
    exact W.zret (v := 1) (ty := .boolean) hx hb hr (by decide) (fun t ht hW => ⟨⟨1, (), rfl, rfl, by rw [ht]; exact hP, va_K.moved hW.alike hK, hD⟩, hS.F ht⟩) hS.2.2 d_G_usesFirst_10

set_option maxHeartbeats 4000000 in
set_option maxRecDepth 100000 in
theorem c_G_usesSecond (l : Launch) (htr : l.stackTraces = false) (dC : Nat → ClassId) (dI : Nat → Nat → Nat) (N : Nat) (a0 : Int32) (v : Int32) (h : f_G_usesSecond N a0 = some v) (sz : Nat) : Met l y_G_usesSecond WS ({ frames := 0, cells := 0, slots := 0, locals := 0 }) (va_Pc [.int a0] (vq_Pre (dC, dI) CL sz [] [])) (va_Qi (fun (r : Int32) (_ : Unit) => r = v) (fun _ t => vq_Post (dC, dI) CL (va_A [] sz) [] [] t) (va_A [] sz)) 0 0 (va_A [] sz) := by
  refine vq_ofW (cc := prog_3_method_17_code) (maxL := 1) (ret := (Option.some Jvm.ClassFile.FieldType.boolean)) pl_G (vq_his k_3) ?_
  intro p e s m args below meth c s₁ B hml hv
  obtain ⟨rfl, hst, hsz, hP, hK, hD0⟩ := hv
  have hx := B.exec
  have hb := B.bytes
  have hr := B.returns
  have hts := atoms_spec (ws := WS) B.pre
  have hown : s.vm.findClass R_G = some m.cls := findClass_of_methodNamed B.named
  have hlocks := B.notSynchronized
  have hno := vq_noH B (hts _ k_3)
  subst hsz
  have hN := vq_ns hP
  have hD := hD0.self (sz := s.heap.size)
  generalize hAe : va_A [] s.heap.size = A at hD hN ⊢
  have hA : ∀ q : Nat, s.heap.size ≤ q → A q := fun q h => by rw [← hAe]; exact Or.inr h
  have hS : va_S A s.heap s.heap [] := va_S.rf
  have hl := lv_entry ([.int a0]) (n := 1) (Nat.le_of_ble_eq_true rfl)
  rw [lg_entry_eq]
  generalize (lg_sl ([.int a0]) ++ List.replicate (1 - (lg_sl ([.int a0])).length) Slot.unset).toArray = ls at hl ⊢
  have hl : lv_has ls 1 [(0, .int a0)] := hl
  unfold f_G_usesSecond at h
  refine lv_iload_n hx hb d_G_usesSecond_0 rfl (lv_at hl 0 rfl) ?_
  refine lv_iconst (v := 3) hx hb d_G_usesSecond_1 (by decide) ?_
  refine lv_icmp_lt (tgt := 15) hx hb d_G_usesSecond_2 (by decide) (fun hc1 => ?_) (fun hc1 => ?_)
  ·
    rw [if_pos hc1] at h
    refine lv_iconst (v := 0) hx hb d_G_usesSecond_15 (by decide) ?_
    have h9 := Option.some.inj h
    rw [← h9]
    exact W.zret (v := 0) (ty := .boolean) hx hb hr (by decide) (fun t ht hW => ⟨⟨0, (), rfl, rfl, by rw [ht]; exact hP, va_K.moved hW.alike hK, hD⟩, hS.F ht⟩) hS.2.2 d_G_usesSecond_16
  ·
    rw [if_neg hc1] at h
    refine lv_iload_n hx hb d_G_usesSecond_5 rfl (lv_at hl 0 rfl) ?_
    refine lv_bipush (v := 6) hx hb d_G_usesSecond_6 (by decide) ?_
    refine lv_icmp_gt (tgt := 15) hx hb d_G_usesSecond_8 (by decide) (fun hc2 => ?_) (fun hc2 => ?_)
    ·
      rw [if_pos hc2] at h
      refine lv_iconst (v := 0) hx hb d_G_usesSecond_15 (by decide) ?_
      have h9 := Option.some.inj h
      rw [← h9]
      exact W.zret (v := 0) (ty := .boolean) hx hb hr (by decide) (fun t ht hW => ⟨⟨0, (), rfl, rfl, by rw [ht]; exact hP, va_K.moved hW.alike hK, hD⟩, hS.F ht⟩) hS.2.2 d_G_usesSecond_16
    ·
      rw [if_neg hc2] at h
      refine lv_iconst (v := 1) hx hb d_G_usesSecond_11 (by decide) ?_
      refine lv_goto (tgt := 16) hx hb d_G_usesSecond_12 (by decide) ?_
      have h9 := Option.some.inj h
      rw [← h9]
      exact W.zret (v := 1) (ty := .boolean) hx hb hr (by decide) (fun t ht hW => ⟨⟨1, (), rfl, rfl, by rw [ht]; exact hP, va_K.moved hW.alike hK, hD⟩, hS.F ht⟩) hS.2.2 d_G_usesSecond_16

set_option maxHeartbeats 4000000 in
set_option maxRecDepth 100000 in
theorem c_E_othersAt (l : Launch) (htr : l.stackTraces = false) (dC : Nat → ClassId) (dI : Nat → Nat → Nat) (N : Nat) (a0 : Int32) (a1 : Int32) (a2 : Int32) (v : Int32) (h : f_E_othersAt N a0 a1 a2 = some v) (sz : Nat) : Met l y_E_othersAt WS ({ frames := 0, cells := 0, slots := 0, locals := 0 }) (va_Pc [.int a0, .int a1, .int a2] (vq_Pre (dC, dI) CL sz [] [])) (va_Qi (fun (r : Int32) (_ : Unit) => r = v) (fun _ t => vq_Post (dC, dI) CL (va_A [] sz) [] [] t) (va_A [] sz)) 0 0 (va_A [] sz) := by
  refine vq_ofW (cc := prog_4_method_10_code) (maxL := 4) (ret := (Option.some Jvm.ClassFile.FieldType.int)) pl_E (vq_his k_4) ?_
  intro p e s m args below meth c s₁ B hml hv
  obtain ⟨rfl, hst, hsz, hP, hK, hD0⟩ := hv
  have hx := B.exec
  have hb := B.bytes
  have hr := B.returns
  have hts := atoms_spec (ws := WS) B.pre
  have hown : s.vm.findClass R_E = some m.cls := findClass_of_methodNamed B.named
  have hlocks := B.notSynchronized
  have hno := vq_noH B (hts _ k_4)
  subst hsz
  have hN := vq_ns hP
  have hD := hD0.self (sz := s.heap.size)
  generalize hAe : va_A [] s.heap.size = A at hD hN ⊢
  have hA : ∀ q : Nat, s.heap.size ≤ q → A q := fun q h => by rw [← hAe]; exact Or.inr h
  have hS : va_S A s.heap s.heap [] := va_S.rf
  have hl := lv_entry ([.int a0, .int a1, .int a2]) (n := 4) (Nat.le_of_ble_eq_true rfl)
  rw [lg_entry_eq]
  generalize (lg_sl ([.int a0, .int a1, .int a2]) ++ List.replicate (4 - (lg_sl ([.int a0, .int a1, .int a2])).length) Slot.unset).toArray = ls at hl ⊢
  have hl : lv_has ls 4 [(0, .int a0), (1, .int a1), (2, .int a2)] := hl
  unfold f_E_othersAt at h
  refine lv_bipush (v := 15) hx hb d_E_othersAt_0 (by decide) ?_
  refine lv_istore_n (lv' := [(3, .int 15), (0, .int a0), (1, .int a1), (2, .int a2)]) hx hb d_E_othersAt_2 rfl hl (by decide) rfl (fun ls hl => ?_)
  refine lv_iload_n hx hb d_E_othersAt_3 rfl (lv_at hl 3 rfl) ?_
  refine lv_iload_n hx hb d_E_othersAt_4 rfl (lv_at hl 1 rfl) ?_
  refine lv_ishr hx hb d_E_othersAt_5 ?_
  refine lv_iload_n hx hb d_E_othersAt_6 rfl (lv_at hl 0 rfl) ?_
  refine lv_iand hx hb d_E_othersAt_7 ?_
  refine lv_iconst (v := 1) hx hb d_E_othersAt_8 (by decide) ?_
  refine lv_iload_n hx hb d_E_othersAt_9 rfl (lv_at hl 2 rfl) ?_
  refine lv_ishl hx hb d_E_othersAt_10 ?_
  refine lv_iconst (v := (-1)) hx hb d_E_othersAt_11 (by decide) ?_
  refine lv_ixor hx hb d_E_othersAt_12 ?_
  obtain ⟨i1, ei1, h⟩ := vq_let h
  refine vq_top ei1.symm ?_
  refine lv_iand hx hb d_E_othersAt_13 ?_
  obtain ⟨i2, ei2, h⟩ := vq_let h
  refine vq_top ei2.symm ?_
  have h9 := Option.some.inj h
  rw [← h9]
  exact W.iret (v := i2) hx hb hr (fun t ht hW => ⟨⟨i2, (), rfl, rfl, by rw [ht]; exact hP, va_K.moved hW.alike hK, hD⟩, hS.F ht⟩) hS.2.2 d_E_othersAt_14

set_option maxHeartbeats 4000000 in
set_option maxRecDepth 100000 in
theorem c_M_needs (l : Launch) (htr : l.stackTraces = false) (dC : Nat → ClassId) (dI : Nat → Nat → Nat) (N : Nat) (a0 : Int32) (v : Int32) (h : f_M_needs N a0 = some v) (sz : Nat) : Met l y_M_needs WS ({ frames := 0, cells := 0, slots := 0, locals := 0 }) (va_Pc [.int a0] (vq_Pre (dC, dI) CL sz [] [])) (va_Qi (fun (r : Int32) (_ : Unit) => r = v) (fun _ t => vq_Post (dC, dI) CL (va_A [] sz) [] [] t) (va_A [] sz)) 0 0 (va_A [] sz) := by
  refine vq_ofW (cc := prog_10_method_12_code) (maxL := 1) (ret := (Option.some Jvm.ClassFile.FieldType.int)) pl_M (vq_his k_5) ?_
  intro p e s m args below meth c s₁ B hml hv
  obtain ⟨rfl, hst, hsz, hP, hK, hD0⟩ := hv
  have hx := B.exec
  have hb := B.bytes
  have hr := B.returns
  have hts := atoms_spec (ws := WS) B.pre
  have hown : s.vm.findClass R_M = some m.cls := findClass_of_methodNamed B.named
  have hlocks := B.notSynchronized
  have hno := vq_noH B (hts _ k_5)
  subst hsz
  have hN := vq_ns hP
  have hD := hD0.self (sz := s.heap.size)
  generalize hAe : va_A [] s.heap.size = A at hD hN ⊢
  have hA : ∀ q : Nat, s.heap.size ≤ q → A q := fun q h => by rw [← hAe]; exact Or.inr h
  have hS : va_S A s.heap s.heap [] := va_S.rf
  have hl := lv_entry ([.int a0]) (n := 1) (Nat.le_of_ble_eq_true rfl)
  rw [lg_entry_eq]
  generalize (lg_sl ([.int a0]) ++ List.replicate (1 - (lg_sl ([.int a0])).length) Slot.unset).toArray = ls at hl ⊢
  have hl : lv_has ls 1 [(0, .int a0)] := hl
  unfold f_M_needs at h
  refine lv_iload_n hx hb d_M_needs_0 rfl (lv_at hl 0 rfl) ?_
  refine lv_iconst (v := 2) hx hb d_M_needs_1 (by decide) ?_
  refine lv_icmp_ge (tgt := 9) hx hb d_M_needs_2 (by decide) (fun hc1 => ?_) (fun hc1 => ?_)
  ·
    rw [if_pos hc1] at h
    refine lv_iload_n hx hb d_M_needs_9 rfl (lv_at hl 0 rfl) ?_
    refine lv_iconst (v := 2) hx hb d_M_needs_10 (by decide) ?_
    have J20 : ∀ (H : Heap) (locs : List Loc) (ls : Array Slot), f_M_needs_20 N = some v → lv_has ls 1 [] → va_P (dC, dI) CL [] H → va_D A [] → va_S A s.heap H locs → W p l e (headSpec WS ({ frames := 0, cells := 0, slots := 0, locals := 0 })).room s m ([.int a0] : List Value).toArray below meth c H locs 0 0 (MQ below (va_Qi (fun (r : Int32) (_ : Unit) => r = v) (fun _ t => vq_Post (dC, dI) CL A [] [] t) A) ([.int a0] : List Value).toArray s 0 0 A) (F0 m 20 ls []) := by
      intro H locs ls h hl hP hD hS
      unfold f_M_needs_20 at h
      refine lv_iconst (v := 1) hx hb d_M_needs_20 (by decide) ?_
      refine lv_goto (tgt := 25) hx hb d_M_needs_21 (by decide) ?_
      have h9 := Option.some.inj h
      rw [← h9]
      exact W.iret (v := (1 : Int32)) hx hb hr (fun t ht hW => ⟨⟨(1 : Int32), (), rfl, rfl, by rw [ht]; exact hP, va_K.moved hW.alike hK, hD⟩, hS.F ht⟩) hS.2.2 d_M_needs_25
    refine lv_icmp_eq (tgt := 20) hx hb d_M_needs_11 (by decide) (fun hc2 => ?_) (fun hc2 => ?_)
    ·
      rw [if_pos hc2] at h
      exact J20 _ _ _ h (lv_sub hl [] rfl) hP hD hS
    ·
      rw [if_neg hc2] at h
      refine lv_iload_n hx hb d_M_needs_14 rfl (lv_at hl 0 rfl) ?_
      refine lv_bipush (v := 7) hx hb d_M_needs_15 (by decide) ?_
      refine lv_icmp_ne (tgt := 24) hx hb d_M_needs_17 (by decide) (fun hc3 => ?_) (fun hc3 => ?_)
      ·
        rw [if_neg hc3] at h
        refine lv_iconst (v := 2) hx hb d_M_needs_24 (by decide) ?_
        have h9 := Option.some.inj h
        rw [← h9]
        exact W.iret (v := (2 : Int32)) hx hb hr (fun t ht hW => ⟨⟨(2 : Int32), (), rfl, rfl, by rw [ht]; exact hP, va_K.moved hW.alike hK, hD⟩, hS.F ht⟩) hS.2.2 d_M_needs_25
      ·
        rw [if_pos hc3] at h
        exact J20 _ _ _ h (lv_sub hl [] rfl) hP hD hS
  ·
    rw [if_neg hc1] at h
    refine lv_iconst (v := 0) hx hb d_M_needs_5 (by decide) ?_
    refine lv_goto (tgt := 25) hx hb d_M_needs_6 (by decide) ?_
    have h9 := Option.some.inj h
    rw [← h9]
    exact W.iret (v := (0 : Int32)) hx hb hr (fun t ht hW => ⟨⟨(0 : Int32), (), rfl, rfl, by rw [ht]; exact hP, va_K.moved hW.alike hK, hD⟩, hS.F ht⟩) hS.2.2 d_M_needs_25

set_option maxHeartbeats 4000000 in
set_option maxRecDepth 100000 in
theorem c_I_bitCount (l : Launch) (htr : l.stackTraces = false) (dC : Nat → ClassId) (dI : Nat → Nat → Nat) (N : Nat) (a0 : Int32) (v : Int32) (h : f_I_bitCount N a0 = some v) (sz : Nat) : Met l y_I_bitCount WS ({ frames := 0, cells := 0, slots := 0, locals := 0 }) (va_Pc [.int a0] (vq_Pre (dC, dI) CL sz [] [])) (va_Qi (fun (r : Int32) (_ : Unit) => r = v) (fun _ t => vq_Post (dC, dI) CL (va_A [] sz) [] [] t) (va_A [] sz)) 0 0 (va_A [] sz) := by
  refine vq_ofW (cc := prog_15_method_49_code) (maxL := 1) (ret := (Option.some Jvm.ClassFile.FieldType.int)) pl_I (vq_his k_6) ?_
  intro p e s m args below meth c s₁ B hml hv
  obtain ⟨rfl, hst, hsz, hP, hK, hD0⟩ := hv
  have hx := B.exec
  have hb := B.bytes
  have hr := B.returns
  have hts := atoms_spec (ws := WS) B.pre
  have hown : s.vm.findClass R_I = some m.cls := findClass_of_methodNamed B.named
  have hlocks := B.notSynchronized
  have hno := vq_noH B (hts _ k_6)
  subst hsz
  have hN := vq_ns hP
  have hD := hD0.self (sz := s.heap.size)
  generalize hAe : va_A [] s.heap.size = A at hD hN ⊢
  have hA : ∀ q : Nat, s.heap.size ≤ q → A q := fun q h => by rw [← hAe]; exact Or.inr h
  have hS : va_S A s.heap s.heap [] := va_S.rf
  have hl := lv_entry ([.int a0]) (n := 1) (Nat.le_of_ble_eq_true rfl)
  rw [lg_entry_eq]
  generalize (lg_sl ([.int a0]) ++ List.replicate (1 - (lg_sl ([.int a0])).length) Slot.unset).toArray = ls at hl ⊢
  have hl : lv_has ls 1 [(0, .int a0)] := hl
  unfold f_I_bitCount at h
  refine lv_iload_n hx hb d_I_bitCount_0 rfl (lv_at hl 0 rfl) ?_
  refine lv_iload_n hx hb d_I_bitCount_1 rfl (lv_at hl 0 rfl) ?_
  refine lv_iconst (v := 1) hx hb d_I_bitCount_2 (by decide) ?_
  refine lv_iushr hx hb d_I_bitCount_3 rfl ?_
  obtain ⟨i1, ei1, h⟩ := vq_let h
  refine vq_top ei1.symm ?_
  refine lv_ldcw (v := 1431655765) hx hb hown (hts _ k_7) d_I_bitCount_4 ?_
  refine lv_iand hx hb d_I_bitCount_7 ?_
  refine lv_isub hx hb d_I_bitCount_8 ?_
  refine lv_istore_n (lv' := [(0, .int (a0 - (i1 &&& 1431655765)))]) hx hb d_I_bitCount_9 rfl hl (by decide) rfl (fun ls hl => ?_)
  refine lv_iload_n hx hb d_I_bitCount_10 rfl (lv_at hl 0 rfl) ?_
  refine lv_ldcw (v := 858993459) hx hb hown (hts _ k_8) d_I_bitCount_11 ?_
  refine lv_iand hx hb d_I_bitCount_14 ?_
  obtain ⟨i2, ei2, h⟩ := vq_let h
  refine vq_top ei2.symm ?_
  refine lv_iload_n hx hb d_I_bitCount_15 rfl (lv_at hl 0 rfl) ?_
  refine lv_iconst (v := 2) hx hb d_I_bitCount_16 (by decide) ?_
  refine lv_iushr hx hb d_I_bitCount_17 rfl ?_
  obtain ⟨i3, ei3, h⟩ := vq_let h
  refine vq_top ei3.symm ?_
  refine lv_ldcw (v := 858993459) hx hb hown (hts _ k_8) d_I_bitCount_18 ?_
  refine lv_iand hx hb d_I_bitCount_21 ?_
  refine lv_iadd hx hb d_I_bitCount_22 ?_
  refine lv_istore_n (lv' := [(0, .int (i2 + (i3 &&& 858993459)))]) hx hb d_I_bitCount_23 rfl hl (by decide) rfl (fun ls hl => ?_)
  refine lv_iload_n hx hb d_I_bitCount_24 rfl (lv_at hl 0 rfl) ?_
  refine lv_iload_n hx hb d_I_bitCount_25 rfl (lv_at hl 0 rfl) ?_
  refine lv_iconst (v := 4) hx hb d_I_bitCount_26 (by decide) ?_
  refine lv_iushr hx hb d_I_bitCount_27 rfl ?_
  obtain ⟨i4, ei4, h⟩ := vq_let h
  refine vq_top ei4.symm ?_
  refine lv_iadd hx hb d_I_bitCount_28 ?_
  refine lv_ldcw (v := 252645135) hx hb hown (hts _ k_9) d_I_bitCount_29 ?_
  refine lv_iand hx hb d_I_bitCount_32 ?_
  obtain ⟨i5, ei5, h⟩ := vq_let h
  refine vq_top ei5.symm ?_
  refine lv_istore_n (lv' := [(0, .int i5)]) hx hb d_I_bitCount_33 rfl hl (by decide) rfl (fun ls hl => ?_)
  refine lv_iload_n hx hb d_I_bitCount_34 rfl (lv_at hl 0 rfl) ?_
  refine lv_iload_n hx hb d_I_bitCount_35 rfl (lv_at hl 0 rfl) ?_
  refine lv_bipush (v := 8) hx hb d_I_bitCount_36 (by decide) ?_
  refine lv_iushr hx hb d_I_bitCount_38 rfl ?_
  obtain ⟨i6, ei6, h⟩ := vq_let h
  refine vq_top ei6.symm ?_
  refine lv_iadd hx hb d_I_bitCount_39 ?_
  refine lv_istore_n (lv' := [(0, .int (i5 + i6))]) hx hb d_I_bitCount_40 rfl hl (by decide) rfl (fun ls hl => ?_)
  refine lv_iload_n hx hb d_I_bitCount_41 rfl (lv_at hl 0 rfl) ?_
  refine lv_iload_n hx hb d_I_bitCount_42 rfl (lv_at hl 0 rfl) ?_
  refine lv_bipush (v := 16) hx hb d_I_bitCount_43 (by decide) ?_
  refine lv_iushr hx hb d_I_bitCount_45 rfl ?_
  obtain ⟨i7, ei7, h⟩ := vq_let h
  refine vq_top ei7.symm ?_
  refine lv_iadd hx hb d_I_bitCount_46 ?_
  refine lv_istore_n (lv' := [(0, .int ((i5 + i6) + i7))]) hx hb d_I_bitCount_47 rfl hl (by decide) rfl (fun ls hl => ?_)
  refine lv_iload_n hx hb d_I_bitCount_48 rfl (lv_at hl 0 rfl) ?_
  refine lv_bipush (v := 63) hx hb d_I_bitCount_49 (by decide) ?_
  refine lv_iand hx hb d_I_bitCount_51 ?_
  have h9 := Option.some.inj h
  rw [← h9]
  exact W.iret (v := (((i5 + i6) + i7) &&& 63)) hx hb hr (fun t ht hW => ⟨⟨(((i5 + i6) + i7) &&& 63), (), rfl, rfl, by rw [ht]; exact hP, va_K.moved hW.alike hK, hD⟩, hS.F ht⟩) hS.2.2 d_I_bitCount_52

set_option maxHeartbeats 4000000 in
set_option maxRecDepth 100000 in
theorem c_V_leastOf (l : Launch) (htr : l.stackTraces = false) (dC : Nat → ClassId) (dI : Nat → Nat → Nat) (N : Nat) (a0 : Int32) (v : Int32) (h : f_V_leastOf N a0 = some v) (sz : Nat) : Met l y_V_leastOf WS ({ frames := 1, cells := 0, slots := 0, locals := 20 }) (va_Pc [.int a0] (vq_Pre (dC, dI) CL sz [] [])) (va_Qi (fun (r : Int32) (_ : Unit) => r = v) (fun _ t => vq_Post (dC, dI) CL (va_A [] sz) [] [] t) (va_A [] sz)) 0 0 (va_A [] sz) := by
  refine vq_ofW (cc := prog_1_method_24_code) (maxL := 1) (ret := (Option.some Jvm.ClassFile.FieldType.int)) pl_V (vq_his k_10) ?_
  intro p e s m args below meth c s₁ B hml hv
  obtain ⟨rfl, hst, hsz, hP, hK, hD0⟩ := hv
  have hx := B.exec
  have hb := B.bytes
  have hr := B.returns
  have hts := atoms_spec (ws := WS) B.pre
  have hown : s.vm.findClass R_V = some m.cls := findClass_of_methodNamed B.named
  have hlocks := B.notSynchronized
  have hno := vq_noH B (hts _ k_10)
  subst hsz
  have hN := vq_ns hP
  have hD := hD0.self (sz := s.heap.size)
  generalize hAe : va_A [] s.heap.size = A at hD hN ⊢
  have hA : ∀ q : Nat, s.heap.size ≤ q → A q := fun q h => by rw [← hAe]; exact Or.inr h
  have hS : va_S A s.heap s.heap [] := va_S.rf
  have hl := lv_entry ([.int a0]) (n := 1) (Nat.le_of_ble_eq_true rfl)
  rw [lg_entry_eq]
  generalize (lg_sl ([.int a0]) ++ List.replicate (1 - (lg_sl ([.int a0])).length) Slot.unset).toArray = ls at hl ⊢
  have hl : lv_has ls 1 [(0, .int a0)] := hl
  unfold f_V_leastOf at h
  refine lv_iload_n hx hb d_V_leastOf_0 rfl (lv_at hl 0 rfl) ?_
  refine lv_if_ne (tgt := 8) hx hb d_V_leastOf_1 (by decide) (fun hc1 => ?_) (fun hc1 => ?_)
  ·
    rw [if_neg hc1] at h
    refine lv_iload_n hx hb d_V_leastOf_8 rfl (lv_at hl 0 rfl) ?_
    refine lv_iload_n hx hb d_V_leastOf_9 rfl (lv_at hl 0 rfl) ?_
    refine lv_ineg hx hb d_V_leastOf_10 ?_
    refine lv_iand hx hb d_V_leastOf_11 ?_
    refine lv_iconst (v := 1) hx hb d_V_leastOf_12 (by decide) ?_
    refine lv_isub hx hb d_V_leastOf_13 ?_
    obtain ⟨q2, h3, h⟩ := vq_bi h
    have hKe := hK.sub (tys' := []) [] rfl
    refine va_calli (va_runS (As := [.int ((a0 &&& (-a0)) - 1)]) (rest := []) ⟨hx, hb, hml, hown, hts⟩ (c_I_bitCount l htr dC dI N ((a0 &&& (-a0)) - 1) q2 h3 s.heap.size) (vq_cS WSk hts 1 rfl rfl ⟨by decide, by decide⟩ k_6 k_11 k_12 k_13 (by decide +kernel)) ⟨vq_blind, vq_here hst hS hN vq_P0 hKe vq_D0⟩ rfl rfl hl.1 rfl (lv_room (Nat.le_of_ble_eq_true rfl)) d_V_leastOf_14 ⟨by decide, by decide⟩) hS (fun q _ h => vq_keepA h (fun hz => hA q (Nat.le_trans hS.1 hz))) (fun q h => vq_keepA h (fun hz => hA q (Nat.le_trans hS.1 hz))) (fun r u t H1 locs ht hvm hw hB hz1 hk1 hS => ?_)
    have hw : r = q2 := hw
    rw [hw]
    have hP := vq_keepP hP hk1
    generalize H1 = H at hP hS ⊢
    refine W.widen (k := 0) (n := 0) (by decide) (by decide) ?_
    have h9 := Option.some.inj h
    rw [← h9]
    exact W.iret (v := q2) hx hb hr (fun t ht hW => ⟨⟨q2, (), rfl, rfl, by rw [ht]; exact hP, va_K.moved hW.alike hK, hD⟩, hS.F ht⟩) hS.2.2 d_V_leastOf_17
  ·
    rw [if_pos hc1] at h
    refine lv_iconst (v := (-1)) hx hb d_V_leastOf_4 (by decide) ?_
    refine lv_goto (tgt := 17) hx hb d_V_leastOf_5 (by decide) ?_
    have h9 := Option.some.inj h
    rw [← h9]
    exact W.iret (v := ((-1) : Int32)) hx hb hr (fun t ht hW => ⟨⟨((-1) : Int32), (), rfl, rfl, by rw [ht]; exact hP, va_K.moved hW.alike hK, hD⟩, hS.F ht⟩) hS.2.2 d_V_leastOf_17
