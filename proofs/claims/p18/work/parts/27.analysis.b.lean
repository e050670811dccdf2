set_option maxHeartbeats 4000000 in
set_option maxRecDepth 100000 in
theorem c_A_forgetFault (l : Launch) (htr : l.stackTraces = false) (dC : Nat → ClassId) (dI : Nat → Nat → Nat) (ad : Nat → Nat) (ca : Nat → ClassId) (N : Nat) (σ : vS) (v : Int32 × vS) (h : f_A_forgetFault N σ = some v) (sz : Nat) : Met l y_A_forgetFault WS ({ frames := 0, cells := 0, slots := 0, locals := 0 }) (va_Pc [.ref (ad 2)] (vq_Pre (dC, dI) CL sz (Xw ad ca σ) (Xt ca))) (va_Qv (fun _ : Unit => True) (fun _ t => vq_Post (dC, dI) CL (va_A (Xw ad ca σ) sz) (Xw ad ca v.2) (Xt ca) t) (va_A (Xw ad ca σ) sz)) 0 0 (va_A (Xw ad ca σ) sz) := by
  refine vq_ofW (cc := prog_2_method_3_code) (maxL := 1) (ret := (Option.none : Option Jvm.ClassFile.FieldType)) pl_A (vq_his k_302) ?_
  intro p e s m args below meth c s₁ B hml hv
  obtain ⟨rfl, hst, hsz, hP, hK, hD0⟩ := hv
  have hx := B.exec
  have hb := B.bytes
  have hr := B.returns
  have hts := atoms_spec (ws := WS) B.pre
  have hown : s.vm.findClass R_A = some m.cls := findClass_of_methodNamed B.named
  have hlocks := B.notSynchronized
  have hno := vq_noH B (hts _ k_302)
  subst hsz
  have hN := vq_ns hP
  have hD := hD0.self (sz := s.heap.size)
  generalize hAe : va_A (Xw ad ca σ) s.heap.size = A at hD hN ⊢
  have hA : ∀ q : Nat, s.heap.size ≤ q → A q := fun q h => by rw [← hAe]; exact Or.inr h
  have hS : va_S A s.heap s.heap [] := va_S.rf
  have hl := lv_entry ([.ref (ad 2)]) (n := 1) (Nat.le_of_ble_eq_true rfl)
  rw [lg_entry_eq]
  generalize (lg_sl ([.ref (ad 2)]) ++ List.replicate (1 - (lg_sl ([.ref (ad 2)])).length) Slot.unset).toArray = ls at hl ⊢
  have hl : lv_has ls 1 [(0, .ref (ad 2))] := hl
  unfold f_A_forgetFault at h
  refine lv_aload_n hx hb d_A_forgetFault_0 rfl (lv_at hl 0 rfl) ?_
  refine lv_iconst (v := 0) hx hb d_A_forgetFault_1 (by decide) ?_
  refine p_A_faultKind dC dI ad ca σ hx hb hts hown hK hP hD hS k_303 d_A_forgetFault_2 (fun H locs hP hD hS => ?_)
  obtain ⟨σ1, eσ1, h⟩ := vq_let h
  rw [← eσ1] at hP hD
  refine lv_aload_n hx hb d_A_forgetFault_5 rfl (lv_at hl 0 rfl) ?_
  refine lv_iconst (v := (-1)) hx hb d_A_forgetFault_6 (by decide) ?_
  refine p_A_faultProduction dC dI ad ca σ1 hx hb hts hown hK hP hD hS k_304 d_A_forgetFault_7 (fun H locs hP hD hS => ?_)
  obtain ⟨σ2, eσ2, h⟩ := vq_let h
  rw [← eσ2] at hP hD
  refine lv_aload_n hx hb d_A_forgetFault_10 rfl (lv_at hl 0 rfl) ?_
  refine lv_iconst (v := (-1)) hx hb d_A_forgetFault_11 (by decide) ?_
  refine p_A_faultOccurrence dC dI ad ca σ2 hx hb hts hown hK hP hD hS k_305 d_A_forgetFault_12 (fun H locs hP hD hS => ?_)
  obtain ⟨σ3, eσ3, h⟩ := vq_let h
  rw [← eσ3] at hP hD
  have h9 := Option.some.inj h
  rw [← h9]
  exact W.vret hx hb hr (fun t ht hW => ⟨⟨(), rfl, trivial, by rw [ht]; exact hP, va_K.moved hW.alike hK, hD⟩, hS.F ht⟩) hS.2.2 d_A_forgetFault_15

set_option maxHeartbeats 4000000 in
set_option maxRecDepth 100000 in
theorem c_A_noteFault (l : Launch) (htr : l.stackTraces = false) (dC : Nat → ClassId) (dI : Nat → Nat → Nat) (ad : Nat → Nat) (ca : Nat → ClassId) (N : Nat) (σ : vS) (a0 : Int32) (a1 : Int32) (a2 : Int32) (v : Int32 × vS) (h : f_A_noteFault N σ a0 a1 a2 = some v) (sz : Nat) : Met l y_A_noteFault WS ({ frames := 0, cells := 0, slots := 0, locals := 0 }) (va_Pc [.ref (ad 2), .int a0, .int a1, .int a2] (vq_Pre (dC, dI) CL sz (Xw ad ca σ) (Xt ca))) (va_Qv (fun _ : Unit => True) (fun _ t => vq_Post (dC, dI) CL (va_A (Xw ad ca σ) sz) (Xw ad ca v.2) (Xt ca) t) (va_A (Xw ad ca σ) sz)) 0 0 (va_A (Xw ad ca σ) sz) := by
  refine vq_ofW (cc := prog_2_method_8_code) (maxL := 4) (ret := (Option.none : Option Jvm.ClassFile.FieldType)) pl_A (vq_his k_306) ?_
  intro p e s m args below meth c s₁ B hml hv
  obtain ⟨rfl, hst, hsz, hP, hK, hD0⟩ := hv
  have hx := B.exec
  have hb := B.bytes
  have hr := B.returns
  have hts := atoms_spec (ws := WS) B.pre
  have hown : s.vm.findClass R_A = some m.cls := findClass_of_methodNamed B.named
  have hlocks := B.notSynchronized
  have hno := vq_noH B (hts _ k_306)
  subst hsz
  have hN := vq_ns hP
  have hD := hD0.self (sz := s.heap.size)
  generalize hAe : va_A (Xw ad ca σ) s.heap.size = A at hD hN ⊢
  have hA : ∀ q : Nat, s.heap.size ≤ q → A q := fun q h => by rw [← hAe]; exact Or.inr h
  have hS : va_S A s.heap s.heap [] := va_S.rf
  have hl := lv_entry ([.ref (ad 2), .int a0, .int a1, .int a2]) (n := 4) (Nat.le_of_ble_eq_true rfl)
  rw [lg_entry_eq]
  generalize (lg_sl ([.ref (ad 2), .int a0, .int a1, .int a2]) ++ List.replicate (4 - (lg_sl ([.ref (ad 2), .int a0, .int a1, .int a2])).length) Slot.unset).toArray = ls at hl ⊢
  have hl : lv_has ls 4 [(0, .ref (ad 2)), (1, .int a0), (2, .int a1), (3, .int a2)] := hl
  unfold f_A_noteFault at h
  refine lv_aload_n hx hb d_A_noteFault_0 rfl (lv_at hl 0 rfl) ?_
  refine lv_iload_n hx hb d_A_noteFault_1 rfl (lv_at hl 1 rfl) ?_
  refine p_A_faultKind dC dI ad ca σ hx hb hts hown hK hP hD hS k_303 d_A_noteFault_2 (fun H locs hP hD hS => ?_)
  obtain ⟨σ1, eσ1, h⟩ := vq_let h
  rw [← eσ1] at hP hD
  refine lv_aload_n hx hb d_A_noteFault_5 rfl (lv_at hl 0 rfl) ?_
  refine lv_iload_n hx hb d_A_noteFault_6 rfl (lv_at hl 2 rfl) ?_
  refine p_A_faultProduction dC dI ad ca σ1 hx hb hts hown hK hP hD hS k_304 d_A_noteFault_7 (fun H locs hP hD hS => ?_)
  obtain ⟨σ2, eσ2, h⟩ := vq_let h
  rw [← eσ2] at hP hD
  refine lv_aload_n hx hb d_A_noteFault_10 rfl (lv_at hl 0 rfl) ?_
  refine lv_iload_n hx hb d_A_noteFault_11 rfl (lv_at hl 3 rfl) ?_
  refine p_A_faultOccurrence dC dI ad ca σ2 hx hb hts hown hK hP hD hS k_305 d_A_noteFault_12 (fun H locs hP hD hS => ?_)
  obtain ⟨σ3, eσ3, h⟩ := vq_let h
  rw [← eσ3] at hP hD
  have h9 := Option.some.inj h
  rw [← h9]
  exact W.vret hx hb hr (fun t ht hW => ⟨⟨(), rfl, trivial, by rw [ht]; exact hP, va_K.moved hW.alike hK, hD⟩, hS.F ht⟩) hS.2.2 d_A_noteFault_15

set_option maxHeartbeats 4000000 in
set_option maxRecDepth 100000 in
theorem c_A_isComplete (l : Launch) (htr : l.stackTraces = false) (dC : Nat → ClassId) (dI : Nat → Nat → Nat) (ad : Nat → Nat) (ca : Nat → ClassId) (N : Nat) (σ : vS) (v : Int32 × vS) (h : f_A_isComplete N σ = some v) (sz : Nat) : Met l y_A_isComplete WS ({ frames := 3, cells := 0, slots := 0, locals := 61 }) (va_Pc [.ref (ad 2)] (vq_Pre (dC, dI) CL sz (Xw ad ca σ) (Xt ca))) (va_Qi (fun (r : Int32) (_ : Unit) => r = v.1) (fun _ t => vq_Post (dC, dI) CL (va_A (Xw ad ca σ) sz) (Xw ad ca v.2) (Xt ca) t) (va_A (Xw ad ca σ) sz)) 0 0 (va_A (Xw ad ca σ) sz) := by
  refine vq_ofW (cc := prog_2_method_4_code) (maxL := 3) (ret := (Option.some Jvm.ClassFile.FieldType.boolean)) pl_A (vq_his k_307) ?_
  intro p e s m args below meth c s₁ B hml hv
  obtain ⟨rfl, hst, hsz, hP, hK, hD0⟩ := hv
  have hx := B.exec
  have hb := B.bytes
  have hr := B.returns
  have hts := atoms_spec (ws := WS) B.pre
  have hown : s.vm.findClass R_A = some m.cls := findClass_of_methodNamed B.named
  have hlocks := B.notSynchronized
  have hno := vq_noH B (hts _ k_307)
  subst hsz
  have hN := vq_ns hP
  have hD := hD0.self (sz := s.heap.size)
  generalize hAe : va_A (Xw ad ca σ) s.heap.size = A at hD hN ⊢
  have hA : ∀ q : Nat, s.heap.size ≤ q → A q := fun q h => by rw [← hAe]; exact Or.inr h
  have hS : va_S A s.heap s.heap [] := va_S.rf
  have hl := lv_entry ([.ref (ad 2)]) (n := 3) (Nat.le_of_ble_eq_true rfl)
  rw [lg_entry_eq]
  generalize (lg_sl ([.ref (ad 2)]) ++ List.replicate (3 - (lg_sl ([.ref (ad 2)])).length) Slot.unset).toArray = ls at hl ⊢
  have hl : lv_has ls 3 [(0, .ref (ad 2))] := hl
  unfold f_A_isComplete at h
  refine lv_iconst (v := 0) hx hb d_A_isComplete_0 (by decide) ?_
  refine lv_istore_n (lv' := [(1, .int 0), (0, .ref (ad 2))]) hx hb d_A_isComplete_1 rfl hl (by decide) rfl (fun ls hl => ?_)
  have L2 : ∀ n2 : Nat, ∀ (τ : vS) (x1 : Int32) (H : Heap) (locs : List Loc) (ls : Array Slot), f_A_isComplete_2 N n2 τ x1 = some v → lv_has ls 3 [(0, .ref (ad 2)), (1, .int x1)] → va_P (dC, dI) CL (Xw ad ca τ) H → va_D A (Xw ad ca τ) → va_S A s.heap H locs → W p l e (headSpec WS ({ frames := 3, cells := 0, slots := 0, locals := 61 })).room s m ([.ref (ad 2)] : List Value).toArray below meth c H locs 0 0 (MQ below (va_Qi (fun (r : Int32) (_ : Unit) => r = v.1) (fun _ t => vq_Post (dC, dI) CL A (Xw ad ca v.2) (Xt ca) t) A) ([.ref (ad 2)] : List Value).toArray s 0 0 A) (F0 m 2 ls []) := by
    intro n2
    induction n2 with
    | zero =>
      intro τ x1 H locs ls h hl hP hD hS
      rw [f_A_isComplete_2] at h
      cases h
    | succ n2 ih2 =>
      intro τ x1 H locs ls h hl hP hD hS
      rw [f_A_isComplete_2] at h
      dsimp only at h
      refine lv_iload_n hx hb d_A_isComplete_2 rfl (lv_at hl 1 rfl) ?_
      refine lv_aload_n hx hb d_A_isComplete_3 rfl (lv_at hl 0 rfl) ?_
      refine g_A_grammar dC dI ad ca τ hx hb hts hown hK hP k_308 d_A_isComplete_4 ?_
      refine gN_G_productionCount dC dI ad ca τ hx hb hts hown hK hP k_309 d_A_isComplete_7 ?_
      refine lv_icmp_ge (tgt := 42) hx hb d_A_isComplete_10 (by decide) (fun hc1 => ?_) (fun hc1 => ?_)
      ·
        rw [if_pos hc1] at h
        refine lv_iconst (v := 1) hx hb d_A_isComplete_42 (by decide) ?_
        have h9 := Option.some.inj h
        rw [← h9]
        exact W.zret (v := 1) (ty := .boolean) hx hb hr (by decide) (fun t ht hW => ⟨⟨1, (), rfl, rfl, by rw [ht]; exact hP, va_K.moved hW.alike hK, hD⟩, hS.F ht⟩) hS.2.2 d_A_isComplete_43
      ·
        rw [if_neg hc1] at h
        refine lv_aload_n hx hb d_A_isComplete_13 rfl (lv_at hl 0 rfl) ?_
        refine g_A_grammar dC dI ad ca τ hx hb hts hown hK hP k_308 d_A_isComplete_14 ?_
        refine lv_iload_n hx hb d_A_isComplete_17 rfl (lv_at hl 1 rfl) ?_
        obtain ⟨q2, h3, h⟩ := vq_bi h
        have hFc := vq_freeAll hD hS hA
        refine va_calli (va_runV (As := [.int x1]) (rest := []) ⟨hx, hb, hml, hown, hts⟩ (c_G_leastWithoutRule l htr dC dI ad ca N τ x1 q2 h3 H.size) (vq_cV WSk hts 1 rfl rfl ⟨by decide, by decide⟩ k_60 k_26 k_310 k_311 k_312 (by decide +kernel)) ⟨vq_blind, va_recv hK hP (ci := 1) (q0 := 1) rfl rfl, vq_here hst hS hN hP hK hD⟩ rfl rfl hl.1 rfl (lv_room (Nat.le_of_ble_eq_true rfl)) d_A_isComplete_18 ⟨by decide, by decide⟩) hS (fun q _ h => hFc q h) hFc (fun r u t H1 locs ht hvm hw hB hz1 hk1 hS => ?_)
        obtain ⟨hP, -, hD1⟩ := hB
        rw [ht] at hP
        have hD := hD1.weaken (fun _ _ _ h => hFc _ h)
        have hw : r = q2.1 := hw
        subst hw
        generalize H1 = H at hP hS ⊢
        refine W.widen (k := 0) (n := 0) (by decide) (by decide) ?_
        refine lv_istore_n (lv' := [(2, .int (q2.1)), (0, .ref (ad 2)), (1, .int x1)]) hx hb d_A_isComplete_21 rfl hl (by decide) rfl (fun ls hl => ?_)
        refine lv_iload_n hx hb d_A_isComplete_22 rfl (lv_at hl 0 rfl) ?_
        refine lv_iconst (v := (-1)) hx hb d_A_isComplete_23 (by decide) ?_
        refine lv_icmp_eq (tgt := 36) hx hb d_A_isComplete_24 (by decide) (fun hc4 => ?_) (fun hc4 => ?_)
        ·
          rw [if_pos hc4] at h
          refine lv_iinc (k := 2) (v := (x1 + 1)) (lv' := [(1, .int (x1 + 1)), (2, .int (q2.1)), (0, .ref (ad 2))]) hx hb d_A_isComplete_36 hl rfl rfl (by decide) rfl (fun ls hl => ?_)
          refine lv_goto (tgt := 2) hx hb d_A_isComplete_39 (by decide) ?_
          exact ih2 _ _ _ _ _ h (lv_sub hl [2, 0] rfl) hP hD hS
        ·
          rw [if_neg hc4] at h
          refine lv_aload_n hx hb d_A_isComplete_27 rfl (lv_at hl 1 rfl) ?_
          refine lv_iconst (v := 1) hx hb d_A_isComplete_28 (by decide) ?_
          refine lv_iload_n hx hb d_A_isComplete_29 rfl (lv_at hl 2 rfl) ?_
          refine lv_iload_n hx hb d_A_isComplete_30 rfl (lv_at hl 0 rfl) ?_
          obtain ⟨q5, h6, h⟩ := vq_bi h
          have hFc := vq_freeAll hD hS hA
          refine va_callv (va_runV (As := [.int 1, .int x1, .int (q2.1)]) (rest := []) ⟨hx, hb, hml, hown, hts⟩ (c_A_noteFault l htr dC dI ad ca N q2.2 1 x1 (q2.1) q5 h6 H.size) (vq_cV WSk hts 3 rfl rfl ⟨by decide, by decide⟩ k_306 k_313 k_314 k_315 k_316 (by decide +kernel)) ⟨vq_blind, va_recv hK hP (ci := 2) (q0 := 2) rfl rfl, vq_here hst hS hN hP hK hD⟩ rfl rfl hl.1 rfl (lv_room (Nat.le_of_ble_eq_true rfl)) d_A_isComplete_31 ⟨by decide, by decide⟩) hS (fun q _ h => hFc q h) hFc (fun u t H1 locs ht hvm hw hB hz1 hk1 hS => ?_)
          obtain ⟨hP, -, hD1⟩ := hB
          rw [ht] at hP
          have hD := hD1.weaken (fun _ _ _ h => hFc _ h)
          generalize H1 = H at hP hS ⊢
          refine W.widen (k := 0) (n := 0) (by decide) (by decide) ?_
          refine lv_iconst (v := 0) hx hb d_A_isComplete_34 (by decide) ?_
          have h9 := Option.some.inj h
          rw [← h9]
          exact W.zret (v := 0) (ty := .boolean) hx hb hr (by decide) (fun t ht hW => ⟨⟨0, (), rfl, rfl, by rw [ht]; exact hP, va_K.moved hW.alike hK, hD⟩, hS.F ht⟩) hS.2.2 d_A_isComplete_35
  exact L2 N _ _ _ _ _ h (lv_sub hl [1, 0] rfl) hP hD hS

set_option maxHeartbeats 4000000 in
set_option maxRecDepth 100000 in
theorem c_A_noneLeadsToItself (l : Launch) (htr : l.stackTraces = false) (dC : Nat → ClassId) (dI : Nat → Nat → Nat) (ad : Nat → Nat) (ca : Nat → ClassId) (N : Nat) (σ : vS) (a0 : Int32) (v : Int32 × vS) (h : f_A_noneLeadsToItself N σ a0 = some v) (sz : Nat) : Met l y_A_noneLeadsToItself WS ({ frames := 2, cells := 0, slots := 0, locals := 44 }) (va_Pc [.ref (ad 2), .int a0] (vq_Pre (dC, dI) CL sz (Xw ad ca σ) (Xt ca))) (va_Qi (fun (r : Int32) (_ : Unit) => r = v.1) (fun _ t => vq_Post (dC, dI) CL (va_A (Xw ad ca σ) sz) (Xw ad ca v.2) (Xt ca) t) (va_A (Xw ad ca σ) sz)) 0 0 (va_A (Xw ad ca σ) sz) := by
  refine vq_ofW (cc := prog_2_method_7_code) (maxL := 4) (ret := (Option.some Jvm.ClassFile.FieldType.boolean)) pl_A (vq_his k_317) ?_
  intro p e s m args below meth c s₁ B hml hv
  obtain ⟨rfl, hst, hsz, hP, hK, hD0⟩ := hv
  have hx := B.exec
  have hb := B.bytes
  have hr := B.returns
  have hts := atoms_spec (ws := WS) B.pre
  have hown : s.vm.findClass R_A = some m.cls := findClass_of_methodNamed B.named
  have hlocks := B.notSynchronized
  have hno := vq_noH B (hts _ k_317)
  subst hsz
  have hN := vq_ns hP
  have hD := hD0.self (sz := s.heap.size)
  generalize hAe : va_A (Xw ad ca σ) s.heap.size = A at hD hN ⊢
  have hA : ∀ q : Nat, s.heap.size ≤ q → A q := fun q h => by rw [← hAe]; exact Or.inr h
  have hS : va_S A s.heap s.heap [] := va_S.rf
  have hl := lv_entry ([.ref (ad 2), .int a0]) (n := 4) (Nat.le_of_ble_eq_true rfl)
  rw [lg_entry_eq]
  generalize (lg_sl ([.ref (ad 2), .int a0]) ++ List.replicate (4 - (lg_sl ([.ref (ad 2), .int a0])).length) Slot.unset).toArray = ls at hl ⊢
  have hl : lv_has ls 4 [(0, .ref (ad 2)), (1, .int a0)] := hl
  unfold f_A_noneLeadsToItself at h
  refine lv_iconst (v := 0) hx hb d_A_noneLeadsToItself_0 (by decide) ?_
  refine lv_istore_n (lv' := [(2, .int 0), (0, .ref (ad 2)), (1, .int a0)]) hx hb d_A_noneLeadsToItself_1 rfl hl (by decide) rfl (fun ls hl => ?_)
  have L2 : ∀ n2 : Nat, ∀ (τ : vS) (x1 : Int32) (x2 : Int32) (H : Heap) (locs : List Loc) (ls : Array Slot), f_A_noneLeadsToItself_2 N n2 τ x1 x2 = some v → lv_has ls 4 [(0, .ref (ad 2)), (1, .int x1), (2, .int x2)] → va_P (dC, dI) CL (Xw ad ca τ) H → va_D A (Xw ad ca τ) → va_S A s.heap H locs → W p l e (headSpec WS ({ frames := 2, cells := 0, slots := 0, locals := 44 })).room s m ([.ref (ad 2), .int a0] : List Value).toArray below meth c H locs 0 0 (MQ below (va_Qi (fun (r : Int32) (_ : Unit) => r = v.1) (fun _ t => vq_Post (dC, dI) CL A (Xw ad ca v.2) (Xt ca) t) A) ([.ref (ad 2), .int a0] : List Value).toArray s 0 0 A) (F0 m 2 ls []) := by
    intro n2
    induction n2 with
    | zero =>
      intro τ x1 x2 H locs ls h hl hP hD hS
      rw [f_A_noneLeadsToItself_2] at h
      cases h
    | succ n2 ih2 =>
      intro τ x1 x2 H locs ls h hl hP hD hS
      rw [f_A_noneLeadsToItself_2] at h
      dsimp only at h
      refine lv_iload_n hx hb d_A_noneLeadsToItself_2 rfl (lv_at hl 2 rfl) ?_
      refine lv_aload_n hx hb d_A_noneLeadsToItself_3 rfl (lv_at hl 0 rfl) ?_
      refine g_A_grammar dC dI ad ca τ hx hb hts hown hK hP k_308 d_A_noneLeadsToItself_4 ?_
      refine gN_G_productionCount dC dI ad ca τ hx hb hts hown hK hP k_309 d_A_noneLeadsToItself_7 ?_
      refine lv_icmp_ge (tgt := 42) hx hb d_A_noneLeadsToItself_10 (by decide) (fun hc1 => ?_) (fun hc1 => ?_)
      ·
        rw [if_pos hc1] at h
        refine lv_iconst (v := 1) hx hb d_A_noneLeadsToItself_42 (by decide) ?_
        have h9 := Option.some.inj h
        rw [← h9]
        exact W.zret (v := 1) (ty := .boolean) hx hb hr (by decide) (fun t ht hW => ⟨⟨1, (), rfl, rfl, by rw [ht]; exact hP, va_K.moved hW.alike hK, hD⟩, hS.F ht⟩) hS.2.2 d_A_noneLeadsToItself_43
      ·
        rw [if_neg hc1] at h
        refine lv_aload_n hx hb d_A_noneLeadsToItself_13 rfl (lv_at hl 0 rfl) ?_
        refine g_A_leads dC dI ad ca τ hx hb hts hown hK hP k_318 d_A_noneLeadsToItself_14 ?_
        refine lv_iload_n hx hb d_A_noneLeadsToItself_17 rfl (lv_at hl 2 rfl) ?_
        obtain ⟨q2, h3, h⟩ := vq_bi h
        have hFc := vq_freeAll hD hS hA
        refine va_calli (va_runV (As := [.int x2]) (rest := []) ⟨hx, hb, hml, hown, hts⟩ (c_E_leastLeadingToItself l htr dC dI ad ca N τ x2 q2 h3 H.size) (vq_cV WSk hts 1 rfl rfl ⟨by decide, by decide⟩ k_97 k_74 k_319 k_320 k_321 (by decide +kernel)) ⟨vq_blind, va_recv hK hP (ci := 3) (q0 := 3) rfl rfl, vq_here hst hS hN hP hK hD⟩ rfl rfl hl.1 rfl (lv_room (Nat.le_of_ble_eq_true rfl)) d_A_noneLeadsToItself_18 ⟨by decide, by decide⟩) hS (fun q _ h => hFc q h) hFc (fun r u t H1 locs ht hvm hw hB hz1 hk1 hS => ?_)
        obtain ⟨hP, -, hD1⟩ := hB
        rw [ht] at hP
        have hD := hD1.weaken (fun _ _ _ h => hFc _ h)
        have hw : r = q2.1 := hw
        subst hw
        generalize H1 = H at hP hS ⊢
        refine W.widen (k := 0) (n := 0) (by decide) (by decide) ?_
        refine lv_istore_n (lv' := [(3, .int (q2.1)), (0, .ref (ad 2)), (1, .int x1), (2, .int x2)]) hx hb d_A_noneLeadsToItself_21 rfl hl (by decide) rfl (fun ls hl => ?_)
        refine lv_iload_n hx hb d_A_noneLeadsToItself_22 rfl (lv_at hl 0 rfl) ?_
        refine lv_iconst (v := (-1)) hx hb d_A_noneLeadsToItself_23 (by decide) ?_
        refine lv_icmp_eq (tgt := 36) hx hb d_A_noneLeadsToItself_24 (by decide) (fun hc4 => ?_) (fun hc4 => ?_)
        ·
          rw [if_pos hc4] at h
          refine lv_iinc (k := 3) (v := (x2 + 1)) (lv' := [(2, .int (x2 + 1)), (3, .int (q2.1)), (0, .ref (ad 2)), (1, .int x1)]) hx hb d_A_noneLeadsToItself_36 hl rfl rfl (by decide) rfl (fun ls hl => ?_)
          refine lv_goto (tgt := 2) hx hb d_A_noneLeadsToItself_39 (by decide) ?_
          exact ih2 _ _ _ _ _ _ h (lv_sub hl [2, 3, 0] rfl) hP hD hS
        ·
          rw [if_neg hc4] at h
          refine lv_aload_n hx hb d_A_noneLeadsToItself_27 rfl (lv_at hl 1 rfl) ?_
          refine lv_iload_n hx hb d_A_noneLeadsToItself_28 rfl (lv_at hl 2 rfl) ?_
          refine lv_iload_n hx hb d_A_noneLeadsToItself_29 rfl (lv_at hl 3 rfl) ?_
          refine lv_iload_n hx hb d_A_noneLeadsToItself_30 rfl (lv_at hl 0 rfl) ?_
          obtain ⟨q5, h6, h⟩ := vq_bi h
          have hFc := vq_freeAll hD hS hA
          refine va_callv (va_runV (As := [.int x1, .int x2, .int (q2.1)]) (rest := []) ⟨hx, hb, hml, hown, hts⟩ (c_A_noteFault l htr dC dI ad ca N q2.2 x1 x2 (q2.1) q5 h6 H.size) (vq_cV WSk hts 3 rfl rfl ⟨by decide, by decide⟩ k_306 k_313 k_314 k_315 k_316 (by decide +kernel)) ⟨vq_blind, va_recv hK hP (ci := 2) (q0 := 2) rfl rfl, vq_here hst hS hN hP hK hD⟩ rfl rfl hl.1 rfl (lv_room (Nat.le_of_ble_eq_true rfl)) d_A_noneLeadsToItself_31 ⟨by decide, by decide⟩) hS (fun q _ h => hFc q h) hFc (fun u t H1 locs ht hvm hw hB hz1 hk1 hS => ?_)
          obtain ⟨hP, -, hD1⟩ := hB
          rw [ht] at hP
          have hD := hD1.weaken (fun _ _ _ h => hFc _ h)
          generalize H1 = H at hP hS ⊢
          refine W.widen (k := 0) (n := 0) (by decide) (by decide) ?_
          refine lv_iconst (v := 0) hx hb d_A_noneLeadsToItself_34 (by decide) ?_
          have h9 := Option.some.inj h
          rw [← h9]
          exact W.zret (v := 0) (ty := .boolean) hx hb hr (by decide) (fun t ht hW => ⟨⟨0, (), rfl, rfl, by rw [ht]; exact hP, va_K.moved hW.alike hK, hD⟩, hS.F ht⟩) hS.2.2 d_A_noneLeadsToItself_35
  exact L2 N _ _ _ _ _ _ h (lv_sub hl [1, 2, 0] rfl) hP hD hS

set_option maxHeartbeats 4000000 in
set_option maxRecDepth 100000 in
theorem c_A_isWithoutCircle (l : Launch) (htr : l.stackTraces = false) (dC : Nat → ClassId) (dI : Nat → Nat → Nat) (ad : Nat → Nat) (ca : Nat → ClassId) (N : Nat) (σ : vS) (v : Int32 × vS) (h : f_A_isWithoutCircle N σ = some v) (sz : Nat) : Met l y_A_isWithoutCircle WS ({ frames := 4, cells := 0, slots := 0, locals := 91 }) (va_Pc [.ref (ad 2)] (vq_Pre (dC, dI) CL sz (Xw ad ca σ) (Xt ca))) (va_Qi (fun (r : Int32) (_ : Unit) => r = v.1) (fun _ t => vq_Post (dC, dI) CL (va_A (Xw ad ca σ) sz) (Xw ad ca v.2) (Xt ca) t) (va_A (Xw ad ca σ) sz)) 0 0 (va_A (Xw ad ca σ) sz) := by
  refine vq_ofW (cc := prog_2_method_5_code) (maxL := 1) (ret := (Option.some Jvm.ClassFile.FieldType.boolean)) pl_A (vq_his k_322) ?_
  intro p e s m args below meth c s₁ B hml hv
  obtain ⟨rfl, hst, hsz, hP, hK, hD0⟩ := hv
  have hx := B.exec
  have hb := B.bytes
  have hr := B.returns
  have hts := atoms_spec (ws := WS) B.pre
  have hown : s.vm.findClass R_A = some m.cls := findClass_of_methodNamed B.named
  have hlocks := B.notSynchronized
  have hno := vq_noH B (hts _ k_322)
  subst hsz
  have hN := vq_ns hP
  have hD := hD0.self (sz := s.heap.size)
  generalize hAe : va_A (Xw ad ca σ) s.heap.size = A at hD hN ⊢
  have hA : ∀ q : Nat, s.heap.size ≤ q → A q := fun q h => by rw [← hAe]; exact Or.inr h
  have hS : va_S A s.heap s.heap [] := va_S.rf
  have hl := lv_entry ([.ref (ad 2)]) (n := 1) (Nat.le_of_ble_eq_true rfl)
  rw [lg_entry_eq]
  generalize (lg_sl ([.ref (ad 2)]) ++ List.replicate (1 - (lg_sl ([.ref (ad 2)])).length) Slot.unset).toArray = ls at hl ⊢
  have hl : lv_has ls 1 [(0, .ref (ad 2))] := hl
  unfold f_A_isWithoutCircle at h
  refine lv_aload_n hx hb d_A_isWithoutCircle_0 rfl (lv_at hl 0 rfl) ?_
  refine g_A_leads dC dI ad ca σ hx hb hts hown hK hP k_318 d_A_isWithoutCircle_1 ?_
  obtain ⟨q1, h2, h⟩ := vq_bi h
  have hFc := vq_freeAll hD hS hA
  refine va_callv (va_runV (As := []) (rest := []) ⟨hx, hb, hml, hown, hts⟩ (c_E_spread l htr dC dI ad ca N σ q1 h2 s.heap.size) (vq_cV WSk hts 0 rfl rfl ⟨by decide, by decide⟩ k_98 k_74 k_323 k_324 k_325 (by decide +kernel)) ⟨vq_blind, va_recv hK hP (ci := 3) (q0 := 3) rfl rfl, vq_here hst hS hN hP hK hD⟩ rfl rfl hl.1 rfl (lv_room (Nat.le_of_ble_eq_true rfl)) d_A_isWithoutCircle_4 ⟨by decide, by decide⟩) hS (fun q _ h => hFc q h) hFc (fun u t H1 locs ht hvm hw hB hz1 hk1 hS => ?_)
  obtain ⟨hP, -, hD1⟩ := hB
  rw [ht] at hP
  have hD := hD1.weaken (fun _ _ _ h => hFc _ h)
  generalize H1 = H at hP hS ⊢
  refine W.widen (k := 0) (n := 0) (by decide) (by decide) ?_
  refine lv_aload_n hx hb d_A_isWithoutCircle_7 rfl (lv_at hl 0 rfl) ?_
  refine lv_iconst (v := 2) hx hb d_A_isWithoutCircle_8 (by decide) ?_
  obtain ⟨q3, h4, h⟩ := vq_bi h
  have hFc := vq_freeAll hD hS hA
  refine va_calli (va_runV (As := [.int 2]) (rest := []) ⟨hx, hb, hml, hown, hts⟩ (c_A_noneLeadsToItself l htr dC dI ad ca N q1.2 2 q3 h4 H.size) (vq_cV WSk hts 1 rfl rfl ⟨by decide, by decide⟩ k_317 k_313 k_326 k_327 k_328 (by decide +kernel)) ⟨vq_blind, va_recv hK hP (ci := 2) (q0 := 2) rfl rfl, vq_here hst hS hN hP hK hD⟩ rfl rfl hl.1 rfl (lv_room (Nat.le_of_ble_eq_true rfl)) d_A_isWithoutCircle_9 ⟨by decide, by decide⟩) hS (fun q _ h => hFc q h) hFc (fun r u t H1 locs ht hvm hw hB hz1 hk1 hS => ?_)
  obtain ⟨hP, -, hD1⟩ := hB
  rw [ht] at hP
  have hD := hD1.weaken (fun _ _ _ h => hFc _ h)
  have hw : r = q3.1 := hw
  subst hw
  generalize H1 = H at hP hS ⊢
  refine W.widen (k := 0) (n := 0) (by decide) (by decide) ?_
  have h9 := Option.some.inj h
  rw [← h9]
  exact vq_zret hx hb hr (fun t ht hW => ⟨⟨_, (), rfl, rfl, by rw [ht]; exact hP, va_K.moved hW.alike hK, hD⟩, hS.F ht⟩) hS.2.2 d_A_isWithoutCircle_12

set_option maxHeartbeats 4000000 in
set_option maxRecDepth 100000 in
theorem c_A_isOrdered (l : Launch) (htr : l.stackTraces = false) (dC : Nat → ClassId) (dI : Nat → Nat → Nat) (ad : Nat → Nat) (ca : Nat → ClassId) (N : Nat) (σ : vS) (v : Int32 × vS) (h : f_A_isOrdered N σ = some v) (sz : Nat) : Met l y_A_isOrdered WS ({ frames := 4, cells := 0, slots := 0, locals := 93 }) (va_Pc [.ref (ad 2)] (vq_Pre (dC, dI) CL sz (Xw ad ca σ) (Xt ca))) (va_Qi (fun (r : Int32) (_ : Unit) => r = v.1) (fun _ t => vq_Post (dC, dI) CL (va_A (Xw ad ca σ) sz) (Xw ad ca v.2) (Xt ca) t) (va_A (Xw ad ca σ) sz)) 0 0 (va_A (Xw ad ca σ) sz) := by
  refine vq_ofW (cc := prog_2_method_6_code) (maxL := 1) (ret := (Option.some Jvm.ClassFile.FieldType.boolean)) pl_A (vq_his k_329) ?_
  intro p e s m args below meth c s₁ B hml hv
  obtain ⟨rfl, hst, hsz, hP, hK, hD0⟩ := hv
  have hx := B.exec
  have hb := B.bytes
  have hr := B.returns
  have hts := atoms_spec (ws := WS) B.pre
  have hown : s.vm.findClass R_A = some m.cls := findClass_of_methodNamed B.named
  have hlocks := B.notSynchronized
  have hno := vq_noH B (hts _ k_329)
  subst hsz
  have hN := vq_ns hP
  have hD := hD0.self (sz := s.heap.size)
  generalize hAe : va_A (Xw ad ca σ) s.heap.size = A at hD hN ⊢
  have hA : ∀ q : Nat, s.heap.size ≤ q → A q := fun q h => by rw [← hAe]; exact Or.inr h
  have hS : va_S A s.heap s.heap [] := va_S.rf
  have hl := lv_entry ([.ref (ad 2)]) (n := 1) (Nat.le_of_ble_eq_true rfl)
  rw [lg_entry_eq]
  generalize (lg_sl ([.ref (ad 2)]) ++ List.replicate (1 - (lg_sl ([.ref (ad 2)])).length) Slot.unset).toArray = ls at hl ⊢
  have hl : lv_has ls 1 [(0, .ref (ad 2))] := hl
  unfold f_A_isOrdered at h
  refine lv_aload_n hx hb d_A_isOrdered_0 rfl (lv_at hl 0 rfl) ?_
  refine g_A_ranking dC dI ad ca σ hx hb hts hown hK hP k_330 d_A_isOrdered_1 ?_
  obtain ⟨q1, h2, h⟩ := vq_bi h
  have hFc := vq_freeAll hD hS hA
  refine va_callv (va_runV (As := []) (rest := []) ⟨hx, hb, hml, hown, hts⟩ (c_K_make l htr dC dI ad ca N σ q1 h2 s.heap.size) (vq_cV WSk hts 0 rfl rfl ⟨by decide, by decide⟩ k_138 k_122 k_331 k_332 k_333 (by decide +kernel)) ⟨vq_blind, va_recv hK hP (ci := 4) (q0 := 4) rfl rfl, vq_here hst hS hN hP hK hD⟩ rfl rfl hl.1 rfl (lv_room (Nat.le_of_ble_eq_true rfl)) d_A_isOrdered_4 ⟨by decide, by decide⟩) hS (fun q _ h => hFc q h) hFc (fun u t H1 locs ht hvm hw hB hz1 hk1 hS => ?_)
  obtain ⟨hP, -, hD1⟩ := hB
  rw [ht] at hP
  have hD := hD1.weaken (fun _ _ _ h => hFc _ h)
  generalize H1 = H at hP hS ⊢
  refine W.widen (k := 0) (n := 0) (by decide) (by decide) ?_
  refine lv_aload_n hx hb d_A_isOrdered_7 rfl (lv_at hl 0 rfl) ?_
  refine g_A_ranking dC dI ad ca q1.2 hx hb hts hown hK hP k_330 d_A_isOrdered_8 ?_
  obtain ⟨q3, h4, h⟩ := vq_bi h
  have hFc := vq_freeAll hD hS hA
  refine va_callv (va_runV (As := []) (rest := []) ⟨hx, hb, hml, hown, hts⟩ (c_K_addToLeads l htr dC dI ad ca N q1.2 q3 h4 H.size) (vq_cV WSk hts 0 rfl rfl ⟨by decide, by decide⟩ k_133 k_122 k_334 k_335 k_336 (by decide +kernel)) ⟨vq_blind, va_recv hK hP (ci := 4) (q0 := 4) rfl rfl, vq_here hst hS hN hP hK hD⟩ rfl rfl hl.1 rfl (lv_room (Nat.le_of_ble_eq_true rfl)) d_A_isOrdered_11 ⟨by decide, by decide⟩) hS (fun q _ h => hFc q h) hFc (fun u t H1 locs ht hvm hw hB hz1 hk1 hS => ?_)
  obtain ⟨hP, -, hD1⟩ := hB
  rw [ht] at hP
  have hD := hD1.weaken (fun _ _ _ h => hFc _ h)
  generalize H1 = H at hP hS ⊢
  refine W.widen (k := 0) (n := 0) (by decide) (by decide) ?_
  refine lv_aload_n hx hb d_A_isOrdered_14 rfl (lv_at hl 0 rfl) ?_
  refine g_A_leads dC dI ad ca q3.2 hx hb hts hown hK hP k_318 d_A_isOrdered_15 ?_
  obtain ⟨q5, h6, h⟩ := vq_bi h
  have hFc := vq_freeAll hD hS hA
  refine va_callv (va_runV (As := []) (rest := []) ⟨hx, hb, hml, hown, hts⟩ (c_E_takeOrder l htr dC dI ad ca N q3.2 q5 h6 H.size) (vq_cV WSk hts 0 rfl rfl ⟨by decide, by decide⟩ k_90 k_74 k_337 k_338 k_339 (by decide +kernel)) ⟨vq_blind, va_recv hK hP (ci := 3) (q0 := 3) rfl rfl, vq_here hst hS hN hP hK hD⟩ rfl rfl hl.1 rfl (lv_room (Nat.le_of_ble_eq_true rfl)) d_A_isOrdered_18 ⟨by decide, by decide⟩) hS (fun q _ h => hFc q h) hFc (fun u t H1 locs ht hvm hw hB hz1 hk1 hS => ?_)
  obtain ⟨hP, -, hD1⟩ := hB
  rw [ht] at hP
  have hD := hD1.weaken (fun _ _ _ h => hFc _ h)
  generalize H1 = H at hP hS ⊢
  refine W.widen (k := 0) (n := 0) (by decide) (by decide) ?_
  refine lv_aload_n hx hb d_A_isOrdered_21 rfl (lv_at hl 0 rfl) ?_
  refine lv_iconst (v := 3) hx hb d_A_isOrdered_22 (by decide) ?_
  obtain ⟨q7, h8, h⟩ := vq_bi h
  have hFc := vq_freeAll hD hS hA
  refine va_calli (va_runV (As := [.int 3]) (rest := []) ⟨hx, hb, hml, hown, hts⟩ (c_A_noneLeadsToItself l htr dC dI ad ca N q5.2 3 q7 h8 H.size) (vq_cV WSk hts 1 rfl rfl ⟨by decide, by decide⟩ k_317 k_313 k_326 k_327 k_328 (by decide +kernel)) ⟨vq_blind, va_recv hK hP (ci := 2) (q0 := 2) rfl rfl, vq_here hst hS hN hP hK hD⟩ rfl rfl hl.1 rfl (lv_room (Nat.le_of_ble_eq_true rfl)) d_A_isOrdered_23 ⟨by decide, by decide⟩) hS (fun q _ h => hFc q h) hFc (fun r u t H1 locs ht hvm hw hB hz1 hk1 hS => ?_)
  obtain ⟨hP, -, hD1⟩ := hB
  rw [ht] at hP
  have hD := hD1.weaken (fun _ _ _ h => hFc _ h)
  have hw : r = q7.1 := hw
  subst hw
  generalize H1 = H at hP hS ⊢
  refine W.widen (k := 0) (n := 0) (by decide) (by decide) ?_
  have h9 := Option.some.inj h
  rw [← h9]
  exact vq_zret hx hb hr (fun t ht hW => ⟨⟨_, (), rfl, rfl, by rw [ht]; exact hP, va_K.moved hW.alike hK, hD⟩, hS.F ht⟩) hS.2.2 d_A_isOrdered_26

set_option maxHeartbeats 4000000 in
set_option maxRecDepth 100000 in
theorem c_A_make (l : Launch) (htr : l.stackTraces = false) (dC : Nat → ClassId) (dI : Nat → Nat → Nat) (ad : Nat → Nat) (ca : Nat → ClassId) (N : Nat) (σ : vS) (v : Int32 × vS) (h : f_A_make N σ = some v) (sz : Nat) : Met l y_A_make WS ({ frames := 5, cells := 0, slots := 0, locals := 116 }) (va_Pc [.ref (ad 2)] (vq_Pre (dC, dI) CL sz (Xw ad ca σ) (Xt ca))) (va_Qv (fun _ : Unit => True) (fun _ t => vq_Post (dC, dI) CL (va_A (Xw ad ca σ) sz) (Xw ad ca v.2) (Xt ca) t) (va_A (Xw ad ca σ) sz)) 0 0 (va_A (Xw ad ca σ) sz) := by
  refine vq_ofW (cc := prog_2_method_2_code) (maxL := 1) (ret := (Option.none : Option Jvm.ClassFile.FieldType)) pl_A (vq_his k_340) ?_
  intro p e s m args below meth c s₁ B hml hv
  obtain ⟨rfl, hst, hsz, hP, hK, hD0⟩ := hv
  have hx := B.exec
  have hb := B.bytes
  have hr := B.returns
  have hts := atoms_spec (ws := WS) B.pre
  have hown : s.vm.findClass R_A = some m.cls := findClass_of_methodNamed B.named
  have hlocks := B.notSynchronized
  have hno := vq_noH B (hts _ k_340)
  subst hsz
  have hN := vq_ns hP
  have hD := hD0.self (sz := s.heap.size)
  generalize hAe : va_A (Xw ad ca σ) s.heap.size = A at hD hN ⊢
  have hA : ∀ q : Nat, s.heap.size ≤ q → A q := fun q h => by rw [← hAe]; exact Or.inr h
  have hS : va_S A s.heap s.heap [] := va_S.rf
  have hl := lv_entry ([.ref (ad 2)]) (n := 1) (Nat.le_of_ble_eq_true rfl)
  rw [lg_entry_eq]
  generalize (lg_sl ([.ref (ad 2)]) ++ List.replicate (1 - (lg_sl ([.ref (ad 2)])).length) Slot.unset).toArray = ls at hl ⊢
  have hl : lv_has ls 1 [(0, .ref (ad 2))] := hl
  unfold f_A_make at h
  refine lv_aload_n hx hb d_A_make_0 rfl (lv_at hl 0 rfl) ?_
  obtain ⟨q1, h2, h⟩ := vq_bi h
  have hFc := vq_freeAll hD hS hA
  refine va_callv (va_runV (As := []) (rest := []) ⟨hx, hb, hml, hown, hts⟩ (c_A_forgetFault l htr dC dI ad ca N σ q1 h2 s.heap.size) (vq_cV WSk hts 0 rfl rfl ⟨by decide, by decide⟩ k_302 k_313 k_341 k_342 k_343 (by decide +kernel)) ⟨vq_blind, va_recv hK hP (ci := 2) (q0 := 2) rfl rfl, vq_here hst hS hN hP hK hD⟩ rfl rfl hl.1 rfl (lv_room (Nat.le_of_ble_eq_true rfl)) d_A_make_1 ⟨by decide, by decide⟩) hS (fun q _ h => hFc q h) hFc (fun u t H1 locs ht hvm hw hB hz1 hk1 hS => ?_)
  obtain ⟨hP, -, hD1⟩ := hB
  rw [ht] at hP
  have hD := hD1.weaken (fun _ _ _ h => hFc _ h)
  generalize H1 = H at hP hS ⊢
  refine W.widen (k := 0) (n := 0) (by decide) (by decide) ?_
  refine lv_aload_n hx hb d_A_make_4 rfl (lv_at hl 0 rfl) ?_
  refine lv_aload_n hx hb d_A_make_5 rfl (lv_at hl 0 rfl) ?_
  refine g_A_grammar dC dI ad ca q1.2 hx hb hts hown hK hP k_308 d_A_make_6 ?_
  refine gN_G_productionCount dC dI ad ca q1.2 hx hb hts hown hK hP k_309 d_A_make_9 ?_
  have J40 : ∀ (τ : vS) (H : Heap) (locs : List Loc) (ls : Array Slot), f_A_make_40 N τ = some v → lv_has ls 1 [(0, .ref (ad 2))] → va_P (dC, dI) CL (Xw ad ca τ) H → va_D A (Xw ad ca τ) → va_S A s.heap H locs → W p l e (headSpec WS ({ frames := 5, cells := 0, slots := 0, locals := 116 })).room s m ([.ref (ad 2)] : List Value).toArray below meth c H locs 0 0 (MQ below (va_Qv (fun _ : Unit => True) (fun _ t => vq_Post (dC, dI) CL A (Xw ad ca v.2) (Xt ca) t) A) ([.ref (ad 2)] : List Value).toArray s 0 0 A) (F0 m 40 ls [.ref (ad 2)]) := by
    intro τ H locs ls h hl hP hD hS
    unfold f_A_make_40 at h
    refine lv_iconst (v := 0) hx hb d_A_make_40 (by decide) ?_
    refine p_A_present dC dI ad ca τ hx hb hts hown hK hP hD hS k_344 (by decide) d_A_make_41 (fun H locs hP hD hS => ?_)
    obtain ⟨σ3, eσ3, h⟩ := vq_let h
    rw [← eσ3] at hP hD
    refine lv_aload_n hx hb d_A_make_44 rfl (lv_at hl 0 rfl) ?_
    refine g_A_present dC dI ad ca σ3 hx hb hts hown hK hP k_344 d_A_make_45 ?_
    refine lv_if_eq (tgt := 58) hx hb d_A_make_48 (by decide) (fun hc4 => ?_) (fun hc4 => ?_)
    ·
      rw [if_pos hc4] at h
      have h9 := Option.some.inj h
      rw [← h9]
      exact W.vret hx hb hr (fun t ht hW => ⟨⟨(), rfl, trivial, by rw [ht]; exact hP, va_K.moved hW.alike hK, hD⟩, hS.F ht⟩) hS.2.2 d_A_make_58
    ·
      rw [if_neg hc4] at h
      refine lv_aload_n hx hb d_A_make_51 rfl (lv_at hl 0 rfl) ?_
      refine g_A_sequences dC dI ad ca σ3 hx hb hts hown hK hP k_345 d_A_make_52 ?_
      obtain ⟨q5, h6, h⟩ := vq_bi h
      have hFc := vq_freeAll hD hS hA
      refine va_callv (va_runV (As := []) (rest := []) ⟨hx, hb, hml, hown, hts⟩ (c_Q_write l htr dC dI ad ca N σ3 q5 h6 H.size) (vq_cV WSk hts 0 rfl rfl ⟨by decide, by decide⟩ k_206 k_169 k_346 k_347 k_348 (by decide +kernel)) ⟨vq_blind, va_recv hK hP (ci := 5) (q0 := 5) rfl rfl, vq_here hst hS hN hP hK hD⟩ rfl rfl hl.1 rfl (lv_room (Nat.le_of_ble_eq_true rfl)) d_A_make_55 ⟨by decide, by decide⟩) hS (fun q _ h => hFc q h) hFc (fun u t H1 locs ht hvm hw hB hz1 hk1 hS => ?_)
      obtain ⟨hP, -, hD1⟩ := hB
      rw [ht] at hP
      have hD := hD1.weaken (fun _ _ _ h => hFc _ h)
      generalize H1 = H at hP hS ⊢
      refine W.widen (k := 0) (n := 0) (by decide) (by decide) ?_
      have h9 := Option.some.inj h
      rw [← h9]
      exact W.vret hx hb hr (fun t ht hW => ⟨⟨(), rfl, trivial, by rw [ht]; exact hP, va_K.moved hW.alike hK, hD⟩, hS.F ht⟩) hS.2.2 d_A_make_58
  refine lv_if_le (tgt := 40) hx hb d_A_make_12 (by decide) (fun hc7 => ?_) (fun hc7 => ?_)
  ·
    rw [if_pos hc7] at h
    exact J40 _ _ _ _ h (lv_sub hl [0] rfl) hP hD hS
  ·
    rw [if_neg hc7] at h
    refine lv_aload_n hx hb d_A_make_15 rfl (lv_at hl 0 rfl) ?_
    obtain ⟨q8, h9, h⟩ := vq_bi h
    have hFc := vq_freeAll hD hS hA
    refine va_calli (va_runV (As := []) (rest := [.ref (ad 2)]) ⟨hx, hb, hml, hown, hts⟩ (c_A_isComplete l htr dC dI ad ca N q1.2 q8 h9 H.size) (vq_cV WSk hts 0 rfl rfl ⟨by decide, by decide⟩ k_307 k_313 k_349 k_350 k_351 (by decide +kernel)) ⟨vq_blind, va_recv hK hP (ci := 2) (q0 := 2) rfl rfl, vq_here hst hS hN hP hK hD⟩ rfl rfl hl.1 rfl (lv_room (Nat.le_of_ble_eq_true rfl)) d_A_make_16 ⟨by decide, by decide⟩) hS (fun q _ h => hFc q h) hFc (fun r u t H1 locs ht hvm hw hB hz1 hk1 hS => ?_)
    obtain ⟨hP, -, hD1⟩ := hB
    rw [ht] at hP
    have hD := hD1.weaken (fun _ _ _ h => hFc _ h)
    have hw : r = q8.1 := hw
    subst hw
    generalize H1 = H at hP hS ⊢
    refine W.widen (k := 0) (n := 0) (by decide) (by decide) ?_
    refine lv_if_eq (tgt := 40) hx hb d_A_make_19 (by decide) (fun hc10 => ?_) (fun hc10 => ?_)
    ·
      rw [if_pos hc10] at h
      exact J40 _ _ _ _ h (lv_sub hl [0] rfl) hP hD hS
    ·
      rw [if_neg hc10] at h
      refine lv_aload_n hx hb d_A_make_22 rfl (lv_at hl 0 rfl) ?_
      obtain ⟨q11, h12, h⟩ := vq_bi h
      have hFc := vq_freeAll hD hS hA
      refine va_calli (va_runV (As := []) (rest := [.ref (ad 2)]) ⟨hx, hb, hml, hown, hts⟩ (c_A_isWithoutCircle l htr dC dI ad ca N q8.2 q11 h12 H.size) (vq_cV WSk hts 0 rfl rfl ⟨by decide, by decide⟩ k_322 k_313 k_352 k_353 k_354 (by decide +kernel)) ⟨vq_blind, va_recv hK hP (ci := 2) (q0 := 2) rfl rfl, vq_here hst hS hN hP hK hD⟩ rfl rfl hl.1 rfl (lv_room (Nat.le_of_ble_eq_true rfl)) d_A_make_23 ⟨by decide, by decide⟩) hS (fun q _ h => hFc q h) hFc (fun r u t H1 locs ht hvm hw hB hz1 hk1 hS => ?_)
      obtain ⟨hP, -, hD1⟩ := hB
      rw [ht] at hP
      have hD := hD1.weaken (fun _ _ _ h => hFc _ h)
      have hw : r = q11.1 := hw
      subst hw
      generalize H1 = H at hP hS ⊢
      refine W.widen (k := 0) (n := 0) (by decide) (by decide) ?_
      refine lv_if_eq (tgt := 40) hx hb d_A_make_26 (by decide) (fun hc13 => ?_) (fun hc13 => ?_)
      ·
        rw [if_pos hc13] at h
        exact J40 _ _ _ _ h (lv_sub hl [0] rfl) hP hD hS
      ·
        rw [if_neg hc13] at h
        refine lv_aload_n hx hb d_A_make_29 rfl (lv_at hl 0 rfl) ?_
        obtain ⟨q14, h15, h⟩ := vq_bi h
        have hFc := vq_freeAll hD hS hA
        refine va_calli (va_runV (As := []) (rest := [.ref (ad 2)]) ⟨hx, hb, hml, hown, hts⟩ (c_A_isOrdered l htr dC dI ad ca N q11.2 q14 h15 H.size) (vq_cV WSk hts 0 rfl rfl ⟨by decide, by decide⟩ k_329 k_313 k_355 k_356 k_357 (by decide +kernel)) ⟨vq_blind, va_recv hK hP (ci := 2) (q0 := 2) rfl rfl, vq_here hst hS hN hP hK hD⟩ rfl rfl hl.1 rfl (lv_room (Nat.le_of_ble_eq_true rfl)) d_A_make_30 ⟨by decide, by decide⟩) hS (fun q _ h => hFc q h) hFc (fun r u t H1 locs ht hvm hw hB hz1 hk1 hS => ?_)
        obtain ⟨hP, -, hD1⟩ := hB
        rw [ht] at hP
        have hD := hD1.weaken (fun _ _ _ h => hFc _ h)
        have hw : r = q14.1 := hw
        subst hw
        generalize H1 = H at hP hS ⊢
        refine W.widen (k := 0) (n := 0) (by decide) (by decide) ?_
        refine lv_if_eq (tgt := 40) hx hb d_A_make_33 (by decide) (fun hc16 => ?_) (fun hc16 => ?_)
        ·
          rw [if_pos hc16] at h
          exact J40 _ _ _ _ h (lv_sub hl [0] rfl) hP hD hS
        ·
          rw [if_neg hc16] at h
          refine lv_iconst (v := 1) hx hb d_A_make_36 (by decide) ?_
          refine lv_goto (tgt := 41) hx hb d_A_make_37 (by decide) ?_
          refine p_A_present dC dI ad ca q14.2 hx hb hts hown hK hP hD hS k_344 (by decide) d_A_make_41 (fun H locs hP hD hS => ?_)
          obtain ⟨σ17, eσ17, h⟩ := vq_let h
          rw [← eσ17] at hP hD
          refine lv_aload_n hx hb d_A_make_44 rfl (lv_at hl 0 rfl) ?_
          refine g_A_present dC dI ad ca σ17 hx hb hts hown hK hP k_344 d_A_make_45 ?_
          refine lv_if_eq (tgt := 58) hx hb d_A_make_48 (by decide) (fun hc18 => ?_) (fun hc18 => ?_)
          ·
            rw [if_pos hc18] at h
            have h9 := Option.some.inj h
            rw [← h9]
            exact W.vret hx hb hr (fun t ht hW => ⟨⟨(), rfl, trivial, by rw [ht]; exact hP, va_K.moved hW.alike hK, hD⟩, hS.F ht⟩) hS.2.2 d_A_make_58
          ·
            rw [if_neg hc18] at h
            refine lv_aload_n hx hb d_A_make_51 rfl (lv_at hl 0 rfl) ?_
            refine g_A_sequences dC dI ad ca σ17 hx hb hts hown hK hP k_345 d_A_make_52 ?_
            obtain ⟨q19, h20, h⟩ := vq_bi h
            have hFc := vq_freeAll hD hS hA
            refine va_callv (va_runV (As := []) (rest := []) ⟨hx, hb, hml, hown, hts⟩ (c_Q_write l htr dC dI ad ca N σ17 q19 h20 H.size) (vq_cV WSk hts 0 rfl rfl ⟨by decide, by decide⟩ k_206 k_169 k_346 k_347 k_348 (by decide +kernel)) ⟨vq_blind, va_recv hK hP (ci := 5) (q0 := 5) rfl rfl, vq_here hst hS hN hP hK hD⟩ rfl rfl hl.1 rfl (lv_room (Nat.le_of_ble_eq_true rfl)) d_A_make_55 ⟨by decide, by decide⟩) hS (fun q _ h => hFc q h) hFc (fun u t H1 locs ht hvm hw hB hz1 hk1 hS => ?_)
            obtain ⟨hP, -, hD1⟩ := hB
            rw [ht] at hP
            have hD := hD1.weaken (fun _ _ _ h => hFc _ h)
            generalize H1 = H at hP hS ⊢
            refine W.widen (k := 0) (n := 0) (by decide) (by decide) ?_
            have h9 := Option.some.inj h
            rw [← h9]
            exact W.vret hx hb hr (fun t ht hW => ⟨⟨(), rfl, trivial, by rw [ht]; exact hP, va_K.moved hW.alike hK, hD⟩, hS.F ht⟩) hS.2.2 d_A_make_58
