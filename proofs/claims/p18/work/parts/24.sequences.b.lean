set_option maxHeartbeats 4000000 in
set_option maxRecDepth 100000 in
theorem c_Q_at (l : Launch) (htr : l.stackTraces = false) (dC : Nat → ClassId) (dI : Nat → Nat → Nat) (ad : Nat → Nat) (ca : Nat → ClassId) (N : Nat) (σ : vS) (a0 : Int32) (a1 : Int32) (v : Int32 × vS) (h : f_Q_at N σ a0 a1 = some v) (sz : Nat) : Met l y_Q_at WS ({ frames := 0, cells := 0, slots := 0, locals := 0 }) (va_Pc [.ref (ad 5), .int a0, .int a1] (vq_Pre (dC, dI) CL sz (Xw ad ca σ) (Xt ca))) (va_Qi (fun (r : Int32) (_ : Unit) => r = v.1) (fun _ t => vq_Post (dC, dI) CL (va_A (Xw ad ca σ) sz) (Xw ad ca v.2) (Xt ca) t) (va_A (Xw ad ca σ) sz)) 0 0 (va_A (Xw ad ca σ) sz) := by
  refine vq_ofW (cc := prog_6_method_2_code) (maxL := 3) (ret := (Option.some Jvm.ClassFile.FieldType.int)) pl_Q (vq_his k_149) ?_
  intro p e s m args below meth c s₁ B hml hv
  obtain ⟨rfl, hst, hsz, hP, hK, hD0⟩ := hv
  have hx := B.exec
  have hb := B.bytes
  have hr := B.returns
  have hts := atoms_spec (ws := WS) B.pre
  have hown : s.vm.findClass R_Q = some m.cls := findClass_of_methodNamed B.named
  have hlocks := B.notSynchronized
  have hno := vq_noH B (hts _ k_149)
  subst hsz
  have hN := vq_ns hP
  have hD := hD0.self (sz := s.heap.size)
  generalize hAe : va_A (Xw ad ca σ) s.heap.size = A at hD hN ⊢
  have hA : ∀ q : Nat, s.heap.size ≤ q → A q := fun q h => by rw [← hAe]; exact Or.inr h
  have hS : va_S A s.heap s.heap [] := va_S.rf
  have hl := lv_entry ([.ref (ad 5), .int a0, .int a1]) (n := 3) (Nat.le_of_ble_eq_true rfl)
  rw [lg_entry_eq]
  generalize (lg_sl ([.ref (ad 5), .int a0, .int a1]) ++ List.replicate (3 - (lg_sl ([.ref (ad 5), .int a0, .int a1])).length) Slot.unset).toArray = ls at hl ⊢
  have hl : lv_has ls 3 [(0, .ref (ad 5)), (1, .int a0), (2, .int a1)] := hl
  unfold f_Q_at at h
  refine lv_iload_n hx hb d_Q_at_0 rfl (lv_at hl 2 rfl) ?_
  refine lv_aload_n hx hb d_Q_at_1 rfl (lv_at hl 0 rfl) ?_
  refine g_Q_lengths dC dI ad ca σ hx hb hts hown hK hP k_150 d_Q_at_2 ?_
  refine lv_iload_n hx hb d_Q_at_5 rfl (lv_at hl 1 rfl) ?_
  obtain ⟨hi1, h⟩ := vq_bd h
  refine al_X17 dC dI ad ca σ hx hb hts hown hK hP hi1 d_Q_at_6 ?_
  obtain ⟨i2, ei2, h⟩ := vq_let h
  refine vq_top ei2.symm ?_
  refine lv_icmp_ge (tgt := 24) hx hb d_Q_at_7 (by decide) (fun hc3 => ?_) (fun hc3 => ?_)
  ·
    rw [if_pos hc3] at h
    refine lv_iconst (v := (-1)) hx hb d_Q_at_24 (by decide) ?_
    have h9 := Option.some.inj h
    rw [← h9]
    exact W.iret (v := ((-1) : Int32)) hx hb hr (fun t ht hW => ⟨⟨((-1) : Int32), (), rfl, rfl, by rw [ht]; exact hP, va_K.moved hW.alike hK, hD⟩, hS.F ht⟩) hS.2.2 d_Q_at_25
  ·
    rw [if_neg hc3] at h
    refine lv_aload_n hx hb d_Q_at_10 rfl (lv_at hl 0 rfl) ?_
    refine g_Q_instructions dC dI ad ca σ hx hb hts hown hK hP k_151 d_Q_at_11 ?_
    refine lv_iload_n hx hb d_Q_at_14 rfl (lv_at hl 1 rfl) ?_
    refine lv_bipush (v := 32) hx hb d_Q_at_15 (by decide) ?_
    refine lv_imul hx hb d_Q_at_17 ?_
    refine lv_iload_n hx hb d_Q_at_18 rfl (lv_at hl 2 rfl) ?_
    refine lv_iadd hx hb d_Q_at_19 ?_
    obtain ⟨hi4, h⟩ := vq_bd h
    refine al_X16 dC dI ad ca σ hx hb hts hown hK hP hi4 d_Q_at_20 ?_
    obtain ⟨i5, ei5, h⟩ := vq_let h
    refine vq_top ei5.symm ?_
    refine lv_goto (tgt := 25) hx hb d_Q_at_21 (by decide) ?_
    have h9 := Option.some.inj h
    rw [← h9]
    exact W.iret (v := i5) hx hb hr (fun t ht hW => ⟨⟨i5, (), rfl, rfl, by rw [ht]; exact hP, va_K.moved hW.alike hK, hD⟩, hS.F ht⟩) hS.2.2 d_Q_at_25

set_option maxHeartbeats 4000000 in
set_option maxRecDepth 100000 in
theorem c_Q_lengthOfAll (l : Launch) (htr : l.stackTraces = false) (dC : Nat → ClassId) (dI : Nat → Nat → Nat) (ad : Nat → Nat) (ca : Nat → ClassId) (N : Nat) (σ : vS) (v : Int32 × vS) (h : f_Q_lengthOfAll N σ = some v) (sz : Nat) : Met l y_Q_lengthOfAll WS ({ frames := 0, cells := 0, slots := 0, locals := 0 }) (va_Pc [.ref (ad 5)] (vq_Pre (dC, dI) CL sz (Xw ad ca σ) (Xt ca))) (va_Qi (fun (r : Int32) (_ : Unit) => r = v.1) (fun _ t => vq_Post (dC, dI) CL (va_A (Xw ad ca σ) sz) (Xw ad ca v.2) (Xt ca) t) (va_A (Xw ad ca σ) sz)) 0 0 (va_A (Xw ad ca σ) sz) := by
  refine vq_ofW (cc := prog_6_method_3_code) (maxL := 3) (ret := (Option.some Jvm.ClassFile.FieldType.int)) pl_Q (vq_his k_152) ?_
  intro p e s m args below meth c s₁ B hml hv
  obtain ⟨rfl, hst, hsz, hP, hK, hD0⟩ := hv
  have hx := B.exec
  have hb := B.bytes
  have hr := B.returns
  have hts := atoms_spec (ws := WS) B.pre
  have hown : s.vm.findClass R_Q = some m.cls := findClass_of_methodNamed B.named
  have hlocks := B.notSynchronized
  have hno := vq_noH B (hts _ k_152)
  subst hsz
  have hN := vq_ns hP
  have hD := hD0.self (sz := s.heap.size)
  generalize hAe : va_A (Xw ad ca σ) s.heap.size = A at hD hN ⊢
  have hA : ∀ q : Nat, s.heap.size ≤ q → A q := fun q h => by rw [← hAe]; exact Or.inr h
  have hS : va_S A s.heap s.heap [] := va_S.rf
  have hl := lv_entry ([.ref (ad 5)]) (n := 3) (Nat.le_of_ble_eq_true rfl)
  rw [lg_entry_eq]
  generalize (lg_sl ([.ref (ad 5)]) ++ List.replicate (3 - (lg_sl ([.ref (ad 5)])).length) Slot.unset).toArray = ls at hl ⊢
  have hl : lv_has ls 3 [(0, .ref (ad 5))] := hl
  unfold f_Q_lengthOfAll at h
  refine lv_iconst (v := 0) hx hb d_Q_lengthOfAll_0 (by decide) ?_
  refine lv_istore_n (lv' := [(1, .int 0), (0, .ref (ad 5))]) hx hb d_Q_lengthOfAll_1 rfl hl (by decide) rfl (fun ls hl => ?_)
  refine lv_iconst (v := 0) hx hb d_Q_lengthOfAll_2 (by decide) ?_
  refine lv_istore_n (lv' := [(2, .int 0), (1, .int 0), (0, .ref (ad 5))]) hx hb d_Q_lengthOfAll_3 rfl hl (by decide) rfl (fun ls hl => ?_)
  have L4 : ∀ n4 : Nat, ∀ (τ : vS) (x1 : Int32) (x2 : Int32) (H : Heap) (locs : List Loc) (ls : Array Slot), f_Q_lengthOfAll_4 N n4 τ x1 x2 = some v → lv_has ls 3 [(0, .ref (ad 5)), (1, .int x1), (2, .int x2)] → va_P (dC, dI) CL (Xw ad ca τ) H → va_D A (Xw ad ca τ) → va_S A s.heap H locs → W p l e (headSpec WS ({ frames := 0, cells := 0, slots := 0, locals := 0 })).room s m ([.ref (ad 5)] : List Value).toArray below meth c H locs 0 0 (MQ below (va_Qi (fun (r : Int32) (_ : Unit) => r = v.1) (fun _ t => vq_Post (dC, dI) CL A (Xw ad ca v.2) (Xt ca) t) A) ([.ref (ad 5)] : List Value).toArray s 0 0 A) (F0 m 4 ls []) := by
    intro n4
    induction n4 with
    | zero =>
      intro τ x1 x2 H locs ls h hl hP hD hS
      rw [f_Q_lengthOfAll_4] at h
      cases h
    | succ n4 ih4 =>
      intro τ x1 x2 H locs ls h hl hP hD hS
      rw [f_Q_lengthOfAll_4] at h
      dsimp only at h
      refine lv_iload_n hx hb d_Q_lengthOfAll_4 rfl (lv_at hl 2 rfl) ?_
      refine lv_aload_n hx hb d_Q_lengthOfAll_5 rfl (lv_at hl 0 rfl) ?_
      refine g_Q_grammar dC dI ad ca τ hx hb hts hown hK hP k_153 d_Q_lengthOfAll_6 ?_
      refine gN_G_productionCount dC dI ad ca τ hx hb hts hown hK hP k_154 d_Q_lengthOfAll_9 ?_
      refine lv_icmp_ge (tgt := 30) hx hb d_Q_lengthOfAll_12 (by decide) (fun hc1 => ?_) (fun hc1 => ?_)
      ·
        rw [if_pos hc1] at h
        refine lv_iload_n hx hb d_Q_lengthOfAll_30 rfl (lv_at hl 1 rfl) ?_
        have h9 := Option.some.inj h
        rw [← h9]
        exact W.iret (v := x1) hx hb hr (fun t ht hW => ⟨⟨x1, (), rfl, rfl, by rw [ht]; exact hP, va_K.moved hW.alike hK, hD⟩, hS.F ht⟩) hS.2.2 d_Q_lengthOfAll_31
      ·
        rw [if_neg hc1] at h
        refine lv_iload_n hx hb d_Q_lengthOfAll_15 rfl (lv_at hl 1 rfl) ?_
        refine lv_aload_n hx hb d_Q_lengthOfAll_16 rfl (lv_at hl 0 rfl) ?_
        refine g_Q_lengths dC dI ad ca τ hx hb hts hown hK hP k_150 d_Q_lengthOfAll_17 ?_
        refine lv_iload_n hx hb d_Q_lengthOfAll_20 rfl (lv_at hl 2 rfl) ?_
        obtain ⟨hi2, h⟩ := vq_bd h
        refine al_X17 dC dI ad ca τ hx hb hts hown hK hP hi2 d_Q_lengthOfAll_21 ?_
        obtain ⟨i3, ei3, h⟩ := vq_let h
        refine vq_top ei3.symm ?_
        refine lv_iadd hx hb d_Q_lengthOfAll_22 ?_
        refine lv_istore_n (lv' := [(1, .int (x1 + i3)), (0, .ref (ad 5)), (2, .int x2)]) hx hb d_Q_lengthOfAll_23 rfl hl (by decide) rfl (fun ls hl => ?_)
        refine lv_iinc (k := 2) (v := (x2 + 1)) (lv' := [(2, .int (x2 + 1)), (1, .int (x1 + i3)), (0, .ref (ad 5))]) hx hb d_Q_lengthOfAll_24 hl rfl rfl (by decide) rfl (fun ls hl => ?_)
        refine lv_goto (tgt := 4) hx hb d_Q_lengthOfAll_27 (by decide) ?_
        exact ih4 _ _ _ _ _ _ h (lv_sub hl [2, 1, 0] rfl) hP hD hS
  exact L4 N _ _ _ _ _ _ h (lv_sub hl [2, 1, 0] rfl) hP hD hS

set_option maxHeartbeats 4000000 in
set_option maxRecDepth 100000 in
theorem c_Q_visitsAt (l : Launch) (htr : l.stackTraces = false) (dC : Nat → ClassId) (dI : Nat → Nat → Nat) (ad : Nat → Nat) (ca : Nat → ClassId) (N : Nat) (σ : vS) (a0 : Int32) (a1 : Int32) (v : Int32 × vS) (h : f_Q_visitsAt N σ a0 a1 = some v) (sz : Nat) : Met l y_Q_visitsAt WS ({ frames := 1, cells := 0, slots := 0, locals := 22 }) (va_Pc [.ref (ad 5), .int a0, .int a1] (vq_Pre (dC, dI) CL sz (Xw ad ca σ) (Xt ca))) (va_Qi (fun (r : Int32) (_ : Unit) => r = v.1) (fun _ t => vq_Post (dC, dI) CL (va_A (Xw ad ca σ) sz) (Xw ad ca v.2) (Xt ca) t) (va_A (Xw ad ca σ) sz)) 0 0 (va_A (Xw ad ca σ) sz) := by
  refine vq_ofW (cc := prog_6_method_7_code) (maxL := 3) (ret := (Option.some Jvm.ClassFile.FieldType.int)) pl_Q (vq_his k_155) ?_
  intro p e s m args below meth c s₁ B hml hv
  obtain ⟨rfl, hst, hsz, hP, hK, hD0⟩ := hv
  have hx := B.exec
  have hb := B.bytes
  have hr := B.returns
  have hts := atoms_spec (ws := WS) B.pre
  have hown : s.vm.findClass R_Q = some m.cls := findClass_of_methodNamed B.named
  have hlocks := B.notSynchronized
  have hno := vq_noH B (hts _ k_155)
  subst hsz
  have hN := vq_ns hP
  have hD := hD0.self (sz := s.heap.size)
  generalize hAe : va_A (Xw ad ca σ) s.heap.size = A at hD hN ⊢
  have hA : ∀ q : Nat, s.heap.size ≤ q → A q := fun q h => by rw [← hAe]; exact Or.inr h
  have hS : va_S A s.heap s.heap [] := va_S.rf
  have hl := lv_entry ([.ref (ad 5), .int a0, .int a1]) (n := 3) (Nat.le_of_ble_eq_true rfl)
  rw [lg_entry_eq]
  generalize (lg_sl ([.ref (ad 5), .int a0, .int a1]) ++ List.replicate (3 - (lg_sl ([.ref (ad 5), .int a0, .int a1])).length) Slot.unset).toArray = ls at hl ⊢
  have hl : lv_has ls 3 [(0, .ref (ad 5)), (1, .int a0), (2, .int a1)] := hl
  unfold f_Q_visitsAt at h
  refine lv_aload_n hx hb d_Q_visitsAt_0 rfl (lv_at hl 0 rfl) ?_
  refine g_Q_ranking dC dI ad ca σ hx hb hts hown hK hP k_156 d_Q_visitsAt_1 ?_
  refine gN_K_visitCounts dC dI ad ca σ hx hb hts hown hK hP k_157 d_Q_visitsAt_4 ?_
  refine lv_aload_n hx hb d_Q_visitsAt_7 rfl (lv_at hl 0 rfl) ?_
  refine g_Q_grammar dC dI ad ca σ hx hb hts hown hK hP k_153 d_Q_visitsAt_8 ?_
  refine lv_iload_n hx hb d_Q_visitsAt_11 rfl (lv_at hl 1 rfl) ?_
  refine lv_iload_n hx hb d_Q_visitsAt_12 rfl (lv_at hl 2 rfl) ?_
  obtain ⟨q1, h2, h⟩ := vq_bi h
  have hFc := vq_freeAll hD hS hA
  refine va_calli (va_runV (As := [.int a0, .int a1]) (rest := [.ref (ad 22)]) ⟨hx, hb, hml, hown, hts⟩ (c_G_symbolAt l htr dC dI ad ca N σ a0 a1 q1 h2 s.heap.size) (vq_cV WSk hts 2 rfl rfl ⟨by decide, by decide⟩ k_40 k_26 k_158 k_81 k_82 (by decide +kernel)) ⟨vq_blind, va_recv hK hP (ci := 1) (q0 := 1) rfl rfl, vq_here hst hS hN hP hK hD⟩ rfl rfl hl.1 rfl (lv_room (Nat.le_of_ble_eq_true rfl)) d_Q_visitsAt_13 ⟨by decide, by decide⟩) hS (fun q _ h => hFc q h) hFc (fun r u t H1 locs ht hvm hw hB hz1 hk1 hS => ?_)
  obtain ⟨hP, -, hD1⟩ := hB
  rw [ht] at hP
  have hD := hD1.weaken (fun _ _ _ h => hFc _ h)
  have hw : r = q1.1 := hw
  subst hw
  generalize H1 = H at hP hS ⊢
  refine W.widen (k := 0) (n := 0) (by decide) (by decide) ?_
  obtain ⟨hi3, h⟩ := vq_bd h
  refine al_X14 dC dI ad ca q1.2 hx hb hts hown hK hP hi3 d_Q_visitsAt_16 ?_
  obtain ⟨i4, ei4, h⟩ := vq_let h
  refine vq_top ei4.symm ?_
  have h9 := Option.some.inj h
  rw [← h9]
  exact W.iret (v := i4) hx hb hr (fun t ht hW => ⟨⟨i4, (), rfl, rfl, by rw [ht]; exact hP, va_K.moved hW.alike hK, hD⟩, hS.F ht⟩) hS.2.2 d_Q_visitsAt_17

set_option maxHeartbeats 4000000 in
set_option maxRecDepth 100000 in
theorem c_Q_readySet (l : Launch) (htr : l.stackTraces = false) (dC : Nat → ClassId) (dI : Nat → Nat → Nat) (ad : Nat → Nat) (ca : Nat → ClassId) (N : Nat) (σ : vS) (a0 : Int32) (v : Int32 × vS) (h : f_Q_readySet N σ a0 = some v) (sz : Nat) : Met l y_Q_readySet WS ({ frames := 1, cells := 0, slots := 0, locals := 21 }) (va_Pc [.ref (ad 5), .int a0] (vq_Pre (dC, dI) CL sz (Xw ad ca σ) (Xt ca))) (va_Qi (fun (r : Int32) (_ : Unit) => r = v.1) (fun _ t => vq_Post (dC, dI) CL (va_A (Xw ad ca σ) sz) (Xw ad ca v.2) (Xt ca) t) (va_A (Xw ad ca σ) sz)) 0 0 (va_A (Xw ad ca σ) sz) := by
  refine vq_ofW (cc := prog_6_method_9_code) (maxL := 5) (ret := (Option.some Jvm.ClassFile.FieldType.int)) pl_Q (vq_his k_159) ?_
  intro p e s m args below meth c s₁ B hml hv
  obtain ⟨rfl, hst, hsz, hP, hK, hD0⟩ := hv
  have hx := B.exec
  have hb := B.bytes
  have hr := B.returns
  have hts := atoms_spec (ws := WS) B.pre
  have hown : s.vm.findClass R_Q = some m.cls := findClass_of_methodNamed B.named
  have hlocks := B.notSynchronized
  have hno := vq_noH B (hts _ k_159)
  subst hsz
  have hN := vq_ns hP
  have hD := hD0.self (sz := s.heap.size)
  generalize hAe : va_A (Xw ad ca σ) s.heap.size = A at hD hN ⊢
  have hA : ∀ q : Nat, s.heap.size ≤ q → A q := fun q h => by rw [← hAe]; exact Or.inr h
  have hS : va_S A s.heap s.heap [] := va_S.rf
  have hl := lv_entry ([.ref (ad 5), .int a0]) (n := 5) (Nat.le_of_ble_eq_true rfl)
  rw [lg_entry_eq]
  generalize (lg_sl ([.ref (ad 5), .int a0]) ++ List.replicate (5 - (lg_sl ([.ref (ad 5), .int a0])).length) Slot.unset).toArray = ls at hl ⊢
  have hl : lv_has ls 5 [(0, .ref (ad 5)), (1, .int a0)] := hl
  unfold f_Q_readySet at h
  refine lv_aload_n hx hb d_Q_readySet_0 rfl (lv_at hl 0 rfl) ?_
  refine g_Q_grammar dC dI ad ca σ hx hb hts hown hK hP k_153 d_Q_readySet_1 ?_
  refine gN_G_toDefineBits dC dI ad ca σ hx hb hts hown hK hP k_160 d_Q_readySet_4 ?_
  refine lv_iload_n hx hb d_Q_readySet_7 rfl (lv_at hl 1 rfl) ?_
  obtain ⟨hi1, h⟩ := vq_bd h
  refine al_X5 dC dI ad ca σ hx hb hts hown hK hP hi1 d_Q_readySet_8 ?_
  obtain ⟨i2, ei2, h⟩ := vq_let h
  refine vq_top ei2.symm ?_
  refine lv_aload_n hx hb d_Q_readySet_9 rfl (lv_at hl 0 rfl) ?_
  refine g_Q_setBits dC dI ad ca σ hx hb hts hown hK hP k_161 d_Q_readySet_10 ?_
  refine lv_iconst (v := (-1)) hx hb d_Q_readySet_13 (by decide) ?_
  refine lv_ixor hx hb d_Q_readySet_14 ?_
  refine lv_iand hx hb d_Q_readySet_15 ?_
  refine lv_istore_n (lv' := [(2, .int (i2 &&& ((σ.1 6) ^^^ (-1)))), (0, .ref (ad 5)), (1, .int a0)]) hx hb d_Q_readySet_16 rfl hl (by decide) rfl (fun ls hl => ?_)
  refine lv_iload_n hx hb d_Q_readySet_17 rfl (lv_at hl 2 rfl) ?_
  refine lv_bipush (v := 16) hx hb d_Q_readySet_18 (by decide) ?_
  refine lv_imul hx hb d_Q_readySet_20 ?_
  refine lv_istore_n (lv' := [(3, .int (a0 * 16)), (2, .int (i2 &&& ((σ.1 6) ^^^ (-1)))), (0, .ref (ad 5)), (1, .int a0)]) hx hb d_Q_readySet_21 rfl hl (by decide) rfl (fun ls hl => ?_)
  refine lv_iconst (v := 0) hx hb d_Q_readySet_22 (by decide) ?_
  refine lv_istore (lv' := [(4, .int 0), (3, .int (a0 * 16)), (2, .int (i2 &&& ((σ.1 6) ^^^ (-1)))), (0, .ref (ad 5)), (1, .int a0)]) hx hb d_Q_readySet_23 hl (by decide) rfl (fun ls hl => ?_)
  have L25 : ∀ n25 : Nat, ∀ (τ : vS) (x2 : Int32) (x3 : Int32) (x4 : Int32) (H : Heap) (locs : List Loc) (ls : Array Slot), f_Q_readySet_25 N n25 τ x2 x3 x4 = some v → lv_has ls 5 [(0, .ref (ad 5)), (2, .int x2), (3, .int x3), (4, .int x4)] → va_P (dC, dI) CL (Xw ad ca τ) H → va_D A (Xw ad ca τ) → va_S A s.heap H locs → W p l e (headSpec WS ({ frames := 1, cells := 0, slots := 0, locals := 21 })).room s m ([.ref (ad 5), .int a0] : List Value).toArray below meth c H locs 0 0 (MQ below (va_Qi (fun (r : Int32) (_ : Unit) => r = v.1) (fun _ t => vq_Post (dC, dI) CL A (Xw ad ca v.2) (Xt ca) t) A) ([.ref (ad 5), .int a0] : List Value).toArray s 0 0 A) (F0 m 25 ls []) := by
    intro n25
    induction n25 with
    | zero =>
      intro τ x2 x3 x4 H locs ls h hl hP hD hS
      rw [f_Q_readySet_25] at h
      cases h
    | succ n25 ih25 =>
      intro τ x2 x3 x4 H locs ls h hl hP hD hS
      rw [f_Q_readySet_25] at h
      dsimp only at h
      refine lv_iload hx hb d_Q_readySet_25 (lv_at hl 3 rfl) ?_
      refine lv_bipush (v := 16) hx hb d_Q_readySet_27 (by decide) ?_
      refine lv_icmp_ge (tgt := 72) hx hb d_Q_readySet_29 (by decide) (fun hc3 => ?_) (fun hc3 => ?_)
      ·
        rw [if_pos hc3] at h
        refine lv_iconst (v := (-1)) hx hb d_Q_readySet_72 (by decide) ?_
        have h9 := Option.some.inj h
        rw [← h9]
        exact W.iret (v := ((-1) : Int32)) hx hb hr (fun t ht hW => ⟨⟨((-1) : Int32), (), rfl, rfl, by rw [ht]; exact hP, va_K.moved hW.alike hK, hD⟩, hS.F ht⟩) hS.2.2 d_Q_readySet_73
      ·
        rw [if_neg hc3] at h
        refine lv_iload_n hx hb d_Q_readySet_32 rfl (lv_at hl 1 rfl) ?_
        refine lv_iload hx hb d_Q_readySet_33 (lv_at hl 3 rfl) ?_
        obtain ⟨q4, h5, h⟩ := vq_bi h
        have hKe := hK.sub (tys' := []) [] rfl
        refine va_calli (va_runSN (As := [.int x2, .int x4]) (rest := []) ⟨hx, hb, hml, hown, hts⟩ (c_V_holds l htr dC dI N x2 x4 q4 h5 H.size) (vq_cSN WSk hts 2 rfl rfl ⟨by decide, by decide⟩ k_0 k_22 k_162 k_24 (by decide +kernel)) ⟨vq_blind, vq_here hst hS hN vq_P0 hKe vq_D0⟩ rfl rfl hl.1 rfl (lv_room (Nat.le_of_ble_eq_true rfl)) d_Q_readySet_35 ⟨by decide, by decide⟩) hS (fun q _ h => vq_keepA h (fun hz => hA q (Nat.le_trans hS.1 hz))) (fun q h => vq_keepA h (fun hz => hA q (Nat.le_trans hS.1 hz))) (fun r u t H1 locs ht hvm hw hB hz1 hk1 hS => ?_)
        have hw : r = q4 := hw
        rw [hw]
        have hP := vq_keepP hP hk1
        generalize H1 = H at hP hS ⊢
        refine W.widen (k := 0) (n := 0) (by decide) (by decide) ?_
        have J66 : ∀ (τ : vS) (x2 : Int32) (x3 : Int32) (x4 : Int32) (H : Heap) (locs : List Loc) (ls : Array Slot), f_Q_readySet_66 N (f_Q_readySet_25 N n25) τ x2 x3 x4 = some v → lv_has ls 5 [(0, .ref (ad 5)), (2, .int x2), (3, .int x3), (4, .int x4)] → va_P (dC, dI) CL (Xw ad ca τ) H → va_D A (Xw ad ca τ) → va_S A s.heap H locs → W p l e (headSpec WS ({ frames := 1, cells := 0, slots := 0, locals := 21 })).room s m ([.ref (ad 5), .int a0] : List Value).toArray below meth c H locs 0 0 (MQ below (va_Qi (fun (r : Int32) (_ : Unit) => r = v.1) (fun _ t => vq_Post (dC, dI) CL A (Xw ad ca v.2) (Xt ca) t) A) ([.ref (ad 5), .int a0] : List Value).toArray s 0 0 A) (F0 m 66 ls []) := by
          intro τ x2 x3 x4 H locs ls h hl hP hD hS
          unfold f_Q_readySet_66 at h
          refine lv_iinc (k := 3) (v := (x4 + 1)) (lv' := [(4, .int (x4 + 1)), (0, .ref (ad 5)), (2, .int x2), (3, .int x3)]) hx hb d_Q_readySet_66 hl rfl rfl (by decide) rfl (fun ls hl => ?_)
          refine lv_goto (tgt := 25) hx hb d_Q_readySet_69 (by decide) ?_
          exact ih25 _ _ _ _ _ _ _ h (lv_sub hl [1, 2, 3, 0] rfl) hP hD hS
        refine lv_if_eq (tgt := 66) hx hb d_Q_readySet_38 (by decide) (fun hc6 => ?_) (fun hc6 => ?_)
        ·
          rw [if_pos hc6] at h
          exact J66 _ _ _ _ _ _ _ h (lv_sub hl [0, 1, 2, 3] rfl) hP hD hS
        ·
          rw [if_neg hc6] at h
          refine lv_aload_n hx hb d_Q_readySet_41 rfl (lv_at hl 0 rfl) ?_
          refine g_Q_knownBits dC dI ad ca τ hx hb hts hown hK hP k_163 d_Q_readySet_42 ?_
          refine lv_aload_n hx hb d_Q_readySet_45 rfl (lv_at hl 0 rfl) ?_
          refine g_Q_grammar dC dI ad ca τ hx hb hts hown hK hP k_153 d_Q_readySet_46 ?_
          refine gN_G_usedBits dC dI ad ca τ hx hb hts hown hK hP k_164 d_Q_readySet_49 ?_
          refine lv_iload_n hx hb d_Q_readySet_52 rfl (lv_at hl 2 rfl) ?_
          refine lv_iload hx hb d_Q_readySet_53 (lv_at hl 3 rfl) ?_
          refine lv_iadd hx hb d_Q_readySet_55 ?_
          obtain ⟨hi7, h⟩ := vq_bd h
          refine al_X10 dC dI ad ca τ hx hb hts hown hK hP hi7 d_Q_readySet_56 ?_
          obtain ⟨i8, ei8, h⟩ := vq_let h
          refine vq_top ei8.symm ?_
          obtain ⟨q9, h10, h⟩ := vq_bi h
          have hKe := hK.sub (tys' := []) [] rfl
          refine va_calli (va_runSN (As := [.int (τ.1 7), .int i8]) (rest := []) ⟨hx, hb, hml, hown, hts⟩ (c_V_holdsAll l htr dC dI N (τ.1 7) i8 q9 h10 H.size) (vq_cSN WSk hts 2 rfl rfl ⟨by decide, by decide⟩ k_1 k_22 k_165 k_89 (by decide +kernel)) ⟨vq_blind, vq_here hst hS hN vq_P0 hKe vq_D0⟩ rfl rfl hl.1 rfl (lv_room (Nat.le_of_ble_eq_true rfl)) d_Q_readySet_57 ⟨by decide, by decide⟩) hS (fun q _ h => vq_keepA h (fun hz => hA q (Nat.le_trans hS.1 hz))) (fun q h => vq_keepA h (fun hz => hA q (Nat.le_trans hS.1 hz))) (fun r u t H1 locs ht hvm hw hB hz1 hk1 hS => ?_)
          have hw : r = q9 := hw
          rw [hw]
          have hP := vq_keepP hP hk1
          generalize H1 = H at hP hS ⊢
          refine W.widen (k := 0) (n := 0) (by decide) (by decide) ?_
          refine lv_if_eq (tgt := 66) hx hb d_Q_readySet_60 (by decide) (fun hc11 => ?_) (fun hc11 => ?_)
          ·
            rw [if_pos hc11] at h
            exact J66 _ _ _ _ _ _ _ h (lv_sub hl [0, 1, 2, 3] rfl) hP hD hS
          ·
            rw [if_neg hc11] at h
            refine lv_iload hx hb d_Q_readySet_63 (lv_at hl 3 rfl) ?_
            have h9 := Option.some.inj h
            rw [← h9]
            exact W.iret (v := x4) hx hb hr (fun t ht hW => ⟨⟨x4, (), rfl, rfl, by rw [ht]; exact hP, va_K.moved hW.alike hK, hD⟩, hS.F ht⟩) hS.2.2 d_Q_readySet_65
  exact L25 N _ _ _ _ _ _ _ h (lv_sub hl [3, 2, 1, 0] rfl) hP hD hS

set_option maxHeartbeats 4000000 in
set_option maxRecDepth 100000 in
theorem c_Q_readyVisit (l : Launch) (htr : l.stackTraces = false) (dC : Nat → ClassId) (dI : Nat → Nat → Nat) (ad : Nat → Nat) (ca : Nat → ClassId) (N : Nat) (σ : vS) (a0 : Int32) (v : Int32 × vS) (h : f_Q_readyVisit N σ a0 = some v) (sz : Nat) : Met l y_Q_readyVisit WS ({ frames := 2, cells := 0, slots := 0, locals := 44 }) (va_Pc [.ref (ad 5), .int a0] (vq_Pre (dC, dI) CL sz (Xw ad ca σ) (Xt ca))) (va_Qi (fun (r : Int32) (_ : Unit) => r = v.1) (fun _ t => vq_Post (dC, dI) CL (va_A (Xw ad ca σ) sz) (Xw ad ca v.2) (Xt ca) t) (va_A (Xw ad ca σ) sz)) 0 0 (va_A (Xw ad ca σ) sz) := by
  refine vq_ofW (cc := prog_6_method_10_code) (maxL := 6) (ret := (Option.some Jvm.ClassFile.FieldType.int)) pl_Q (vq_his k_166) ?_
  intro p e s m args below meth c s₁ B hml hv
  obtain ⟨rfl, hst, hsz, hP, hK, hD0⟩ := hv
  have hx := B.exec
  have hb := B.bytes
  have hr := B.returns
  have hts := atoms_spec (ws := WS) B.pre
  have hown : s.vm.findClass R_Q = some m.cls := findClass_of_methodNamed B.named
  have hlocks := B.notSynchronized
  have hno := vq_noH B (hts _ k_166)
  subst hsz
  have hN := vq_ns hP
  have hD := hD0.self (sz := s.heap.size)
  generalize hAe : va_A (Xw ad ca σ) s.heap.size = A at hD hN ⊢
  have hA : ∀ q : Nat, s.heap.size ≤ q → A q := fun q h => by rw [← hAe]; exact Or.inr h
  have hS : va_S A s.heap s.heap [] := va_S.rf
  have hl := lv_entry ([.ref (ad 5), .int a0]) (n := 6) (Nat.le_of_ble_eq_true rfl)
  rw [lg_entry_eq]
  generalize (lg_sl ([.ref (ad 5), .int a0]) ++ List.replicate (6 - (lg_sl ([.ref (ad 5), .int a0])).length) Slot.unset).toArray = ls at hl ⊢
  have hl : lv_has ls 6 [(0, .ref (ad 5)), (1, .int a0)] := hl
  unfold f_Q_readyVisit at h
  refine lv_iconst (v := 1) hx hb d_Q_readyVisit_0 (by decide) ?_
  refine lv_istore_n (lv' := [(2, .int 1), (0, .ref (ad 5)), (1, .int a0)]) hx hb d_Q_readyVisit_1 rfl hl (by decide) rfl (fun ls hl => ?_)
  have L2 : ∀ n2 : Nat, ∀ (τ : vS) (x1 : Int32) (x2 : Int32) (H : Heap) (locs : List Loc) (ls : Array Slot), f_Q_readyVisit_2 N n2 τ x1 x2 = some v → lv_has ls 6 [(0, .ref (ad 5)), (1, .int x1), (2, .int x2)] → va_P (dC, dI) CL (Xw ad ca τ) H → va_D A (Xw ad ca τ) → va_S A s.heap H locs → W p l e (headSpec WS ({ frames := 2, cells := 0, slots := 0, locals := 44 })).room s m ([.ref (ad 5), .int a0] : List Value).toArray below meth c H locs 0 0 (MQ below (va_Qi (fun (r : Int32) (_ : Unit) => r = v.1) (fun _ t => vq_Post (dC, dI) CL A (Xw ad ca v.2) (Xt ca) t) A) ([.ref (ad 5), .int a0] : List Value).toArray s 0 0 A) (F0 m 2 ls []) := by
    intro n2
    induction n2 with
    | zero =>
      intro τ x1 x2 H locs ls h hl hP hD hS
      rw [f_Q_readyVisit_2] at h
      cases h
    | succ n2 ih2 =>
      intro τ x1 x2 H locs ls h hl hP hD hS
      rw [f_Q_readyVisit_2] at h
      dsimp only at h
      refine lv_iload_n hx hb d_Q_readyVisit_2 rfl (lv_at hl 2 rfl) ?_
      refine lv_aload_n hx hb d_Q_readyVisit_3 rfl (lv_at hl 0 rfl) ?_
      refine g_Q_grammar dC dI ad ca τ hx hb hts hown hK hP k_153 d_Q_readyVisit_4 ?_
      refine gN_G_lastPositions dC dI ad ca τ hx hb hts hown hK hP k_167 d_Q_readyVisit_7 ?_
      refine lv_iload_n hx hb d_Q_readyVisit_10 rfl (lv_at hl 1 rfl) ?_
      obtain ⟨hi1, h⟩ := vq_bd h
      refine al_X3 dC dI ad ca τ hx hb hts hown hK hP hi1 d_Q_readyVisit_11 ?_
      obtain ⟨i2, ei2, h⟩ := vq_let h
      refine vq_top ei2.symm ?_
      refine lv_icmp_gt (tgt := 81) hx hb d_Q_readyVisit_12 (by decide) (fun hc3 => ?_) (fun hc3 => ?_)
      ·
        rw [if_pos hc3] at h
        refine lv_iconst (v := (-1)) hx hb d_Q_readyVisit_81 (by decide) ?_
        have h9 := Option.some.inj h
        rw [← h9]
        exact W.iret (v := ((-1) : Int32)) hx hb hr (fun t ht hW => ⟨⟨((-1) : Int32), (), rfl, rfl, by rw [ht]; exact hP, va_K.moved hW.alike hK, hD⟩, hS.F ht⟩) hS.2.2 d_Q_readyVisit_82
      ·
        rw [if_neg hc3] at h
        refine lv_aload_n hx hb d_Q_readyVisit_15 rfl (lv_at hl 0 rfl) ?_
        refine g_Q_visitsWritten dC dI ad ca τ hx hb hts hown hK hP k_168 d_Q_readyVisit_16 ?_
        refine lv_iload_n hx hb d_Q_readyVisit_19 rfl (lv_at hl 2 rfl) ?_
        obtain ⟨hi4, h⟩ := vq_bd h
        refine al_X18 dC dI ad ca τ hx hb hts hown hK hP hi4 d_Q_readyVisit_20 ?_
        obtain ⟨i5, ei5, h⟩ := vq_let h
        refine vq_top ei5.symm ?_
        refine lv_iconst (v := 1) hx hb d_Q_readyVisit_21 (by decide) ?_
        refine lv_iadd hx hb d_Q_readyVisit_22 ?_
        refine lv_istore_n (lv' := [(3, .int (i5 + 1)), (0, .ref (ad 5)), (1, .int x1), (2, .int x2)]) hx hb d_Q_readyVisit_23 rfl hl (by decide) rfl (fun ls hl => ?_)
        refine lv_iload_n hx hb d_Q_readyVisit_24 rfl (lv_at hl 0 rfl) ?_
        refine lv_aload_n hx hb d_Q_readyVisit_25 rfl (lv_at hl 1 rfl) ?_
        refine lv_iload_n hx hb d_Q_readyVisit_26 rfl (lv_at hl 2 rfl) ?_
        refine lv_iload_n hx hb d_Q_readyVisit_27 rfl (lv_at hl 3 rfl) ?_
        obtain ⟨q6, h7, h⟩ := vq_bi h
        have hFc := vq_freeAll hD hS hA
        refine va_calli (va_runV (As := [.int x1, .int x2]) (rest := [.int (i5 + 1)]) ⟨hx, hb, hml, hown, hts⟩ (c_Q_visitsAt l htr dC dI ad ca N τ x1 x2 q6 h7 H.size) (vq_cV WSk hts 2 rfl rfl ⟨by decide, by decide⟩ k_155 k_169 k_170 k_171 k_172 (by decide +kernel)) ⟨vq_blind, va_recv hK hP (ci := 5) (q0 := 5) rfl rfl, vq_here hst hS hN hP hK hD⟩ rfl rfl hl.1 rfl (lv_room (Nat.le_of_ble_eq_true rfl)) d_Q_readyVisit_28 ⟨by decide, by decide⟩) hS (fun q _ h => hFc q h) hFc (fun r u t H1 locs ht hvm hw hB hz1 hk1 hS => ?_)
        obtain ⟨hP, -, hD1⟩ := hB
        rw [ht] at hP
        have hD := hD1.weaken (fun _ _ _ h => hFc _ h)
        have hw : r = q6.1 := hw
        subst hw
        generalize H1 = H at hP hS ⊢
        refine W.widen (k := 0) (n := 0) (by decide) (by decide) ?_
        have J75 : ∀ (τ : vS) (x1 : Int32) (x2 : Int32) (H : Heap) (locs : List Loc) (ls : Array Slot), f_Q_readyVisit_75 N (f_Q_readyVisit_2 N n2) τ x1 x2 = some v → lv_has ls 6 [(0, .ref (ad 5)), (1, .int x1), (2, .int x2)] → va_P (dC, dI) CL (Xw ad ca τ) H → va_D A (Xw ad ca τ) → va_S A s.heap H locs → W p l e (headSpec WS ({ frames := 2, cells := 0, slots := 0, locals := 44 })).room s m ([.ref (ad 5), .int a0] : List Value).toArray below meth c H locs 0 0 (MQ below (va_Qi (fun (r : Int32) (_ : Unit) => r = v.1) (fun _ t => vq_Post (dC, dI) CL A (Xw ad ca v.2) (Xt ca) t) A) ([.ref (ad 5), .int a0] : List Value).toArray s 0 0 A) (F0 m 75 ls []) := by
          intro τ x1 x2 H locs ls h hl hP hD hS
          unfold f_Q_readyVisit_75 at h
          refine lv_iinc (k := 2) (v := (x2 + 1)) (lv' := [(2, .int (x2 + 1)), (0, .ref (ad 5)), (1, .int x1)]) hx hb d_Q_readyVisit_75 hl rfl rfl (by decide) rfl (fun ls hl => ?_)
          refine lv_goto (tgt := 2) hx hb d_Q_readyVisit_78 (by decide) ?_
          exact ih2 _ _ _ _ _ _ h (lv_sub hl [1, 2, 0] rfl) hP hD hS
        refine lv_icmp_gt (tgt := 75) hx hb d_Q_readyVisit_31 (by decide) (fun hc8 => ?_) (fun hc8 => ?_)
        ·
          rw [if_pos hc8] at h
          exact J75 _ _ _ _ _ _ h (lv_sub hl [1, 2, 3] rfl) hP hD hS
        ·
          rw [if_neg hc8] at h
          refine lv_aload_n hx hb d_Q_readyVisit_34 rfl (lv_at hl 1 rfl) ?_
          refine g_Q_grammar dC dI ad ca q6.2 hx hb hts hown hK hP k_153 d_Q_readyVisit_35 ?_
          refine lv_iload_n hx hb d_Q_readyVisit_38 rfl (lv_at hl 2 rfl) ?_
          refine lv_iload_n hx hb d_Q_readyVisit_39 rfl (lv_at hl 3 rfl) ?_
          obtain ⟨q9, h10, h⟩ := vq_bi h
          have hFc := vq_freeAll hD hS hA
          refine va_calli (va_runV (As := [.int x1, .int x2]) (rest := []) ⟨hx, hb, hml, hown, hts⟩ (c_G_symbolAt l htr dC dI ad ca N q6.2 x1 x2 q9 h10 H.size) (vq_cV WSk hts 2 rfl rfl ⟨by decide, by decide⟩ k_40 k_26 k_158 k_81 k_82 (by decide +kernel)) ⟨vq_blind, va_recv hK hP (ci := 1) (q0 := 1) rfl rfl, vq_here hst hS hN hP hK hD⟩ rfl rfl hl.1 rfl (lv_room (Nat.le_of_ble_eq_true rfl)) d_Q_readyVisit_40 ⟨by decide, by decide⟩) hS (fun q _ h => hFc q h) hFc (fun r u t H1 locs ht hvm hw hB hz1 hk1 hS => ?_)
          obtain ⟨hP, -, hD1⟩ := hB
          rw [ht] at hP
          have hD := hD1.weaken (fun _ _ _ h => hFc _ h)
          have hw : r = q9.1 := hw
          subst hw
          generalize H1 = H at hP hS ⊢
          refine W.widen (k := 0) (n := 0) (by decide) (by decide) ?_
          refine lv_istore (lv' := [(4, .int (q9.1)), (3, .int (i5 + 1)), (0, .ref (ad 5)), (1, .int x1), (2, .int x2)]) hx hb d_Q_readyVisit_43 hl (by decide) rfl (fun ls hl => ?_)
          refine lv_aload_n hx hb d_Q_readyVisit_45 rfl (lv_at hl 2 rfl) ?_
          refine g_Q_ranking dC dI ad ca q9.2 hx hb hts hown hK hP k_156 d_Q_readyVisit_46 ?_
          refine lv_iload hx hb d_Q_readyVisit_49 (lv_at hl 0 rfl) ?_
          refine lv_iload_n hx hb d_Q_readyVisit_51 rfl (lv_at hl 1 rfl) ?_
          obtain ⟨q11, h12, h⟩ := vq_bi h
          have hFc := vq_freeAll hD hS hA
          refine va_calli (va_runV (As := [.int (q9.1), .int (i5 + 1)]) (rest := []) ⟨hx, hb, hml, hown, hts⟩ (c_K_inheritedOf l htr dC dI ad ca N q9.2 (q9.1) (i5 + 1) q11 h12 H.size) (vq_cV WSk hts 2 rfl rfl ⟨by decide, by decide⟩ k_105 k_122 k_173 k_174 k_175 (by decide +kernel)) ⟨vq_blind, va_recv hK hP (ci := 4) (q0 := 4) rfl rfl, vq_here hst hS hN hP hK hD⟩ rfl rfl hl.1 rfl (lv_room (Nat.le_of_ble_eq_true rfl)) d_Q_readyVisit_52 ⟨by decide, by decide⟩) hS (fun q _ h => hFc q h) hFc (fun r u t H1 locs ht hvm hw hB hz1 hk1 hS => ?_)
          obtain ⟨hP, -, hD1⟩ := hB
          rw [ht] at hP
          have hD := hD1.weaken (fun _ _ _ h => hFc _ h)
          have hw : r = q11.1 := hw
          subst hw
          generalize H1 = H at hP hS ⊢
          refine W.widen (k := 0) (n := 0) (by decide) (by decide) ?_
          refine lv_istore (lv' := [(5, .int (q11.1)), (4, .int (q9.1)), (3, .int (i5 + 1)), (0, .ref (ad 5)), (1, .int x1), (2, .int x2)]) hx hb d_Q_readyVisit_55 hl (by decide) rfl (fun ls hl => ?_)
          refine lv_aload_n hx hb d_Q_readyVisit_57 rfl (lv_at hl 3 rfl) ?_
          refine g_Q_setBits dC dI ad ca q11.2 hx hb hts hown hK hP k_161 d_Q_readyVisit_58 ?_
          refine lv_iload hx hb d_Q_readyVisit_61 (lv_at hl 0 rfl) ?_
          refine lv_iload_n hx hb d_Q_readyVisit_63 rfl (lv_at hl 5 rfl) ?_
          refine lv_iconst (v := 4) hx hb d_Q_readyVisit_64 (by decide) ?_
          refine lv_imul hx hb d_Q_readyVisit_65 ?_
          refine lv_ishl hx hb d_Q_readyVisit_66 ?_
          obtain ⟨q13, h14, h⟩ := vq_bi h
          have hKe := hK.sub (tys' := []) [] rfl
          refine va_calli (va_runSN (As := [.int (q11.2.1 6), .int ((q11.1) <<< ((x2 * 4) &&& 31))]) (rest := []) ⟨hx, hb, hml, hown, hts⟩ (c_V_holdsAll l htr dC dI N (q11.2.1 6) ((q11.1) <<< ((x2 * 4) &&& 31)) q13 h14 H.size) (vq_cSN WSk hts 2 rfl rfl ⟨by decide, by decide⟩ k_1 k_22 k_165 k_89 (by decide +kernel)) ⟨vq_blind, vq_here hst hS hN vq_P0 hKe vq_D0⟩ rfl rfl hl.1 rfl (lv_room (Nat.le_of_ble_eq_true rfl)) d_Q_readyVisit_67 ⟨by decide, by decide⟩) hS (fun q _ h => vq_keepA h (fun hz => hA q (Nat.le_trans hS.1 hz))) (fun q h => vq_keepA h (fun hz => hA q (Nat.le_trans hS.1 hz))) (fun r u t H1 locs ht hvm hw hB hz1 hk1 hS => ?_)
          have hw : r = q13 := hw
          rw [hw]
          have hP := vq_keepP hP hk1
          generalize H1 = H at hP hS ⊢
          refine W.widen (k := 0) (n := 0) (by decide) (by decide) ?_
          refine lv_if_eq (tgt := 75) hx hb d_Q_readyVisit_70 (by decide) (fun hc15 => ?_) (fun hc15 => ?_)
          ·
            rw [if_pos hc15] at h
            exact J75 _ _ _ _ _ _ h (lv_sub hl [3, 4, 5] rfl) hP hD hS
          ·
            rw [if_neg hc15] at h
            refine lv_iload_n hx hb d_Q_readyVisit_73 rfl (lv_at hl 5 rfl) ?_
            have h9 := Option.some.inj h
            rw [← h9]
            exact W.iret (v := x2) hx hb hr (fun t ht hW => ⟨⟨x2, (), rfl, rfl, by rw [ht]; exact hP, va_K.moved hW.alike hK, hD⟩, hS.F ht⟩) hS.2.2 d_Q_readyVisit_74
  exact L2 N _ _ _ _ _ _ h (lv_sub hl [1, 2, 0] rfl) hP hD hS

set_option maxHeartbeats 4000000 in
set_option maxRecDepth 100000 in
theorem c_Q_isLeaveReady (l : Launch) (htr : l.stackTraces = false) (dC : Nat → ClassId) (dI : Nat → Nat → Nat) (ad : Nat → Nat) (ca : Nat → ClassId) (N : Nat) (σ : vS) (a0 : Int32) (a1 : Int32) (v : Int32 × vS) (h : f_Q_isLeaveReady N σ a0 a1 = some v) (sz : Nat) : Met l y_Q_isLeaveReady WS ({ frames := 2, cells := 0, slots := 0, locals := 44 }) (va_Pc [.ref (ad 5), .int a0, .int a1] (vq_Pre (dC, dI) CL sz (Xw ad ca σ) (Xt ca))) (va_Qi (fun (r : Int32) (_ : Unit) => r = v.1) (fun _ t => vq_Post (dC, dI) CL (va_A (Xw ad ca σ) sz) (Xw ad ca v.2) (Xt ca) t) (va_A (Xw ad ca σ) sz)) 0 0 (va_A (Xw ad ca σ) sz) := by
  refine vq_ofW (cc := prog_6_method_11_code) (maxL := 5) (ret := (Option.some Jvm.ClassFile.FieldType.boolean)) pl_Q (vq_his k_176) ?_
  intro p e s m args below meth c s₁ B hml hv
  obtain ⟨rfl, hst, hsz, hP, hK, hD0⟩ := hv
  have hx := B.exec
  have hb := B.bytes
  have hr := B.returns
  have hts := atoms_spec (ws := WS) B.pre
  have hown : s.vm.findClass R_Q = some m.cls := findClass_of_methodNamed B.named
  have hlocks := B.notSynchronized
  have hno := vq_noH B (hts _ k_176)
  subst hsz
  have hN := vq_ns hP
  have hD := hD0.self (sz := s.heap.size)
  generalize hAe : va_A (Xw ad ca σ) s.heap.size = A at hD hN ⊢
  have hA : ∀ q : Nat, s.heap.size ≤ q → A q := fun q h => by rw [← hAe]; exact Or.inr h
  have hS : va_S A s.heap s.heap [] := va_S.rf
  have hl := lv_entry ([.ref (ad 5), .int a0, .int a1]) (n := 5) (Nat.le_of_ble_eq_true rfl)
  rw [lg_entry_eq]
  generalize (lg_sl ([.ref (ad 5), .int a0, .int a1]) ++ List.replicate (5 - (lg_sl ([.ref (ad 5), .int a0, .int a1])).length) Slot.unset).toArray = ls at hl ⊢
  have hl : lv_has ls 5 [(0, .ref (ad 5)), (1, .int a0), (2, .int a1)] := hl
  unfold f_Q_isLeaveReady at h
  refine lv_aload_n hx hb d_Q_isLeaveReady_0 rfl (lv_at hl 0 rfl) ?_
  refine g_Q_visitsWritten dC dI ad ca σ hx hb hts hown hK hP k_168 d_Q_isLeaveReady_1 ?_
  refine lv_iconst (v := 0) hx hb d_Q_isLeaveReady_4 (by decide) ?_
  obtain ⟨hi1, h⟩ := vq_bd h
  refine al_X18 dC dI ad ca σ hx hb hts hown hK hP hi1 d_Q_isLeaveReady_5 ?_
  obtain ⟨i2, ei2, h⟩ := vq_let h
  refine vq_top ei2.symm ?_
  refine lv_iconst (v := 1) hx hb d_Q_isLeaveReady_6 (by decide) ?_
  refine lv_iadd hx hb d_Q_isLeaveReady_7 ?_
  refine lv_istore_n (lv' := [(3, .int (i2 + 1)), (0, .ref (ad 5)), (1, .int a0), (2, .int a1)]) hx hb d_Q_isLeaveReady_8 rfl hl (by decide) rfl (fun ls hl => ?_)
  refine lv_aload_n hx hb d_Q_isLeaveReady_9 rfl (lv_at hl 1 rfl) ?_
  refine lv_iload_n hx hb d_Q_isLeaveReady_10 rfl (lv_at hl 2 rfl) ?_
  refine lv_iconst (v := 0) hx hb d_Q_isLeaveReady_11 (by decide) ?_
  obtain ⟨q3, h4, h⟩ := vq_bi h
  have hFc := vq_freeAll hD hS hA
  refine va_calli (va_runV (As := [.int a0, .int 0]) (rest := []) ⟨hx, hb, hml, hown, hts⟩ (c_Q_visitsAt l htr dC dI ad ca N σ a0 0 q3 h4 s.heap.size) (vq_cV WSk hts 2 rfl rfl ⟨by decide, by decide⟩ k_155 k_169 k_170 k_171 k_172 (by decide +kernel)) ⟨vq_blind, va_recv hK hP (ci := 5) (q0 := 5) rfl rfl, vq_here hst hS hN hP hK hD⟩ rfl rfl hl.1 rfl (lv_room (Nat.le_of_ble_eq_true rfl)) d_Q_isLeaveReady_12 ⟨by decide, by decide⟩) hS (fun q _ h => hFc q h) hFc (fun r u t H1 locs ht hvm hw hB hz1 hk1 hS => ?_)
  obtain ⟨hP, -, hD1⟩ := hB
  rw [ht] at hP
  have hD := hD1.weaken (fun _ _ _ h => hFc _ h)
  have hw : r = q3.1 := hw
  subst hw
  generalize H1 = H at hP hS ⊢
  refine W.widen (k := 0) (n := 0) (by decide) (by decide) ?_
  refine lv_istore (lv' := [(4, .int (q3.1)), (3, .int (i2 + 1)), (0, .ref (ad 5)), (1, .int a0), (2, .int a1)]) hx hb d_Q_isLeaveReady_15 hl (by decide) rfl (fun ls hl => ?_)
  refine lv_iload_n hx hb d_Q_isLeaveReady_17 rfl (lv_at hl 1 rfl) ?_
  refine lv_iload hx hb d_Q_isLeaveReady_18 (lv_at hl 0 rfl) ?_
  refine lv_icmp_gt (tgt := 64) hx hb d_Q_isLeaveReady_20 (by decide) (fun hc5 => ?_) (fun hc5 => ?_)
  ·
    rw [if_pos hc5] at h
    refine lv_iconst (v := 0) hx hb d_Q_isLeaveReady_64 (by decide) ?_
    have h9 := Option.some.inj h
    rw [← h9]
    exact W.zret (v := 0) (ty := .boolean) hx hb hr (by decide) (fun t ht hW => ⟨⟨0, (), rfl, rfl, by rw [ht]; exact hP, va_K.moved hW.alike hK, hD⟩, hS.F ht⟩) hS.2.2 d_Q_isLeaveReady_65
  ·
    rw [if_neg hc5] at h
    refine lv_iload_n hx hb d_Q_isLeaveReady_23 rfl (lv_at hl 1 rfl) ?_
    refine lv_iload hx hb d_Q_isLeaveReady_24 (lv_at hl 0 rfl) ?_
    have J33 : ∀ (τ : vS) (x1 : Int32) (x3 : Int32) (H : Heap) (locs : List Loc) (ls : Array Slot), f_Q_isLeaveReady_33 N τ x1 x3 = some v → lv_has ls 5 [(0, .ref (ad 5)), (1, .int x1), (3, .int x3)] → va_P (dC, dI) CL (Xw ad ca τ) H → va_D A (Xw ad ca τ) → va_S A s.heap H locs → W p l e (headSpec WS ({ frames := 2, cells := 0, slots := 0, locals := 44 })).room s m ([.ref (ad 5), .int a0, .int a1] : List Value).toArray below meth c H locs 0 0 (MQ below (va_Qi (fun (r : Int32) (_ : Unit) => r = v.1) (fun _ t => vq_Post (dC, dI) CL A (Xw ad ca v.2) (Xt ca) t) A) ([.ref (ad 5), .int a0, .int a1] : List Value).toArray s 0 0 A) (F0 m 33 ls []) := by
      intro τ x1 x3 H locs ls h hl hP hD hS
      unfold f_Q_isLeaveReady_33 at h
      refine lv_aload_n hx hb d_Q_isLeaveReady_33 rfl (lv_at hl 0 rfl) ?_
      refine g_Q_setBits dC dI ad ca τ hx hb hts hown hK hP k_161 d_Q_isLeaveReady_34 ?_
      refine lv_aload_n hx hb d_Q_isLeaveReady_37 rfl (lv_at hl 0 rfl) ?_
      refine g_Q_ranking dC dI ad ca τ hx hb hts hown hK hP k_156 d_Q_isLeaveReady_38 ?_
      refine lv_aload_n hx hb d_Q_isLeaveReady_41 rfl (lv_at hl 0 rfl) ?_
      refine g_Q_grammar dC dI ad ca τ hx hb hts hown hK hP k_153 d_Q_isLeaveReady_42 ?_
      refine lv_iload_n hx hb d_Q_isLeaveReady_45 rfl (lv_at hl 1 rfl) ?_
      refine lv_iconst (v := 0) hx hb d_Q_isLeaveReady_46 (by decide) ?_
      obtain ⟨q6, h7, h⟩ := vq_bi h
      have hFc := vq_freeAll hD hS hA
      refine va_calli (va_runV (As := [.int x1, .int 0]) (rest := [.ref (ad 4), .int (τ.1 6)]) ⟨hx, hb, hml, hown, hts⟩ (c_G_symbolAt l htr dC dI ad ca N τ x1 0 q6 h7 H.size) (vq_cV WSk hts 2 rfl rfl ⟨by decide, by decide⟩ k_40 k_26 k_158 k_81 k_82 (by decide +kernel)) ⟨vq_blind, va_recv hK hP (ci := 1) (q0 := 1) rfl rfl, vq_here hst hS hN hP hK hD⟩ rfl rfl hl.1 rfl (lv_room (Nat.le_of_ble_eq_true rfl)) d_Q_isLeaveReady_47 ⟨by decide, by decide⟩) hS (fun q _ h => hFc q h) hFc (fun r u t H1 locs ht hvm hw hB hz1 hk1 hS => ?_)
      obtain ⟨hP, -, hD1⟩ := hB
      rw [ht] at hP
      have hD := hD1.weaken (fun _ _ _ h => hFc _ h)
      have hw : r = q6.1 := hw
      subst hw
      generalize H1 = H at hP hS ⊢
      refine W.widen (k := 0) (n := 0) (by decide) (by decide) ?_
      refine lv_iload_n hx hb d_Q_isLeaveReady_50 rfl (lv_at hl 2 rfl) ?_
      obtain ⟨q8, h9, h⟩ := vq_bi h
      have hFc := vq_freeAll hD hS hA
      refine va_calli (va_runV (As := [.int (q6.1), .int x3]) (rest := [.int (τ.1 6)]) ⟨hx, hb, hml, hown, hts⟩ (c_K_synthesizedOf l htr dC dI ad ca N q6.2 (q6.1) x3 q8 h9 H.size) (vq_cV WSk hts 2 rfl rfl ⟨by decide, by decide⟩ k_109 k_122 k_177 k_178 k_179 (by decide +kernel)) ⟨vq_blind, va_recv hK hP (ci := 4) (q0 := 4) rfl rfl, vq_here hst hS hN hP hK hD⟩ rfl rfl hl.1 rfl (lv_room (Nat.le_of_ble_eq_true rfl)) d_Q_isLeaveReady_51 ⟨by decide, by decide⟩) hS (fun q _ h => hFc q h) hFc (fun r u t H1 locs ht hvm hw hB hz1 hk1 hS => ?_)
      obtain ⟨hP, -, hD1⟩ := hB
      rw [ht] at hP
      have hD := hD1.weaken (fun _ _ _ h => hFc _ h)
      have hw : r = q8.1 := hw
      subst hw
      generalize H1 = H at hP hS ⊢
      refine W.widen (k := 0) (n := 0) (by decide) (by decide) ?_
      obtain ⟨q10, h11, h⟩ := vq_bi h
      have hKe := hK.sub (tys' := []) [] rfl
      refine va_calli (va_runSN (As := [.int (τ.1 6), .int (q8.1)]) (rest := []) ⟨hx, hb, hml, hown, hts⟩ (c_V_holdsAll l htr dC dI N (τ.1 6) (q8.1) q10 h11 H.size) (vq_cSN WSk hts 2 rfl rfl ⟨by decide, by decide⟩ k_1 k_22 k_165 k_89 (by decide +kernel)) ⟨vq_blind, vq_here hst hS hN vq_P0 hKe vq_D0⟩ rfl rfl hl.1 rfl (lv_room (Nat.le_of_ble_eq_true rfl)) d_Q_isLeaveReady_54 ⟨by decide, by decide⟩) hS (fun q _ h => vq_keepA h (fun hz => hA q (Nat.le_trans hS.1 hz))) (fun q h => vq_keepA h (fun hz => hA q (Nat.le_trans hS.1 hz))) (fun r u t H1 locs ht hvm hw hB hz1 hk1 hS => ?_)
      have hw : r = q10 := hw
      rw [hw]
      have hP := vq_keepP hP hk1
      generalize H1 = H at hP hS ⊢
      refine W.widen (k := 0) (n := 0) (by decide) (by decide) ?_
      refine lv_if_eq (tgt := 64) hx hb d_Q_isLeaveReady_57 (by decide) (fun hc12 => ?_) (fun hc12 => ?_)
      ·
        rw [if_pos hc12] at h
        refine lv_iconst (v := 0) hx hb d_Q_isLeaveReady_64 (by decide) ?_
        have h9 := Option.some.inj h
        rw [← h9]
        exact W.zret (v := 0) (ty := .boolean) hx hb hr (by decide) (fun t ht hW => ⟨⟨0, (), rfl, rfl, by rw [ht]; exact hP, va_K.moved hW.alike hK, hD⟩, hS.F ht⟩) hS.2.2 d_Q_isLeaveReady_65
      ·
        rw [if_neg hc12] at h
        refine lv_iconst (v := 1) hx hb d_Q_isLeaveReady_60 (by decide) ?_
        refine lv_goto (tgt := 65) hx hb d_Q_isLeaveReady_61 (by decide) ?_
        have h9 := Option.some.inj h
        rw [← h9]
        exact W.zret (v := 1) (ty := .boolean) hx hb hr (by decide) (fun t ht hW => ⟨⟨1, (), rfl, rfl, by rw [ht]; exact hP, va_K.moved hW.alike hK, hD⟩, hS.F ht⟩) hS.2.2 d_Q_isLeaveReady_65
    refine lv_icmp_lt (tgt := 33) hx hb d_Q_isLeaveReady_26 (by decide) (fun hc13 => ?_) (fun hc13 => ?_)
    ·
      rw [if_pos hc13] at h
      exact J33 _ _ _ _ _ _ h (lv_sub hl [2, 3, 1] rfl) hP hD hS
    ·
      rw [if_neg hc13] at h
      refine lv_iload_n hx hb d_Q_isLeaveReady_29 rfl (lv_at hl 4 rfl) ?_
      refine lv_if_eq (tgt := 64) hx hb d_Q_isLeaveReady_30 (by decide) (fun hc14 => ?_) (fun hc14 => ?_)
      ·
        rw [if_pos hc14] at h
        refine lv_iconst (v := 0) hx hb d_Q_isLeaveReady_64 (by decide) ?_
        have h9 := Option.some.inj h
        rw [← h9]
        exact W.zret (v := 0) (ty := .boolean) hx hb hr (by decide) (fun t ht hW => ⟨⟨0, (), rfl, rfl, by rw [ht]; exact hP, va_K.moved hW.alike hK, hD⟩, hS.F ht⟩) hS.2.2 d_Q_isLeaveReady_65
      ·
        rw [if_neg hc14] at h
        exact J33 _ _ _ _ _ _ h (lv_sub hl [2, 3, 1] rfl) hP hD hS

set_option maxHeartbeats 4000000 in
set_option maxRecDepth 100000 in
theorem c_Q_writeSet (l : Launch) (htr : l.stackTraces = false) (dC : Nat → ClassId) (dI : Nat → Nat → Nat) (ad : Nat → Nat) (ca : Nat → ClassId) (N : Nat) (σ : vS) (a0 : Int32) (v : Int32 × vS) (h : f_Q_writeSet N σ a0 = some v) (sz : Nat) : Met l y_Q_writeSet WS ({ frames := 0, cells := 0, slots := 0, locals := 0 }) (va_Pc [.ref (ad 5), .int a0] (vq_Pre (dC, dI) CL sz (Xw ad ca σ) (Xt ca))) (va_Qi (fun (r : Int32) (_ : Unit) => r = v.1) (fun _ t => vq_Post (dC, dI) CL (va_A (Xw ad ca σ) sz) (Xw ad ca v.2) (Xt ca) t) (va_A (Xw ad ca σ) sz)) 0 0 (va_A (Xw ad ca σ) sz) := by
  refine vq_ofW (cc := prog_6_method_12_code) (maxL := 2) (ret := (Option.some Jvm.ClassFile.FieldType.int)) pl_Q (vq_his k_180) ?_
  intro p e s m args below meth c s₁ B hml hv
  obtain ⟨rfl, hst, hsz, hP, hK, hD0⟩ := hv
  have hx := B.exec
  have hb := B.bytes
  have hr := B.returns
  have hts := atoms_spec (ws := WS) B.pre
  have hown : s.vm.findClass R_Q = some m.cls := findClass_of_methodNamed B.named
  have hlocks := B.notSynchronized
  have hno := vq_noH B (hts _ k_180)
  subst hsz
  have hN := vq_ns hP
  have hD := hD0.self (sz := s.heap.size)
  generalize hAe : va_A (Xw ad ca σ) s.heap.size = A at hD hN ⊢
  have hA : ∀ q : Nat, s.heap.size ≤ q → A q := fun q h => by rw [← hAe]; exact Or.inr h
  have hS : va_S A s.heap s.heap [] := va_S.rf
  have hl := lv_entry ([.ref (ad 5), .int a0]) (n := 2) (Nat.le_of_ble_eq_true rfl)
  rw [lg_entry_eq]
  generalize (lg_sl ([.ref (ad 5), .int a0]) ++ List.replicate (2 - (lg_sl ([.ref (ad 5), .int a0])).length) Slot.unset).toArray = ls at hl ⊢
  have hl : lv_has ls 2 [(0, .ref (ad 5)), (1, .int a0)] := hl
  unfold f_Q_writeSet at h
  refine lv_aload_n hx hb d_Q_writeSet_0 rfl (lv_at hl 0 rfl) ?_
  refine lv_dup hx hb d_Q_writeSet_1 rfl ?_
  refine g_Q_setBits dC dI ad ca σ hx hb hts hown hK hP k_161 d_Q_writeSet_2 ?_
  refine lv_iconst (v := 1) hx hb d_Q_writeSet_5 (by decide) ?_
  refine lv_iload_n hx hb d_Q_writeSet_6 rfl (lv_at hl 1 rfl) ?_
  refine lv_ishl hx hb d_Q_writeSet_7 ?_
  refine lv_ior hx hb d_Q_writeSet_8 ?_
  obtain ⟨i1, ei1, h⟩ := vq_let h
  refine vq_top ei1.symm ?_
  refine p_Q_setBits dC dI ad ca σ hx hb hts hown hK hP hD hS k_161 d_Q_writeSet_9 (fun H locs hP hD hS => ?_)
  obtain ⟨σ2, eσ2, h⟩ := vq_let h
  rw [← eσ2] at hP hD
  refine lv_aload_n hx hb d_Q_writeSet_12 rfl (lv_at hl 0 rfl) ?_
  refine lv_dup hx hb d_Q_writeSet_13 rfl ?_
  refine g_Q_knownBits dC dI ad ca σ2 hx hb hts hown hK hP k_163 d_Q_writeSet_14 ?_
  refine lv_iconst (v := 1) hx hb d_Q_writeSet_17 (by decide) ?_
  refine lv_iload_n hx hb d_Q_writeSet_18 rfl (lv_at hl 1 rfl) ?_
  refine lv_ishl hx hb d_Q_writeSet_19 ?_
  refine lv_ior hx hb d_Q_writeSet_20 ?_
  obtain ⟨i3, ei3, h⟩ := vq_let h
  refine vq_top ei3.symm ?_
  refine p_Q_knownBits dC dI ad ca σ2 hx hb hts hown hK hP hD hS k_163 d_Q_writeSet_21 (fun H locs hP hD hS => ?_)
  obtain ⟨σ4, eσ4, h⟩ := vq_let h
  rw [← eσ4] at hP hD
  refine lv_iload_n hx hb d_Q_writeSet_24 rfl (lv_at hl 1 rfl) ?_
  have h9 := Option.some.inj h
  rw [← h9]
  exact W.iret (v := a0) hx hb hr (fun t ht hW => ⟨⟨a0, (), rfl, rfl, by rw [ht]; exact hP, va_K.moved hW.alike hK, hD⟩, hS.F ht⟩) hS.2.2 d_Q_writeSet_25

set_option maxHeartbeats 4000000 in
set_option maxRecDepth 100000 in
theorem c_Q_writeVisit (l : Launch) (htr : l.stackTraces = false) (dC : Nat → ClassId) (dI : Nat → Nat → Nat) (ad : Nat → Nat) (ca : Nat → ClassId) (N : Nat) (σ : vS) (a0 : Int32) (a1 : Int32) (v : Int32 × vS) (h : f_Q_writeVisit N σ a0 a1 = some v) (sz : Nat) : Met l y_Q_writeVisit WS ({ frames := 1, cells := 0, slots := 0, locals := 22 }) (va_Pc [.ref (ad 5), .int a0, .int a1] (vq_Pre (dC, dI) CL sz (Xw ad ca σ) (Xt ca))) (va_Qi (fun (r : Int32) (_ : Unit) => r = v.1) (fun _ t => vq_Post (dC, dI) CL (va_A (Xw ad ca σ) sz) (Xw ad ca v.2) (Xt ca) t) (va_A (Xw ad ca σ) sz)) 0 0 (va_A (Xw ad ca σ) sz) := by
  refine vq_ofW (cc := prog_6_method_13_code) (maxL := 5) (ret := (Option.some Jvm.ClassFile.FieldType.int)) pl_Q (vq_his k_181) ?_
  intro p e s m args below meth c s₁ B hml hv
  obtain ⟨rfl, hst, hsz, hP, hK, hD0⟩ := hv
  have hx := B.exec
  have hb := B.bytes
  have hr := B.returns
  have hts := atoms_spec (ws := WS) B.pre
  have hown : s.vm.findClass R_Q = some m.cls := findClass_of_methodNamed B.named
  have hlocks := B.notSynchronized
  have hno := vq_noH B (hts _ k_181)
  subst hsz
  have hN := vq_ns hP
  have hD := hD0.self (sz := s.heap.size)
  generalize hAe : va_A (Xw ad ca σ) s.heap.size = A at hD hN ⊢
  have hA : ∀ q : Nat, s.heap.size ≤ q → A q := fun q h => by rw [← hAe]; exact Or.inr h
  have hS : va_S A s.heap s.heap [] := va_S.rf
  have hl := lv_entry ([.ref (ad 5), .int a0, .int a1]) (n := 5) (Nat.le_of_ble_eq_true rfl)
  rw [lg_entry_eq]
  generalize (lg_sl ([.ref (ad 5), .int a0, .int a1]) ++ List.replicate (5 - (lg_sl ([.ref (ad 5), .int a0, .int a1])).length) Slot.unset).toArray = ls at hl ⊢
  have hl : lv_has ls 5 [(0, .ref (ad 5)), (1, .int a0), (2, .int a1)] := hl
  unfold f_Q_writeVisit at h
  refine lv_aload_n hx hb d_Q_writeVisit_0 rfl (lv_at hl 0 rfl) ?_
  refine g_Q_visitsWritten dC dI ad ca σ hx hb hts hown hK hP k_168 d_Q_writeVisit_1 ?_
  refine lv_iload_n hx hb d_Q_writeVisit_4 rfl (lv_at hl 2 rfl) ?_
  refine lv_dup2_11 hx hb d_Q_writeVisit_5 rfl rfl ?_
  obtain ⟨hi1, h⟩ := vq_bd h
  refine al_X18 dC dI ad ca σ hx hb hts hown hK hP hi1 d_Q_writeVisit_6 ?_
  obtain ⟨i2, ei2, h⟩ := vq_let h
  refine vq_top ei2.symm ?_
  refine lv_iconst (v := 1) hx hb d_Q_writeVisit_7 (by decide) ?_
  refine lv_iadd hx hb d_Q_writeVisit_8 ?_
  refine lv_dup_x2 hx hb d_Q_writeVisit_9 rfl rfl rfl ?_
  obtain ⟨hi3, h⟩ := vq_bd h
  refine as_X18 dC dI ad ca σ hx hb hts hown hK hP hD hS hi3 d_Q_writeVisit_10 (fun H locs hP hD hS => ?_)
  obtain ⟨σ4, eσ4, h⟩ := vq_let h
  rw [← eσ4] at hP hD
  refine lv_istore_n (lv' := [(3, .int (i2 + 1)), (0, .ref (ad 5)), (1, .int a0), (2, .int a1)]) hx hb d_Q_writeVisit_11 rfl hl (by decide) rfl (fun ls hl => ?_)
  refine lv_aload_n hx hb d_Q_writeVisit_12 rfl (lv_at hl 1 rfl) ?_
  refine g_Q_ranking dC dI ad ca σ4 hx hb hts hown hK hP k_156 d_Q_writeVisit_13 ?_
  refine lv_aload_n hx hb d_Q_writeVisit_16 rfl (lv_at hl 1 rfl) ?_
  refine g_Q_grammar dC dI ad ca σ4 hx hb hts hown hK hP k_153 d_Q_writeVisit_17 ?_
  refine lv_iload_n hx hb d_Q_writeVisit_20 rfl (lv_at hl 2 rfl) ?_
  refine lv_iload_n hx hb d_Q_writeVisit_21 rfl (lv_at hl 3 rfl) ?_
  obtain ⟨q5, h6, h⟩ := vq_bi h
  have hFc := vq_freeAll hD hS hA
  refine va_calli (va_runV (As := [.int a0, .int a1]) (rest := [.ref (ad 4)]) ⟨hx, hb, hml, hown, hts⟩ (c_G_symbolAt l htr dC dI ad ca N σ4 a0 a1 q5 h6 H.size) (vq_cV WSk hts 2 rfl rfl ⟨by decide, by decide⟩ k_40 k_26 k_158 k_81 k_82 (by decide +kernel)) ⟨vq_blind, va_recv hK hP (ci := 1) (q0 := 1) rfl rfl, vq_here hst hS hN hP hK hD⟩ rfl rfl hl.1 rfl (lv_room (Nat.le_of_ble_eq_true rfl)) d_Q_writeVisit_22 ⟨by decide, by decide⟩) hS (fun q _ h => hFc q h) hFc (fun r u t H1 locs ht hvm hw hB hz1 hk1 hS => ?_)
  obtain ⟨hP, -, hD1⟩ := hB
  rw [ht] at hP
  have hD := hD1.weaken (fun _ _ _ h => hFc _ h)
  have hw : r = q5.1 := hw
  subst hw
  generalize H1 = H at hP hS ⊢
  refine W.widen (k := 0) (n := 0) (by decide) (by decide) ?_
  refine lv_iload_n hx hb d_Q_writeVisit_25 rfl (lv_at hl 0 rfl) ?_
  obtain ⟨q7, h8, h⟩ := vq_bi h
  have hFc := vq_freeAll hD hS hA
  refine va_calli (va_runV (As := [.int (q5.1), .int (i2 + 1)]) (rest := []) ⟨hx, hb, hml, hown, hts⟩ (c_K_synthesizedOf l htr dC dI ad ca N q5.2 (q5.1) (i2 + 1) q7 h8 H.size) (vq_cV WSk hts 2 rfl rfl ⟨by decide, by decide⟩ k_109 k_122 k_177 k_178 k_179 (by decide +kernel)) ⟨vq_blind, va_recv hK hP (ci := 4) (q0 := 4) rfl rfl, vq_here hst hS hN hP hK hD⟩ rfl rfl hl.1 rfl (lv_room (Nat.le_of_ble_eq_true rfl)) d_Q_writeVisit_26 ⟨by decide, by decide⟩) hS (fun q _ h => hFc q h) hFc (fun r u t H1 locs ht hvm hw hB hz1 hk1 hS => ?_)
  obtain ⟨hP, -, hD1⟩ := hB
  rw [ht] at hP
  have hD := hD1.weaken (fun _ _ _ h => hFc _ h)
  have hw : r = q7.1 := hw
  subst hw
  generalize H1 = H at hP hS ⊢
  refine W.widen (k := 0) (n := 0) (by decide) (by decide) ?_
  refine lv_istore (lv' := [(4, .int (q7.1)), (3, .int (i2 + 1)), (0, .ref (ad 5)), (1, .int a0), (2, .int a1)]) hx hb d_Q_writeVisit_29 hl (by decide) rfl (fun ls hl => ?_)
  refine lv_aload_n hx hb d_Q_writeVisit_31 rfl (lv_at hl 2 rfl) ?_
  refine lv_dup hx hb d_Q_writeVisit_32 rfl ?_
  refine g_Q_knownBits dC dI ad ca q7.2 hx hb hts hown hK hP k_163 d_Q_writeVisit_33 ?_
  refine lv_iload hx hb d_Q_writeVisit_36 (lv_at hl 0 rfl) ?_
  refine lv_iload_n hx hb d_Q_writeVisit_38 rfl (lv_at hl 4 rfl) ?_
  refine lv_iconst (v := 4) hx hb d_Q_writeVisit_39 (by decide) ?_
  refine lv_imul hx hb d_Q_writeVisit_40 ?_
  refine lv_ishl hx hb d_Q_writeVisit_41 ?_
  refine lv_ior hx hb d_Q_writeVisit_42 ?_
  obtain ⟨i9, ei9, h⟩ := vq_let h
  refine vq_top ei9.symm ?_
  refine p_Q_knownBits dC dI ad ca q7.2 hx hb hts hown hK hP hD hS k_163 d_Q_writeVisit_43 (fun H locs hP hD hS => ?_)
  obtain ⟨σ10, eσ10, h⟩ := vq_let h
  rw [← eσ10] at hP hD
  refine lv_bipush (v := 100) hx hb d_Q_writeVisit_46 (by decide) ?_
  refine lv_iload_n hx hb d_Q_writeVisit_48 rfl (lv_at hl 4 rfl) ?_
  refine lv_imul hx hb d_Q_writeVisit_49 ?_
  refine lv_iload_n hx hb d_Q_writeVisit_50 rfl (lv_at hl 1 rfl) ?_
  refine lv_iadd hx hb d_Q_writeVisit_51 ?_
  obtain ⟨i11, ei11, h⟩ := vq_let h
  refine vq_top ei11.symm ?_
  have h9 := Option.some.inj h
  rw [← h9]
  exact W.iret (v := i11) hx hb hr (fun t ht hW => ⟨⟨i11, (), rfl, rfl, by rw [ht]; exact hP, va_K.moved hW.alike hK, hD⟩, hS.F ht⟩) hS.2.2 d_Q_writeVisit_52

set_option maxHeartbeats 4000000 in
set_option maxRecDepth 100000 in
theorem c_Q_writeLeave (l : Launch) (htr : l.stackTraces = false) (dC : Nat → ClassId) (dI : Nat → Nat → Nat) (ad : Nat → Nat) (ca : Nat → ClassId) (N : Nat) (σ : vS) (a0 : Int32) (v : Int32 × vS) (h : f_Q_writeLeave N σ a0 = some v) (sz : Nat) : Met l y_Q_writeLeave WS ({ frames := 2, cells := 0, slots := 0, locals := 44 }) (va_Pc [.ref (ad 5), .int a0] (vq_Pre (dC, dI) CL sz (Xw ad ca σ) (Xt ca))) (va_Qi (fun (r : Int32) (_ : Unit) => r = v.1) (fun _ t => vq_Post (dC, dI) CL (va_A (Xw ad ca σ) sz) (Xw ad ca v.2) (Xt ca) t) (va_A (Xw ad ca σ) sz)) 0 0 (va_A (Xw ad ca σ) sz) := by
  refine vq_ofW (cc := prog_6_method_14_code) (maxL := 3) (ret := (Option.some Jvm.ClassFile.FieldType.int)) pl_Q (vq_his k_182) ?_
  intro p e s m args below meth c s₁ B hml hv
  obtain ⟨rfl, hst, hsz, hP, hK, hD0⟩ := hv
  have hx := B.exec
  have hb := B.bytes
  have hr := B.returns
  have hts := atoms_spec (ws := WS) B.pre
  have hown : s.vm.findClass R_Q = some m.cls := findClass_of_methodNamed B.named
  have hlocks := B.notSynchronized
  have hno := vq_noH B (hts _ k_182)
  subst hsz
  have hN := vq_ns hP
  have hD := hD0.self (sz := s.heap.size)
  generalize hAe : va_A (Xw ad ca σ) s.heap.size = A at hD hN ⊢
  have hA : ∀ q : Nat, s.heap.size ≤ q → A q := fun q h => by rw [← hAe]; exact Or.inr h
  have hS : va_S A s.heap s.heap [] := va_S.rf
  have hl := lv_entry ([.ref (ad 5), .int a0]) (n := 3) (Nat.le_of_ble_eq_true rfl)
  rw [lg_entry_eq]
  generalize (lg_sl ([.ref (ad 5), .int a0]) ++ List.replicate (3 - (lg_sl ([.ref (ad 5), .int a0])).length) Slot.unset).toArray = ls at hl ⊢
  have hl : lv_has ls 3 [(0, .ref (ad 5)), (1, .int a0)] := hl
  unfold f_Q_writeLeave at h
  refine lv_aload_n hx hb d_Q_writeLeave_0 rfl (lv_at hl 0 rfl) ?_
  refine g_Q_visitsWritten dC dI ad ca σ hx hb hts hown hK hP k_168 d_Q_writeLeave_1 ?_
  refine lv_iconst (v := 0) hx hb d_Q_writeLeave_4 (by decide) ?_
  refine lv_dup2_11 hx hb d_Q_writeLeave_5 rfl rfl ?_
  obtain ⟨hi1, h⟩ := vq_bd h
  refine al_X18 dC dI ad ca σ hx hb hts hown hK hP hi1 d_Q_writeLeave_6 ?_
  obtain ⟨i2, ei2, h⟩ := vq_let h
  refine vq_top ei2.symm ?_
  refine lv_iconst (v := 1) hx hb d_Q_writeLeave_7 (by decide) ?_
  refine lv_iadd hx hb d_Q_writeLeave_8 ?_
  refine lv_dup_x2 hx hb d_Q_writeLeave_9 rfl rfl rfl ?_
  obtain ⟨hi3, h⟩ := vq_bd h
  refine as_X18 dC dI ad ca σ hx hb hts hown hK hP hD hS hi3 d_Q_writeLeave_10 (fun H locs hP hD hS => ?_)
  obtain ⟨σ4, eσ4, h⟩ := vq_let h
  rw [← eσ4] at hP hD
  refine lv_istore_n (lv' := [(2, .int (i2 + 1)), (0, .ref (ad 5)), (1, .int a0)]) hx hb d_Q_writeLeave_11 rfl hl (by decide) rfl (fun ls hl => ?_)
  refine lv_iload_n hx hb d_Q_writeLeave_12 rfl (lv_at hl 0 rfl) ?_
  refine lv_aload_n hx hb d_Q_writeLeave_13 rfl (lv_at hl 1 rfl) ?_
  refine lv_iload_n hx hb d_Q_writeLeave_14 rfl (lv_at hl 2 rfl) ?_
  refine lv_iconst (v := 0) hx hb d_Q_writeLeave_15 (by decide) ?_
  obtain ⟨q5, h6, h⟩ := vq_bi h
  have hFc := vq_freeAll hD hS hA
  refine va_calli (va_runV (As := [.int a0, .int 0]) (rest := [.int (i2 + 1)]) ⟨hx, hb, hml, hown, hts⟩ (c_Q_visitsAt l htr dC dI ad ca N σ4 a0 0 q5 h6 H.size) (vq_cV WSk hts 2 rfl rfl ⟨by decide, by decide⟩ k_155 k_169 k_170 k_171 k_172 (by decide +kernel)) ⟨vq_blind, va_recv hK hP (ci := 5) (q0 := 5) rfl rfl, vq_here hst hS hN hP hK hD⟩ rfl rfl hl.1 rfl (lv_room (Nat.le_of_ble_eq_true rfl)) d_Q_writeLeave_16 ⟨by decide, by decide⟩) hS (fun q _ h => hFc q h) hFc (fun r u t H1 locs ht hvm hw hB hz1 hk1 hS => ?_)
  obtain ⟨hP, -, hD1⟩ := hB
  rw [ht] at hP
  have hD := hD1.weaken (fun _ _ _ h => hFc _ h)
  have hw : r = q5.1 := hw
  subst hw
  generalize H1 = H at hP hS ⊢
  refine W.widen (k := 0) (n := 0) (by decide) (by decide) ?_
  have J50 : ∀ (τ : vS) (x2 : Int32) (H : Heap) (locs : List Loc) (ls : Array Slot), f_Q_writeLeave_50 N τ x2 = some v → lv_has ls 3 [(2, .int x2)] → va_P (dC, dI) CL (Xw ad ca τ) H → va_D A (Xw ad ca τ) → va_S A s.heap H locs → W p l e (headSpec WS ({ frames := 2, cells := 0, slots := 0, locals := 44 })).room s m ([.ref (ad 5), .int a0] : List Value).toArray below meth c H locs 0 0 (MQ below (va_Qi (fun (r : Int32) (_ : Unit) => r = v.1) (fun _ t => vq_Post (dC, dI) CL A (Xw ad ca v.2) (Xt ca) t) A) ([.ref (ad 5), .int a0] : List Value).toArray s 0 0 A) (F0 m 50 ls []) := by
    intro τ x2 H locs ls h hl hP hD hS
    unfold f_Q_writeLeave_50 at h
    refine lv_sipush (v := 1000) hx hb d_Q_writeLeave_50 (by decide) ?_
    refine lv_iload_n hx hb d_Q_writeLeave_53 rfl (lv_at hl 0 rfl) ?_
    refine lv_iadd hx hb d_Q_writeLeave_54 ?_
    have h9 := Option.some.inj h
    rw [← h9]
    exact W.iret (v := ((1000 : Int32) + x2)) hx hb hr (fun t ht hW => ⟨⟨((1000 : Int32) + x2), (), rfl, rfl, by rw [ht]; exact hP, va_K.moved hW.alike hK, hD⟩, hS.F ht⟩) hS.2.2 d_Q_writeLeave_55
  refine lv_icmp_ge (tgt := 50) hx hb d_Q_writeLeave_19 (by decide) (fun hc7 => ?_) (fun hc7 => ?_)
  ·
    rw [if_pos hc7] at h
    exact J50 _ _ _ _ _ h (lv_sub hl [0] rfl) hP hD hS
  ·
    rw [if_neg hc7] at h
    refine lv_aload_n hx hb d_Q_writeLeave_22 rfl (lv_at hl 1 rfl) ?_
    refine lv_dup hx hb d_Q_writeLeave_23 rfl ?_
    refine g_Q_knownBits dC dI ad ca q5.2 hx hb hts hown hK hP k_163 d_Q_writeLeave_24 ?_
    refine lv_aload_n hx hb d_Q_writeLeave_27 rfl (lv_at hl 1 rfl) ?_
    refine g_Q_ranking dC dI ad ca q5.2 hx hb hts hown hK hP k_156 d_Q_writeLeave_28 ?_
    refine lv_aload_n hx hb d_Q_writeLeave_31 rfl (lv_at hl 1 rfl) ?_
    refine g_Q_grammar dC dI ad ca q5.2 hx hb hts hown hK hP k_153 d_Q_writeLeave_32 ?_
    refine lv_iload_n hx hb d_Q_writeLeave_35 rfl (lv_at hl 2 rfl) ?_
    refine lv_iconst (v := 0) hx hb d_Q_writeLeave_36 (by decide) ?_
    obtain ⟨q8, h9, h⟩ := vq_bi h
    have hFc := vq_freeAll hD hS hA
    refine va_calli (va_runV (As := [.int a0, .int 0]) (rest := [.ref (ad 4), .int (q5.2.1 7), .ref (ad 5)]) ⟨hx, hb, hml, hown, hts⟩ (c_G_symbolAt l htr dC dI ad ca N q5.2 a0 0 q8 h9 H.size) (vq_cV WSk hts 2 rfl rfl ⟨by decide, by decide⟩ k_40 k_26 k_158 k_81 k_82 (by decide +kernel)) ⟨vq_blind, va_recv hK hP (ci := 1) (q0 := 1) rfl rfl, vq_here hst hS hN hP hK hD⟩ rfl rfl hl.1 rfl (lv_room (Nat.le_of_ble_eq_true rfl)) d_Q_writeLeave_37 ⟨by decide, by decide⟩) hS (fun q _ h => hFc q h) hFc (fun r u t H1 locs ht hvm hw hB hz1 hk1 hS => ?_)
    obtain ⟨hP, -, hD1⟩ := hB
    rw [ht] at hP
    have hD := hD1.weaken (fun _ _ _ h => hFc _ h)
    have hw : r = q8.1 := hw
    subst hw
    generalize H1 = H at hP hS ⊢
    refine W.widen (k := 0) (n := 0) (by decide) (by decide) ?_
    refine lv_iload_n hx hb d_Q_writeLeave_40 rfl (lv_at hl 0 rfl) ?_
    refine lv_iconst (v := 1) hx hb d_Q_writeLeave_41 (by decide) ?_
    refine lv_iadd hx hb d_Q_writeLeave_42 ?_
    obtain ⟨q10, h11, h⟩ := vq_bi h
    have hFc := vq_freeAll hD hS hA
    refine va_calli (va_runV (As := [.int (q8.1), .int ((i2 + 1) + 1)]) (rest := [.int (q5.2.1 7), .ref (ad 5)]) ⟨hx, hb, hml, hown, hts⟩ (c_K_inheritedOf l htr dC dI ad ca N q8.2 (q8.1) ((i2 + 1) + 1) q10 h11 H.size) (vq_cV WSk hts 2 rfl rfl ⟨by decide, by decide⟩ k_105 k_122 k_173 k_174 k_175 (by decide +kernel)) ⟨vq_blind, va_recv hK hP (ci := 4) (q0 := 4) rfl rfl, vq_here hst hS hN hP hK hD⟩ rfl rfl hl.1 rfl (lv_room (Nat.le_of_ble_eq_true rfl)) d_Q_writeLeave_43 ⟨by decide, by decide⟩) hS (fun q _ h => hFc q h) hFc (fun r u t H1 locs ht hvm hw hB hz1 hk1 hS => ?_)
    obtain ⟨hP, -, hD1⟩ := hB
    rw [ht] at hP
    have hD := hD1.weaken (fun _ _ _ h => hFc _ h)
    have hw : r = q10.1 := hw
    subst hw
    generalize H1 = H at hP hS ⊢
    refine W.widen (k := 0) (n := 0) (by decide) (by decide) ?_
    refine lv_ior hx hb d_Q_writeLeave_46 ?_
    refine p_Q_knownBits dC dI ad ca q10.2 hx hb hts hown hK hP hD hS k_163 d_Q_writeLeave_47 (fun H locs hP hD hS => ?_)
    obtain ⟨σ12, eσ12, h⟩ := vq_let h
    rw [← eσ12] at hP hD
    exact J50 _ _ _ _ _ h (lv_sub hl [0] rfl) hP hD hS

set_option maxHeartbeats 4000000 in
set_option maxRecDepth 100000 in
theorem c_Q_writeNext (l : Launch) (htr : l.stackTraces = false) (dC : Nat → ClassId) (dI : Nat → Nat → Nat) (ad : Nat → Nat) (ca : Nat → ClassId) (N : Nat) (σ : vS) (a0 : Int32) (a1 : Int32) (v : Int32 × vS) (h : f_Q_writeNext N σ a0 a1 = some v) (sz : Nat) : Met l y_Q_writeNext WS ({ frames := 3, cells := 0, slots := 0, locals := 69 }) (va_Pc [.ref (ad 5), .int a0, .int a1] (vq_Pre (dC, dI) CL sz (Xw ad ca σ) (Xt ca))) (va_Qi (fun (r : Int32) (_ : Unit) => r = v.1) (fun _ t => vq_Post (dC, dI) CL (va_A (Xw ad ca σ) sz) (Xw ad ca v.2) (Xt ca) t) (va_A (Xw ad ca σ) sz)) 0 0 (va_A (Xw ad ca σ) sz) := by
  refine vq_ofW (cc := prog_6_method_8_code) (maxL := 5) (ret := (Option.some Jvm.ClassFile.FieldType.int)) pl_Q (vq_his k_183) ?_
  intro p e s m args below meth c s₁ B hml hv
  obtain ⟨rfl, hst, hsz, hP, hK, hD0⟩ := hv
  have hx := B.exec
  have hb := B.bytes
  have hr := B.returns
  have hts := atoms_spec (ws := WS) B.pre
  have hown : s.vm.findClass R_Q = some m.cls := findClass_of_methodNamed B.named
  have hlocks := B.notSynchronized
  have hno := vq_noH B (hts _ k_183)
  subst hsz
  have hN := vq_ns hP
  have hD := hD0.self (sz := s.heap.size)
  generalize hAe : va_A (Xw ad ca σ) s.heap.size = A at hD hN ⊢
  have hA : ∀ q : Nat, s.heap.size ≤ q → A q := fun q h => by rw [← hAe]; exact Or.inr h
  have hS : va_S A s.heap s.heap [] := va_S.rf
  have hl := lv_entry ([.ref (ad 5), .int a0, .int a1]) (n := 5) (Nat.le_of_ble_eq_true rfl)
  rw [lg_entry_eq]
  generalize (lg_sl ([.ref (ad 5), .int a0, .int a1]) ++ List.replicate (5 - (lg_sl ([.ref (ad 5), .int a0, .int a1])).length) Slot.unset).toArray = ls at hl ⊢
  have hl : lv_has ls 5 [(0, .ref (ad 5)), (1, .int a0), (2, .int a1)] := hl
  unfold f_Q_writeNext at h
  refine lv_aload_n hx hb d_Q_writeNext_0 rfl (lv_at hl 0 rfl) ?_
  refine lv_iload_n hx hb d_Q_writeNext_1 rfl (lv_at hl 1 rfl) ?_
  obtain ⟨q1, h2, h⟩ := vq_bi h
  have hFc := vq_freeAll hD hS hA
  refine va_calli (va_runV (As := [.int a0]) (rest := []) ⟨hx, hb, hml, hown, hts⟩ (c_Q_readySet l htr dC dI ad ca N σ a0 q1 h2 s.heap.size) (vq_cV WSk hts 1 rfl rfl ⟨by decide, by decide⟩ k_159 k_169 k_184 k_185 k_186 (by decide +kernel)) ⟨vq_blind, va_recv hK hP (ci := 5) (q0 := 5) rfl rfl, vq_here hst hS hN hP hK hD⟩ rfl rfl hl.1 rfl (lv_room (Nat.le_of_ble_eq_true rfl)) d_Q_writeNext_2 ⟨by decide, by decide⟩) hS (fun q _ h => hFc q h) hFc (fun r u t H1 locs ht hvm hw hB hz1 hk1 hS => ?_)
  obtain ⟨hP, -, hD1⟩ := hB
  rw [ht] at hP
  have hD := hD1.weaken (fun _ _ _ h => hFc _ h)
  have hw : r = q1.1 := hw
  subst hw
  generalize H1 = H at hP hS ⊢
  refine W.widen (k := 0) (n := 0) (by decide) (by decide) ?_
  refine lv_istore_n (lv' := [(3, .int (q1.1)), (0, .ref (ad 5)), (1, .int a0), (2, .int a1)]) hx hb d_Q_writeNext_5 rfl hl (by decide) rfl (fun ls hl => ?_)
  refine lv_iload_n hx hb d_Q_writeNext_6 rfl (lv_at hl 0 rfl) ?_
  refine lv_iconst (v := (-1)) hx hb d_Q_writeNext_7 (by decide) ?_
  refine lv_icmp_eq (tgt := 17) hx hb d_Q_writeNext_8 (by decide) (fun hc3 => ?_) (fun hc3 => ?_)
  ·
    rw [if_pos hc3] at h
    refine lv_aload_n hx hb d_Q_writeNext_17 rfl (lv_at hl 1 rfl) ?_
    refine lv_iload_n hx hb d_Q_writeNext_18 rfl (lv_at hl 2 rfl) ?_
    obtain ⟨q4, h5, h⟩ := vq_bi h
    have hFc := vq_freeAll hD hS hA
    refine va_calli (va_runV (As := [.int a0]) (rest := []) ⟨hx, hb, hml, hown, hts⟩ (c_Q_readyVisit l htr dC dI ad ca N q1.2 a0 q4 h5 H.size) (vq_cV WSk hts 1 rfl rfl ⟨by decide, by decide⟩ k_166 k_169 k_187 k_188 k_189 (by decide +kernel)) ⟨vq_blind, va_recv hK hP (ci := 5) (q0 := 5) rfl rfl, vq_here hst hS hN hP hK hD⟩ rfl rfl hl.1 rfl (lv_room (Nat.le_of_ble_eq_true rfl)) d_Q_writeNext_19 ⟨by decide, by decide⟩) hS (fun q _ h => hFc q h) hFc (fun r u t H1 locs ht hvm hw hB hz1 hk1 hS => ?_)
    obtain ⟨hP, -, hD1⟩ := hB
    rw [ht] at hP
    have hD := hD1.weaken (fun _ _ _ h => hFc _ h)
    have hw : r = q4.1 := hw
    subst hw
    generalize H1 = H at hP hS ⊢
    refine W.widen (k := 0) (n := 0) (by decide) (by decide) ?_
    refine lv_istore (lv' := [(4, .int (q4.1)), (3, .int (q1.1)), (0, .ref (ad 5)), (1, .int a0), (2, .int a1)]) hx hb d_Q_writeNext_22 hl (by decide) rfl (fun ls hl => ?_)
    refine lv_iload hx hb d_Q_writeNext_24 (lv_at hl 0 rfl) ?_
    refine lv_iconst (v := (-1)) hx hb d_Q_writeNext_26 (by decide) ?_
    refine lv_icmp_eq (tgt := 38) hx hb d_Q_writeNext_27 (by decide) (fun hc6 => ?_) (fun hc6 => ?_)
    ·
      rw [if_pos hc6] at h
      refine lv_aload_n hx hb d_Q_writeNext_38 rfl (lv_at hl 2 rfl) ?_
      refine lv_iload_n hx hb d_Q_writeNext_39 rfl (lv_at hl 3 rfl) ?_
      refine lv_iload_n hx hb d_Q_writeNext_40 rfl (lv_at hl 4 rfl) ?_
      obtain ⟨q7, h8, h⟩ := vq_bi h
      have hFc := vq_freeAll hD hS hA
      refine va_calli (va_runV (As := [.int a0, .int a1]) (rest := []) ⟨hx, hb, hml, hown, hts⟩ (c_Q_isLeaveReady l htr dC dI ad ca N q4.2 a0 a1 q7 h8 H.size) (vq_cV WSk hts 2 rfl rfl ⟨by decide, by decide⟩ k_176 k_169 k_190 k_191 k_192 (by decide +kernel)) ⟨vq_blind, va_recv hK hP (ci := 5) (q0 := 5) rfl rfl, vq_here hst hS hN hP hK hD⟩ rfl rfl hl.1 rfl (lv_room (Nat.le_of_ble_eq_true rfl)) d_Q_writeNext_41 ⟨by decide, by decide⟩) hS (fun q _ h => hFc q h) hFc (fun r u t H1 locs ht hvm hw hB hz1 hk1 hS => ?_)
      obtain ⟨hP, -, hD1⟩ := hB
      rw [ht] at hP
      have hD := hD1.weaken (fun _ _ _ h => hFc _ h)
      have hw : r = q7.1 := hw
      subst hw
      generalize H1 = H at hP hS ⊢
      refine W.widen (k := 0) (n := 0) (by decide) (by decide) ?_
      refine lv_if_eq (tgt := 55) hx hb d_Q_writeNext_44 (by decide) (fun hc9 => ?_) (fun hc9 => ?_)
      ·
        rw [if_pos hc9] at h
        refine lv_iconst (v := (-1)) hx hb d_Q_writeNext_55 (by decide) ?_
        have h9 := Option.some.inj h
        rw [← h9]
        exact W.iret (v := ((-1) : Int32)) hx hb hr (fun t ht hW => ⟨⟨((-1) : Int32), (), rfl, rfl, by rw [ht]; exact hP, va_K.moved hW.alike hK, hD⟩, hS.F ht⟩) hS.2.2 d_Q_writeNext_56
      ·
        rw [if_neg hc9] at h
        refine lv_aload_n hx hb d_Q_writeNext_47 rfl (lv_at hl 2 rfl) ?_
        refine lv_iload_n hx hb d_Q_writeNext_48 rfl (lv_at hl 3 rfl) ?_
        obtain ⟨q10, h11, h⟩ := vq_bi h
        have hFc := vq_freeAll hD hS hA
        refine va_calli (va_runV (As := [.int a0]) (rest := []) ⟨hx, hb, hml, hown, hts⟩ (c_Q_writeLeave l htr dC dI ad ca N q7.2 a0 q10 h11 H.size) (vq_cV WSk hts 1 rfl rfl ⟨by decide, by decide⟩ k_182 k_169 k_193 k_194 k_195 (by decide +kernel)) ⟨vq_blind, va_recv hK hP (ci := 5) (q0 := 5) rfl rfl, vq_here hst hS hN hP hK hD⟩ rfl rfl hl.1 rfl (lv_room (Nat.le_of_ble_eq_true rfl)) d_Q_writeNext_49 ⟨by decide, by decide⟩) hS (fun q _ h => hFc q h) hFc (fun r u t H1 locs ht hvm hw hB hz1 hk1 hS => ?_)
        obtain ⟨hP, -, hD1⟩ := hB
        rw [ht] at hP
        have hD := hD1.weaken (fun _ _ _ h => hFc _ h)
        have hw : r = q10.1 := hw
        subst hw
        generalize H1 = H at hP hS ⊢
        refine W.widen (k := 0) (n := 0) (by decide) (by decide) ?_
        refine lv_goto (tgt := 56) hx hb d_Q_writeNext_52 (by decide) ?_
        have h9 := Option.some.inj h
        rw [← h9]
        exact W.iret (v := (q10.1)) hx hb hr (fun t ht hW => ⟨⟨(q10.1), (), rfl, rfl, by rw [ht]; exact hP, va_K.moved hW.alike hK, hD⟩, hS.F ht⟩) hS.2.2 d_Q_writeNext_56
    ·
      rw [if_neg hc6] at h
      refine lv_aload_n hx hb d_Q_writeNext_30 rfl (lv_at hl 2 rfl) ?_
      refine lv_iload_n hx hb d_Q_writeNext_31 rfl (lv_at hl 3 rfl) ?_
      refine lv_iload hx hb d_Q_writeNext_32 (lv_at hl 0 rfl) ?_
      obtain ⟨q12, h13, h⟩ := vq_bi h
      have hFc := vq_freeAll hD hS hA
      refine va_calli (va_runV (As := [.int a0, .int (q4.1)]) (rest := []) ⟨hx, hb, hml, hown, hts⟩ (c_Q_writeVisit l htr dC dI ad ca N q4.2 a0 (q4.1) q12 h13 H.size) (vq_cV WSk hts 2 rfl rfl ⟨by decide, by decide⟩ k_181 k_169 k_196 k_197 k_198 (by decide +kernel)) ⟨vq_blind, va_recv hK hP (ci := 5) (q0 := 5) rfl rfl, vq_here hst hS hN hP hK hD⟩ rfl rfl hl.1 rfl (lv_room (Nat.le_of_ble_eq_true rfl)) d_Q_writeNext_34 ⟨by decide, by decide⟩) hS (fun q _ h => hFc q h) hFc (fun r u t H1 locs ht hvm hw hB hz1 hk1 hS => ?_)
      obtain ⟨hP, -, hD1⟩ := hB
      rw [ht] at hP
      have hD := hD1.weaken (fun _ _ _ h => hFc _ h)
      have hw : r = q12.1 := hw
      subst hw
      generalize H1 = H at hP hS ⊢
      refine W.widen (k := 0) (n := 0) (by decide) (by decide) ?_
      have h9 := Option.some.inj h
      rw [← h9]
      exact W.iret (v := (q12.1)) hx hb hr (fun t ht hW => ⟨⟨(q12.1), (), rfl, rfl, by rw [ht]; exact hP, va_K.moved hW.alike hK, hD⟩, hS.F ht⟩) hS.2.2 d_Q_writeNext_37
  ·
    rw [if_neg hc3] at h
    refine lv_aload_n hx hb d_Q_writeNext_11 rfl (lv_at hl 1 rfl) ?_
    refine lv_iload_n hx hb d_Q_writeNext_12 rfl (lv_at hl 0 rfl) ?_
    obtain ⟨q14, h15, h⟩ := vq_bi h
    have hFc := vq_freeAll hD hS hA
    refine va_calli (va_runV (As := [.int (q1.1)]) (rest := []) ⟨hx, hb, hml, hown, hts⟩ (c_Q_writeSet l htr dC dI ad ca N q1.2 (q1.1) q14 h15 H.size) (vq_cV WSk hts 1 rfl rfl ⟨by decide, by decide⟩ k_180 k_169 k_199 k_200 k_201 (by decide +kernel)) ⟨vq_blind, va_recv hK hP (ci := 5) (q0 := 5) rfl rfl, vq_here hst hS hN hP hK hD⟩ rfl rfl hl.1 rfl (lv_room (Nat.le_of_ble_eq_true rfl)) d_Q_writeNext_13 ⟨by decide, by decide⟩) hS (fun q _ h => hFc q h) hFc (fun r u t H1 locs ht hvm hw hB hz1 hk1 hS => ?_)
    obtain ⟨hP, -, hD1⟩ := hB
    rw [ht] at hP
    have hD := hD1.weaken (fun _ _ _ h => hFc _ h)
    have hw : r = q14.1 := hw
    subst hw
    generalize H1 = H at hP hS ⊢
    refine W.widen (k := 0) (n := 0) (by decide) (by decide) ?_
    have h9 := Option.some.inj h
    rw [← h9]
    exact W.iret (v := (q14.1)) hx hb hr (fun t ht hW => ⟨⟨(q14.1), (), rfl, rfl, by rw [ht]; exact hP, va_K.moved hW.alike hK, hD⟩, hS.F ht⟩) hS.2.2 d_Q_writeNext_16

set_option maxHeartbeats 4000000 in
set_option maxRecDepth 100000 in
theorem c_Q_beginWriting (l : Launch) (htr : l.stackTraces = false) (dC : Nat → ClassId) (dI : Nat → Nat → Nat) (ad : Nat → Nat) (ca : Nat → ClassId) (N : Nat) (σ : vS) (a0 : Int32) (v : Int32 × vS) (h : f_Q_beginWriting N σ a0 = some v) (sz : Nat) : Met l y_Q_beginWriting WS ({ frames := 1, cells := 0, slots := 0, locals := 23 }) (va_Pc [.ref (ad 5), .int a0] (vq_Pre (dC, dI) CL sz (Xw ad ca σ) (Xt ca))) (va_Qv (fun _ : Unit => True) (fun _ t => vq_Post (dC, dI) CL (va_A (Xw ad ca σ) sz) (Xw ad ca v.2) (Xt ca) t) (va_A (Xw ad ca σ) sz)) 0 0 (va_A (Xw ad ca σ) sz) := by
  refine vq_ofW (cc := prog_6_method_5_code) (maxL := 2) (ret := (Option.none : Option Jvm.ClassFile.FieldType)) pl_Q (vq_his k_202) ?_
  intro p e s m args below meth c s₁ B hml hv
  obtain ⟨rfl, hst, hsz, hP, hK, hD0⟩ := hv
  have hx := B.exec
  have hb := B.bytes
  have hr := B.returns
  have hts := atoms_spec (ws := WS) B.pre
  have hown : s.vm.findClass R_Q = some m.cls := findClass_of_methodNamed B.named
  have hlocks := B.notSynchronized
  have hno := vq_noH B (hts _ k_202)
  subst hsz
  have hN := vq_ns hP
  have hD := hD0.self (sz := s.heap.size)
  generalize hAe : va_A (Xw ad ca σ) s.heap.size = A at hD hN ⊢
  have hA : ∀ q : Nat, s.heap.size ≤ q → A q := fun q h => by rw [← hAe]; exact Or.inr h
  have hS : va_S A s.heap s.heap [] := va_S.rf
  have hl := lv_entry ([.ref (ad 5), .int a0]) (n := 2) (Nat.le_of_ble_eq_true rfl)
  rw [lg_entry_eq]
  generalize (lg_sl ([.ref (ad 5), .int a0]) ++ List.replicate (2 - (lg_sl ([.ref (ad 5), .int a0])).length) Slot.unset).toArray = ls at hl ⊢
  have hl : lv_has ls 2 [(0, .ref (ad 5)), (1, .int a0)] := hl
  unfold f_Q_beginWriting at h
  refine lv_aload_n hx hb d_Q_beginWriting_0 rfl (lv_at hl 0 rfl) ?_
  refine g_Q_visitsWritten dC dI ad ca σ hx hb hts hown hK hP k_168 d_Q_beginWriting_1 ?_
  refine lv_iconst (v := 0) hx hb d_Q_beginWriting_4 (by decide) ?_
  have hPc := hP.sub (ws' := [((ad 26), .inl (ca 26, 4, .inl (σ.2 18)))]) [26] rfl
  have hDc := hD.sub (ws' := [((ad 26), .inl (ca 26, 4, .inl (σ.2 18)))]) [26] (by decide) rfl
  have hKc := hK.sub (tys' := [(ca 26, .int)]) [18] rfl
  have hFc := va_free (wc := [((ad 26), .inl (ca 26, 4, .inl (σ.2 18)))]) hD hS hA [26] rfl
  refine va_callv (va_runS (As := [.ref (ad 26), .int 0]) (rest := []) ⟨hx, hb, hml, hown, hts⟩ (c_R_fill l htr dC dI (ad 26) (ca 26) 4 (by decide) (σ.2 18) 0 s.heap.size) (vq_cS WSk hts 2 rfl rfl ⟨by decide, by decide⟩ k_67 k_68 k_203 k_70 (by decide +kernel)) ⟨vq_blind, vq_here hst hS hN hPc hKc hDc⟩ rfl rfl hl.1 rfl (lv_room (Nat.le_of_ble_eq_true rfl)) d_Q_beginWriting_5 ⟨by decide, by decide⟩) hS (fun q _ h => hFc q h) hFc (fun u t H1 locs ht hvm hw hB hz1 hk1 hS => ?_)
  obtain ⟨hP1, -, hD1⟩ := hB
  rw [ht] at hP1
  obtain ⟨hP, hD⟩ := va_join (wr := X26r ad ca σ) (w1 := [((ad 26), .inl (ca 26, 4, .inl (fun _ => 0)))]) hP hD [26] [0, 1, 2, 3, 4, 5, 6, 7, 8, 9, 10, 11, 12, 13, 14, 15, 16, 17, 18, 19, 20, 21, 22, 23, 24, 25, 27, 28, 29, 30, 31, 32, 33, 34] rfl rfl (by decide) (by decide) hk1 hFc hP1 hD1
  have hP := hP.sub (ws' := (Xw ad ca (sfill σ 18 0))) [0, 1, 2, 3, 4, 5, 6, 7, 8, 9, 10, 11, 12, 13, 14, 15, 16, 17, 18, 19, 20, 21, 22, 23, 24, 25, 34, 26, 27, 28, 29, 30, 31, 32, 33] rfl
  have hD := hD.sub (ws' := (Xw ad ca (sfill σ 18 0))) [0, 1, 2, 3, 4, 5, 6, 7, 8, 9, 10, 11, 12, 13, 14, 15, 16, 17, 18, 19, 20, 21, 22, 23, 24, 25, 34, 26, 27, 28, 29, 30, 31, 32, 33] (by decide) rfl
  generalize H1 = H at hP hS ⊢
  refine W.widen (k := 0) (n := 0) (by decide) (by decide) ?_
  obtain ⟨σ1, eσ1, h⟩ := vq_let h
  rw [← eσ1] at hP hD
  refine lv_aload_n hx hb d_Q_beginWriting_8 rfl (lv_at hl 0 rfl) ?_
  refine lv_iconst (v := 0) hx hb d_Q_beginWriting_9 (by decide) ?_
  refine p_Q_setBits dC dI ad ca σ1 hx hb hts hown hK hP hD hS k_161 d_Q_beginWriting_10 (fun H locs hP hD hS => ?_)
  obtain ⟨σ2, eσ2, h⟩ := vq_let h
  rw [← eσ2] at hP hD
  refine lv_aload_n hx hb d_Q_beginWriting_13 rfl (lv_at hl 0 rfl) ?_
  refine lv_aload_n hx hb d_Q_beginWriting_14 rfl (lv_at hl 0 rfl) ?_
  refine g_Q_ranking dC dI ad ca σ2 hx hb hts hown hK hP k_156 d_Q_beginWriting_15 ?_
  refine lv_aload_n hx hb d_Q_beginWriting_18 rfl (lv_at hl 0 rfl) ?_
  refine g_Q_grammar dC dI ad ca σ2 hx hb hts hown hK hP k_153 d_Q_beginWriting_19 ?_
  refine lv_iload_n hx hb d_Q_beginWriting_22 rfl (lv_at hl 1 rfl) ?_
  refine lv_iconst (v := 0) hx hb d_Q_beginWriting_23 (by decide) ?_
  obtain ⟨q3, h4, h⟩ := vq_bi h
  have hFc := vq_freeAll hD hS hA
  refine va_calli (va_runV (As := [.int a0, .int 0]) (rest := [.ref (ad 4), .ref (ad 5)]) ⟨hx, hb, hml, hown, hts⟩ (c_G_symbolAt l htr dC dI ad ca N σ2 a0 0 q3 h4 H.size) (vq_cV WSk hts 2 rfl rfl ⟨by decide, by decide⟩ k_40 k_26 k_158 k_81 k_82 (by decide +kernel)) ⟨vq_blind, va_recv hK hP (ci := 1) (q0 := 1) rfl rfl, vq_here hst hS hN hP hK hD⟩ rfl rfl hl.1 rfl (lv_room (Nat.le_of_ble_eq_true rfl)) d_Q_beginWriting_24 ⟨by decide, by decide⟩) hS (fun q _ h => hFc q h) hFc (fun r u t H1 locs ht hvm hw hB hz1 hk1 hS => ?_)
  obtain ⟨hP, -, hD1⟩ := hB
  rw [ht] at hP
  have hD := hD1.weaken (fun _ _ _ h => hFc _ h)
  have hw : r = q3.1 := hw
  subst hw
  generalize H1 = H at hP hS ⊢
  refine W.widen (k := 0) (n := 0) (by decide) (by decide) ?_
  refine lv_iconst (v := 1) hx hb d_Q_beginWriting_27 (by decide) ?_
  obtain ⟨q5, h6, h⟩ := vq_bi h
  have hFc := vq_freeAll hD hS hA
  refine va_calli (va_runV (As := [.int (q3.1), .int 1]) (rest := [.ref (ad 5)]) ⟨hx, hb, hml, hown, hts⟩ (c_K_inheritedOf l htr dC dI ad ca N q3.2 (q3.1) 1 q5 h6 H.size) (vq_cV WSk hts 2 rfl rfl ⟨by decide, by decide⟩ k_105 k_122 k_173 k_174 k_175 (by decide +kernel)) ⟨vq_blind, va_recv hK hP (ci := 4) (q0 := 4) rfl rfl, vq_here hst hS hN hP hK hD⟩ rfl rfl hl.1 rfl (lv_room (Nat.le_of_ble_eq_true rfl)) d_Q_beginWriting_28 ⟨by decide, by decide⟩) hS (fun q _ h => hFc q h) hFc (fun r u t H1 locs ht hvm hw hB hz1 hk1 hS => ?_)
  obtain ⟨hP, -, hD1⟩ := hB
  rw [ht] at hP
  have hD := hD1.weaken (fun _ _ _ h => hFc _ h)
  have hw : r = q5.1 := hw
  subst hw
  generalize H1 = H at hP hS ⊢
  refine W.widen (k := 0) (n := 0) (by decide) (by decide) ?_
  refine p_Q_knownBits dC dI ad ca q5.2 hx hb hts hown hK hP hD hS k_163 d_Q_beginWriting_31 (fun H locs hP hD hS => ?_)
  obtain ⟨σ7, eσ7, h⟩ := vq_let h
  rw [← eσ7] at hP hD
  have h9 := Option.some.inj h
  rw [← h9]
  exact W.vret hx hb hr (fun t ht hW => ⟨⟨(), rfl, trivial, by rw [ht]; exact hP, va_K.moved hW.alike hK, hD⟩, hS.F ht⟩) hS.2.2 d_Q_beginWriting_34

set_option maxHeartbeats 4000000 in
set_option maxRecDepth 100000 in
theorem c_Q_fullLength (l : Launch) (htr : l.stackTraces = false) (dC : Nat → ClassId) (dI : Nat → Nat → Nat) (ad : Nat → Nat) (ca : Nat → ClassId) (N : Nat) (σ : vS) (a0 : Int32) (v : Int32 × vS) (h : f_Q_fullLength N σ a0 = some v) (sz : Nat) : Met l y_Q_fullLength WS ({ frames := 2, cells := 0, slots := 0, locals := 44 }) (va_Pc [.ref (ad 5), .int a0] (vq_Pre (dC, dI) CL sz (Xw ad ca σ) (Xt ca))) (va_Qi (fun (r : Int32) (_ : Unit) => r = v.1) (fun _ t => vq_Post (dC, dI) CL (va_A (Xw ad ca σ) sz) (Xw ad ca v.2) (Xt ca) t) (va_A (Xw ad ca σ) sz)) 0 0 (va_A (Xw ad ca σ) sz) := by
  refine vq_ofW (cc := prog_6_method_6_code) (maxL := 4) (ret := (Option.some Jvm.ClassFile.FieldType.int)) pl_Q (vq_his k_204) ?_
  intro p e s m args below meth c s₁ B hml hv
  obtain ⟨rfl, hst, hsz, hP, hK, hD0⟩ := hv
  have hx := B.exec
  have hb := B.bytes
  have hr := B.returns
  have hts := atoms_spec (ws := WS) B.pre
  have hown : s.vm.findClass R_Q = some m.cls := findClass_of_methodNamed B.named
  have hlocks := B.notSynchronized
  have hno := vq_noH B (hts _ k_204)
  subst hsz
  have hN := vq_ns hP
  have hD := hD0.self (sz := s.heap.size)
  generalize hAe : va_A (Xw ad ca σ) s.heap.size = A at hD hN ⊢
  have hA : ∀ q : Nat, s.heap.size ≤ q → A q := fun q h => by rw [← hAe]; exact Or.inr h
  have hS : va_S A s.heap s.heap [] := va_S.rf
  have hl := lv_entry ([.ref (ad 5), .int a0]) (n := 4) (Nat.le_of_ble_eq_true rfl)
  rw [lg_entry_eq]
  generalize (lg_sl ([.ref (ad 5), .int a0]) ++ List.replicate (4 - (lg_sl ([.ref (ad 5), .int a0])).length) Slot.unset).toArray = ls at hl ⊢
  have hl : lv_has ls 4 [(0, .ref (ad 5)), (1, .int a0)] := hl
  unfold f_Q_fullLength at h
  refine lv_aload_n hx hb d_Q_fullLength_0 rfl (lv_at hl 0 rfl) ?_
  refine g_Q_grammar dC dI ad ca σ hx hb hts hown hK hP k_153 d_Q_fullLength_1 ?_
  refine gN_G_toDefineBits dC dI ad ca σ hx hb hts hown hK hP k_160 d_Q_fullLength_4 ?_
  refine lv_iload_n hx hb d_Q_fullLength_7 rfl (lv_at hl 1 rfl) ?_
  obtain ⟨hi1, h⟩ := vq_bd h
  refine al_X5 dC dI ad ca σ hx hb hts hown hK hP hi1 d_Q_fullLength_8 ?_
  obtain ⟨i2, ei2, h⟩ := vq_let h
  refine vq_top ei2.symm ?_
  obtain ⟨q3, h4, h⟩ := vq_bi h
  have hKe := hK.sub (tys' := []) [] rfl
  refine va_calli (va_runS (As := [.int i2]) (rest := []) ⟨hx, hb, hml, hown, hts⟩ (c_I_bitCount l htr dC dI N i2 q3 h4 s.heap.size) (vq_cS WSk hts 1 rfl rfl ⟨by decide, by decide⟩ k_6 k_11 k_205 k_13 (by decide +kernel)) ⟨vq_blind, vq_here hst hS hN vq_P0 hKe vq_D0⟩ rfl rfl hl.1 rfl (lv_room (Nat.le_of_ble_eq_true rfl)) d_Q_fullLength_9 ⟨by decide, by decide⟩) hS (fun q _ h => vq_keepA h (fun hz => hA q (Nat.le_trans hS.1 hz))) (fun q h => vq_keepA h (fun hz => hA q (Nat.le_trans hS.1 hz))) (fun r u t H1 locs ht hvm hw hB hz1 hk1 hS => ?_)
  have hw : r = q3 := hw
  rw [hw]
  have hP := vq_keepP hP hk1
  generalize H1 = H at hP hS ⊢
  refine W.widen (k := 0) (n := 0) (by decide) (by decide) ?_
  refine lv_istore_n (lv' := [(2, .int q3), (0, .ref (ad 5)), (1, .int a0)]) hx hb d_Q_fullLength_12 rfl hl (by decide) rfl (fun ls hl => ?_)
  refine lv_iconst (v := 0) hx hb d_Q_fullLength_13 (by decide) ?_
  refine lv_istore_n (lv' := [(3, .int 0), (2, .int q3), (0, .ref (ad 5)), (1, .int a0)]) hx hb d_Q_fullLength_14 rfl hl (by decide) rfl (fun ls hl => ?_)
  have L15 : ∀ n15 : Nat, ∀ (τ : vS) (x1 : Int32) (x2 : Int32) (x3 : Int32) (H : Heap) (locs : List Loc) (ls : Array Slot), f_Q_fullLength_15 N n15 τ x1 x2 x3 = some v → lv_has ls 4 [(0, .ref (ad 5)), (1, .int x1), (2, .int x2), (3, .int x3)] → va_P (dC, dI) CL (Xw ad ca τ) H → va_D A (Xw ad ca τ) → va_S A s.heap H locs → W p l e (headSpec WS ({ frames := 2, cells := 0, slots := 0, locals := 44 })).room s m ([.ref (ad 5), .int a0] : List Value).toArray below meth c H locs 0 0 (MQ below (va_Qi (fun (r : Int32) (_ : Unit) => r = v.1) (fun _ t => vq_Post (dC, dI) CL A (Xw ad ca v.2) (Xt ca) t) A) ([.ref (ad 5), .int a0] : List Value).toArray s 0 0 A) (F0 m 15 ls []) := by
    intro n15
    induction n15 with
    | zero =>
      intro τ x1 x2 x3 H locs ls h hl hP hD hS
      rw [f_Q_fullLength_15] at h
      cases h
    | succ n15 ih15 =>
      intro τ x1 x2 x3 H locs ls h hl hP hD hS
      rw [f_Q_fullLength_15] at h
      dsimp only at h
      refine lv_iload_n hx hb d_Q_fullLength_15 rfl (lv_at hl 3 rfl) ?_
      refine lv_aload_n hx hb d_Q_fullLength_16 rfl (lv_at hl 0 rfl) ?_
      refine g_Q_grammar dC dI ad ca τ hx hb hts hown hK hP k_153 d_Q_fullLength_17 ?_
      refine gN_G_lastPositions dC dI ad ca τ hx hb hts hown hK hP k_167 d_Q_fullLength_20 ?_
      refine lv_iload_n hx hb d_Q_fullLength_23 rfl (lv_at hl 1 rfl) ?_
      obtain ⟨hi5, h⟩ := vq_bd h
      refine al_X3 dC dI ad ca τ hx hb hts hown hK hP hi5 d_Q_fullLength_24 ?_
      obtain ⟨i6, ei6, h⟩ := vq_let h
      refine vq_top ei6.symm ?_
      refine lv_icmp_gt (tgt := 43) hx hb d_Q_fullLength_25 (by decide) (fun hc7 => ?_) (fun hc7 => ?_)
      ·
        rw [if_pos hc7] at h
        refine lv_iload_n hx hb d_Q_fullLength_43 rfl (lv_at hl 2 rfl) ?_
        have h9 := Option.some.inj h
        rw [← h9]
        exact W.iret (v := x2) hx hb hr (fun t ht hW => ⟨⟨x2, (), rfl, rfl, by rw [ht]; exact hP, va_K.moved hW.alike hK, hD⟩, hS.F ht⟩) hS.2.2 d_Q_fullLength_44
      ·
        rw [if_neg hc7] at h
        refine lv_iload_n hx hb d_Q_fullLength_28 rfl (lv_at hl 2 rfl) ?_
        refine lv_aload_n hx hb d_Q_fullLength_29 rfl (lv_at hl 0 rfl) ?_
        refine lv_iload_n hx hb d_Q_fullLength_30 rfl (lv_at hl 1 rfl) ?_
        refine lv_iload_n hx hb d_Q_fullLength_31 rfl (lv_at hl 3 rfl) ?_
        obtain ⟨q8, h9, h⟩ := vq_bi h
        have hFc := vq_freeAll hD hS hA
        refine va_calli (va_runV (As := [.int x1, .int x3]) (rest := [.int x2]) ⟨hx, hb, hml, hown, hts⟩ (c_Q_visitsAt l htr dC dI ad ca N τ x1 x3 q8 h9 H.size) (vq_cV WSk hts 2 rfl rfl ⟨by decide, by decide⟩ k_155 k_169 k_170 k_171 k_172 (by decide +kernel)) ⟨vq_blind, va_recv hK hP (ci := 5) (q0 := 5) rfl rfl, vq_here hst hS hN hP hK hD⟩ rfl rfl hl.1 rfl (lv_room (Nat.le_of_ble_eq_true rfl)) d_Q_fullLength_32 ⟨by decide, by decide⟩) hS (fun q _ h => hFc q h) hFc (fun r u t H1 locs ht hvm hw hB hz1 hk1 hS => ?_)
        obtain ⟨hP, -, hD1⟩ := hB
        rw [ht] at hP
        have hD := hD1.weaken (fun _ _ _ h => hFc _ h)
        have hw : r = q8.1 := hw
        subst hw
        generalize H1 = H at hP hS ⊢
        refine W.widen (k := 0) (n := 0) (by decide) (by decide) ?_
        refine lv_iadd hx hb d_Q_fullLength_35 ?_
        refine lv_istore_n (lv' := [(2, .int (x2 + (q8.1))), (0, .ref (ad 5)), (1, .int x1), (3, .int x3)]) hx hb d_Q_fullLength_36 rfl hl (by decide) rfl (fun ls hl => ?_)
        refine lv_iinc (k := 3) (v := (x3 + 1)) (lv' := [(3, .int (x3 + 1)), (2, .int (x2 + (q8.1))), (0, .ref (ad 5)), (1, .int x1)]) hx hb d_Q_fullLength_37 hl rfl rfl (by decide) rfl (fun ls hl => ?_)
        refine lv_goto (tgt := 15) hx hb d_Q_fullLength_40 (by decide) ?_
        exact ih15 _ _ _ _ _ _ _ h (lv_sub hl [2, 3, 1, 0] rfl) hP hD hS
  exact L15 N _ _ _ _ _ _ _ h (lv_sub hl [2, 3, 1, 0] rfl) hP hD hS

set_option maxHeartbeats 4000000 in
set_option maxRecDepth 100000 in
theorem c_Q_write (l : Launch) (htr : l.stackTraces = false) (dC : Nat → ClassId) (dI : Nat → Nat → Nat) (ad : Nat → Nat) (ca : Nat → ClassId) (N : Nat) (σ : vS) (v : Int32 × vS) (h : f_Q_write N σ = some v) (sz : Nat) : Met l y_Q_write WS ({ frames := 4, cells := 0, slots := 0, locals := 93 }) (va_Pc [.ref (ad 5)] (vq_Pre (dC, dI) CL sz (Xw ad ca σ) (Xt ca))) (va_Qv (fun _ : Unit => True) (fun _ t => vq_Post (dC, dI) CL (va_A (Xw ad ca σ) sz) (Xw ad ca v.2) (Xt ca) t) (va_A (Xw ad ca σ) sz)) 0 0 (va_A (Xw ad ca σ) sz) := by
  refine vq_ofW (cc := prog_6_method_4_code) (maxL := 4) (ret := (Option.none : Option Jvm.ClassFile.FieldType)) pl_Q (vq_his k_206) ?_
  intro p e s m args below meth c s₁ B hml hv
  obtain ⟨rfl, hst, hsz, hP, hK, hD0⟩ := hv
  have hx := B.exec
  have hb := B.bytes
  have hr := B.returns
  have hts := atoms_spec (ws := WS) B.pre
  have hown : s.vm.findClass R_Q = some m.cls := findClass_of_methodNamed B.named
  have hlocks := B.notSynchronized
  have hno := vq_noH B (hts _ k_206)
  subst hsz
  have hN := vq_ns hP
  have hD := hD0.self (sz := s.heap.size)
  generalize hAe : va_A (Xw ad ca σ) s.heap.size = A at hD hN ⊢
  have hA : ∀ q : Nat, s.heap.size ≤ q → A q := fun q h => by rw [← hAe]; exact Or.inr h
  have hS : va_S A s.heap s.heap [] := va_S.rf
  have hl := lv_entry ([.ref (ad 5)]) (n := 4) (Nat.le_of_ble_eq_true rfl)
  rw [lg_entry_eq]
  generalize (lg_sl ([.ref (ad 5)]) ++ List.replicate (4 - (lg_sl ([.ref (ad 5)])).length) Slot.unset).toArray = ls at hl ⊢
  have hl : lv_has ls 4 [(0, .ref (ad 5))] := hl
  unfold f_Q_write at h
  refine lv_iconst (v := 0) hx hb d_Q_write_0 (by decide) ?_
  refine lv_istore_n (lv' := [(1, .int 0), (0, .ref (ad 5))]) hx hb d_Q_write_1 rfl hl (by decide) rfl (fun ls hl => ?_)
  have L2 : ∀ n2 : Nat, ∀ (τ : vS) (x1 : Int32) (H : Heap) (locs : List Loc) (ls : Array Slot), f_Q_write_2 N n2 τ x1 = some v → lv_has ls 4 [(0, .ref (ad 5)), (1, .int x1)] → va_P (dC, dI) CL (Xw ad ca τ) H → va_D A (Xw ad ca τ) → va_S A s.heap H locs → W p l e (headSpec WS ({ frames := 4, cells := 0, slots := 0, locals := 93 })).room s m ([.ref (ad 5)] : List Value).toArray below meth c H locs 0 0 (MQ below (va_Qv (fun _ : Unit => True) (fun _ t => vq_Post (dC, dI) CL A (Xw ad ca v.2) (Xt ca) t) A) ([.ref (ad 5)] : List Value).toArray s 0 0 A) (F0 m 2 ls []) := by
    intro n2
    induction n2 with
    | zero =>
      intro τ x1 H locs ls h hl hP hD hS
      rw [f_Q_write_2] at h
      cases h
    | succ n2 ih2 =>
      intro τ x1 H locs ls h hl hP hD hS
      rw [f_Q_write_2] at h
      dsimp only at h
      refine lv_iload_n hx hb d_Q_write_2 rfl (lv_at hl 1 rfl) ?_
      refine lv_aload_n hx hb d_Q_write_3 rfl (lv_at hl 0 rfl) ?_
      refine g_Q_grammar dC dI ad ca τ hx hb hts hown hK hP k_153 d_Q_write_4 ?_
      refine gN_G_productionCount dC dI ad ca τ hx hb hts hown hK hP k_154 d_Q_write_7 ?_
      refine lv_icmp_ge (tgt := 78) hx hb d_Q_write_10 (by decide) (fun hc1 => ?_) (fun hc1 => ?_)
      ·
        rw [if_pos hc1] at h
        have h9 := Option.some.inj h
        rw [← h9]
        exact W.vret hx hb hr (fun t ht hW => ⟨⟨(), rfl, trivial, by rw [ht]; exact hP, va_K.moved hW.alike hK, hD⟩, hS.F ht⟩) hS.2.2 d_Q_write_78
      ·
        rw [if_neg hc1] at h
        refine lv_aload_n hx hb d_Q_write_13 rfl (lv_at hl 0 rfl) ?_
        refine lv_iload_n hx hb d_Q_write_14 rfl (lv_at hl 1 rfl) ?_
        obtain ⟨q2, h3, h⟩ := vq_bi h
        have hFc := vq_freeAll hD hS hA
        refine va_callv (va_runV (As := [.int x1]) (rest := []) ⟨hx, hb, hml, hown, hts⟩ (c_Q_beginWriting l htr dC dI ad ca N τ x1 q2 h3 H.size) (vq_cV WSk hts 1 rfl rfl ⟨by decide, by decide⟩ k_202 k_169 k_207 k_208 k_209 (by decide +kernel)) ⟨vq_blind, va_recv hK hP (ci := 5) (q0 := 5) rfl rfl, vq_here hst hS hN hP hK hD⟩ rfl rfl hl.1 rfl (lv_room (Nat.le_of_ble_eq_true rfl)) d_Q_write_15 ⟨by decide, by decide⟩) hS (fun q _ h => hFc q h) hFc (fun u t H1 locs ht hvm hw hB hz1 hk1 hS => ?_)
        obtain ⟨hP, -, hD1⟩ := hB
        rw [ht] at hP
        have hD := hD1.weaken (fun _ _ _ h => hFc _ h)
        generalize H1 = H at hP hS ⊢
        refine W.widen (k := 0) (n := 0) (by decide) (by decide) ?_
        refine lv_aload_n hx hb d_Q_write_18 rfl (lv_at hl 0 rfl) ?_
        refine lv_iload_n hx hb d_Q_write_19 rfl (lv_at hl 1 rfl) ?_
        obtain ⟨q4, h5, h⟩ := vq_bi h
        have hFc := vq_freeAll hD hS hA
        refine va_calli (va_runV (As := [.int x1]) (rest := []) ⟨hx, hb, hml, hown, hts⟩ (c_Q_fullLength l htr dC dI ad ca N q2.2 x1 q4 h5 H.size) (vq_cV WSk hts 1 rfl rfl ⟨by decide, by decide⟩ k_204 k_169 k_210 k_211 k_212 (by decide +kernel)) ⟨vq_blind, va_recv hK hP (ci := 5) (q0 := 5) rfl rfl, vq_here hst hS hN hP hK hD⟩ rfl rfl hl.1 rfl (lv_room (Nat.le_of_ble_eq_true rfl)) d_Q_write_20 ⟨by decide, by decide⟩) hS (fun q _ h => hFc q h) hFc (fun r u t H1 locs ht hvm hw hB hz1 hk1 hS => ?_)
        obtain ⟨hP, -, hD1⟩ := hB
        rw [ht] at hP
        have hD := hD1.weaken (fun _ _ _ h => hFc _ h)
        have hw : r = q4.1 := hw
        subst hw
        generalize H1 = H at hP hS ⊢
        refine W.widen (k := 0) (n := 0) (by decide) (by decide) ?_
        refine lv_istore_n (lv' := [(2, .int (q4.1)), (0, .ref (ad 5)), (1, .int x1)]) hx hb d_Q_write_23 rfl hl (by decide) rfl (fun ls hl => ?_)
        refine lv_iconst (v := 0) hx hb d_Q_write_24 (by decide) ?_
        refine lv_istore_n (lv' := [(3, .int 0), (2, .int (q4.1)), (0, .ref (ad 5)), (1, .int x1)]) hx hb d_Q_write_25 rfl hl (by decide) rfl (fun ls hl => ?_)
        have L26 : ∀ n26 : Nat, ∀ (τ : vS) (x1 : Int32) (x2 : Int32) (x3 : Int32) (H : Heap) (locs : List Loc) (ls : Array Slot), f_Q_write_26 N (f_Q_write_2 N n2) n26 τ x1 x2 x3 = some v → lv_has ls 4 [(0, .ref (ad 5)), (1, .int x1), (2, .int x2), (3, .int x3)] → va_P (dC, dI) CL (Xw ad ca τ) H → va_D A (Xw ad ca τ) → va_S A s.heap H locs → W p l e (headSpec WS ({ frames := 4, cells := 0, slots := 0, locals := 93 })).room s m ([.ref (ad 5)] : List Value).toArray below meth c H locs 0 0 (MQ below (va_Qv (fun _ : Unit => True) (fun _ t => vq_Post (dC, dI) CL A (Xw ad ca v.2) (Xt ca) t) A) ([.ref (ad 5)] : List Value).toArray s 0 0 A) (F0 m 26 ls []) := by
          intro n26
          induction n26 with
          | zero =>
            intro τ x1 x2 x3 H locs ls h hl hP hD hS
            rw [f_Q_write_26] at h
            cases h
          | succ n26 ih26 =>
            intro τ x1 x2 x3 H locs ls h hl hP hD hS
            rw [f_Q_write_26] at h
            dsimp only at h
            refine lv_iload_n hx hb d_Q_write_26 rfl (lv_at hl 3 rfl) ?_
            refine lv_iload_n hx hb d_Q_write_27 rfl (lv_at hl 2 rfl) ?_
            refine lv_icmp_ge (tgt := 65) hx hb d_Q_write_28 (by decide) (fun hc6 => ?_) (fun hc6 => ?_)
            ·
              rw [if_pos hc6] at h
              refine lv_aload_n hx hb d_Q_write_65 rfl (lv_at hl 0 rfl) ?_
              refine g_Q_lengths dC dI ad ca τ hx hb hts hown hK hP k_150 d_Q_write_66 ?_
              refine lv_iload_n hx hb d_Q_write_69 rfl (lv_at hl 1 rfl) ?_
              refine lv_iload_n hx hb d_Q_write_70 rfl (lv_at hl 2 rfl) ?_
              obtain ⟨hi7, h⟩ := vq_bd h
              refine as_X17 dC dI ad ca τ hx hb hts hown hK hP hD hS hi7 d_Q_write_71 (fun H locs hP hD hS => ?_)
              obtain ⟨σ8, eσ8, h⟩ := vq_let h
              rw [← eσ8] at hP hD
              refine lv_iinc (k := 1) (v := (x1 + 1)) (lv' := [(1, .int (x1 + 1)), (0, .ref (ad 5)), (2, .int x2), (3, .int x3)]) hx hb d_Q_write_72 hl rfl rfl (by decide) rfl (fun ls hl => ?_)
              refine lv_goto (tgt := 2) hx hb d_Q_write_75 (by decide) ?_
              exact ih2 _ _ _ _ _ h (lv_sub hl [1, 0] rfl) hP hD hS
            ·
              rw [if_neg hc6] at h
              refine lv_aload_n hx hb d_Q_write_31 rfl (lv_at hl 0 rfl) ?_
              refine g_Q_instructions dC dI ad ca τ hx hb hts hown hK hP k_151 d_Q_write_32 ?_
              refine lv_iload_n hx hb d_Q_write_35 rfl (lv_at hl 1 rfl) ?_
              refine lv_bipush (v := 32) hx hb d_Q_write_36 (by decide) ?_
              refine lv_imul hx hb d_Q_write_38 ?_
              refine lv_iload_n hx hb d_Q_write_39 rfl (lv_at hl 3 rfl) ?_
              refine lv_iadd hx hb d_Q_write_40 ?_
              refine lv_aload_n hx hb d_Q_write_41 rfl (lv_at hl 0 rfl) ?_
              refine lv_iload_n hx hb d_Q_write_42 rfl (lv_at hl 1 rfl) ?_
              refine lv_iload_n hx hb d_Q_write_43 rfl (lv_at hl 3 rfl) ?_
              refine lv_iload_n hx hb d_Q_write_44 rfl (lv_at hl 2 rfl) ?_
              refine lv_iconst (v := 1) hx hb d_Q_write_45 (by decide) ?_
              refine lv_isub hx hb d_Q_write_46 ?_
              have J55 : ∀ (τ : vS) (x1 : Int32) (x2 : Int32) (x3 : Int32) (y0 : Int32) (y1 : Int32) (y3 : Int32) (H : Heap) (locs : List Loc) (ls : Array Slot), f_Q_write_55 N (f_Q_write_2 N n2) (f_Q_write_26 N (f_Q_write_2 N n2) n26) τ x1 x2 x3 y0 y1 y3 = some v → lv_has ls 4 [(0, .ref (ad 5)), (1, .int x1), (2, .int x2), (3, .int x3)] → va_P (dC, dI) CL (Xw ad ca τ) H → va_D A (Xw ad ca τ) → va_S A s.heap H locs → W p l e (headSpec WS ({ frames := 4, cells := 0, slots := 0, locals := 93 })).room s m ([.ref (ad 5)] : List Value).toArray below meth c H locs 0 0 (MQ below (va_Qv (fun _ : Unit => True) (fun _ t => vq_Post (dC, dI) CL A (Xw ad ca v.2) (Xt ca) t) A) ([.ref (ad 5)] : List Value).toArray s 0 0 A) (F0 m 55 ls [.int y0, .int y1, .ref (ad 5), .int y3, .ref (ad 24)]) := by
                intro τ x1 x2 x3 y0 y1 y3 H locs ls h hl hP hD hS
                unfold f_Q_write_55 at h
                obtain ⟨q9, h10, h⟩ := vq_bi h
                have hFc := vq_freeAll hD hS hA
                refine va_calli (va_runV (As := [.int y1, .int y0]) (rest := [.int y3, .ref (ad 24)]) ⟨hx, hb, hml, hown, hts⟩ (c_Q_writeNext l htr dC dI ad ca N τ y1 y0 q9 h10 H.size) (vq_cV WSk hts 2 rfl rfl ⟨by decide, by decide⟩ k_183 k_169 k_213 k_214 k_215 (by decide +kernel)) ⟨vq_blind, va_recv hK hP (ci := 5) (q0 := 5) rfl rfl, vq_here hst hS hN hP hK hD⟩ rfl rfl hl.1 rfl (lv_room (Nat.le_of_ble_eq_true rfl)) d_Q_write_55 ⟨by decide, by decide⟩) hS (fun q _ h => hFc q h) hFc (fun r u t H1 locs ht hvm hw hB hz1 hk1 hS => ?_)
                obtain ⟨hP, -, hD1⟩ := hB
                rw [ht] at hP
                have hD := hD1.weaken (fun _ _ _ h => hFc _ h)
                have hw : r = q9.1 := hw
                subst hw
                generalize H1 = H at hP hS ⊢
                refine W.widen (k := 0) (n := 0) (by decide) (by decide) ?_
                obtain ⟨hi11, h⟩ := vq_bd h
                refine as_X16 dC dI ad ca q9.2 hx hb hts hown hK hP hD hS hi11 d_Q_write_58 (fun H locs hP hD hS => ?_)
                obtain ⟨σ12, eσ12, h⟩ := vq_let h
                rw [← eσ12] at hP hD
                refine lv_iinc (k := 3) (v := (x3 + 1)) (lv' := [(3, .int (x3 + 1)), (0, .ref (ad 5)), (1, .int x1), (2, .int x2)]) hx hb d_Q_write_59 hl rfl rfl (by decide) rfl (fun ls hl => ?_)
                refine lv_goto (tgt := 26) hx hb d_Q_write_62 (by decide) ?_
                exact ih26 _ _ _ _ _ _ _ h (lv_sub hl [1, 2, 3, 0] rfl) hP hD hS
              refine lv_icmp_ne (tgt := 54) hx hb d_Q_write_47 (by decide) (fun hc13 => ?_) (fun hc13 => ?_)
              ·
                rw [if_neg hc13] at h
                refine lv_iconst (v := 0) hx hb d_Q_write_54 (by decide) ?_
                exact J55 _ _ _ _ _ _ _ _ _ _ h (lv_sub hl [0, 1, 2, 3] rfl) hP hD hS
              ·
                rw [if_pos hc13] at h
                refine lv_iconst (v := 1) hx hb d_Q_write_50 (by decide) ?_
                refine lv_goto (tgt := 55) hx hb d_Q_write_51 (by decide) ?_
                exact J55 _ _ _ _ _ _ _ _ _ _ h (lv_sub hl [0, 1, 2, 3] rfl) hP hD hS
        exact L26 N _ _ _ _ _ _ _ h (lv_sub hl [2, 3, 1, 0] rfl) hP hD hS
  exact L2 N _ _ _ _ _ h (lv_sub hl [1, 0] rfl) hP hD hS
