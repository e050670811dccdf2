set_option maxHeartbeats 4000000 in
set_option maxRecDepth 100000 in
theorem c_K_inheritedOf (l : Launch) (htr : l.stackTraces = false) (dC : Nat → ClassId) (dI : Nat → Nat → Nat) (ad : Nat → Nat) (ca : Nat → ClassId) (N : Nat) (σ : vS) (a0 : Int32) (a1 : Int32) (v : Int32 × vS) (h : f_K_inheritedOf N σ a0 a1 = some v) (sz : Nat) : Met l y_K_inheritedOf WS ({ frames := 0, cells := 0, slots := 0, locals := 0 }) (va_Pc [.ref (ad 4), .int a0, .int a1] (vq_Pre (dC, dI) CL sz (Xw ad ca σ) (Xt ca))) (va_Qi (fun (r : Int32) (_ : Unit) => r = v.1) (fun _ t => vq_Post (dC, dI) CL (va_A (Xw ad ca σ) sz) (Xw ad ca v.2) (Xt ca) t) (va_A (Xw ad ca σ) sz)) 0 0 (va_A (Xw ad ca σ) sz) := by
  refine vq_ofW (cc := prog_5_method_4_code) (maxL := 3) (ret := (Option.some Jvm.ClassFile.FieldType.int)) pl_K (vq_his k_105) ?_
  intro p e s m args below meth c s₁ B hml hv
  obtain ⟨rfl, hst, hsz, hP, hK, hD0⟩ := hv
  have hx := B.exec
  have hb := B.bytes
  have hr := B.returns
  have hts := atoms_spec (ws := WS) B.pre
  have hown : s.vm.findClass R_K = some m.cls := findClass_of_methodNamed B.named
  have hlocks := B.notSynchronized
  have hno := vq_noH B (hts _ k_105)
  subst hsz
  have hN := vq_ns hP
  have hD := hD0.self (sz := s.heap.size)
  generalize hAe : va_A (Xw ad ca σ) s.heap.size = A at hD hN ⊢
  have hA : ∀ q : Nat, s.heap.size ≤ q → A q := fun q h => by rw [← hAe]; exact Or.inr h
  have hS : va_S A s.heap s.heap [] := va_S.rf
  have hl := lv_entry ([.ref (ad 4), .int a0, .int a1]) (n := 3) (Nat.le_of_ble_eq_true rfl)
  rw [lg_entry_eq]
  generalize (lg_sl ([.ref (ad 4), .int a0, .int a1]) ++ List.replicate (3 - (lg_sl ([.ref (ad 4), .int a0, .int a1])).length) Slot.unset).toArray = ls at hl ⊢
  have hl : lv_has ls 3 [(0, .ref (ad 4)), (1, .int a0), (2, .int a1)] := hl
  unfold f_K_inheritedOf at h
  refine lv_aload_n hx hb d_K_inheritedOf_0 rfl (lv_at hl 0 rfl) ?_
  refine g_K_belonging dC dI ad ca σ hx hb hts hown hK hP k_106 d_K_inheritedOf_1 ?_
  refine lv_iload_n hx hb d_K_inheritedOf_4 rfl (lv_at hl 1 rfl) ?_
  refine lv_iconst (v := 4) hx hb d_K_inheritedOf_5 (by decide) ?_
  refine lv_imul hx hb d_K_inheritedOf_6 ?_
  refine lv_iload_n hx hb d_K_inheritedOf_7 rfl (lv_at hl 2 rfl) ?_
  refine lv_iadd hx hb d_K_inheritedOf_8 ?_
  obtain ⟨hi1, h⟩ := vq_bd h
  refine al_X15 dC dI ad ca σ hx hb hts hown hK hP hi1 d_K_inheritedOf_9 ?_
  obtain ⟨i2, ei2, h⟩ := vq_let h
  refine vq_top ei2.symm ?_
  refine lv_aload_n hx hb d_K_inheritedOf_10 rfl (lv_at hl 0 rfl) ?_
  refine g_K_grammar dC dI ad ca σ hx hb hts hown hK hP k_107 d_K_inheritedOf_11 ?_
  refine gN_G_inheritedBits dC dI ad ca σ hx hb hts hown hK hP k_108 d_K_inheritedOf_14 ?_
  refine lv_iload_n hx hb d_K_inheritedOf_17 rfl (lv_at hl 1 rfl) ?_
  obtain ⟨hi3, h⟩ := vq_bd h
  refine al_X1 dC dI ad ca σ hx hb hts hown hK hP hi3 d_K_inheritedOf_18 ?_
  obtain ⟨i4, ei4, h⟩ := vq_let h
  refine vq_top ei4.symm ?_
  refine lv_iand hx hb d_K_inheritedOf_19 ?_
  have h9 := Option.some.inj h
  rw [← h9]
  exact W.iret (v := (i2 &&& i4)) hx hb hr (fun t ht hW => ⟨⟨(i2 &&& i4), (), rfl, rfl, by rw [ht]; exact hP, va_K.moved hW.alike hK, hD⟩, hS.F ht⟩) hS.2.2 d_K_inheritedOf_20

set_option maxHeartbeats 4000000 in
set_option maxRecDepth 100000 in
theorem c_K_synthesizedOf (l : Launch) (htr : l.stackTraces = false) (dC : Nat → ClassId) (dI : Nat → Nat → Nat) (ad : Nat → Nat) (ca : Nat → ClassId) (N : Nat) (σ : vS) (a0 : Int32) (a1 : Int32) (v : Int32 × vS) (h : f_K_synthesizedOf N σ a0 a1 = some v) (sz : Nat) : Met l y_K_synthesizedOf WS ({ frames := 0, cells := 0, slots := 0, locals := 0 }) (va_Pc [.ref (ad 4), .int a0, .int a1] (vq_Pre (dC, dI) CL sz (Xw ad ca σ) (Xt ca))) (va_Qi (fun (r : Int32) (_ : Unit) => r = v.1) (fun _ t => vq_Post (dC, dI) CL (va_A (Xw ad ca σ) sz) (Xw ad ca v.2) (Xt ca) t) (va_A (Xw ad ca σ) sz)) 0 0 (va_A (Xw ad ca σ) sz) := by
  refine vq_ofW (cc := prog_5_method_5_code) (maxL := 3) (ret := (Option.some Jvm.ClassFile.FieldType.int)) pl_K (vq_his k_109) ?_
  intro p e s m args below meth c s₁ B hml hv
  obtain ⟨rfl, hst, hsz, hP, hK, hD0⟩ := hv
  have hx := B.exec
  have hb := B.bytes
  have hr := B.returns
  have hts := atoms_spec (ws := WS) B.pre
  have hown : s.vm.findClass R_K = some m.cls := findClass_of_methodNamed B.named
  have hlocks := B.notSynchronized
  have hno := vq_noH B (hts _ k_109)
  subst hsz
  have hN := vq_ns hP
  have hD := hD0.self (sz := s.heap.size)
  generalize hAe : va_A (Xw ad ca σ) s.heap.size = A at hD hN ⊢
  have hA : ∀ q : Nat, s.heap.size ≤ q → A q := fun q h => by rw [← hAe]; exact Or.inr h
  have hS : va_S A s.heap s.heap [] := va_S.rf
  have hl := lv_entry ([.ref (ad 4), .int a0, .int a1]) (n := 3) (Nat.le_of_ble_eq_true rfl)
  rw [lg_entry_eq]
  generalize (lg_sl ([.ref (ad 4), .int a0, .int a1]) ++ List.replicate (3 - (lg_sl ([.ref (ad 4), .int a0, .int a1])).length) Slot.unset).toArray = ls at hl ⊢
  have hl : lv_has ls 3 [(0, .ref (ad 4)), (1, .int a0), (2, .int a1)] := hl
  unfold f_K_synthesizedOf at h
  refine lv_aload_n hx hb d_K_synthesizedOf_0 rfl (lv_at hl 0 rfl) ?_
  refine g_K_belonging dC dI ad ca σ hx hb hts hown hK hP k_106 d_K_synthesizedOf_1 ?_
  refine lv_iload_n hx hb d_K_synthesizedOf_4 rfl (lv_at hl 1 rfl) ?_
  refine lv_iconst (v := 4) hx hb d_K_synthesizedOf_5 (by decide) ?_
  refine lv_imul hx hb d_K_synthesizedOf_6 ?_
  refine lv_iload_n hx hb d_K_synthesizedOf_7 rfl (lv_at hl 2 rfl) ?_
  refine lv_iadd hx hb d_K_synthesizedOf_8 ?_
  obtain ⟨hi1, h⟩ := vq_bd h
  refine al_X15 dC dI ad ca σ hx hb hts hown hK hP hi1 d_K_synthesizedOf_9 ?_
  obtain ⟨i2, ei2, h⟩ := vq_let h
  refine vq_top ei2.symm ?_
  refine lv_aload_n hx hb d_K_synthesizedOf_10 rfl (lv_at hl 0 rfl) ?_
  refine g_K_grammar dC dI ad ca σ hx hb hts hown hK hP k_107 d_K_synthesizedOf_11 ?_
  refine gN_G_inheritedBits dC dI ad ca σ hx hb hts hown hK hP k_108 d_K_synthesizedOf_14 ?_
  refine lv_iload_n hx hb d_K_synthesizedOf_17 rfl (lv_at hl 1 rfl) ?_
  obtain ⟨hi3, h⟩ := vq_bd h
  refine al_X1 dC dI ad ca σ hx hb hts hown hK hP hi3 d_K_synthesizedOf_18 ?_
  obtain ⟨i4, ei4, h⟩ := vq_let h
  refine vq_top ei4.symm ?_
  refine lv_iconst (v := (-1)) hx hb d_K_synthesizedOf_19 (by decide) ?_
  refine lv_ixor hx hb d_K_synthesizedOf_20 ?_
  refine lv_iand hx hb d_K_synthesizedOf_21 ?_
  have h9 := Option.some.inj h
  rw [← h9]
  exact W.iret (v := (i2 &&& (i4 ^^^ (-1)))) hx hb hr (fun t ht hW => ⟨⟨(i2 &&& (i4 ^^^ (-1))), (), rfl, rfl, by rw [ht]; exact hP, va_K.moved hW.alike hK, hD⟩, hS.F ht⟩) hS.2.2 d_K_synthesizedOf_22

set_option maxHeartbeats 4000000 in
set_option maxRecDepth 100000 in
theorem c_K_leastRank (l : Launch) (htr : l.stackTraces = false) (dC : Nat → ClassId) (dI : Nat → Nat → Nat) (ad : Nat → Nat) (ca : Nat → ClassId) (N : Nat) (σ : vS) (a0 : Int32) (a1 : Int32) (v : Int32 × vS) (h : f_K_leastRank N σ a0 a1 = some v) (sz : Nat) : Met l y_K_leastRank WS ({ frames := 1, cells := 0, slots := 0, locals := 21 }) (va_Pc [.ref (ad 4), .int a0, .int a1] (vq_Pre (dC, dI) CL sz (Xw ad ca σ) (Xt ca))) (va_Qi (fun (r : Int32) (_ : Unit) => r = v.1) (fun _ t => vq_Post (dC, dI) CL (va_A (Xw ad ca σ) sz) (Xw ad ca v.2) (Xt ca) t) (va_A (Xw ad ca σ) sz)) 0 0 (va_A (Xw ad ca σ) sz) := by
  refine vq_ofW (cc := prog_5_method_7_code) (maxL := 3) (ret := (Option.some Jvm.ClassFile.FieldType.int)) pl_K (vq_his k_110) ?_
  intro p e s m args below meth c s₁ B hml hv
  obtain ⟨rfl, hst, hsz, hP, hK, hD0⟩ := hv
  have hx := B.exec
  have hb := B.bytes
  have hr := B.returns
  have hts := atoms_spec (ws := WS) B.pre
  have hown : s.vm.findClass R_K = some m.cls := findClass_of_methodNamed B.named
  have hlocks := B.notSynchronized
  have hno := vq_noH B (hts _ k_110)
  subst hsz
  have hN := vq_ns hP
  have hD := hD0.self (sz := s.heap.size)
  generalize hAe : va_A (Xw ad ca σ) s.heap.size = A at hD hN ⊢
  have hA : ∀ q : Nat, s.heap.size ≤ q → A q := fun q h => by rw [← hAe]; exact Or.inr h
  have hS : va_S A s.heap s.heap [] := va_S.rf
  have hl := lv_entry ([.ref (ad 4), .int a0, .int a1]) (n := 3) (Nat.le_of_ble_eq_true rfl)
  rw [lg_entry_eq]
  generalize (lg_sl ([.ref (ad 4), .int a0, .int a1]) ++ List.replicate (3 - (lg_sl ([.ref (ad 4), .int a0, .int a1])).length) Slot.unset).toArray = ls at hl ⊢
  have hl : lv_has ls 3 [(0, .ref (ad 4)), (1, .int a0), (2, .int a1)] := hl
  unfold f_K_leastRank at h
  refine lv_aload_n hx hb d_K_leastRank_0 rfl (lv_at hl 0 rfl) ?_
  refine g_K_grammar dC dI ad ca σ hx hb hts hown hK hP k_107 d_K_leastRank_1 ?_
  refine gN_G_inheritedBits dC dI ad ca σ hx hb hts hown hK hP k_108 d_K_leastRank_4 ?_
  refine lv_iload_n hx hb d_K_leastRank_7 rfl (lv_at hl 1 rfl) ?_
  obtain ⟨hi1, h⟩ := vq_bd h
  refine al_X1 dC dI ad ca σ hx hb hts hown hK hP hi1 d_K_leastRank_8 ?_
  obtain ⟨i2, ei2, h⟩ := vq_let h
  refine vq_top ei2.symm ?_
  refine lv_iload_n hx hb d_K_leastRank_9 rfl (lv_at hl 2 rfl) ?_
  obtain ⟨q3, h4, h⟩ := vq_bi h
  have hKe := hK.sub (tys' := []) [] rfl
  refine va_calli (va_runSN (As := [.int i2, .int a1]) (rest := []) ⟨hx, hb, hml, hown, hts⟩ (c_V_holds l htr dC dI N i2 a1 q3 h4 s.heap.size) (vq_cSN WSk hts 2 rfl rfl ⟨by decide, by decide⟩ k_0 k_22 k_111 k_24 (by decide +kernel)) ⟨vq_blind, vq_here hst hS hN vq_P0 hKe vq_D0⟩ rfl rfl hl.1 rfl (lv_room (Nat.le_of_ble_eq_true rfl)) d_K_leastRank_10 ⟨by decide, by decide⟩) hS (fun q _ h => vq_keepA h (fun hz => hA q (Nat.le_trans hS.1 hz))) (fun q h => vq_keepA h (fun hz => hA q (Nat.le_trans hS.1 hz))) (fun r u t H1 locs ht hvm hw hB hz1 hk1 hS => ?_)
  have hw : r = q3 := hw
  rw [hw]
  have hP := vq_keepP hP hk1
  generalize H1 = H at hP hS ⊢
  refine W.widen (k := 0) (n := 0) (by decide) (by decide) ?_
  refine lv_if_eq (tgt := 20) hx hb d_K_leastRank_13 (by decide) (fun hc5 => ?_) (fun hc5 => ?_)
  ·
    rw [if_pos hc5] at h
    refine lv_iconst (v := 1) hx hb d_K_leastRank_20 (by decide) ?_
    have h9 := Option.some.inj h
    rw [← h9]
    exact W.iret (v := (1 : Int32)) hx hb hr (fun t ht hW => ⟨⟨(1 : Int32), (), rfl, rfl, by rw [ht]; exact hP, va_K.moved hW.alike hK, hD⟩, hS.F ht⟩) hS.2.2 d_K_leastRank_21
  ·
    rw [if_neg hc5] at h
    refine lv_iconst (v := 2) hx hb d_K_leastRank_16 (by decide) ?_
    refine lv_goto (tgt := 21) hx hb d_K_leastRank_17 (by decide) ?_
    have h9 := Option.some.inj h
    rw [← h9]
    exact W.iret (v := (2 : Int32)) hx hb hr (fun t ht hW => ⟨⟨(2 : Int32), (), rfl, rfl, by rw [ht]; exact hP, va_K.moved hW.alike hK, hD⟩, hS.F ht⟩) hS.2.2 d_K_leastRank_21

set_option maxHeartbeats 4000000 in
set_option maxRecDepth 100000 in
theorem c_K_rankAboveLed (l : Launch) (htr : l.stackTraces = false) (dC : Nat → ClassId) (dI : Nat → Nat → Nat) (ad : Nat → Nat) (ca : Nat → ClassId) (N : Nat) (σ : vS) (a0 : Int32) (a1 : Int32) (v : Int32 × vS) (h : f_K_rankAboveLed N σ a0 a1 = some v) (sz : Nat) : Met l y_K_rankAboveLed WS ({ frames := 1, cells := 0, slots := 0, locals := 21 }) (va_Pc [.ref (ad 4), .int a0, .int a1] (vq_Pre (dC, dI) CL sz (Xw ad ca σ) (Xt ca))) (va_Qi (fun (r : Int32) (_ : Unit) => r = v.1) (fun _ t => vq_Post (dC, dI) CL (va_A (Xw ad ca σ) sz) (Xw ad ca v.2) (Xt ca) t) (va_A (Xw ad ca σ) sz)) 0 0 (va_A (Xw ad ca σ) sz) := by
  refine vq_ofW (cc := prog_5_method_8_code) (maxL := 7) (ret := (Option.some Jvm.ClassFile.FieldType.int)) pl_K (vq_his k_112) ?_
  intro p e s m args below meth c s₁ B hml hv
  obtain ⟨rfl, hst, hsz, hP, hK, hD0⟩ := hv
  have hx := B.exec
  have hb := B.bytes
  have hr := B.returns
  have hts := atoms_spec (ws := WS) B.pre
  have hown : s.vm.findClass R_K = some m.cls := findClass_of_methodNamed B.named
  have hlocks := B.notSynchronized
  have hno := vq_noH B (hts _ k_112)
  subst hsz
  have hN := vq_ns hP
  have hD := hD0.self (sz := s.heap.size)
  generalize hAe : va_A (Xw ad ca σ) s.heap.size = A at hD hN ⊢
  have hA : ∀ q : Nat, s.heap.size ≤ q → A q := fun q h => by rw [← hAe]; exact Or.inr h
  have hS : va_S A s.heap s.heap [] := va_S.rf
  have hl := lv_entry ([.ref (ad 4), .int a0, .int a1]) (n := 7) (Nat.le_of_ble_eq_true rfl)
  rw [lg_entry_eq]
  generalize (lg_sl ([.ref (ad 4), .int a0, .int a1]) ++ List.replicate (7 - (lg_sl ([.ref (ad 4), .int a0, .int a1])).length) Slot.unset).toArray = ls at hl ⊢
  have hl : lv_has ls 7 [(0, .ref (ad 4)), (1, .int a0), (2, .int a1)] := hl
  unfold f_K_rankAboveLed at h
  refine lv_iload_n hx hb d_K_rankAboveLed_0 rfl (lv_at hl 1 rfl) ?_
  refine lv_iconst (v := 4) hx hb d_K_rankAboveLed_1 (by decide) ?_
  refine lv_imul hx hb d_K_rankAboveLed_2 ?_
  refine lv_istore_n (lv' := [(3, .int (a0 * 4)), (0, .ref (ad 4)), (1, .int a0), (2, .int a1)]) hx hb d_K_rankAboveLed_3 rfl hl (by decide) rfl (fun ls hl => ?_)
  refine lv_aload_n hx hb d_K_rankAboveLed_4 rfl (lv_at hl 1 rfl) ?_
  refine g_K_ranks dC dI ad ca σ hx hb hts hown hK hP k_113 d_K_rankAboveLed_5 ?_
  refine lv_iload_n hx hb d_K_rankAboveLed_8 rfl (lv_at hl 0 rfl) ?_
  refine lv_iload_n hx hb d_K_rankAboveLed_9 rfl (lv_at hl 3 rfl) ?_
  refine lv_iadd hx hb d_K_rankAboveLed_10 ?_
  obtain ⟨hi1, h⟩ := vq_bd h
  refine al_X13 dC dI ad ca σ hx hb hts hown hK hP hi1 d_K_rankAboveLed_11 ?_
  obtain ⟨i2, ei2, h⟩ := vq_let h
  refine vq_top ei2.symm ?_
  refine lv_istore (lv' := [(4, .int i2), (3, .int (a0 * 4)), (0, .ref (ad 4)), (1, .int a0), (2, .int a1)]) hx hb d_K_rankAboveLed_12 hl (by decide) rfl (fun ls hl => ?_)
  refine lv_iload hx hb d_K_rankAboveLed_14 (lv_at hl 0 rfl) ?_
  refine lv_istore (lv' := [(5, .int i2), (4, .int i2), (3, .int (a0 * 4)), (0, .ref (ad 4)), (1, .int a0), (2, .int a1)]) hx hb d_K_rankAboveLed_16 hl (by decide) rfl (fun ls hl => ?_)
  refine lv_iconst (v := 0) hx hb d_K_rankAboveLed_18 (by decide) ?_
  refine lv_istore (lv' := [(6, .int 0), (5, .int i2), (4, .int i2), (3, .int (a0 * 4)), (0, .ref (ad 4)), (1, .int a0), (2, .int a1)]) hx hb d_K_rankAboveLed_19 hl (by decide) rfl (fun ls hl => ?_)
  have L21 : ∀ n21 : Nat, ∀ (τ : vS) (x1 : Int32) (x2 : Int32) (x3 : Int32) (x4 : Int32) (x5 : Int32) (x6 : Int32) (H : Heap) (locs : List Loc) (ls : Array Slot), f_K_rankAboveLed_21 N n21 τ x1 x2 x3 x4 x5 x6 = some v → lv_has ls 7 [(0, .ref (ad 4)), (1, .int x1), (2, .int x2), (3, .int x3), (4, .int x4), (5, .int x5), (6, .int x6)] → va_P (dC, dI) CL (Xw ad ca τ) H → va_D A (Xw ad ca τ) → va_S A s.heap H locs → W p l e (headSpec WS ({ frames := 1, cells := 0, slots := 0, locals := 21 })).room s m ([.ref (ad 4), .int a0, .int a1] : List Value).toArray below meth c H locs 0 0 (MQ below (va_Qi (fun (r : Int32) (_ : Unit) => r = v.1) (fun _ t => vq_Post (dC, dI) CL A (Xw ad ca v.2) (Xt ca) t) A) ([.ref (ad 4), .int a0, .int a1] : List Value).toArray s 0 0 A) (F0 m 21 ls []) := by
    intro n21
    induction n21 with
    | zero =>
      intro τ x1 x2 x3 x4 x5 x6 H locs ls h hl hP hD hS
      rw [f_K_rankAboveLed_21] at h
      cases h
    | succ n21 ih21 =>
      intro τ x1 x2 x3 x4 x5 x6 H locs ls h hl hP hD hS
      rw [f_K_rankAboveLed_21] at h
      dsimp only at h
      refine lv_iload hx hb d_K_rankAboveLed_21 (lv_at hl 6 rfl) ?_
      refine lv_aload_n hx hb d_K_rankAboveLed_23 rfl (lv_at hl 0 rfl) ?_
      refine g_K_grammar dC dI ad ca τ hx hb hts hown hK hP k_107 d_K_rankAboveLed_24 ?_
      refine gN_G_attributeCounts dC dI ad ca τ hx hb hts hown hK hP k_114 d_K_rankAboveLed_27 ?_
      refine lv_iload_n hx hb d_K_rankAboveLed_30 rfl (lv_at hl 1 rfl) ?_
      obtain ⟨hi3, h⟩ := vq_bd h
      refine al_X0 dC dI ad ca τ hx hb hts hown hK hP hi3 d_K_rankAboveLed_31 ?_
      obtain ⟨i4, ei4, h⟩ := vq_let h
      refine vq_top ei4.symm ?_
      refine lv_icmp_ge (tgt := 76) hx hb d_K_rankAboveLed_32 (by decide) (fun hc5 => ?_) (fun hc5 => ?_)
      ·
        rw [if_pos hc5] at h
        refine lv_iload hx hb d_K_rankAboveLed_76 (lv_at hl 5 rfl) ?_
        refine lv_iload hx hb d_K_rankAboveLed_78 (lv_at hl 5 rfl) ?_
        refine lv_iload hx hb d_K_rankAboveLed_80 (lv_at hl 4 rfl) ?_
        refine lv_isub hx hb d_K_rankAboveLed_82 ?_
        refine lv_iconst (v := 1) hx hb d_K_rankAboveLed_83 (by decide) ?_
        refine lv_iand hx hb d_K_rankAboveLed_84 ?_
        refine lv_iadd hx hb d_K_rankAboveLed_85 ?_
        have h9 := Option.some.inj h
        rw [← h9]
        exact W.iret (v := (x5 + ((x5 - x4) &&& 1))) hx hb hr (fun t ht hW => ⟨⟨(x5 + ((x5 - x4) &&& 1)), (), rfl, rfl, by rw [ht]; exact hP, va_K.moved hW.alike hK, hD⟩, hS.F ht⟩) hS.2.2 d_K_rankAboveLed_86
      ·
        rw [if_neg hc5] at h
        refine lv_aload_n hx hb d_K_rankAboveLed_35 rfl (lv_at hl 0 rfl) ?_
        refine g_K_leads dC dI ad ca τ hx hb hts hown hK hP k_115 d_K_rankAboveLed_36 ?_
        refine gN_E_ofAttributes dC dI ad ca τ hx hb hts hown hK hP k_116 d_K_rankAboveLed_39 ?_
        refine lv_iload_n hx hb d_K_rankAboveLed_42 rfl (lv_at hl 3 rfl) ?_
        refine lv_iload_n hx hb d_K_rankAboveLed_43 rfl (lv_at hl 2 rfl) ?_
        refine lv_iadd hx hb d_K_rankAboveLed_44 ?_
        obtain ⟨hi6, h⟩ := vq_bd h
        refine al_X12 dC dI ad ca τ hx hb hts hown hK hP hi6 d_K_rankAboveLed_45 ?_
        obtain ⟨i7, ei7, h⟩ := vq_let h
        refine vq_top ei7.symm ?_
        refine lv_iload hx hb d_K_rankAboveLed_46 (lv_at hl 6 rfl) ?_
        obtain ⟨q8, h9, h⟩ := vq_bi h
        have hKe := hK.sub (tys' := []) [] rfl
        refine va_calli (va_runSN (As := [.int i7, .int x6]) (rest := []) ⟨hx, hb, hml, hown, hts⟩ (c_V_holds l htr dC dI N i7 x6 q8 h9 H.size) (vq_cSN WSk hts 2 rfl rfl ⟨by decide, by decide⟩ k_0 k_22 k_111 k_24 (by decide +kernel)) ⟨vq_blind, vq_here hst hS hN vq_P0 hKe vq_D0⟩ rfl rfl hl.1 rfl (lv_room (Nat.le_of_ble_eq_true rfl)) d_K_rankAboveLed_48 ⟨by decide, by decide⟩) hS (fun q _ h => vq_keepA h (fun hz => hA q (Nat.le_trans hS.1 hz))) (fun q h => vq_keepA h (fun hz => hA q (Nat.le_trans hS.1 hz))) (fun r u t H1 locs ht hvm hw hB hz1 hk1 hS => ?_)
        have hw : r = q8 := hw
        rw [hw]
        have hP := vq_keepP hP hk1
        generalize H1 = H at hP hS ⊢
        refine W.widen (k := 0) (n := 0) (by decide) (by decide) ?_
        have J70 : ∀ (τ : vS) (x1 : Int32) (x2 : Int32) (x3 : Int32) (x4 : Int32) (x5 : Int32) (x6 : Int32) (H : Heap) (locs : List Loc) (ls : Array Slot), f_K_rankAboveLed_70 N (f_K_rankAboveLed_21 N n21) τ x1 x2 x3 x4 x5 x6 = some v → lv_has ls 7 [(0, .ref (ad 4)), (1, .int x1), (2, .int x2), (3, .int x3), (4, .int x4), (5, .int x5), (6, .int x6)] → va_P (dC, dI) CL (Xw ad ca τ) H → va_D A (Xw ad ca τ) → va_S A s.heap H locs → W p l e (headSpec WS ({ frames := 1, cells := 0, slots := 0, locals := 21 })).room s m ([.ref (ad 4), .int a0, .int a1] : List Value).toArray below meth c H locs 0 0 (MQ below (va_Qi (fun (r : Int32) (_ : Unit) => r = v.1) (fun _ t => vq_Post (dC, dI) CL A (Xw ad ca v.2) (Xt ca) t) A) ([.ref (ad 4), .int a0, .int a1] : List Value).toArray s 0 0 A) (F0 m 70 ls []) := by
          intro τ x1 x2 x3 x4 x5 x6 H locs ls h hl hP hD hS
          unfold f_K_rankAboveLed_70 at h
          refine lv_iinc (k := 6) (v := (x6 + 1)) (lv' := [(6, .int (x6 + 1)), (0, .ref (ad 4)), (1, .int x1), (2, .int x2), (3, .int x3), (4, .int x4), (5, .int x5)]) hx hb d_K_rankAboveLed_70 hl rfl rfl (by decide) rfl (fun ls hl => ?_)
          refine lv_goto (tgt := 21) hx hb d_K_rankAboveLed_73 (by decide) ?_
          exact ih21 _ _ _ _ _ _ _ _ _ _ h (lv_sub hl [1, 2, 3, 4, 5, 6, 0] rfl) hP hD hS
        refine lv_if_eq (tgt := 70) hx hb d_K_rankAboveLed_51 (by decide) (fun hc10 => ?_) (fun hc10 => ?_)
        ·
          rw [if_pos hc10] at h
          exact J70 _ _ _ _ _ _ _ _ _ _ h (lv_sub hl [0, 1, 2, 3, 4, 5, 6] rfl) hP hD hS
        ·
          rw [if_neg hc10] at h
          refine lv_iload hx hb d_K_rankAboveLed_54 (lv_at hl 5 rfl) ?_
          refine lv_aload_n hx hb d_K_rankAboveLed_56 rfl (lv_at hl 0 rfl) ?_
          refine g_K_ranks dC dI ad ca τ hx hb hts hown hK hP k_113 d_K_rankAboveLed_57 ?_
          refine lv_iload_n hx hb d_K_rankAboveLed_60 rfl (lv_at hl 3 rfl) ?_
          refine lv_iload hx hb d_K_rankAboveLed_61 (lv_at hl 6 rfl) ?_
          refine lv_iadd hx hb d_K_rankAboveLed_63 ?_
          obtain ⟨hi11, h⟩ := vq_bd h
          refine al_X13 dC dI ad ca τ hx hb hts hown hK hP hi11 d_K_rankAboveLed_64 ?_
          obtain ⟨i12, ei12, h⟩ := vq_let h
          refine vq_top ei12.symm ?_
          refine va_mmax hx hb (hml.trans hl.1.symm) hown (hts _ k_117) (hts _ k_118) (hts _ k_119) (hts _ k_120) (by decide) (by decide) (by decide) (by decide) d_K_rankAboveLed_65 ?_
          refine lv_istore (lv' := [(5, .int (if x5 < i12 then i12 else x5)), (0, .ref (ad 4)), (1, .int x1), (2, .int x2), (3, .int x3), (4, .int x4), (6, .int x6)]) hx hb d_K_rankAboveLed_68 hl (by decide) rfl (fun ls hl => ?_)
          exact J70 _ _ _ _ _ _ _ _ _ _ h (lv_sub hl [1, 2, 3, 4, 5, 0, 6] rfl) hP hD hS
  exact L21 N _ _ _ _ _ _ _ _ _ _ h (lv_sub hl [4, 5, 6, 3, 2, 1, 0] rfl) hP hD hS

set_option maxHeartbeats 4000000 in
set_option maxRecDepth 100000 in
theorem c_K_rankAttributes (l : Launch) (htr : l.stackTraces = false) (dC : Nat → ClassId) (dI : Nat → Nat → Nat) (ad : Nat → Nat) (ca : Nat → ClassId) (N : Nat) (σ : vS) (a0 : Int32) (v : Int32 × vS) (h : f_K_rankAttributes N σ a0 = some v) (sz : Nat) : Met l y_K_rankAttributes WS ({ frames := 2, cells := 0, slots := 0, locals := 47 }) (va_Pc [.ref (ad 4), .int a0] (vq_Pre (dC, dI) CL sz (Xw ad ca σ) (Xt ca))) (va_Qv (fun _ : Unit => True) (fun _ t => vq_Post (dC, dI) CL (va_A (Xw ad ca σ) sz) (Xw ad ca v.2) (Xt ca) t) (va_A (Xw ad ca σ) sz)) 0 0 (va_A (Xw ad ca σ) sz) := by
  refine vq_ofW (cc := prog_5_method_6_code) (maxL := 6) (ret := (Option.none : Option Jvm.ClassFile.FieldType)) pl_K (vq_his k_121) ?_
  intro p e s m args below meth c s₁ B hml hv
  obtain ⟨rfl, hst, hsz, hP, hK, hD0⟩ := hv
  have hx := B.exec
  have hb := B.bytes
  have hr := B.returns
  have hts := atoms_spec (ws := WS) B.pre
  have hown : s.vm.findClass R_K = some m.cls := findClass_of_methodNamed B.named
  have hlocks := B.notSynchronized
  have hno := vq_noH B (hts _ k_121)
  subst hsz
  have hN := vq_ns hP
  have hD := hD0.self (sz := s.heap.size)
  generalize hAe : va_A (Xw ad ca σ) s.heap.size = A at hD hN ⊢
  have hA : ∀ q : Nat, s.heap.size ≤ q → A q := fun q h => by rw [← hAe]; exact Or.inr h
  have hS : va_S A s.heap s.heap [] := va_S.rf
  have hl := lv_entry ([.ref (ad 4), .int a0]) (n := 6) (Nat.le_of_ble_eq_true rfl)
  rw [lg_entry_eq]
  generalize (lg_sl ([.ref (ad 4), .int a0]) ++ List.replicate (6 - (lg_sl ([.ref (ad 4), .int a0])).length) Slot.unset).toArray = ls at hl ⊢
  have hl : lv_has ls 6 [(0, .ref (ad 4)), (1, .int a0)] := hl
  unfold f_K_rankAttributes at h
  refine lv_aload_n hx hb d_K_rankAttributes_0 rfl (lv_at hl 0 rfl) ?_
  refine g_K_grammar dC dI ad ca σ hx hb hts hown hK hP k_107 d_K_rankAttributes_1 ?_
  refine gN_G_attributeCounts dC dI ad ca σ hx hb hts hown hK hP k_114 d_K_rankAttributes_4 ?_
  refine lv_iload_n hx hb d_K_rankAttributes_7 rfl (lv_at hl 1 rfl) ?_
  obtain ⟨hi1, h⟩ := vq_bd h
  refine al_X0 dC dI ad ca σ hx hb hts hown hK hP hi1 d_K_rankAttributes_8 ?_
  obtain ⟨i2, ei2, h⟩ := vq_let h
  refine vq_top ei2.symm ?_
  refine lv_istore_n (lv' := [(2, .int i2), (0, .ref (ad 4)), (1, .int a0)]) hx hb d_K_rankAttributes_9 rfl hl (by decide) rfl (fun ls hl => ?_)
  refine lv_iload_n hx hb d_K_rankAttributes_10 rfl (lv_at hl 2 rfl) ?_
  refine lv_iconst (v := 4) hx hb d_K_rankAttributes_11 (by decide) ?_
  refine lv_imul hx hb d_K_rankAttributes_12 ?_
  refine lv_istore_n (lv' := [(3, .int (a0 * 4)), (2, .int i2), (0, .ref (ad 4)), (1, .int a0)]) hx hb d_K_rankAttributes_13 rfl hl (by decide) rfl (fun ls hl => ?_)
  refine lv_iconst (v := 0) hx hb d_K_rankAttributes_14 (by decide) ?_
  refine lv_istore (lv' := [(4, .int 0), (3, .int (a0 * 4)), (2, .int i2), (0, .ref (ad 4)), (1, .int a0)]) hx hb d_K_rankAttributes_15 hl (by decide) rfl (fun ls hl => ?_)
  have L17 : ∀ n17 : Nat, ∀ (τ : vS) (x1 : Int32) (x2 : Int32) (x3 : Int32) (x4 : Int32) (H : Heap) (locs : List Loc) (ls : Array Slot), f_K_rankAttributes_17 N n17 τ x1 x2 x3 x4 = some v → lv_has ls 6 [(0, .ref (ad 4)), (1, .int x1), (2, .int x2), (3, .int x3), (4, .int x4)] → va_P (dC, dI) CL (Xw ad ca τ) H → va_D A (Xw ad ca τ) → va_S A s.heap H locs → W p l e (headSpec WS ({ frames := 2, cells := 0, slots := 0, locals := 47 })).room s m ([.ref (ad 4), .int a0] : List Value).toArray below meth c H locs 0 0 (MQ below (va_Qv (fun _ : Unit => True) (fun _ t => vq_Post (dC, dI) CL A (Xw ad ca v.2) (Xt ca) t) A) ([.ref (ad 4), .int a0] : List Value).toArray s 0 0 A) (F0 m 17 ls []) := by
    intro n17
    induction n17 with
    | zero =>
      intro τ x1 x2 x3 x4 H locs ls h hl hP hD hS
      rw [f_K_rankAttributes_17] at h
      cases h
    | succ n17 ih17 =>
      intro τ x1 x2 x3 x4 H locs ls h hl hP hD hS
      rw [f_K_rankAttributes_17] at h
      dsimp only at h
      refine lv_iload hx hb d_K_rankAttributes_17 (lv_at hl 4 rfl) ?_
      refine lv_iload_n hx hb d_K_rankAttributes_19 rfl (lv_at hl 2 rfl) ?_
      refine lv_icmp_ge (tgt := 45) hx hb d_K_rankAttributes_20 (by decide) (fun hc3 => ?_) (fun hc3 => ?_)
      ·
        rw [if_pos hc3] at h
        refine lv_iconst (v := 1) hx hb d_K_rankAttributes_45 (by decide) ?_
        refine lv_istore (lv' := [(4, .int 1), (0, .ref (ad 4)), (1, .int x1), (2, .int x2), (3, .int x3)]) hx hb d_K_rankAttributes_46 hl (by decide) rfl (fun ls hl => ?_)
        have L48 : ∀ n48 : Nat, ∀ (τ : vS) (x1 : Int32) (x2 : Int32) (x3 : Int32) (x4 : Int32) (H : Heap) (locs : List Loc) (ls : Array Slot), f_K_rankAttributes_48 N n48 τ x1 x2 x3 x4 = some v → lv_has ls 6 [(0, .ref (ad 4)), (1, .int x1), (2, .int x2), (3, .int x3), (4, .int x4)] → va_P (dC, dI) CL (Xw ad ca τ) H → va_D A (Xw ad ca τ) → va_S A s.heap H locs → W p l e (headSpec WS ({ frames := 2, cells := 0, slots := 0, locals := 47 })).room s m ([.ref (ad 4), .int a0] : List Value).toArray below meth c H locs 0 0 (MQ below (va_Qv (fun _ : Unit => True) (fun _ t => vq_Post (dC, dI) CL A (Xw ad ca v.2) (Xt ca) t) A) ([.ref (ad 4), .int a0] : List Value).toArray s 0 0 A) (F0 m 48 ls []) := by
          intro n48
          induction n48 with
          | zero =>
            intro τ x1 x2 x3 x4 H locs ls h hl hP hD hS
            rw [f_K_rankAttributes_48] at h
            cases h
          | succ n48 ih48 =>
            intro τ x1 x2 x3 x4 H locs ls h hl hP hD hS
            rw [f_K_rankAttributes_48] at h
            dsimp only at h
            refine lv_iload hx hb d_K_rankAttributes_48 (lv_at hl 4 rfl) ?_
            refine lv_iload_n hx hb d_K_rankAttributes_50 rfl (lv_at hl 2 rfl) ?_
            refine lv_icmp_ge (tgt := 91) hx hb d_K_rankAttributes_51 (by decide) (fun hc4 => ?_) (fun hc4 => ?_)
            ·
              rw [if_pos hc4] at h
              have h9 := Option.some.inj h
              rw [← h9]
              exact W.vret hx hb hr (fun t ht hW => ⟨⟨(), rfl, trivial, by rw [ht]; exact hP, va_K.moved hW.alike hK, hD⟩, hS.F ht⟩) hS.2.2 d_K_rankAttributes_91
            ·
              rw [if_neg hc4] at h
              refine lv_iconst (v := 0) hx hb d_K_rankAttributes_54 (by decide) ?_
              refine lv_istore (lv' := [(5, .int 0), (0, .ref (ad 4)), (1, .int x1), (2, .int x2), (3, .int x3), (4, .int x4)]) hx hb d_K_rankAttributes_55 hl (by decide) rfl (fun ls hl => ?_)
              have L57 : ∀ n57 : Nat, ∀ (τ : vS) (x1 : Int32) (x2 : Int32) (x3 : Int32) (x4 : Int32) (x5 : Int32) (H : Heap) (locs : List Loc) (ls : Array Slot), f_K_rankAttributes_57 N (f_K_rankAttributes_48 N n48) n57 τ x1 x2 x3 x4 x5 = some v → lv_has ls 6 [(0, .ref (ad 4)), (1, .int x1), (2, .int x2), (3, .int x3), (4, .int x4), (5, .int x5)] → va_P (dC, dI) CL (Xw ad ca τ) H → va_D A (Xw ad ca τ) → va_S A s.heap H locs → W p l e (headSpec WS ({ frames := 2, cells := 0, slots := 0, locals := 47 })).room s m ([.ref (ad 4), .int a0] : List Value).toArray below meth c H locs 0 0 (MQ below (va_Qv (fun _ : Unit => True) (fun _ t => vq_Post (dC, dI) CL A (Xw ad ca v.2) (Xt ca) t) A) ([.ref (ad 4), .int a0] : List Value).toArray s 0 0 A) (F0 m 57 ls []) := by
                intro n57
                induction n57 with
                | zero =>
                  intro τ x1 x2 x3 x4 x5 H locs ls h hl hP hD hS
                  rw [f_K_rankAttributes_57] at h
                  cases h
                | succ n57 ih57 =>
                  intro τ x1 x2 x3 x4 x5 H locs ls h hl hP hD hS
                  rw [f_K_rankAttributes_57] at h
                  dsimp only at h
                  refine lv_iload hx hb d_K_rankAttributes_57 (lv_at hl 5 rfl) ?_
                  refine lv_iload_n hx hb d_K_rankAttributes_59 rfl (lv_at hl 2 rfl) ?_
                  refine lv_icmp_ge (tgt := 85) hx hb d_K_rankAttributes_60 (by decide) (fun hc5 => ?_) (fun hc5 => ?_)
                  ·
                    rw [if_pos hc5] at h
                    refine lv_iinc (k := 4) (v := (x4 + 1)) (lv' := [(4, .int (x4 + 1)), (0, .ref (ad 4)), (1, .int x1), (2, .int x2), (3, .int x3), (5, .int x5)]) hx hb d_K_rankAttributes_85 hl rfl rfl (by decide) rfl (fun ls hl => ?_)
                    refine lv_goto (tgt := 48) hx hb d_K_rankAttributes_88 (by decide) ?_
                    exact ih48 _ _ _ _ _ _ _ _ h (lv_sub hl [1, 2, 3, 4, 0] rfl) hP hD hS
                  ·
                    rw [if_neg hc5] at h
                    refine lv_aload_n hx hb d_K_rankAttributes_63 rfl (lv_at hl 0 rfl) ?_
                    refine g_K_ranks dC dI ad ca τ hx hb hts hown hK hP k_113 d_K_rankAttributes_64 ?_
                    refine lv_iload_n hx hb d_K_rankAttributes_67 rfl (lv_at hl 3 rfl) ?_
                    refine lv_iload hx hb d_K_rankAttributes_68 (lv_at hl 5 rfl) ?_
                    refine lv_iadd hx hb d_K_rankAttributes_70 ?_
                    refine lv_aload_n hx hb d_K_rankAttributes_71 rfl (lv_at hl 0 rfl) ?_
                    refine lv_iload_n hx hb d_K_rankAttributes_72 rfl (lv_at hl 1 rfl) ?_
                    refine lv_iload hx hb d_K_rankAttributes_73 (lv_at hl 5 rfl) ?_
                    obtain ⟨q6, h7, h⟩ := vq_bi h
                    have hFc := vq_freeAll hD hS hA
                    refine va_calli (va_runV (As := [.int x1, .int x5]) (rest := [.int (x3 + x5), .ref (ad 21)]) ⟨hx, hb, hml, hown, hts⟩ (c_K_rankAboveLed l htr dC dI ad ca N τ x1 x5 q6 h7 H.size) (vq_cV WSk hts 2 rfl rfl ⟨by decide, by decide⟩ k_112 k_122 k_123 k_124 k_125 (by decide +kernel)) ⟨vq_blind, va_recv hK hP (ci := 4) (q0 := 4) rfl rfl, vq_here hst hS hN hP hK hD⟩ rfl rfl hl.1 rfl (lv_room (Nat.le_of_ble_eq_true rfl)) d_K_rankAttributes_75 ⟨by decide, by decide⟩) hS (fun q _ h => hFc q h) hFc (fun r u t H1 locs ht hvm hw hB hz1 hk1 hS => ?_)
                    obtain ⟨hP, -, hD1⟩ := hB
                    rw [ht] at hP
                    have hD := hD1.weaken (fun _ _ _ h => hFc _ h)
                    have hw : r = q6.1 := hw
                    subst hw
                    generalize H1 = H at hP hS ⊢
                    refine W.widen (k := 0) (n := 0) (by decide) (by decide) ?_
                    obtain ⟨hi8, h⟩ := vq_bd h
                    refine as_X13 dC dI ad ca q6.2 hx hb hts hown hK hP hD hS hi8 d_K_rankAttributes_78 (fun H locs hP hD hS => ?_)
                    obtain ⟨σ9, eσ9, h⟩ := vq_let h
                    rw [← eσ9] at hP hD
                    refine lv_iinc (k := 5) (v := (x5 + 1)) (lv' := [(5, .int (x5 + 1)), (0, .ref (ad 4)), (1, .int x1), (2, .int x2), (3, .int x3), (4, .int x4)]) hx hb d_K_rankAttributes_79 hl rfl rfl (by decide) rfl (fun ls hl => ?_)
                    refine lv_goto (tgt := 57) hx hb d_K_rankAttributes_82 (by decide) ?_
                    exact ih57 _ _ _ _ _ _ _ _ _ h (lv_sub hl [1, 2, 3, 4, 5, 0] rfl) hP hD hS
              exact L57 N _ _ _ _ _ _ _ _ _ h (lv_sub hl [1, 2, 3, 4, 5, 0] rfl) hP hD hS
        exact L48 N _ _ _ _ _ _ _ _ h (lv_sub hl [1, 2, 3, 4, 0] rfl) hP hD hS
      ·
        rw [if_neg hc3] at h
        refine lv_aload_n hx hb d_K_rankAttributes_23 rfl (lv_at hl 0 rfl) ?_
        refine g_K_ranks dC dI ad ca τ hx hb hts hown hK hP k_113 d_K_rankAttributes_24 ?_
        refine lv_iload_n hx hb d_K_rankAttributes_27 rfl (lv_at hl 3 rfl) ?_
        refine lv_iload hx hb d_K_rankAttributes_28 (lv_at hl 4 rfl) ?_
        refine lv_iadd hx hb d_K_rankAttributes_30 ?_
        refine lv_aload_n hx hb d_K_rankAttributes_31 rfl (lv_at hl 0 rfl) ?_
        refine lv_iload_n hx hb d_K_rankAttributes_32 rfl (lv_at hl 1 rfl) ?_
        refine lv_iload hx hb d_K_rankAttributes_33 (lv_at hl 4 rfl) ?_
        obtain ⟨q10, h11, h⟩ := vq_bi h
        have hFc := vq_freeAll hD hS hA
        refine va_calli (va_runV (As := [.int x1, .int x4]) (rest := [.int (x3 + x4), .ref (ad 21)]) ⟨hx, hb, hml, hown, hts⟩ (c_K_leastRank l htr dC dI ad ca N τ x1 x4 q10 h11 H.size) (vq_cV WSk hts 2 rfl rfl ⟨by decide, by decide⟩ k_110 k_122 k_126 k_127 k_128 (by decide +kernel)) ⟨vq_blind, va_recv hK hP (ci := 4) (q0 := 4) rfl rfl, vq_here hst hS hN hP hK hD⟩ rfl rfl hl.1 rfl (lv_room (Nat.le_of_ble_eq_true rfl)) d_K_rankAttributes_35 ⟨by decide, by decide⟩) hS (fun q _ h => hFc q h) hFc (fun r u t H1 locs ht hvm hw hB hz1 hk1 hS => ?_)
        obtain ⟨hP, -, hD1⟩ := hB
        rw [ht] at hP
        have hD := hD1.weaken (fun _ _ _ h => hFc _ h)
        have hw : r = q10.1 := hw
        subst hw
        generalize H1 = H at hP hS ⊢
        refine W.widen (k := 0) (n := 0) (by decide) (by decide) ?_
        obtain ⟨hi12, h⟩ := vq_bd h
        refine as_X13 dC dI ad ca q10.2 hx hb hts hown hK hP hD hS hi12 d_K_rankAttributes_38 (fun H locs hP hD hS => ?_)
        obtain ⟨σ13, eσ13, h⟩ := vq_let h
        rw [← eσ13] at hP hD
        refine lv_iinc (k := 4) (v := (x4 + 1)) (lv' := [(4, .int (x4 + 1)), (0, .ref (ad 4)), (1, .int x1), (2, .int x2), (3, .int x3)]) hx hb d_K_rankAttributes_39 hl rfl rfl (by decide) rfl (fun ls hl => ?_)
        refine lv_goto (tgt := 17) hx hb d_K_rankAttributes_42 (by decide) ?_
        exact ih17 _ _ _ _ _ _ _ _ h (lv_sub hl [1, 2, 3, 4, 0] rfl) hP hD hS
  exact L17 N _ _ _ _ _ _ _ _ h (lv_sub hl [3, 4, 2, 1, 0] rfl) hP hD hS

set_option maxHeartbeats 4000000 in
set_option maxRecDepth 100000 in
theorem c_K_countVisits (l : Launch) (htr : l.stackTraces = false) (dC : Nat → ClassId) (dI : Nat → Nat → Nat) (ad : Nat → Nat) (ca : Nat → ClassId) (N : Nat) (σ : vS) (a0 : Int32) (v : Int32 × vS) (h : f_K_countVisits N σ a0 = some v) (sz : Nat) : Met l y_K_countVisits WS ({ frames := 1, cells := 0, slots := 0, locals := 13 }) (va_Pc [.ref (ad 4), .int a0] (vq_Pre (dC, dI) CL sz (Xw ad ca σ) (Xt ca))) (va_Qv (fun _ : Unit => True) (fun _ t => vq_Post (dC, dI) CL (va_A (Xw ad ca σ) sz) (Xw ad ca v.2) (Xt ca) t) (va_A (Xw ad ca σ) sz)) 0 0 (va_A (Xw ad ca σ) sz) := by
  refine vq_ofW (cc := prog_5_method_9_code) (maxL := 4) (ret := (Option.none : Option Jvm.ClassFile.FieldType)) pl_K (vq_his k_129) ?_
  intro p e s m args below meth c s₁ B hml hv
  obtain ⟨rfl, hst, hsz, hP, hK, hD0⟩ := hv
  have hx := B.exec
  have hb := B.bytes
  have hr := B.returns
  have hts := atoms_spec (ws := WS) B.pre
  have hown : s.vm.findClass R_K = some m.cls := findClass_of_methodNamed B.named
  have hlocks := B.notSynchronized
  have hno := vq_noH B (hts _ k_129)
  subst hsz
  have hN := vq_ns hP
  have hD := hD0.self (sz := s.heap.size)
  generalize hAe : va_A (Xw ad ca σ) s.heap.size = A at hD hN ⊢
  have hA : ∀ q : Nat, s.heap.size ≤ q → A q := fun q h => by rw [← hAe]; exact Or.inr h
  have hS : va_S A s.heap s.heap [] := va_S.rf
  have hl := lv_entry ([.ref (ad 4), .int a0]) (n := 4) (Nat.le_of_ble_eq_true rfl)
  rw [lg_entry_eq]
  generalize (lg_sl ([.ref (ad 4), .int a0]) ++ List.replicate (4 - (lg_sl ([.ref (ad 4), .int a0])).length) Slot.unset).toArray = ls at hl ⊢
  have hl : lv_has ls 4 [(0, .ref (ad 4)), (1, .int a0)] := hl
  unfold f_K_countVisits at h
  refine lv_iconst (v := 1) hx hb d_K_countVisits_0 (by decide) ?_
  refine lv_istore_n (lv' := [(2, .int 1), (0, .ref (ad 4)), (1, .int a0)]) hx hb d_K_countVisits_1 rfl hl (by decide) rfl (fun ls hl => ?_)
  refine lv_iconst (v := 0) hx hb d_K_countVisits_2 (by decide) ?_
  refine lv_istore_n (lv' := [(3, .int 0), (2, .int 1), (0, .ref (ad 4)), (1, .int a0)]) hx hb d_K_countVisits_3 rfl hl (by decide) rfl (fun ls hl => ?_)
  have L4 : ∀ n4 : Nat, ∀ (τ : vS) (x1 : Int32) (x2 : Int32) (x3 : Int32) (H : Heap) (locs : List Loc) (ls : Array Slot), f_K_countVisits_4 N n4 τ x1 x2 x3 = some v → lv_has ls 4 [(0, .ref (ad 4)), (1, .int x1), (2, .int x2), (3, .int x3)] → va_P (dC, dI) CL (Xw ad ca τ) H → va_D A (Xw ad ca τ) → va_S A s.heap H locs → W p l e (headSpec WS ({ frames := 1, cells := 0, slots := 0, locals := 13 })).room s m ([.ref (ad 4), .int a0] : List Value).toArray below meth c H locs 0 0 (MQ below (va_Qv (fun _ : Unit => True) (fun _ t => vq_Post (dC, dI) CL A (Xw ad ca v.2) (Xt ca) t) A) ([.ref (ad 4), .int a0] : List Value).toArray s 0 0 A) (F0 m 4 ls []) := by
    intro n4
    induction n4 with
    | zero =>
      intro τ x1 x2 x3 H locs ls h hl hP hD hS
      rw [f_K_countVisits_4] at h
      cases h
    | succ n4 ih4 =>
      intro τ x1 x2 x3 H locs ls h hl hP hD hS
      rw [f_K_countVisits_4] at h
      dsimp only at h
      refine lv_iload_n hx hb d_K_countVisits_4 rfl (lv_at hl 3 rfl) ?_
      refine lv_aload_n hx hb d_K_countVisits_5 rfl (lv_at hl 0 rfl) ?_
      refine g_K_grammar dC dI ad ca τ hx hb hts hown hK hP k_107 d_K_countVisits_6 ?_
      refine gN_G_attributeCounts dC dI ad ca τ hx hb hts hown hK hP k_114 d_K_countVisits_9 ?_
      refine lv_iload_n hx hb d_K_countVisits_12 rfl (lv_at hl 1 rfl) ?_
      obtain ⟨hi1, h⟩ := vq_bd h
      refine al_X0 dC dI ad ca τ hx hb hts hown hK hP hi1 d_K_countVisits_13 ?_
      obtain ⟨i2, ei2, h⟩ := vq_let h
      refine vq_top ei2.symm ?_
      refine lv_icmp_ge (tgt := 38) hx hb d_K_countVisits_14 (by decide) (fun hc3 => ?_) (fun hc3 => ?_)
      ·
        rw [if_pos hc3] at h
        refine lv_aload_n hx hb d_K_countVisits_38 rfl (lv_at hl 0 rfl) ?_
        refine g_K_visitCounts dC dI ad ca τ hx hb hts hown hK hP k_130 d_K_countVisits_39 ?_
        refine lv_iload_n hx hb d_K_countVisits_42 rfl (lv_at hl 1 rfl) ?_
        refine lv_iload_n hx hb d_K_countVisits_43 rfl (lv_at hl 2 rfl) ?_
        refine lv_iconst (v := 1) hx hb d_K_countVisits_44 (by decide) ?_
        refine lv_iadd hx hb d_K_countVisits_45 ?_
        refine lv_iconst (v := 2) hx hb d_K_countVisits_46 (by decide) ?_
        refine lv_idiv hx hb d_K_countVisits_47 (by decide) ?_
        obtain ⟨hi4, h⟩ := vq_bd h
        refine as_X14 dC dI ad ca τ hx hb hts hown hK hP hD hS hi4 d_K_countVisits_48 (fun H locs hP hD hS => ?_)
        obtain ⟨σ5, eσ5, h⟩ := vq_let h
        rw [← eσ5] at hP hD
        have h9 := Option.some.inj h
        rw [← h9]
        exact W.vret hx hb hr (fun t ht hW => ⟨⟨(), rfl, trivial, by rw [ht]; exact hP, va_K.moved hW.alike hK, hD⟩, hS.F ht⟩) hS.2.2 d_K_countVisits_49
      ·
        rw [if_neg hc3] at h
        refine lv_iload_n hx hb d_K_countVisits_17 rfl (lv_at hl 2 rfl) ?_
        refine lv_aload_n hx hb d_K_countVisits_18 rfl (lv_at hl 0 rfl) ?_
        refine g_K_ranks dC dI ad ca τ hx hb hts hown hK hP k_113 d_K_countVisits_19 ?_
        refine lv_iload_n hx hb d_K_countVisits_22 rfl (lv_at hl 1 rfl) ?_
        refine lv_iconst (v := 4) hx hb d_K_countVisits_23 (by decide) ?_
        refine lv_imul hx hb d_K_countVisits_24 ?_
        refine lv_iload_n hx hb d_K_countVisits_25 rfl (lv_at hl 3 rfl) ?_
        refine lv_iadd hx hb d_K_countVisits_26 ?_
        obtain ⟨hi6, h⟩ := vq_bd h
        refine al_X13 dC dI ad ca τ hx hb hts hown hK hP hi6 d_K_countVisits_27 ?_
        obtain ⟨i7, ei7, h⟩ := vq_let h
        refine vq_top ei7.symm ?_
        refine va_mmax hx hb (hml.trans hl.1.symm) hown (hts _ k_117) (hts _ k_118) (hts _ k_119) (hts _ k_120) (by decide) (by decide) (by decide) (by decide) d_K_countVisits_28 ?_
        refine lv_istore_n (lv' := [(2, .int (if x2 < i7 then i7 else x2)), (0, .ref (ad 4)), (1, .int x1), (3, .int x3)]) hx hb d_K_countVisits_31 rfl hl (by decide) rfl (fun ls hl => ?_)
        refine lv_iinc (k := 3) (v := (x3 + 1)) (lv' := [(3, .int (x3 + 1)), (2, .int (if x2 < i7 then i7 else x2)), (0, .ref (ad 4)), (1, .int x1)]) hx hb d_K_countVisits_32 hl rfl rfl (by decide) rfl (fun ls hl => ?_)
        refine lv_goto (tgt := 4) hx hb d_K_countVisits_35 (by decide) ?_
        exact ih4 _ _ _ _ _ _ _ h (lv_sub hl [2, 3, 1, 0] rfl) hP hD hS
  exact L4 N _ _ _ _ _ _ _ h (lv_sub hl [2, 3, 1, 0] rfl) hP hD hS

set_option maxHeartbeats 4000000 in
set_option maxRecDepth 100000 in
theorem c_K_shareOut (l : Launch) (htr : l.stackTraces = false) (dC : Nat → ClassId) (dI : Nat → Nat → Nat) (ad : Nat → Nat) (ca : Nat → ClassId) (N : Nat) (σ : vS) (a0 : Int32) (v : Int32 × vS) (h : f_K_shareOut N σ a0 = some v) (sz : Nat) : Met l y_K_shareOut WS ({ frames := 0, cells := 0, slots := 0, locals := 0 }) (va_Pc [.ref (ad 4), .int a0] (vq_Pre (dC, dI) CL sz (Xw ad ca σ) (Xt ca))) (va_Qv (fun _ : Unit => True) (fun _ t => vq_Post (dC, dI) CL (va_A (Xw ad ca σ) sz) (Xw ad ca v.2) (Xt ca) t) (va_A (Xw ad ca σ) sz)) 0 0 (va_A (Xw ad ca σ) sz) := by
  refine vq_ofW (cc := prog_5_method_10_code) (maxL := 5) (ret := (Option.none : Option Jvm.ClassFile.FieldType)) pl_K (vq_his k_131) ?_
  intro p e s m args below meth c s₁ B hml hv
  obtain ⟨rfl, hst, hsz, hP, hK, hD0⟩ := hv
  have hx := B.exec
  have hb := B.bytes
  have hr := B.returns
  have hts := atoms_spec (ws := WS) B.pre
  have hown : s.vm.findClass R_K = some m.cls := findClass_of_methodNamed B.named
  have hlocks := B.notSynchronized
  have hno := vq_noH B (hts _ k_131)
  subst hsz
  have hN := vq_ns hP
  have hD := hD0.self (sz := s.heap.size)
  generalize hAe : va_A (Xw ad ca σ) s.heap.size = A at hD hN ⊢
  have hA : ∀ q : Nat, s.heap.size ≤ q → A q := fun q h => by rw [← hAe]; exact Or.inr h
  have hS : va_S A s.heap s.heap [] := va_S.rf
  have hl := lv_entry ([.ref (ad 4), .int a0]) (n := 5) (Nat.le_of_ble_eq_true rfl)
  rw [lg_entry_eq]
  generalize (lg_sl ([.ref (ad 4), .int a0]) ++ List.replicate (5 - (lg_sl ([.ref (ad 4), .int a0])).length) Slot.unset).toArray = ls at hl ⊢
  have hl : lv_has ls 5 [(0, .ref (ad 4)), (1, .int a0)] := hl
  unfold f_K_shareOut at h
  refine lv_iconst (v := 0) hx hb d_K_shareOut_0 (by decide) ?_
  refine lv_istore_n (lv' := [(2, .int 0), (0, .ref (ad 4)), (1, .int a0)]) hx hb d_K_shareOut_1 rfl hl (by decide) rfl (fun ls hl => ?_)
  have L2 : ∀ n2 : Nat, ∀ (τ : vS) (x1 : Int32) (x2 : Int32) (H : Heap) (locs : List Loc) (ls : Array Slot), f_K_shareOut_2 N n2 τ x1 x2 = some v → lv_has ls 5 [(0, .ref (ad 4)), (1, .int x1), (2, .int x2)] → va_P (dC, dI) CL (Xw ad ca τ) H → va_D A (Xw ad ca τ) → va_S A s.heap H locs → W p l e (headSpec WS ({ frames := 0, cells := 0, slots := 0, locals := 0 })).room s m ([.ref (ad 4), .int a0] : List Value).toArray below meth c H locs 0 0 (MQ below (va_Qv (fun _ : Unit => True) (fun _ t => vq_Post (dC, dI) CL A (Xw ad ca v.2) (Xt ca) t) A) ([.ref (ad 4), .int a0] : List Value).toArray s 0 0 A) (F0 m 2 ls []) := by
    intro n2
    induction n2 with
    | zero =>
      intro τ x1 x2 H locs ls h hl hP hD hS
      rw [f_K_shareOut_2] at h
      cases h
    | succ n2 ih2 =>
      intro τ x1 x2 H locs ls h hl hP hD hS
      rw [f_K_shareOut_2] at h
      dsimp only at h
      refine lv_iload_n hx hb d_K_shareOut_2 rfl (lv_at hl 2 rfl) ?_
      refine lv_aload_n hx hb d_K_shareOut_3 rfl (lv_at hl 0 rfl) ?_
      refine g_K_grammar dC dI ad ca τ hx hb hts hown hK hP k_107 d_K_shareOut_4 ?_
      refine gN_G_attributeCounts dC dI ad ca τ hx hb hts hown hK hP k_114 d_K_shareOut_7 ?_
      refine lv_iload_n hx hb d_K_shareOut_10 rfl (lv_at hl 1 rfl) ?_
      obtain ⟨hi1, h⟩ := vq_bd h
      refine al_X0 dC dI ad ca τ hx hb hts hown hK hP hi1 d_K_shareOut_11 ?_
      obtain ⟨i2, ei2, h⟩ := vq_let h
      refine vq_top ei2.symm ?_
      refine lv_icmp_ge (tgt := 63) hx hb d_K_shareOut_12 (by decide) (fun hc3 => ?_) (fun hc3 => ?_)
      ·
        rw [if_pos hc3] at h
        have h9 := Option.some.inj h
        rw [← h9]
        exact W.vret hx hb hr (fun t ht hW => ⟨⟨(), rfl, trivial, by rw [ht]; exact hP, va_K.moved hW.alike hK, hD⟩, hS.F ht⟩) hS.2.2 d_K_shareOut_63
      ·
        rw [if_neg hc3] at h
        refine lv_aload_n hx hb d_K_shareOut_15 rfl (lv_at hl 0 rfl) ?_
        refine g_K_ranks dC dI ad ca τ hx hb hts hown hK hP k_113 d_K_shareOut_16 ?_
        refine lv_iload_n hx hb d_K_shareOut_19 rfl (lv_at hl 1 rfl) ?_
        refine lv_iconst (v := 4) hx hb d_K_shareOut_20 (by decide) ?_
        refine lv_imul hx hb d_K_shareOut_21 ?_
        refine lv_iload_n hx hb d_K_shareOut_22 rfl (lv_at hl 2 rfl) ?_
        refine lv_iadd hx hb d_K_shareOut_23 ?_
        obtain ⟨hi4, h⟩ := vq_bd h
        refine al_X13 dC dI ad ca τ hx hb hts hown hK hP hi4 d_K_shareOut_24 ?_
        obtain ⟨i5, ei5, h⟩ := vq_let h
        refine vq_top ei5.symm ?_
        refine lv_istore_n (lv' := [(3, .int i5), (0, .ref (ad 4)), (1, .int x1), (2, .int x2)]) hx hb d_K_shareOut_25 rfl hl (by decide) rfl (fun ls hl => ?_)
        refine lv_aload_n hx hb d_K_shareOut_26 rfl (lv_at hl 1 rfl) ?_
        refine g_K_visitCounts dC dI ad ca τ hx hb hts hown hK hP k_130 d_K_shareOut_27 ?_
        refine lv_iload_n hx hb d_K_shareOut_30 rfl (lv_at hl 2 rfl) ?_
        obtain ⟨hi6, h⟩ := vq_bd h
        refine al_X14 dC dI ad ca τ hx hb hts hown hK hP hi6 d_K_shareOut_31 ?_
        obtain ⟨i7, ei7, h⟩ := vq_let h
        refine vq_top ei7.symm ?_
        refine lv_iload_n hx hb d_K_shareOut_32 rfl (lv_at hl 0 rfl) ?_
        refine lv_iconst (v := 1) hx hb d_K_shareOut_33 (by decide) ?_
        refine lv_isub hx hb d_K_shareOut_34 ?_
        refine lv_iconst (v := 2) hx hb d_K_shareOut_35 (by decide) ?_
        refine lv_idiv hx hb d_K_shareOut_36 (by decide) ?_
        refine lv_isub hx hb d_K_shareOut_37 ?_
        refine lv_istore (lv' := [(4, .int (i7 - ((i5 - 1) / 2))), (3, .int i5), (0, .ref (ad 4)), (1, .int x1), (2, .int x2)]) hx hb d_K_shareOut_38 hl (by decide) rfl (fun ls hl => ?_)
        refine lv_aload_n hx hb d_K_shareOut_40 rfl (lv_at hl 2 rfl) ?_
        refine g_K_belonging dC dI ad ca τ hx hb hts hown hK hP k_106 d_K_shareOut_41 ?_
        refine lv_iload_n hx hb d_K_shareOut_44 rfl (lv_at hl 3 rfl) ?_
        refine lv_iconst (v := 4) hx hb d_K_shareOut_45 (by decide) ?_
        refine lv_imul hx hb d_K_shareOut_46 ?_
        refine lv_iload hx hb d_K_shareOut_47 (lv_at hl 0 rfl) ?_
        refine lv_iadd hx hb d_K_shareOut_49 ?_
        obtain ⟨i8, ei8, h⟩ := vq_let h
        refine vq_top ei8.symm ?_
        refine lv_dup2_11 hx hb d_K_shareOut_50 rfl rfl ?_
        obtain ⟨hi9, h⟩ := vq_bd h
        refine al_X15 dC dI ad ca τ hx hb hts hown hK hP hi9 d_K_shareOut_51 ?_
        obtain ⟨i10, ei10, h⟩ := vq_let h
        refine vq_top ei10.symm ?_
        refine lv_iconst (v := 1) hx hb d_K_shareOut_52 (by decide) ?_
        refine lv_iload_n hx hb d_K_shareOut_53 rfl (lv_at hl 4 rfl) ?_
        refine lv_ishl hx hb d_K_shareOut_54 ?_
        refine lv_ior hx hb d_K_shareOut_55 ?_
        obtain ⟨i11, ei11, h⟩ := vq_let h
        refine vq_top ei11.symm ?_
        obtain ⟨hi12, h⟩ := vq_bd h
        refine as_X15 dC dI ad ca τ hx hb hts hown hK hP hD hS hi12 d_K_shareOut_56 (fun H locs hP hD hS => ?_)
        obtain ⟨σ13, eσ13, h⟩ := vq_let h
        rw [← eσ13] at hP hD
        refine lv_iinc (k := 4) (v := (x2 + 1)) (lv' := [(2, .int (x2 + 1)), (4, .int (i7 - ((i5 - 1) / 2))), (3, .int i5), (0, .ref (ad 4)), (1, .int x1)]) hx hb d_K_shareOut_57 hl rfl rfl (by decide) rfl (fun ls hl => ?_)
        refine lv_goto (tgt := 2) hx hb d_K_shareOut_60 (by decide) ?_
        exact ih2 _ _ _ _ _ _ h (lv_sub hl [3, 4, 0] rfl) hP hD hS
  exact L2 N _ _ _ _ _ _ h (lv_sub hl [1, 2, 0] rfl) hP hD hS

set_option maxHeartbeats 4000000 in
set_option maxRecDepth 100000 in
theorem c_K_ofLessRank (l : Launch) (htr : l.stackTraces = false) (dC : Nat → ClassId) (dI : Nat → Nat → Nat) (ad : Nat → Nat) (ca : Nat → ClassId) (N : Nat) (σ : vS) (a0 : Int32) (a1 : Int32) (v : Int32 × vS) (h : f_K_ofLessRank N σ a0 a1 = some v) (sz : Nat) : Met l y_K_ofLessRank WS ({ frames := 0, cells := 0, slots := 0, locals := 0 }) (va_Pc [.ref (ad 4), .int a0, .int a1] (vq_Pre (dC, dI) CL sz (Xw ad ca σ) (Xt ca))) (va_Qi (fun (r : Int32) (_ : Unit) => r = v.1) (fun _ t => vq_Post (dC, dI) CL (va_A (Xw ad ca σ) sz) (Xw ad ca v.2) (Xt ca) t) (va_A (Xw ad ca σ) sz)) 0 0 (va_A (Xw ad ca σ) sz) := by
  refine vq_ofW (cc := prog_5_method_11_code) (maxL := 5) (ret := (Option.some Jvm.ClassFile.FieldType.int)) pl_K (vq_his k_132) ?_
  intro p e s m args below meth c s₁ B hml hv
  obtain ⟨rfl, hst, hsz, hP, hK, hD0⟩ := hv
  have hx := B.exec
  have hb := B.bytes
  have hr := B.returns
  have hts := atoms_spec (ws := WS) B.pre
  have hown : s.vm.findClass R_K = some m.cls := findClass_of_methodNamed B.named
  have hlocks := B.notSynchronized
  have hno := vq_noH B (hts _ k_132)
  subst hsz
  have hN := vq_ns hP
  have hD := hD0.self (sz := s.heap.size)
  generalize hAe : va_A (Xw ad ca σ) s.heap.size = A at hD hN ⊢
  have hA : ∀ q : Nat, s.heap.size ≤ q → A q := fun q h => by rw [← hAe]; exact Or.inr h
  have hS : va_S A s.heap s.heap [] := va_S.rf
  have hl := lv_entry ([.ref (ad 4), .int a0, .int a1]) (n := 5) (Nat.le_of_ble_eq_true rfl)
  rw [lg_entry_eq]
  generalize (lg_sl ([.ref (ad 4), .int a0, .int a1]) ++ List.replicate (5 - (lg_sl ([.ref (ad 4), .int a0, .int a1])).length) Slot.unset).toArray = ls at hl ⊢
  have hl : lv_has ls 5 [(0, .ref (ad 4)), (1, .int a0), (2, .int a1)] := hl
  unfold f_K_ofLessRank at h
  refine lv_iconst (v := 0) hx hb d_K_ofLessRank_0 (by decide) ?_
  refine lv_istore_n (lv' := [(3, .int 0), (0, .ref (ad 4)), (1, .int a0), (2, .int a1)]) hx hb d_K_ofLessRank_1 rfl hl (by decide) rfl (fun ls hl => ?_)
  refine lv_iconst (v := 0) hx hb d_K_ofLessRank_2 (by decide) ?_
  refine lv_istore (lv' := [(4, .int 0), (3, .int 0), (0, .ref (ad 4)), (1, .int a0), (2, .int a1)]) hx hb d_K_ofLessRank_3 hl (by decide) rfl (fun ls hl => ?_)
  have L5 : ∀ n5 : Nat, ∀ (τ : vS) (x1 : Int32) (x2 : Int32) (x3 : Int32) (x4 : Int32) (H : Heap) (locs : List Loc) (ls : Array Slot), f_K_ofLessRank_5 N n5 τ x1 x2 x3 x4 = some v → lv_has ls 5 [(0, .ref (ad 4)), (1, .int x1), (2, .int x2), (3, .int x3), (4, .int x4)] → va_P (dC, dI) CL (Xw ad ca τ) H → va_D A (Xw ad ca τ) → va_S A s.heap H locs → W p l e (headSpec WS ({ frames := 0, cells := 0, slots := 0, locals := 0 })).room s m ([.ref (ad 4), .int a0, .int a1] : List Value).toArray below meth c H locs 0 0 (MQ below (va_Qi (fun (r : Int32) (_ : Unit) => r = v.1) (fun _ t => vq_Post (dC, dI) CL A (Xw ad ca v.2) (Xt ca) t) A) ([.ref (ad 4), .int a0, .int a1] : List Value).toArray s 0 0 A) (F0 m 5 ls []) := by
    intro n5
    induction n5 with
    | zero =>
      intro τ x1 x2 x3 x4 H locs ls h hl hP hD hS
      rw [f_K_ofLessRank_5] at h
      cases h
    | succ n5 ih5 =>
      intro τ x1 x2 x3 x4 H locs ls h hl hP hD hS
      rw [f_K_ofLessRank_5] at h
      dsimp only at h
      refine lv_iload hx hb d_K_ofLessRank_5 (lv_at hl 4 rfl) ?_
      refine lv_aload_n hx hb d_K_ofLessRank_7 rfl (lv_at hl 0 rfl) ?_
      refine g_K_grammar dC dI ad ca τ hx hb hts hown hK hP k_107 d_K_ofLessRank_8 ?_
      refine gN_G_attributeCounts dC dI ad ca τ hx hb hts hown hK hP k_114 d_K_ofLessRank_11 ?_
      refine lv_iload_n hx hb d_K_ofLessRank_14 rfl (lv_at hl 1 rfl) ?_
      obtain ⟨hi1, h⟩ := vq_bd h
      refine al_X0 dC dI ad ca τ hx hb hts hown hK hP hi1 d_K_ofLessRank_15 ?_
      obtain ⟨i2, ei2, h⟩ := vq_let h
      refine vq_top ei2.symm ?_
      refine lv_icmp_ge (tgt := 47) hx hb d_K_ofLessRank_16 (by decide) (fun hc3 => ?_) (fun hc3 => ?_)
      ·
        rw [if_pos hc3] at h
        refine lv_iload_n hx hb d_K_ofLessRank_47 rfl (lv_at hl 3 rfl) ?_
        have h9 := Option.some.inj h
        rw [← h9]
        exact W.iret (v := x3) hx hb hr (fun t ht hW => ⟨⟨x3, (), rfl, rfl, by rw [ht]; exact hP, va_K.moved hW.alike hK, hD⟩, hS.F ht⟩) hS.2.2 d_K_ofLessRank_48
      ·
        rw [if_neg hc3] at h
        refine lv_aload_n hx hb d_K_ofLessRank_19 rfl (lv_at hl 0 rfl) ?_
        refine g_K_ranks dC dI ad ca τ hx hb hts hown hK hP k_113 d_K_ofLessRank_20 ?_
        refine lv_iload_n hx hb d_K_ofLessRank_23 rfl (lv_at hl 1 rfl) ?_
        refine lv_iconst (v := 4) hx hb d_K_ofLessRank_24 (by decide) ?_
        refine lv_imul hx hb d_K_ofLessRank_25 ?_
        refine lv_iload hx hb d_K_ofLessRank_26 (lv_at hl 4 rfl) ?_
        refine lv_iadd hx hb d_K_ofLessRank_28 ?_
        obtain ⟨hi4, h⟩ := vq_bd h
        refine al_X13 dC dI ad ca τ hx hb hts hown hK hP hi4 d_K_ofLessRank_29 ?_
        obtain ⟨i5, ei5, h⟩ := vq_let h
        refine vq_top ei5.symm ?_
        refine lv_iload_n hx hb d_K_ofLessRank_30 rfl (lv_at hl 2 rfl) ?_
        have J41 : ∀ (τ : vS) (x1 : Int32) (x2 : Int32) (x3 : Int32) (x4 : Int32) (H : Heap) (locs : List Loc) (ls : Array Slot), f_K_ofLessRank_41 N (f_K_ofLessRank_5 N n5) τ x1 x2 x3 x4 = some v → lv_has ls 5 [(0, .ref (ad 4)), (1, .int x1), (2, .int x2), (3, .int x3), (4, .int x4)] → va_P (dC, dI) CL (Xw ad ca τ) H → va_D A (Xw ad ca τ) → va_S A s.heap H locs → W p l e (headSpec WS ({ frames := 0, cells := 0, slots := 0, locals := 0 })).room s m ([.ref (ad 4), .int a0, .int a1] : List Value).toArray below meth c H locs 0 0 (MQ below (va_Qi (fun (r : Int32) (_ : Unit) => r = v.1) (fun _ t => vq_Post (dC, dI) CL A (Xw ad ca v.2) (Xt ca) t) A) ([.ref (ad 4), .int a0, .int a1] : List Value).toArray s 0 0 A) (F0 m 41 ls []) := by
          intro τ x1 x2 x3 x4 H locs ls h hl hP hD hS
          unfold f_K_ofLessRank_41 at h
          refine lv_iinc (k := 4) (v := (x4 + 1)) (lv' := [(4, .int (x4 + 1)), (0, .ref (ad 4)), (1, .int x1), (2, .int x2), (3, .int x3)]) hx hb d_K_ofLessRank_41 hl rfl rfl (by decide) rfl (fun ls hl => ?_)
          refine lv_goto (tgt := 5) hx hb d_K_ofLessRank_44 (by decide) ?_
          exact ih5 _ _ _ _ _ _ _ _ h (lv_sub hl [1, 2, 3, 4, 0] rfl) hP hD hS
        refine lv_icmp_ge (tgt := 41) hx hb d_K_ofLessRank_31 (by decide) (fun hc6 => ?_) (fun hc6 => ?_)
        ·
          rw [if_pos hc6] at h
          exact J41 _ _ _ _ _ _ _ _ h (lv_sub hl [0, 1, 2, 3, 4] rfl) hP hD hS
        ·
          rw [if_neg hc6] at h
          refine lv_iload_n hx hb d_K_ofLessRank_34 rfl (lv_at hl 3 rfl) ?_
          refine lv_iconst (v := 1) hx hb d_K_ofLessRank_35 (by decide) ?_
          refine lv_iload hx hb d_K_ofLessRank_36 (lv_at hl 4 rfl) ?_
          refine lv_ishl hx hb d_K_ofLessRank_38 ?_
          refine lv_ior hx hb d_K_ofLessRank_39 ?_
          obtain ⟨i7, ei7, h⟩ := vq_let h
          refine vq_top ei7.symm ?_
          refine lv_istore_n (lv' := [(3, .int i7), (0, .ref (ad 4)), (1, .int x1), (2, .int x2), (4, .int x4)]) hx hb d_K_ofLessRank_40 rfl hl (by decide) rfl (fun ls hl => ?_)
          exact J41 _ _ _ _ _ _ _ _ h (lv_sub hl [1, 2, 3, 0, 4] rfl) hP hD hS
  exact L5 N _ _ _ _ _ _ _ _ h (lv_sub hl [2, 3, 4, 1, 0] rfl) hP hD hS

set_option maxHeartbeats 4000000 in
set_option maxRecDepth 100000 in
theorem c_K_addToLeads (l : Launch) (htr : l.stackTraces = false) (dC : Nat → ClassId) (dI : Nat → Nat → Nat) (ad : Nat → Nat) (ca : Nat → ClassId) (N : Nat) (σ : vS) (v : Int32 × vS) (h : f_K_addToLeads N σ = some v) (sz : Nat) : Met l y_K_addToLeads WS ({ frames := 1, cells := 0, slots := 0, locals := 24 }) (va_Pc [.ref (ad 4)] (vq_Pre (dC, dI) CL sz (Xw ad ca σ) (Xt ca))) (va_Qv (fun _ : Unit => True) (fun _ t => vq_Post (dC, dI) CL (va_A (Xw ad ca σ) sz) (Xw ad ca v.2) (Xt ca) t) (va_A (Xw ad ca σ) sz)) 0 0 (va_A (Xw ad ca σ) sz) := by
  refine vq_ofW (cc := prog_5_method_3_code) (maxL := 4) (ret := (Option.none : Option Jvm.ClassFile.FieldType)) pl_K (vq_his k_133) ?_
  intro p e s m args below meth c s₁ B hml hv
  obtain ⟨rfl, hst, hsz, hP, hK, hD0⟩ := hv
  have hx := B.exec
  have hb := B.bytes
  have hr := B.returns
  have hts := atoms_spec (ws := WS) B.pre
  have hown : s.vm.findClass R_K = some m.cls := findClass_of_methodNamed B.named
  have hlocks := B.notSynchronized
  have hno := vq_noH B (hts _ k_133)
  subst hsz
  have hN := vq_ns hP
  have hD := hD0.self (sz := s.heap.size)
  generalize hAe : va_A (Xw ad ca σ) s.heap.size = A at hD hN ⊢
  have hA : ∀ q : Nat, s.heap.size ≤ q → A q := fun q h => by rw [← hAe]; exact Or.inr h
  have hS : va_S A s.heap s.heap [] := va_S.rf
  have hl := lv_entry ([.ref (ad 4)]) (n := 4) (Nat.le_of_ble_eq_true rfl)
  rw [lg_entry_eq]
  generalize (lg_sl ([.ref (ad 4)]) ++ List.replicate (4 - (lg_sl ([.ref (ad 4)])).length) Slot.unset).toArray = ls at hl ⊢
  have hl : lv_has ls 4 [(0, .ref (ad 4))] := hl
  unfold f_K_addToLeads at h
  refine lv_iconst (v := 0) hx hb d_K_addToLeads_0 (by decide) ?_
  refine lv_istore_n (lv' := [(1, .int 0), (0, .ref (ad 4))]) hx hb d_K_addToLeads_1 rfl hl (by decide) rfl (fun ls hl => ?_)
  have L2 : ∀ n2 : Nat, ∀ (τ : vS) (x1 : Int32) (H : Heap) (locs : List Loc) (ls : Array Slot), f_K_addToLeads_2 N n2 τ x1 = some v → lv_has ls 4 [(0, .ref (ad 4)), (1, .int x1)] → va_P (dC, dI) CL (Xw ad ca τ) H → va_D A (Xw ad ca τ) → va_S A s.heap H locs → W p l e (headSpec WS ({ frames := 1, cells := 0, slots := 0, locals := 24 })).room s m ([.ref (ad 4)] : List Value).toArray below meth c H locs 0 0 (MQ below (va_Qv (fun _ : Unit => True) (fun _ t => vq_Post (dC, dI) CL A (Xw ad ca v.2) (Xt ca) t) A) ([.ref (ad 4)] : List Value).toArray s 0 0 A) (F0 m 2 ls []) := by
    intro n2
    induction n2 with
    | zero =>
      intro τ x1 H locs ls h hl hP hD hS
      rw [f_K_addToLeads_2] at h
      cases h
    | succ n2 ih2 =>
      intro τ x1 H locs ls h hl hP hD hS
      rw [f_K_addToLeads_2] at h
      dsimp only at h
      refine lv_iload_n hx hb d_K_addToLeads_2 rfl (lv_at hl 1 rfl) ?_
      refine lv_aload_n hx hb d_K_addToLeads_3 rfl (lv_at hl 0 rfl) ?_
      refine g_K_grammar dC dI ad ca τ hx hb hts hown hK hP k_107 d_K_addToLeads_4 ?_
      refine gN_G_symbolCount dC dI ad ca τ hx hb hts hown hK hP k_134 d_K_addToLeads_7 ?_
      refine lv_icmp_ge (tgt := 71) hx hb d_K_addToLeads_10 (by decide) (fun hc1 => ?_) (fun hc1 => ?_)
      ·
        rw [if_pos hc1] at h
        have h9 := Option.some.inj h
        rw [← h9]
        exact W.vret hx hb hr (fun t ht hW => ⟨⟨(), rfl, trivial, by rw [ht]; exact hP, va_K.moved hW.alike hK, hD⟩, hS.F ht⟩) hS.2.2 d_K_addToLeads_71
      ·
        rw [if_neg hc1] at h
        refine lv_iload_n hx hb d_K_addToLeads_13 rfl (lv_at hl 1 rfl) ?_
        refine lv_iconst (v := 4) hx hb d_K_addToLeads_14 (by decide) ?_
        refine lv_imul hx hb d_K_addToLeads_15 ?_
        refine lv_istore_n (lv' := [(2, .int (x1 * 4)), (0, .ref (ad 4)), (1, .int x1)]) hx hb d_K_addToLeads_16 rfl hl (by decide) rfl (fun ls hl => ?_)
        refine lv_iconst (v := 0) hx hb d_K_addToLeads_17 (by decide) ?_
        refine lv_istore_n (lv' := [(3, .int 0), (2, .int (x1 * 4)), (0, .ref (ad 4)), (1, .int x1)]) hx hb d_K_addToLeads_18 rfl hl (by decide) rfl (fun ls hl => ?_)
        have L19 : ∀ n19 : Nat, ∀ (τ : vS) (x1 : Int32) (x2 : Int32) (x3 : Int32) (H : Heap) (locs : List Loc) (ls : Array Slot), f_K_addToLeads_19 N (f_K_addToLeads_2 N n2) n19 τ x1 x2 x3 = some v → lv_has ls 4 [(0, .ref (ad 4)), (1, .int x1), (2, .int x2), (3, .int x3)] → va_P (dC, dI) CL (Xw ad ca τ) H → va_D A (Xw ad ca τ) → va_S A s.heap H locs → W p l e (headSpec WS ({ frames := 1, cells := 0, slots := 0, locals := 24 })).room s m ([.ref (ad 4)] : List Value).toArray below meth c H locs 0 0 (MQ below (va_Qv (fun _ : Unit => True) (fun _ t => vq_Post (dC, dI) CL A (Xw ad ca v.2) (Xt ca) t) A) ([.ref (ad 4)] : List Value).toArray s 0 0 A) (F0 m 19 ls []) := by
          intro n19
          induction n19 with
          | zero =>
            intro τ x1 x2 x3 H locs ls h hl hP hD hS
            rw [f_K_addToLeads_19] at h
            cases h
          | succ n19 ih19 =>
            intro τ x1 x2 x3 H locs ls h hl hP hD hS
            rw [f_K_addToLeads_19] at h
            dsimp only at h
            refine lv_iload_n hx hb d_K_addToLeads_19 rfl (lv_at hl 3 rfl) ?_
            refine lv_aload_n hx hb d_K_addToLeads_20 rfl (lv_at hl 0 rfl) ?_
            refine g_K_grammar dC dI ad ca τ hx hb hts hown hK hP k_107 d_K_addToLeads_21 ?_
            refine gN_G_attributeCounts dC dI ad ca τ hx hb hts hown hK hP k_114 d_K_addToLeads_24 ?_
            refine lv_iload_n hx hb d_K_addToLeads_27 rfl (lv_at hl 1 rfl) ?_
            obtain ⟨hi2, h⟩ := vq_bd h
            refine al_X0 dC dI ad ca τ hx hb hts hown hK hP hi2 d_K_addToLeads_28 ?_
            obtain ⟨i3, ei3, h⟩ := vq_let h
            refine vq_top ei3.symm ?_
            refine lv_icmp_ge (tgt := 65) hx hb d_K_addToLeads_29 (by decide) (fun hc4 => ?_) (fun hc4 => ?_)
            ·
              rw [if_pos hc4] at h
              refine lv_iinc (k := 1) (v := (x1 + 1)) (lv' := [(1, .int (x1 + 1)), (0, .ref (ad 4)), (2, .int x2), (3, .int x3)]) hx hb d_K_addToLeads_65 hl rfl rfl (by decide) rfl (fun ls hl => ?_)
              refine lv_goto (tgt := 2) hx hb d_K_addToLeads_68 (by decide) ?_
              exact ih2 _ _ _ _ _ h (lv_sub hl [1, 0] rfl) hP hD hS
            ·
              rw [if_neg hc4] at h
              refine lv_aload_n hx hb d_K_addToLeads_32 rfl (lv_at hl 0 rfl) ?_
              refine g_K_leads dC dI ad ca τ hx hb hts hown hK hP k_115 d_K_addToLeads_33 ?_
              refine gN_E_ofAttributes dC dI ad ca τ hx hb hts hown hK hP k_116 d_K_addToLeads_36 ?_
              refine lv_iload_n hx hb d_K_addToLeads_39 rfl (lv_at hl 2 rfl) ?_
              refine lv_iload_n hx hb d_K_addToLeads_40 rfl (lv_at hl 3 rfl) ?_
              refine lv_iadd hx hb d_K_addToLeads_41 ?_
              refine lv_dup2_11 hx hb d_K_addToLeads_42 rfl rfl ?_
              obtain ⟨hi5, h⟩ := vq_bd h
              refine al_X12 dC dI ad ca τ hx hb hts hown hK hP hi5 d_K_addToLeads_43 ?_
              obtain ⟨i6, ei6, h⟩ := vq_let h
              refine vq_top ei6.symm ?_
              refine lv_aload_n hx hb d_K_addToLeads_44 rfl (lv_at hl 0 rfl) ?_
              refine lv_iload_n hx hb d_K_addToLeads_45 rfl (lv_at hl 1 rfl) ?_
              refine lv_aload_n hx hb d_K_addToLeads_46 rfl (lv_at hl 0 rfl) ?_
              refine g_K_ranks dC dI ad ca τ hx hb hts hown hK hP k_113 d_K_addToLeads_47 ?_
              refine lv_iload_n hx hb d_K_addToLeads_50 rfl (lv_at hl 2 rfl) ?_
              refine lv_iload_n hx hb d_K_addToLeads_51 rfl (lv_at hl 3 rfl) ?_
              refine lv_iadd hx hb d_K_addToLeads_52 ?_
              obtain ⟨hi7, h⟩ := vq_bd h
              refine al_X13 dC dI ad ca τ hx hb hts hown hK hP hi7 d_K_addToLeads_53 ?_
              obtain ⟨i8, ei8, h⟩ := vq_let h
              refine vq_top ei8.symm ?_
              obtain ⟨q9, h10, h⟩ := vq_bi h
              have hFc := vq_freeAll hD hS hA
              refine va_calli (va_runV (As := [.int x1, .int i8]) (rest := [.int i6, .int (x2 + x3), .ref (ad 20)]) ⟨hx, hb, hml, hown, hts⟩ (c_K_ofLessRank l htr dC dI ad ca N τ x1 i8 q9 h10 H.size) (vq_cV WSk hts 2 rfl rfl ⟨by decide, by decide⟩ k_132 k_122 k_135 k_136 k_137 (by decide +kernel)) ⟨vq_blind, va_recv hK hP (ci := 4) (q0 := 4) rfl rfl, vq_here hst hS hN hP hK hD⟩ rfl rfl hl.1 rfl (lv_room (Nat.le_of_ble_eq_true rfl)) d_K_addToLeads_54 ⟨by decide, by decide⟩) hS (fun q _ h => hFc q h) hFc (fun r u t H1 locs ht hvm hw hB hz1 hk1 hS => ?_)
              obtain ⟨hP, -, hD1⟩ := hB
              rw [ht] at hP
              have hD := hD1.weaken (fun _ _ _ h => hFc _ h)
              have hw : r = q9.1 := hw
              subst hw
              generalize H1 = H at hP hS ⊢
              refine W.widen (k := 0) (n := 0) (by decide) (by decide) ?_
              refine lv_ior hx hb d_K_addToLeads_57 ?_
              obtain ⟨hi11, h⟩ := vq_bd h
              refine as_X12 dC dI ad ca q9.2 hx hb hts hown hK hP hD hS hi11 d_K_addToLeads_58 (fun H locs hP hD hS => ?_)
              obtain ⟨σ12, eσ12, h⟩ := vq_let h
              rw [← eσ12] at hP hD
              refine lv_iinc (k := 3) (v := (x3 + 1)) (lv' := [(3, .int (x3 + 1)), (0, .ref (ad 4)), (1, .int x1), (2, .int x2)]) hx hb d_K_addToLeads_59 hl rfl rfl (by decide) rfl (fun ls hl => ?_)
              refine lv_goto (tgt := 19) hx hb d_K_addToLeads_62 (by decide) ?_
              exact ih19 _ _ _ _ _ _ _ h (lv_sub hl [1, 2, 3, 0] rfl) hP hD hS
        exact L19 N _ _ _ _ _ _ _ h (lv_sub hl [2, 3, 1, 0] rfl) hP hD hS
  exact L2 N _ _ _ _ _ h (lv_sub hl [1, 0] rfl) hP hD hS

set_option maxHeartbeats 4000000 in
set_option maxRecDepth 100000 in
theorem c_K_make (l : Launch) (htr : l.stackTraces = false) (dC : Nat → ClassId) (dI : Nat → Nat → Nat) (ad : Nat → Nat) (ca : Nat → ClassId) (N : Nat) (σ : vS) (v : Int32 × vS) (h : f_K_make N σ = some v) (sz : Nat) : Met l y_K_make WS ({ frames := 3, cells := 0, slots := 0, locals := 72 }) (va_Pc [.ref (ad 4)] (vq_Pre (dC, dI) CL sz (Xw ad ca σ) (Xt ca))) (va_Qv (fun _ : Unit => True) (fun _ t => vq_Post (dC, dI) CL (va_A (Xw ad ca σ) sz) (Xw ad ca v.2) (Xt ca) t) (va_A (Xw ad ca σ) sz)) 0 0 (va_A (Xw ad ca σ) sz) := by
  refine vq_ofW (cc := prog_5_method_2_code) (maxL := 2) (ret := (Option.none : Option Jvm.ClassFile.FieldType)) pl_K (vq_his k_138) ?_
  intro p e s m args below meth c s₁ B hml hv
  obtain ⟨rfl, hst, hsz, hP, hK, hD0⟩ := hv
  have hx := B.exec
  have hb := B.bytes
  have hr := B.returns
  have hts := atoms_spec (ws := WS) B.pre
  have hown : s.vm.findClass R_K = some m.cls := findClass_of_methodNamed B.named
  have hlocks := B.notSynchronized
  have hno := vq_noH B (hts _ k_138)
  subst hsz
  have hN := vq_ns hP
  have hD := hD0.self (sz := s.heap.size)
  generalize hAe : va_A (Xw ad ca σ) s.heap.size = A at hD hN ⊢
  have hA : ∀ q : Nat, s.heap.size ≤ q → A q := fun q h => by rw [← hAe]; exact Or.inr h
  have hS : va_S A s.heap s.heap [] := va_S.rf
  have hl := lv_entry ([.ref (ad 4)]) (n := 2) (Nat.le_of_ble_eq_true rfl)
  rw [lg_entry_eq]
  generalize (lg_sl ([.ref (ad 4)]) ++ List.replicate (2 - (lg_sl ([.ref (ad 4)])).length) Slot.unset).toArray = ls at hl ⊢
  have hl : lv_has ls 2 [(0, .ref (ad 4))] := hl
  unfold f_K_make at h
  refine lv_aload_n hx hb d_K_make_0 rfl (lv_at hl 0 rfl) ?_
  refine g_K_belonging dC dI ad ca σ hx hb hts hown hK hP k_106 d_K_make_1 ?_
  refine lv_iconst (v := 0) hx hb d_K_make_4 (by decide) ?_
  have hPc := hP.sub (ws' := [((ad 23), .inl (ca 23, 24, .inl (σ.2 15)))]) [23] rfl
  have hDc := hD.sub (ws' := [((ad 23), .inl (ca 23, 24, .inl (σ.2 15)))]) [23] (by decide) rfl
  have hKc := hK.sub (tys' := [(ca 23, .int)]) [15] rfl
  have hFc := va_free (wc := [((ad 23), .inl (ca 23, 24, .inl (σ.2 15)))]) hD hS hA [23] rfl
  refine va_callv (va_runS (As := [.ref (ad 23), .int 0]) (rest := []) ⟨hx, hb, hml, hown, hts⟩ (c_R_fill l htr dC dI (ad 23) (ca 23) 24 (by decide) (σ.2 15) 0 s.heap.size) (vq_cS WSk hts 2 rfl rfl ⟨by decide, by decide⟩ k_67 k_68 k_139 k_70 (by decide +kernel)) ⟨vq_blind, vq_here hst hS hN hPc hKc hDc⟩ rfl rfl hl.1 rfl (lv_room (Nat.le_of_ble_eq_true rfl)) d_K_make_5 ⟨by decide, by decide⟩) hS (fun q _ h => hFc q h) hFc (fun u t H1 locs ht hvm hw hB hz1 hk1 hS => ?_)
  obtain ⟨hP1, -, hD1⟩ := hB
  rw [ht] at hP1
  obtain ⟨hP, hD⟩ := va_join (wr := X23r ad ca σ) (w1 := [((ad 23), .inl (ca 23, 24, .inl (fun _ => 0)))]) hP hD [23] [0, 1, 2, 3, 4, 5, 6, 7, 8, 9, 10, 11, 12, 13, 14, 15, 16, 17, 18, 19, 20, 21, 22, 24, 25, 26, 27, 28, 29, 30, 31, 32, 33, 34] rfl rfl (by decide) (by decide) hk1 hFc hP1 hD1
  have hP := hP.sub (ws' := (Xw ad ca (sfill σ 15 0))) [0, 1, 2, 3, 4, 5, 6, 7, 8, 9, 10, 11, 12, 13, 14, 15, 16, 17, 18, 19, 20, 21, 22, 34, 23, 24, 25, 26, 27, 28, 29, 30, 31, 32, 33] rfl
  have hD := hD.sub (ws' := (Xw ad ca (sfill σ 15 0))) [0, 1, 2, 3, 4, 5, 6, 7, 8, 9, 10, 11, 12, 13, 14, 15, 16, 17, 18, 19, 20, 21, 22, 34, 23, 24, 25, 26, 27, 28, 29, 30, 31, 32, 33] (by decide) rfl
  generalize H1 = H at hP hS ⊢
  refine W.widen (k := 0) (n := 0) (by decide) (by decide) ?_
  obtain ⟨σ1, eσ1, h⟩ := vq_let h
  rw [← eσ1] at hP hD
  refine lv_iconst (v := 0) hx hb d_K_make_8 (by decide) ?_
  refine lv_istore_n (lv' := [(1, .int 0), (0, .ref (ad 4))]) hx hb d_K_make_9 rfl hl (by decide) rfl (fun ls hl => ?_)
  have L10 : ∀ n10 : Nat, ∀ (τ : vS) (x1 : Int32) (H : Heap) (locs : List Loc) (ls : Array Slot), f_K_make_10 N n10 τ x1 = some v → lv_has ls 2 [(0, .ref (ad 4)), (1, .int x1)] → va_P (dC, dI) CL (Xw ad ca τ) H → va_D A (Xw ad ca τ) → va_S A s.heap H locs → W p l e (headSpec WS ({ frames := 3, cells := 0, slots := 0, locals := 72 })).room s m ([.ref (ad 4)] : List Value).toArray below meth c H locs 0 0 (MQ below (va_Qv (fun _ : Unit => True) (fun _ t => vq_Post (dC, dI) CL A (Xw ad ca v.2) (Xt ca) t) A) ([.ref (ad 4)] : List Value).toArray s 0 0 A) (F0 m 10 ls []) := by
    intro n10
    induction n10 with
    | zero =>
      intro τ x1 H locs ls h hl hP hD hS
      rw [f_K_make_10] at h
      cases h
    | succ n10 ih10 =>
      intro τ x1 H locs ls h hl hP hD hS
      rw [f_K_make_10] at h
      dsimp only at h
      refine lv_iload_n hx hb d_K_make_10 rfl (lv_at hl 1 rfl) ?_
      refine lv_aload_n hx hb d_K_make_11 rfl (lv_at hl 0 rfl) ?_
      refine g_K_grammar dC dI ad ca τ hx hb hts hown hK hP k_107 d_K_make_12 ?_
      refine gN_G_symbolCount dC dI ad ca τ hx hb hts hown hK hP k_134 d_K_make_15 ?_
      refine lv_icmp_ge (tgt := 42) hx hb d_K_make_18 (by decide) (fun hc2 => ?_) (fun hc2 => ?_)
      ·
        rw [if_pos hc2] at h
        have h9 := Option.some.inj h
        rw [← h9]
        exact W.vret hx hb hr (fun t ht hW => ⟨⟨(), rfl, trivial, by rw [ht]; exact hP, va_K.moved hW.alike hK, hD⟩, hS.F ht⟩) hS.2.2 d_K_make_42
      ·
        rw [if_neg hc2] at h
        refine lv_aload_n hx hb d_K_make_21 rfl (lv_at hl 0 rfl) ?_
        refine lv_iload_n hx hb d_K_make_22 rfl (lv_at hl 1 rfl) ?_
        obtain ⟨q3, h4, h⟩ := vq_bi h
        have hFc := vq_freeAll hD hS hA
        refine va_callv (va_runV (As := [.int x1]) (rest := []) ⟨hx, hb, hml, hown, hts⟩ (c_K_rankAttributes l htr dC dI ad ca N τ x1 q3 h4 H.size) (vq_cV WSk hts 1 rfl rfl ⟨by decide, by decide⟩ k_121 k_122 k_140 k_141 k_142 (by decide +kernel)) ⟨vq_blind, va_recv hK hP (ci := 4) (q0 := 4) rfl rfl, vq_here hst hS hN hP hK hD⟩ rfl rfl hl.1 rfl (lv_room (Nat.le_of_ble_eq_true rfl)) d_K_make_23 ⟨by decide, by decide⟩) hS (fun q _ h => hFc q h) hFc (fun u t H1 locs ht hvm hw hB hz1 hk1 hS => ?_)
        obtain ⟨hP, -, hD1⟩ := hB
        rw [ht] at hP
        have hD := hD1.weaken (fun _ _ _ h => hFc _ h)
        generalize H1 = H at hP hS ⊢
        refine W.widen (k := 0) (n := 0) (by decide) (by decide) ?_
        refine lv_aload_n hx hb d_K_make_26 rfl (lv_at hl 0 rfl) ?_
        refine lv_iload_n hx hb d_K_make_27 rfl (lv_at hl 1 rfl) ?_
        obtain ⟨q5, h6, h⟩ := vq_bi h
        have hFc := vq_freeAll hD hS hA
        refine va_callv (va_runV (As := [.int x1]) (rest := []) ⟨hx, hb, hml, hown, hts⟩ (c_K_countVisits l htr dC dI ad ca N q3.2 x1 q5 h6 H.size) (vq_cV WSk hts 1 rfl rfl ⟨by decide, by decide⟩ k_129 k_122 k_143 k_144 k_145 (by decide +kernel)) ⟨vq_blind, va_recv hK hP (ci := 4) (q0 := 4) rfl rfl, vq_here hst hS hN hP hK hD⟩ rfl rfl hl.1 rfl (lv_room (Nat.le_of_ble_eq_true rfl)) d_K_make_28 ⟨by decide, by decide⟩) hS (fun q _ h => hFc q h) hFc (fun u t H1 locs ht hvm hw hB hz1 hk1 hS => ?_)
        obtain ⟨hP, -, hD1⟩ := hB
        rw [ht] at hP
        have hD := hD1.weaken (fun _ _ _ h => hFc _ h)
        generalize H1 = H at hP hS ⊢
        refine W.widen (k := 0) (n := 0) (by decide) (by decide) ?_
        refine lv_aload_n hx hb d_K_make_31 rfl (lv_at hl 0 rfl) ?_
        refine lv_iload_n hx hb d_K_make_32 rfl (lv_at hl 1 rfl) ?_
        obtain ⟨q7, h8, h⟩ := vq_bi h
        have hFc := vq_freeAll hD hS hA
        refine va_callv (va_runV (As := [.int x1]) (rest := []) ⟨hx, hb, hml, hown, hts⟩ (c_K_shareOut l htr dC dI ad ca N q5.2 x1 q7 h8 H.size) (vq_cV WSk hts 1 rfl rfl ⟨by decide, by decide⟩ k_131 k_122 k_146 k_147 k_148 (by decide +kernel)) ⟨vq_blind, va_recv hK hP (ci := 4) (q0 := 4) rfl rfl, vq_here hst hS hN hP hK hD⟩ rfl rfl hl.1 rfl (lv_room (Nat.le_of_ble_eq_true rfl)) d_K_make_33 ⟨by decide, by decide⟩) hS (fun q _ h => hFc q h) hFc (fun u t H1 locs ht hvm hw hB hz1 hk1 hS => ?_)
        obtain ⟨hP, -, hD1⟩ := hB
        rw [ht] at hP
        have hD := hD1.weaken (fun _ _ _ h => hFc _ h)
        generalize H1 = H at hP hS ⊢
        refine W.widen (k := 0) (n := 0) (by decide) (by decide) ?_
        refine lv_iinc (k := 1) (v := (x1 + 1)) (lv' := [(1, .int (x1 + 1)), (0, .ref (ad 4))]) hx hb d_K_make_36 hl rfl rfl (by decide) rfl (fun ls hl => ?_)
        refine lv_goto (tgt := 10) hx hb d_K_make_39 (by decide) ?_
        exact ih10 _ _ _ _ _ h (lv_sub hl [1, 0] rfl) hP hD hS
  exact L10 N _ _ _ _ _ h (lv_sub hl [1, 0] rfl) hP hD hS
