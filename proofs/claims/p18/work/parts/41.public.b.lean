set_option maxHeartbeats 4000000 in
set_option maxRecDepth 100000 in
theorem c_V_symbol (l : Launch) (htr : l.stackTraces = false) (dC : Nat → ClassId) (dI : Nat → Nat → Nat) (ad : Nat → Nat) (ca : Nat → ClassId) (N : Nat) (σ : vS) (a0 : Int32) (a1 : Int32) (v : Int32 × vS) (h : f_V_symbol N σ a0 a1 = some ((0, v.1), v.2)) (sz : Nat) : Met l y_V_symbol WS ({ frames := 6, cells := 0, slots := 0, locals := 82 }) (va_Pc [.ref (ad 0), .int a0, .int a1] (vq_Pre (dC, dI) CL sz (Xw ad ca σ) (Xt ca))) (va_Qi (fun (r : Int32) (_ : Unit) => r = v.1) (fun _ t => vq_Post (dC, dI) CL (va_A (Xw ad ca σ) sz) (Xw ad ca v.2) (Xt ca) t) (va_A (Xw ad ca σ) sz)) 0 0 (va_A (Xw ad ca σ) sz) := by
  refine vq_ofW (cc := prog_1_method_2_code) (maxL := 3) (ret := (Option.some Jvm.ClassFile.FieldType.int)) pl_V (vq_his k_554) ?_
  intro p e s m args below meth c s₁ B hml hv
  obtain ⟨rfl, hst, hsz, hP, hK, hD0⟩ := hv
  have hx := B.exec
  have hb := B.bytes
  have hr := B.returns
  have hts := atoms_spec (ws := WS) B.pre
  have hown : s.vm.findClass R_V = some m.cls := findClass_of_methodNamed B.named
  have hlocks := B.notSynchronized
  have hno := vq_noH B (hts _ k_554)
  subst hsz
  have hN := vq_ns hP
  have hD := hD0.self (sz := s.heap.size)
  generalize hAe : va_A (Xw ad ca σ) s.heap.size = A at hD hN ⊢
  have hA : ∀ q : Nat, s.heap.size ≤ q → A q := fun q h => by rw [← hAe]; exact Or.inr h
  have hS : va_S A s.heap s.heap [] := va_S.rf
  have hl := lv_entry ([.ref (ad 0), .int a0, .int a1]) (n := 3) (Nat.le_of_ble_eq_true rfl)
  rw [lg_entry_eq]
  generalize (lg_sl ([.ref (ad 0), .int a0, .int a1]) ++ List.replicate (3 - (lg_sl ([.ref (ad 0), .int a0, .int a1])).length) Slot.unset).toArray = ls at hl ⊢
  have hl : lv_has ls 3 [(0, .ref (ad 0)), (1, .int a0), (2, .int a1)] := hl
  unfold f_V_symbol at h
  refine lv_iload_n hx hb d_V_symbol_0 rfl (lv_at hl 1 rfl) ?_
  have J9 : ∀ (τ : vS) (H : Heap) (locs : List Loc) (ls : Array Slot), f_V_symbol_9 N τ = some ((0, v.1), v.2) → lv_has ls 3 [] → va_P (dC, dI) CL (Xw ad ca τ) H → va_D A (Xw ad ca τ) → va_S A s.heap H locs → W p l e (headSpec WS ({ frames := 6, cells := 0, slots := 0, locals := 82 })).room s m ([.ref (ad 0), .int a0, .int a1] : List Value).toArray below meth c H locs 0 0 (MQ below (va_Qi (fun (r : Int32) (_ : Unit) => r = v.1) (fun _ t => vq_Post (dC, dI) CL A (Xw ad ca v.2) (Xt ca) t) A) ([.ref (ad 0), .int a0, .int a1] : List Value).toArray s 0 0 A) (F0 m 9 ls []) := by
    intro τ H locs ls h hl hP hD hS
    unfold f_V_symbol_9 at h
    simp at h
  refine lv_if_lt (tgt := 9) hx hb d_V_symbol_1 (by decide) (fun hc1 => ?_) (fun hc1 => ?_)
  ·
    rw [if_pos hc1] at h
    exact J9 _ _ _ _ h (lv_sub hl [] rfl) hP hD hS
  ·
    rw [if_neg hc1] at h
    refine lv_iload_n hx hb d_V_symbol_4 rfl (lv_at hl 1 rfl) ?_
    refine lv_iconst (v := 4) hx hb d_V_symbol_5 (by decide) ?_
    refine lv_icmp_le (tgt := 19) hx hb d_V_symbol_6 (by decide) (fun hc2 => ?_) (fun hc2 => ?_)
    ·
      rw [if_pos hc2] at h
      refine lv_aload_n hx hb d_V_symbol_19 rfl (lv_at hl 0 rfl) ?_
      refine g_V_grammar dC dI ad ca σ hx hb hts hown hK hP k_546 d_V_symbol_20 ?_
      refine gN_G_symbolCount dC dI ad ca σ hx hb hts hown hK hP k_556 d_V_symbol_23 ?_
      refine lv_bipush (v := 6) hx hb d_V_symbol_26 (by decide) ?_
      refine lv_icmp_ne (tgt := 41) hx hb d_V_symbol_28 (by decide) (fun hc3 => ?_) (fun hc3 => ?_)
      ·
        rw [if_neg hc3] at h
        refine lv_aload_n hx hb d_V_symbol_41 rfl (lv_at hl 0 rfl) ?_
        obtain ⟨q4, h5, h⟩ := vq_bi h
        have hFc := vq_freeAll hD hS hA
        refine va_callv (va_runV (As := []) (rest := []) ⟨hx, hb, hml, hown, hts⟩ (c_V_dropAnalysis l htr dC dI ad ca N σ q4 h5 s.heap.size) (vq_cV WSk hts 0 rfl rfl ⟨by decide, by decide⟩ k_530 k_22 k_557 k_558 k_559 (by decide +kernel)) ⟨vq_blind, va_recv hK hP (ci := 0) (q0 := 0) rfl rfl, vq_here hst hS hN hP hK hD⟩ rfl rfl hl.1 rfl (lv_room (Nat.le_of_ble_eq_true rfl)) d_V_symbol_42 ⟨by decide, by decide⟩) hS (fun q _ h => hFc q h) hFc (fun u t H1 locs ht hvm hw hB hz1 hk1 hS => ?_)
        obtain ⟨hP, -, hD1⟩ := hB
        rw [ht] at hP
        have hD := hD1.weaken (fun _ _ _ h => hFc _ h)
        generalize H1 = H at hP hS ⊢
        refine W.widen (k := 0) (n := 0) (by decide) (by decide) ?_
        refine lv_aload_n hx hb d_V_symbol_45 rfl (lv_at hl 0 rfl) ?_
        refine g_V_grammar dC dI ad ca q4.2 hx hb hts hown hK hP k_546 d_V_symbol_46 ?_
        refine lv_iload_n hx hb d_V_symbol_49 rfl (lv_at hl 1 rfl) ?_
        refine lv_iload_n hx hb d_V_symbol_50 rfl (lv_at hl 2 rfl) ?_
        obtain ⟨q6, h7, h⟩ := vq_bi h
        have hFc := vq_freeAll hD hS hA
        refine va_calli (va_runV (As := [.int a0, .int a1]) (rest := []) ⟨hx, hb, hml, hown, hts⟩ (c_G_addSymbol l htr dC dI ad ca N q4.2 a0 a1 q6 h7 H.size) (vq_cV WSk hts 2 rfl rfl ⟨by decide, by decide⟩ k_43 k_26 k_560 k_561 k_562 (by decide +kernel)) ⟨vq_blind, va_recv hK hP (ci := 1) (q0 := 1) rfl rfl, vq_here hst hS hN hP hK hD⟩ rfl rfl hl.1 rfl (lv_room (Nat.le_of_ble_eq_true rfl)) d_V_symbol_51 ⟨by decide, by decide⟩) hS (fun q _ h => hFc q h) hFc (fun r u t H1 locs ht hvm hw hB hz1 hk1 hS => ?_)
        obtain ⟨hP, -, hD1⟩ := hB
        rw [ht] at hP
        have hD := hD1.weaken (fun _ _ _ h => hFc _ h)
        have hw : r = q6.1 := hw
        subst hw
        generalize H1 = H at hP hS ⊢
        refine W.widen (k := 0) (n := 0) (by decide) (by decide) ?_
        have h9 : ((q6.1), q6.2) = v := by have h8 := Option.some.inj h; simp only [Prod.mk.injEq, true_and] at h8; exact Prod.ext h8.1 h8.2
        rw [← h9]
        exact W.iret (v := (q6.1)) hx hb hr (fun t ht hW => ⟨⟨(q6.1), (), rfl, rfl, by rw [ht]; exact hP, va_K.moved hW.alike hK, hD⟩, hS.F ht⟩) hS.2.2 d_V_symbol_54
      ·
        rw [if_pos hc3] at h
        simp at h
    ·
      rw [if_neg hc2] at h
      exact J9 _ _ _ _ h (lv_sub hl [] rfl) hP hD hS

set_option maxHeartbeats 4000000 in
set_option maxRecDepth 100000 in
theorem t_V_symbol_1 (l : Launch) (htr : l.stackTraces = false) (dC : Nat → ClassId) (dI : Nat → Nat → Nat) (ad : Nat → Nat) (ca : Nat → ClassId) (N : Nat) (σ : vS) (a0 : Int32) (a1 : Int32) (v : Int32 × vS) (h : f_V_symbol N σ a0 a1 = some ((1, v.1), v.2)) (sz : Nat) : vq_T2 l y_V_symbol WS ({ frames := 6, cells := 1, slots := 6, locals := 82 }) (va_Pc [.ref (ad 0), .int a0, .int a1] (vq_Pre (dC, dI) CL sz (Xw ad ca σ) (Xt ca))) "java/lang/IllegalArgumentException" (va_A (Xw ad ca σ) sz) (fun t => vq_Post (dC, dI) CL (va_A (Xw ad ca σ) sz) (Xw ad ca v.2) (Xt ca) t) 1 6 := by
  refine vq_ofT2 (cc := prog_1_method_2_code) (maxL := 3) (ret := (Option.some Jvm.ClassFile.FieldType.int)) pl_V (vq_his k_554) ?_
  intro p e s m args below meth c s₁ B hml hv
  obtain ⟨rfl, hst, hsz, hP, hK, hD0⟩ := hv
  have hx := B.exec
  have hb := B.bytes
  have hr := B.returns
  have hts := atoms_spec (ws := WS) B.pre
  have hown : s.vm.findClass R_V = some m.cls := findClass_of_methodNamed B.named
  have hlocks := B.notSynchronized
  have hno := vq_noH B (hts _ k_554)
  subst hsz
  have hN := vq_ns hP
  have hD := hD0.self (sz := s.heap.size)
  generalize hAe : va_A (Xw ad ca σ) s.heap.size = A at hD hN ⊢
  have hA : ∀ q : Nat, s.heap.size ≤ q → A q := fun q h => by rw [← hAe]; exact Or.inr h
  have hS : va_S A s.heap s.heap [] := va_S.rf
  have hl := lv_entry ([.ref (ad 0), .int a0, .int a1]) (n := 3) (Nat.le_of_ble_eq_true rfl)
  rw [lg_entry_eq]
  generalize (lg_sl ([.ref (ad 0), .int a0, .int a1]) ++ List.replicate (3 - (lg_sl ([.ref (ad 0), .int a0, .int a1])).length) Slot.unset).toArray = ls at hl ⊢
  have hl : lv_has ls 3 [(0, .ref (ad 0)), (1, .int a0), (2, .int a1)] := hl
  unfold f_V_symbol at h
  refine lv_iload_n hx hb d_V_symbol_0 rfl (lv_at hl 1 rfl) ?_
  have J9 : ∀ (τ : vS) (H : Heap) (locs : List Loc) (ls : Array Slot), f_V_symbol_9 N τ = some ((1, v.1), v.2) → lv_has ls 3 [] → va_P (dC, dI) CL (Xw ad ca τ) H → va_D A (Xw ad ca τ) → va_S A s.heap H locs → W p l e (headSpec WS ({ frames := 6, cells := 1, slots := 6, locals := 82 })).room s m ([.ref (ad 0), .int a0, .int a1] : List Value).toArray below meth c H locs 0 0 (vq_MQ2 below "java/lang/IllegalArgumentException" A (fun t => vq_Post (dC, dI) CL A (Xw ad ca v.2) (Xt ca) t) s 1 6) (F0 m 9 ls []) := by
    intro τ H locs ls h hl hP hD hS
    unfold f_V_symbol_9 at h
    have h9 : (0, τ) = v := by have h8 := Option.some.inj h; simp only [Prod.mk.injEq, true_and] at h8; exact Prod.ext h8.1 h8.2
    rw [← h9]
    have hws := vq_all WSk hts
    have hwu : ∀ u : State, u.vm = s.vm → s.WarmedH u.vm := fun u hu => by rw [hu]; exact State.WarmedH.refl s
    exact vq_throw2 (names := up_names) hx hb htr hown (by decide +kernel) (by decide +kernel) (fun u hu hsu => at_V_IllegalArgumentException (fun w hw => hws w hw _ u (hwu u hu)) hsu) hst (fun u hu => ⟨hws _ k_563 _ u (hwu u hu), hws _ k_564 _ u (hwu u hu), hws _ k_565 _ u (hwu u hu)⟩) hS hA hN hno hlocks (by decide) (hl.1.trans hml.symm) (fun t hz9 hk9 hW9 => ⟨hP.kept (fun k x hx9 => by have h7 := (hP k x hx9).lt; rw [Array.getElem?_eq_getElem h7]; exact hk9 _ _ (Array.getElem?_eq_getElem h7)), va_K.moved hW9.alike hK, hD⟩) d_V_symbol_9 d_V_symbol_12 d_V_symbol_13 d_V_symbol_15 d_V_symbol_18
  refine lv_if_lt (tgt := 9) hx hb d_V_symbol_1 (by decide) (fun hc1 => ?_) (fun hc1 => ?_)
  ·
    rw [if_pos hc1] at h
    exact J9 _ _ _ _ h (lv_sub hl [] rfl) hP hD hS
  ·
    rw [if_neg hc1] at h
    refine lv_iload_n hx hb d_V_symbol_4 rfl (lv_at hl 1 rfl) ?_
    refine lv_iconst (v := 4) hx hb d_V_symbol_5 (by decide) ?_
    refine lv_icmp_le (tgt := 19) hx hb d_V_symbol_6 (by decide) (fun hc2 => ?_) (fun hc2 => ?_)
    ·
      rw [if_pos hc2] at h
      refine lv_aload_n hx hb d_V_symbol_19 rfl (lv_at hl 0 rfl) ?_
      refine g_V_grammar dC dI ad ca σ hx hb hts hown hK hP k_546 d_V_symbol_20 ?_
      refine gN_G_symbolCount dC dI ad ca σ hx hb hts hown hK hP k_556 d_V_symbol_23 ?_
      refine lv_bipush (v := 6) hx hb d_V_symbol_26 (by decide) ?_
      refine lv_icmp_ne (tgt := 41) hx hb d_V_symbol_28 (by decide) (fun hc3 => ?_) (fun hc3 => ?_)
      ·
        rw [if_neg hc3] at h
        refine lv_aload_n hx hb d_V_symbol_41 rfl (lv_at hl 0 rfl) ?_
        obtain ⟨q4, h5, h⟩ := vq_bi h
        have hFc := vq_freeAll hD hS hA
        refine va_callv (va_runV (As := []) (rest := []) ⟨hx, hb, hml, hown, hts⟩ (c_V_dropAnalysis l htr dC dI ad ca N σ q4 h5 s.heap.size) (vq_cV WSk hts 0 rfl rfl ⟨by decide, by decide⟩ k_530 k_22 k_557 k_558 k_559 (by decide +kernel)) ⟨vq_blind, va_recv hK hP (ci := 0) (q0 := 0) rfl rfl, vq_here hst hS hN hP hK hD⟩ rfl rfl hl.1 rfl (lv_room (Nat.le_of_ble_eq_true rfl)) d_V_symbol_42 ⟨by decide, by decide⟩) hS (fun q _ h => hFc q h) hFc (fun u t H1 locs ht hvm hw hB hz1 hk1 hS => ?_)
        obtain ⟨hP, -, hD1⟩ := hB
        rw [ht] at hP
        have hD := hD1.weaken (fun _ _ _ h => hFc _ h)
        generalize H1 = H at hP hS ⊢
        refine W.widen (k := 0) (n := 0) (by decide) (by decide) ?_
        refine lv_aload_n hx hb d_V_symbol_45 rfl (lv_at hl 0 rfl) ?_
        refine g_V_grammar dC dI ad ca q4.2 hx hb hts hown hK hP k_546 d_V_symbol_46 ?_
        refine lv_iload_n hx hb d_V_symbol_49 rfl (lv_at hl 1 rfl) ?_
        refine lv_iload_n hx hb d_V_symbol_50 rfl (lv_at hl 2 rfl) ?_
        obtain ⟨q6, h7, h⟩ := vq_bi h
        have hFc := vq_freeAll hD hS hA
        refine va_calli (va_runV (As := [.int a0, .int a1]) (rest := []) ⟨hx, hb, hml, hown, hts⟩ (c_G_addSymbol l htr dC dI ad ca N q4.2 a0 a1 q6 h7 H.size) (vq_cV WSk hts 2 rfl rfl ⟨by decide, by decide⟩ k_43 k_26 k_560 k_561 k_562 (by decide +kernel)) ⟨vq_blind, va_recv hK hP (ci := 1) (q0 := 1) rfl rfl, vq_here hst hS hN hP hK hD⟩ rfl rfl hl.1 rfl (lv_room (Nat.le_of_ble_eq_true rfl)) d_V_symbol_51 ⟨by decide, by decide⟩) hS (fun q _ h => hFc q h) hFc (fun r u t H1 locs ht hvm hw hB hz1 hk1 hS => ?_)
        obtain ⟨hP, -, hD1⟩ := hB
        rw [ht] at hP
        have hD := hD1.weaken (fun _ _ _ h => hFc _ h)
        have hw : r = q6.1 := hw
        subst hw
        generalize H1 = H at hP hS ⊢
        refine W.widen (k := 0) (n := 0) (by decide) (by decide) ?_
        simp at h
      ·
        rw [if_pos hc3] at h
        simp at h
    ·
      rw [if_neg hc2] at h
      exact J9 _ _ _ _ h (lv_sub hl [] rfl) hP hD hS

set_option maxHeartbeats 4000000 in
set_option maxRecDepth 100000 in
theorem t_V_symbol_2 (l : Launch) (htr : l.stackTraces = false) (dC : Nat → ClassId) (dI : Nat → Nat → Nat) (ad : Nat → Nat) (ca : Nat → ClassId) (N : Nat) (σ : vS) (a0 : Int32) (a1 : Int32) (v : Int32 × vS) (h : f_V_symbol N σ a0 a1 = some ((2, v.1), v.2)) (sz : Nat) : vq_T2 l y_V_symbol WS ({ frames := 6, cells := 1, slots := 6, locals := 82 }) (va_Pc [.ref (ad 0), .int a0, .int a1] (vq_Pre (dC, dI) CL sz (Xw ad ca σ) (Xt ca))) "java/lang/IllegalStateException" (va_A (Xw ad ca σ) sz) (fun t => vq_Post (dC, dI) CL (va_A (Xw ad ca σ) sz) (Xw ad ca v.2) (Xt ca) t) 1 6 := by
  refine vq_ofT2 (cc := prog_1_method_2_code) (maxL := 3) (ret := (Option.some Jvm.ClassFile.FieldType.int)) pl_V (vq_his k_554) ?_
  intro p e s m args below meth c s₁ B hml hv
  obtain ⟨rfl, hst, hsz, hP, hK, hD0⟩ := hv
  have hx := B.exec
  have hb := B.bytes
  have hr := B.returns
  have hts := atoms_spec (ws := WS) B.pre
  have hown : s.vm.findClass R_V = some m.cls := findClass_of_methodNamed B.named
  have hlocks := B.notSynchronized
  have hno := vq_noH B (hts _ k_554)
  subst hsz
  have hN := vq_ns hP
  have hD := hD0.self (sz := s.heap.size)
  generalize hAe : va_A (Xw ad ca σ) s.heap.size = A at hD hN ⊢
  have hA : ∀ q : Nat, s.heap.size ≤ q → A q := fun q h => by rw [← hAe]; exact Or.inr h
  have hS : va_S A s.heap s.heap [] := va_S.rf
  have hl := lv_entry ([.ref (ad 0), .int a0, .int a1]) (n := 3) (Nat.le_of_ble_eq_true rfl)
  rw [lg_entry_eq]
  generalize (lg_sl ([.ref (ad 0), .int a0, .int a1]) ++ List.replicate (3 - (lg_sl ([.ref (ad 0), .int a0, .int a1])).length) Slot.unset).toArray = ls at hl ⊢
  have hl : lv_has ls 3 [(0, .ref (ad 0)), (1, .int a0), (2, .int a1)] := hl
  unfold f_V_symbol at h
  refine lv_iload_n hx hb d_V_symbol_0 rfl (lv_at hl 1 rfl) ?_
  have J9 : ∀ (τ : vS) (H : Heap) (locs : List Loc) (ls : Array Slot), f_V_symbol_9 N τ = some ((2, v.1), v.2) → lv_has ls 3 [] → va_P (dC, dI) CL (Xw ad ca τ) H → va_D A (Xw ad ca τ) → va_S A s.heap H locs → W p l e (headSpec WS ({ frames := 6, cells := 1, slots := 6, locals := 82 })).room s m ([.ref (ad 0), .int a0, .int a1] : List Value).toArray below meth c H locs 0 0 (vq_MQ2 below "java/lang/IllegalStateException" A (fun t => vq_Post (dC, dI) CL A (Xw ad ca v.2) (Xt ca) t) s 1 6) (F0 m 9 ls []) := by
    intro τ H locs ls h hl hP hD hS
    unfold f_V_symbol_9 at h
    simp at h
  refine lv_if_lt (tgt := 9) hx hb d_V_symbol_1 (by decide) (fun hc1 => ?_) (fun hc1 => ?_)
  ·
    rw [if_pos hc1] at h
    exact J9 _ _ _ _ h (lv_sub hl [] rfl) hP hD hS
  ·
    rw [if_neg hc1] at h
    refine lv_iload_n hx hb d_V_symbol_4 rfl (lv_at hl 1 rfl) ?_
    refine lv_iconst (v := 4) hx hb d_V_symbol_5 (by decide) ?_
    refine lv_icmp_le (tgt := 19) hx hb d_V_symbol_6 (by decide) (fun hc2 => ?_) (fun hc2 => ?_)
    ·
      rw [if_pos hc2] at h
      refine lv_aload_n hx hb d_V_symbol_19 rfl (lv_at hl 0 rfl) ?_
      refine g_V_grammar dC dI ad ca σ hx hb hts hown hK hP k_546 d_V_symbol_20 ?_
      refine gN_G_symbolCount dC dI ad ca σ hx hb hts hown hK hP k_556 d_V_symbol_23 ?_
      refine lv_bipush (v := 6) hx hb d_V_symbol_26 (by decide) ?_
      refine lv_icmp_ne (tgt := 41) hx hb d_V_symbol_28 (by decide) (fun hc3 => ?_) (fun hc3 => ?_)
      ·
        rw [if_neg hc3] at h
        refine lv_aload_n hx hb d_V_symbol_41 rfl (lv_at hl 0 rfl) ?_
        obtain ⟨q4, h5, h⟩ := vq_bi h
        have hFc := vq_freeAll hD hS hA
        refine va_callv (va_runV (As := []) (rest := []) ⟨hx, hb, hml, hown, hts⟩ (c_V_dropAnalysis l htr dC dI ad ca N σ q4 h5 s.heap.size) (vq_cV WSk hts 0 rfl rfl ⟨by decide, by decide⟩ k_530 k_22 k_557 k_558 k_559 (by decide +kernel)) ⟨vq_blind, va_recv hK hP (ci := 0) (q0 := 0) rfl rfl, vq_here hst hS hN hP hK hD⟩ rfl rfl hl.1 rfl (lv_room (Nat.le_of_ble_eq_true rfl)) d_V_symbol_42 ⟨by decide, by decide⟩) hS (fun q _ h => hFc q h) hFc (fun u t H1 locs ht hvm hw hB hz1 hk1 hS => ?_)
        obtain ⟨hP, -, hD1⟩ := hB
        rw [ht] at hP
        have hD := hD1.weaken (fun _ _ _ h => hFc _ h)
        generalize H1 = H at hP hS ⊢
        refine W.widen (k := 0) (n := 0) (by decide) (by decide) ?_
        refine lv_aload_n hx hb d_V_symbol_45 rfl (lv_at hl 0 rfl) ?_
        refine g_V_grammar dC dI ad ca q4.2 hx hb hts hown hK hP k_546 d_V_symbol_46 ?_
        refine lv_iload_n hx hb d_V_symbol_49 rfl (lv_at hl 1 rfl) ?_
        refine lv_iload_n hx hb d_V_symbol_50 rfl (lv_at hl 2 rfl) ?_
        obtain ⟨q6, h7, h⟩ := vq_bi h
        have hFc := vq_freeAll hD hS hA
        refine va_calli (va_runV (As := [.int a0, .int a1]) (rest := []) ⟨hx, hb, hml, hown, hts⟩ (c_G_addSymbol l htr dC dI ad ca N q4.2 a0 a1 q6 h7 H.size) (vq_cV WSk hts 2 rfl rfl ⟨by decide, by decide⟩ k_43 k_26 k_560 k_561 k_562 (by decide +kernel)) ⟨vq_blind, va_recv hK hP (ci := 1) (q0 := 1) rfl rfl, vq_here hst hS hN hP hK hD⟩ rfl rfl hl.1 rfl (lv_room (Nat.le_of_ble_eq_true rfl)) d_V_symbol_51 ⟨by decide, by decide⟩) hS (fun q _ h => hFc q h) hFc (fun r u t H1 locs ht hvm hw hB hz1 hk1 hS => ?_)
        obtain ⟨hP, -, hD1⟩ := hB
        rw [ht] at hP
        have hD := hD1.weaken (fun _ _ _ h => hFc _ h)
        have hw : r = q6.1 := hw
        subst hw
        generalize H1 = H at hP hS ⊢
        refine W.widen (k := 0) (n := 0) (by decide) (by decide) ?_
        simp at h
      ·
        rw [if_pos hc3] at h
        have h9 : (0, σ) = v := by have h8 := Option.some.inj h; simp only [Prod.mk.injEq, true_and] at h8; exact Prod.ext h8.1 h8.2
        rw [← h9]
        have hws := vq_all WSk hts
        have hwu : ∀ u : State, u.vm = s.vm → s.WarmedH u.vm := fun u hu => by rw [hu]; exact State.WarmedH.refl s
        exact vq_throw2 (names := up_names) hx hb htr hown (by decide +kernel) (by decide +kernel) (fun u hu hsu => at_V_IllegalStateException (fun w hw => hws w hw _ u (hwu u hu)) hsu) hst (fun u hu => ⟨hws _ k_539 _ u (hwu u hu), hws _ k_540 _ u (hwu u hu), hws _ k_566 _ u (hwu u hu)⟩) hS hA hN hno hlocks (by decide) (hl.1.trans hml.symm) (fun t hz9 hk9 hW9 => ⟨hP.kept (fun k x hx9 => by have h7 := (hP k x hx9).lt; rw [Array.getElem?_eq_getElem h7]; exact hk9 _ _ (Array.getElem?_eq_getElem h7)), va_K.moved hW9.alike hK, hD⟩) d_V_symbol_31 d_V_symbol_34 d_V_symbol_35 d_V_symbol_37 d_V_symbol_40
    ·
      rw [if_neg hc2] at h
      exact J9 _ _ _ _ h (lv_sub hl [] rfl) hP hD hS

set_option maxHeartbeats 4000000 in
set_option maxRecDepth 100000 in
theorem c_V_production (l : Launch) (htr : l.stackTraces = false) (dC : Nat → ClassId) (dI : Nat → Nat → Nat) (ad : Nat → Nat) (ca : Nat → ClassId) (N : Nat) (σ : vS) (a0 : Int32) (a1 : Int32) (a2 : Int32) (a3 : Int32) (v : Int32 × vS) (h : f_V_production N σ a0 a1 a2 a3 = some ((0, v.1), v.2)) (sz : Nat) : Met l y_V_production WS ({ frames := 6, cells := 0, slots := 0, locals := 82 }) (va_Pc [.ref (ad 0), .int a0, .int a1, .int a2, .int a3] (vq_Pre (dC, dI) CL sz (Xw ad ca σ) (Xt ca))) (va_Qi (fun (r : Int32) (_ : Unit) => r = v.1) (fun _ t => vq_Post (dC, dI) CL (va_A (Xw ad ca σ) sz) (Xw ad ca v.2) (Xt ca) t) (va_A (Xw ad ca σ) sz)) 0 0 (va_A (Xw ad ca σ) sz) := by
  refine vq_ofW (cc := prog_1_method_3_code) (maxL := 5) (ret := (Option.some Jvm.ClassFile.FieldType.int)) pl_V (vq_his k_567) ?_
  intro p e s m args below meth c s₁ B hml hv
  obtain ⟨rfl, hst, hsz, hP, hK, hD0⟩ := hv
  have hx := B.exec
  have hb := B.bytes
  have hr := B.returns
  have hts := atoms_spec (ws := WS) B.pre
  have hown : s.vm.findClass R_V = some m.cls := findClass_of_methodNamed B.named
  have hlocks := B.notSynchronized
  have hno := vq_noH B (hts _ k_567)
  subst hsz
  have hN := vq_ns hP
  have hD := hD0.self (sz := s.heap.size)
  generalize hAe : va_A (Xw ad ca σ) s.heap.size = A at hD hN ⊢
  have hA : ∀ q : Nat, s.heap.size ≤ q → A q := fun q h => by rw [← hAe]; exact Or.inr h
  have hS : va_S A s.heap s.heap [] := va_S.rf
  have hl := lv_entry ([.ref (ad 0), .int a0, .int a1, .int a2, .int a3]) (n := 5) (Nat.le_of_ble_eq_true rfl)
  rw [lg_entry_eq]
  generalize (lg_sl ([.ref (ad 0), .int a0, .int a1, .int a2, .int a3]) ++ List.replicate (5 - (lg_sl ([.ref (ad 0), .int a0, .int a1, .int a2, .int a3])).length) Slot.unset).toArray = ls at hl ⊢
  have hl : lv_has ls 5 [(0, .ref (ad 0)), (1, .int a0), (2, .int a1), (3, .int a2), (4, .int a3)] := hl
  unfold f_V_production at h
  refine lv_aload_n hx hb d_V_production_0 rfl (lv_at hl 0 rfl) ?_
  refine g_V_grammar dC dI ad ca σ hx hb hts hown hK hP k_546 d_V_production_1 ?_
  refine lv_iload_n hx hb d_V_production_4 rfl (lv_at hl 1 rfl) ?_
  obtain ⟨q1, h2, h⟩ := vq_bi h
  have hFc := vq_freeAll hD hS hA
  refine va_calli (va_runV (As := [.int a0]) (rest := []) ⟨hx, hb, hml, hown, hts⟩ (c_G_hasSymbol l htr dC dI ad ca N σ a0 q1 h2 s.heap.size) (vq_cV WSk hts 1 rfl rfl ⟨by decide, by decide⟩ k_14 k_26 k_568 k_33 k_34 (by decide +kernel)) ⟨vq_blind, va_recv hK hP (ci := 1) (q0 := 1) rfl rfl, vq_here hst hS hN hP hK hD⟩ rfl rfl hl.1 rfl (lv_room (Nat.le_of_ble_eq_true rfl)) d_V_production_5 ⟨by decide, by decide⟩) hS (fun q _ h => hFc q h) hFc (fun r u t H1 locs ht hvm hw hB hz1 hk1 hS => ?_)
  obtain ⟨hP, -, hD1⟩ := hB
  rw [ht] at hP
  have hD := hD1.weaken (fun _ _ _ h => hFc _ h)
  have hw : r = q1.1 := hw
  subst hw
  generalize H1 = H at hP hS ⊢
  refine W.widen (k := 0) (n := 0) (by decide) (by decide) ?_
  have J25 : ∀ (τ : vS) (H : Heap) (locs : List Loc) (ls : Array Slot), f_V_production_25 N τ = some ((0, v.1), v.2) → lv_has ls 5 [] → va_P (dC, dI) CL (Xw ad ca τ) H → va_D A (Xw ad ca τ) → va_S A s.heap H locs → W p l e (headSpec WS ({ frames := 6, cells := 0, slots := 0, locals := 82 })).room s m ([.ref (ad 0), .int a0, .int a1, .int a2, .int a3] : List Value).toArray below meth c H locs 0 0 (MQ below (va_Qi (fun (r : Int32) (_ : Unit) => r = v.1) (fun _ t => vq_Post (dC, dI) CL A (Xw ad ca v.2) (Xt ca) t) A) ([.ref (ad 0), .int a0, .int a1, .int a2, .int a3] : List Value).toArray s 0 0 A) (F0 m 25 ls []) := by
    intro τ H locs ls h hl hP hD hS
    unfold f_V_production_25 at h
    simp at h
  refine lv_if_eq (tgt := 25) hx hb d_V_production_8 (by decide) (fun hc3 => ?_) (fun hc3 => ?_)
  ·
    rw [if_pos hc3] at h
    exact J25 _ _ _ _ h (lv_sub hl [] rfl) hP hD hS
  ·
    rw [if_neg hc3] at h
    refine lv_aload_n hx hb d_V_production_11 rfl (lv_at hl 0 rfl) ?_
    refine g_V_grammar dC dI ad ca q1.2 hx hb hts hown hK hP k_546 d_V_production_12 ?_
    refine lv_iload_n hx hb d_V_production_15 rfl (lv_at hl 2 rfl) ?_
    refine lv_iload_n hx hb d_V_production_16 rfl (lv_at hl 3 rfl) ?_
    refine lv_iload hx hb d_V_production_17 (lv_at hl 4 rfl) ?_
    obtain ⟨q4, h5, h⟩ := vq_bi h
    have hFc := vq_freeAll hD hS hA
    refine va_calli (va_runV (As := [.int a1, .int a2, .int a3]) (rest := []) ⟨hx, hb, hml, hown, hts⟩ (c_G_isRight l htr dC dI ad ca N q1.2 a1 a2 a3 q4 h5 H.size) (vq_cV WSk hts 3 rfl rfl ⟨by decide, by decide⟩ k_31 k_26 k_569 k_570 k_571 (by decide +kernel)) ⟨vq_blind, va_recv hK hP (ci := 1) (q0 := 1) rfl rfl, vq_here hst hS hN hP hK hD⟩ rfl rfl hl.1 rfl (lv_room (Nat.le_of_ble_eq_true rfl)) d_V_production_19 ⟨by decide, by decide⟩) hS (fun q _ h => hFc q h) hFc (fun r u t H1 locs ht hvm hw hB hz1 hk1 hS => ?_)
    obtain ⟨hP, -, hD1⟩ := hB
    rw [ht] at hP
    have hD := hD1.weaken (fun _ _ _ h => hFc _ h)
    have hw : r = q4.1 := hw
    subst hw
    generalize H1 = H at hP hS ⊢
    refine W.widen (k := 0) (n := 0) (by decide) (by decide) ?_
    refine lv_if_ne (tgt := 35) hx hb d_V_production_22 (by decide) (fun hc6 => ?_) (fun hc6 => ?_)
    ·
      rw [if_neg hc6] at h
      refine lv_aload_n hx hb d_V_production_35 rfl (lv_at hl 0 rfl) ?_
      refine g_V_grammar dC dI ad ca q4.2 hx hb hts hown hK hP k_546 d_V_production_36 ?_
      refine gN_G_productionCount dC dI ad ca q4.2 hx hb hts hown hK hP k_572 d_V_production_39 ?_
      refine lv_bipush (v := 10) hx hb d_V_production_42 (by decide) ?_
      refine lv_icmp_ne (tgt := 57) hx hb d_V_production_44 (by decide) (fun hc7 => ?_) (fun hc7 => ?_)
      ·
        rw [if_neg hc7] at h
        refine lv_aload_n hx hb d_V_production_57 rfl (lv_at hl 0 rfl) ?_
        obtain ⟨q8, h9, h⟩ := vq_bi h
        have hFc := vq_freeAll hD hS hA
        refine va_callv (va_runV (As := []) (rest := []) ⟨hx, hb, hml, hown, hts⟩ (c_V_dropAnalysis l htr dC dI ad ca N q4.2 q8 h9 H.size) (vq_cV WSk hts 0 rfl rfl ⟨by decide, by decide⟩ k_530 k_22 k_557 k_558 k_559 (by decide +kernel)) ⟨vq_blind, va_recv hK hP (ci := 0) (q0 := 0) rfl rfl, vq_here hst hS hN hP hK hD⟩ rfl rfl hl.1 rfl (lv_room (Nat.le_of_ble_eq_true rfl)) d_V_production_58 ⟨by decide, by decide⟩) hS (fun q _ h => hFc q h) hFc (fun u t H1 locs ht hvm hw hB hz1 hk1 hS => ?_)
        obtain ⟨hP, -, hD1⟩ := hB
        rw [ht] at hP
        have hD := hD1.weaken (fun _ _ _ h => hFc _ h)
        generalize H1 = H at hP hS ⊢
        refine W.widen (k := 0) (n := 0) (by decide) (by decide) ?_
        refine lv_aload_n hx hb d_V_production_61 rfl (lv_at hl 0 rfl) ?_
        refine g_V_grammar dC dI ad ca q8.2 hx hb hts hown hK hP k_546 d_V_production_62 ?_
        refine lv_iload_n hx hb d_V_production_65 rfl (lv_at hl 1 rfl) ?_
        refine lv_iload_n hx hb d_V_production_66 rfl (lv_at hl 2 rfl) ?_
        refine lv_iload_n hx hb d_V_production_67 rfl (lv_at hl 3 rfl) ?_
        refine lv_iload hx hb d_V_production_68 (lv_at hl 4 rfl) ?_
        obtain ⟨q10, h11, h⟩ := vq_bi h
        have hFc := vq_freeAll hD hS hA
        refine va_calli (va_runV (As := [.int a0, .int a1, .int a2, .int a3]) (rest := []) ⟨hx, hb, hml, hown, hts⟩ (c_G_addProduction l htr dC dI ad ca N q8.2 a0 a1 a2 a3 q10 h11 H.size) (vq_cV WSk hts 4 rfl rfl ⟨by decide, by decide⟩ k_50 k_26 k_573 k_574 k_575 (by decide +kernel)) ⟨vq_blind, va_recv hK hP (ci := 1) (q0 := 1) rfl rfl, vq_here hst hS hN hP hK hD⟩ rfl rfl hl.1 rfl (lv_room (Nat.le_of_ble_eq_true rfl)) d_V_production_70 ⟨by decide, by decide⟩) hS (fun q _ h => hFc q h) hFc (fun r u t H1 locs ht hvm hw hB hz1 hk1 hS => ?_)
        obtain ⟨hP, -, hD1⟩ := hB
        rw [ht] at hP
        have hD := hD1.weaken (fun _ _ _ h => hFc _ h)
        have hw : r = q10.1 := hw
        subst hw
        generalize H1 = H at hP hS ⊢
        refine W.widen (k := 0) (n := 0) (by decide) (by decide) ?_
        have h9 : ((q10.1), q10.2) = v := by have h8 := Option.some.inj h; simp only [Prod.mk.injEq, true_and] at h8; exact Prod.ext h8.1 h8.2
        rw [← h9]
        exact W.iret (v := (q10.1)) hx hb hr (fun t ht hW => ⟨⟨(q10.1), (), rfl, rfl, by rw [ht]; exact hP, va_K.moved hW.alike hK, hD⟩, hS.F ht⟩) hS.2.2 d_V_production_73
      ·
        rw [if_pos hc7] at h
        simp at h
    ·
      rw [if_pos hc6] at h
      exact J25 _ _ _ _ h (lv_sub hl [] rfl) hP hD hS

set_option maxHeartbeats 4000000 in
set_option maxRecDepth 100000 in
theorem t_V_production_1 (l : Launch) (htr : l.stackTraces = false) (dC : Nat → ClassId) (dI : Nat → Nat → Nat) (ad : Nat → Nat) (ca : Nat → ClassId) (N : Nat) (σ : vS) (a0 : Int32) (a1 : Int32) (a2 : Int32) (a3 : Int32) (v : Int32 × vS) (h : f_V_production N σ a0 a1 a2 a3 = some ((1, v.1), v.2)) (sz : Nat) : vq_T2 l y_V_production WS ({ frames := 6, cells := 1, slots := 6, locals := 82 }) (va_Pc [.ref (ad 0), .int a0, .int a1, .int a2, .int a3] (vq_Pre (dC, dI) CL sz (Xw ad ca σ) (Xt ca))) "java/lang/IllegalArgumentException" (va_A (Xw ad ca σ) sz) (fun t => vq_Post (dC, dI) CL (va_A (Xw ad ca σ) sz) (Xw ad ca v.2) (Xt ca) t) 1 6 := by
  refine vq_ofT2 (cc := prog_1_method_3_code) (maxL := 5) (ret := (Option.some Jvm.ClassFile.FieldType.int)) pl_V (vq_his k_567) ?_
  intro p e s m args below meth c s₁ B hml hv
  obtain ⟨rfl, hst, hsz, hP, hK, hD0⟩ := hv
  have hx := B.exec
  have hb := B.bytes
  have hr := B.returns
  have hts := atoms_spec (ws := WS) B.pre
  have hown : s.vm.findClass R_V = some m.cls := findClass_of_methodNamed B.named
  have hlocks := B.notSynchronized
  have hno := vq_noH B (hts _ k_567)
  subst hsz
  have hN := vq_ns hP
  have hD := hD0.self (sz := s.heap.size)
  generalize hAe : va_A (Xw ad ca σ) s.heap.size = A at hD hN ⊢
  have hA : ∀ q : Nat, s.heap.size ≤ q → A q := fun q h => by rw [← hAe]; exact Or.inr h
  have hS : va_S A s.heap s.heap [] := va_S.rf
  have hl := lv_entry ([.ref (ad 0), .int a0, .int a1, .int a2, .int a3]) (n := 5) (Nat.le_of_ble_eq_true rfl)
  rw [lg_entry_eq]
  generalize (lg_sl ([.ref (ad 0), .int a0, .int a1, .int a2, .int a3]) ++ List.replicate (5 - (lg_sl ([.ref (ad 0), .int a0, .int a1, .int a2, .int a3])).length) Slot.unset).toArray = ls at hl ⊢
  have hl : lv_has ls 5 [(0, .ref (ad 0)), (1, .int a0), (2, .int a1), (3, .int a2), (4, .int a3)] := hl
  unfold f_V_production at h
  refine lv_aload_n hx hb d_V_production_0 rfl (lv_at hl 0 rfl) ?_
  refine g_V_grammar dC dI ad ca σ hx hb hts hown hK hP k_546 d_V_production_1 ?_
  refine lv_iload_n hx hb d_V_production_4 rfl (lv_at hl 1 rfl) ?_
  obtain ⟨q1, h2, h⟩ := vq_bi h
  have hFc := vq_freeAll hD hS hA
  refine va_calli (va_runV (As := [.int a0]) (rest := []) ⟨hx, hb, hml, hown, hts⟩ (c_G_hasSymbol l htr dC dI ad ca N σ a0 q1 h2 s.heap.size) (vq_cV WSk hts 1 rfl rfl ⟨by decide, by decide⟩ k_14 k_26 k_568 k_33 k_34 (by decide +kernel)) ⟨vq_blind, va_recv hK hP (ci := 1) (q0 := 1) rfl rfl, vq_here hst hS hN hP hK hD⟩ rfl rfl hl.1 rfl (lv_room (Nat.le_of_ble_eq_true rfl)) d_V_production_5 ⟨by decide, by decide⟩) hS (fun q _ h => hFc q h) hFc (fun r u t H1 locs ht hvm hw hB hz1 hk1 hS => ?_)
  obtain ⟨hP, -, hD1⟩ := hB
  rw [ht] at hP
  have hD := hD1.weaken (fun _ _ _ h => hFc _ h)
  have hw : r = q1.1 := hw
  subst hw
  generalize H1 = H at hP hS ⊢
  refine W.widen (k := 0) (n := 0) (by decide) (by decide) ?_
  have J25 : ∀ (τ : vS) (H : Heap) (locs : List Loc) (ls : Array Slot), f_V_production_25 N τ = some ((1, v.1), v.2) → lv_has ls 5 [] → va_P (dC, dI) CL (Xw ad ca τ) H → va_D A (Xw ad ca τ) → va_S A s.heap H locs → W p l e (headSpec WS ({ frames := 6, cells := 1, slots := 6, locals := 82 })).room s m ([.ref (ad 0), .int a0, .int a1, .int a2, .int a3] : List Value).toArray below meth c H locs 0 0 (vq_MQ2 below "java/lang/IllegalArgumentException" A (fun t => vq_Post (dC, dI) CL A (Xw ad ca v.2) (Xt ca) t) s 1 6) (F0 m 25 ls []) := by
    intro τ H locs ls h hl hP hD hS
    unfold f_V_production_25 at h
    have h9 : (0, τ) = v := by have h8 := Option.some.inj h; simp only [Prod.mk.injEq, true_and] at h8; exact Prod.ext h8.1 h8.2
    rw [← h9]
    have hws := vq_all WSk hts
    have hwu : ∀ u : State, u.vm = s.vm → s.WarmedH u.vm := fun u hu => by rw [hu]; exact State.WarmedH.refl s
    exact vq_throw2 (names := up_names) hx hb htr hown (by decide +kernel) (by decide +kernel) (fun u hu hsu => at_V_IllegalArgumentException (fun w hw => hws w hw _ u (hwu u hu)) hsu) hst (fun u hu => ⟨hws _ k_563 _ u (hwu u hu), hws _ k_564 _ u (hwu u hu), hws _ k_576 _ u (hwu u hu)⟩) hS hA hN hno hlocks (by decide) (hl.1.trans hml.symm) (fun t hz9 hk9 hW9 => ⟨hP.kept (fun k x hx9 => by have h7 := (hP k x hx9).lt; rw [Array.getElem?_eq_getElem h7]; exact hk9 _ _ (Array.getElem?_eq_getElem h7)), va_K.moved hW9.alike hK, hD⟩) d_V_production_25 d_V_production_28 d_V_production_29 d_V_production_31 d_V_production_34
  refine lv_if_eq (tgt := 25) hx hb d_V_production_8 (by decide) (fun hc3 => ?_) (fun hc3 => ?_)
  ·
    rw [if_pos hc3] at h
    exact J25 _ _ _ _ h (lv_sub hl [] rfl) hP hD hS
  ·
    rw [if_neg hc3] at h
    refine lv_aload_n hx hb d_V_production_11 rfl (lv_at hl 0 rfl) ?_
    refine g_V_grammar dC dI ad ca q1.2 hx hb hts hown hK hP k_546 d_V_production_12 ?_
    refine lv_iload_n hx hb d_V_production_15 rfl (lv_at hl 2 rfl) ?_
    refine lv_iload_n hx hb d_V_production_16 rfl (lv_at hl 3 rfl) ?_
    refine lv_iload hx hb d_V_production_17 (lv_at hl 4 rfl) ?_
    obtain ⟨q4, h5, h⟩ := vq_bi h
    have hFc := vq_freeAll hD hS hA
    refine va_calli (va_runV (As := [.int a1, .int a2, .int a3]) (rest := []) ⟨hx, hb, hml, hown, hts⟩ (c_G_isRight l htr dC dI ad ca N q1.2 a1 a2 a3 q4 h5 H.size) (vq_cV WSk hts 3 rfl rfl ⟨by decide, by decide⟩ k_31 k_26 k_569 k_570 k_571 (by decide +kernel)) ⟨vq_blind, va_recv hK hP (ci := 1) (q0 := 1) rfl rfl, vq_here hst hS hN hP hK hD⟩ rfl rfl hl.1 rfl (lv_room (Nat.le_of_ble_eq_true rfl)) d_V_production_19 ⟨by decide, by decide⟩) hS (fun q _ h => hFc q h) hFc (fun r u t H1 locs ht hvm hw hB hz1 hk1 hS => ?_)
    obtain ⟨hP, -, hD1⟩ := hB
    rw [ht] at hP
    have hD := hD1.weaken (fun _ _ _ h => hFc _ h)
    have hw : r = q4.1 := hw
    subst hw
    generalize H1 = H at hP hS ⊢
    refine W.widen (k := 0) (n := 0) (by decide) (by decide) ?_
    refine lv_if_ne (tgt := 35) hx hb d_V_production_22 (by decide) (fun hc6 => ?_) (fun hc6 => ?_)
    ·
      rw [if_neg hc6] at h
      refine lv_aload_n hx hb d_V_production_35 rfl (lv_at hl 0 rfl) ?_
      refine g_V_grammar dC dI ad ca q4.2 hx hb hts hown hK hP k_546 d_V_production_36 ?_
      refine gN_G_productionCount dC dI ad ca q4.2 hx hb hts hown hK hP k_572 d_V_production_39 ?_
      refine lv_bipush (v := 10) hx hb d_V_production_42 (by decide) ?_
      refine lv_icmp_ne (tgt := 57) hx hb d_V_production_44 (by decide) (fun hc7 => ?_) (fun hc7 => ?_)
      ·
        rw [if_neg hc7] at h
        refine lv_aload_n hx hb d_V_production_57 rfl (lv_at hl 0 rfl) ?_
        obtain ⟨q8, h9, h⟩ := vq_bi h
        have hFc := vq_freeAll hD hS hA
        refine va_callv (va_runV (As := []) (rest := []) ⟨hx, hb, hml, hown, hts⟩ (c_V_dropAnalysis l htr dC dI ad ca N q4.2 q8 h9 H.size) (vq_cV WSk hts 0 rfl rfl ⟨by decide, by decide⟩ k_530 k_22 k_557 k_558 k_559 (by decide +kernel)) ⟨vq_blind, va_recv hK hP (ci := 0) (q0 := 0) rfl rfl, vq_here hst hS hN hP hK hD⟩ rfl rfl hl.1 rfl (lv_room (Nat.le_of_ble_eq_true rfl)) d_V_production_58 ⟨by decide, by decide⟩) hS (fun q _ h => hFc q h) hFc (fun u t H1 locs ht hvm hw hB hz1 hk1 hS => ?_)
        obtain ⟨hP, -, hD1⟩ := hB
        rw [ht] at hP
        have hD := hD1.weaken (fun _ _ _ h => hFc _ h)
        generalize H1 = H at hP hS ⊢
        refine W.widen (k := 0) (n := 0) (by decide) (by decide) ?_
        refine lv_aload_n hx hb d_V_production_61 rfl (lv_at hl 0 rfl) ?_
        refine g_V_grammar dC dI ad ca q8.2 hx hb hts hown hK hP k_546 d_V_production_62 ?_
        refine lv_iload_n hx hb d_V_production_65 rfl (lv_at hl 1 rfl) ?_
        refine lv_iload_n hx hb d_V_production_66 rfl (lv_at hl 2 rfl) ?_
        refine lv_iload_n hx hb d_V_production_67 rfl (lv_at hl 3 rfl) ?_
        refine lv_iload hx hb d_V_production_68 (lv_at hl 4 rfl) ?_
        obtain ⟨q10, h11, h⟩ := vq_bi h
        have hFc := vq_freeAll hD hS hA
        refine va_calli (va_runV (As := [.int a0, .int a1, .int a2, .int a3]) (rest := []) ⟨hx, hb, hml, hown, hts⟩ (c_G_addProduction l htr dC dI ad ca N q8.2 a0 a1 a2 a3 q10 h11 H.size) (vq_cV WSk hts 4 rfl rfl ⟨by decide, by decide⟩ k_50 k_26 k_573 k_574 k_575 (by decide +kernel)) ⟨vq_blind, va_recv hK hP (ci := 1) (q0 := 1) rfl rfl, vq_here hst hS hN hP hK hD⟩ rfl rfl hl.1 rfl (lv_room (Nat.le_of_ble_eq_true rfl)) d_V_production_70 ⟨by decide, by decide⟩) hS (fun q _ h => hFc q h) hFc (fun r u t H1 locs ht hvm hw hB hz1 hk1 hS => ?_)
        obtain ⟨hP, -, hD1⟩ := hB
        rw [ht] at hP
        have hD := hD1.weaken (fun _ _ _ h => hFc _ h)
        have hw : r = q10.1 := hw
        subst hw
        generalize H1 = H at hP hS ⊢
        refine W.widen (k := 0) (n := 0) (by decide) (by decide) ?_
        simp at h
      ·
        rw [if_pos hc7] at h
        simp at h
    ·
      rw [if_pos hc6] at h
      exact J25 _ _ _ _ h (lv_sub hl [] rfl) hP hD hS

set_option maxHeartbeats 4000000 in
set_option maxRecDepth 100000 in
theorem t_V_production_2 (l : Launch) (htr : l.stackTraces = false) (dC : Nat → ClassId) (dI : Nat → Nat → Nat) (ad : Nat → Nat) (ca : Nat → ClassId) (N : Nat) (σ : vS) (a0 : Int32) (a1 : Int32) (a2 : Int32) (a3 : Int32) (v : Int32 × vS) (h : f_V_production N σ a0 a1 a2 a3 = some ((2, v.1), v.2)) (sz : Nat) : vq_T2 l y_V_production WS ({ frames := 6, cells := 1, slots := 6, locals := 82 }) (va_Pc [.ref (ad 0), .int a0, .int a1, .int a2, .int a3] (vq_Pre (dC, dI) CL sz (Xw ad ca σ) (Xt ca))) "java/lang/IllegalStateException" (va_A (Xw ad ca σ) sz) (fun t => vq_Post (dC, dI) CL (va_A (Xw ad ca σ) sz) (Xw ad ca v.2) (Xt ca) t) 1 6 := by
  refine vq_ofT2 (cc := prog_1_method_3_code) (maxL := 5) (ret := (Option.some Jvm.ClassFile.FieldType.int)) pl_V (vq_his k_567) ?_
  intro p e s m args below meth c s₁ B hml hv
  obtain ⟨rfl, hst, hsz, hP, hK, hD0⟩ := hv
  have hx := B.exec
  have hb := B.bytes
  have hr := B.returns
  have hts := atoms_spec (ws := WS) B.pre
  have hown : s.vm.findClass R_V = some m.cls := findClass_of_methodNamed B.named
  have hlocks := B.notSynchronized
  have hno := vq_noH B (hts _ k_567)
  subst hsz
  have hN := vq_ns hP
  have hD := hD0.self (sz := s.heap.size)
  generalize hAe : va_A (Xw ad ca σ) s.heap.size = A at hD hN ⊢
  have hA : ∀ q : Nat, s.heap.size ≤ q → A q := fun q h => by rw [← hAe]; exact Or.inr h
  have hS : va_S A s.heap s.heap [] := va_S.rf
  have hl := lv_entry ([.ref (ad 0), .int a0, .int a1, .int a2, .int a3]) (n := 5) (Nat.le_of_ble_eq_true rfl)
  rw [lg_entry_eq]
  generalize (lg_sl ([.ref (ad 0), .int a0, .int a1, .int a2, .int a3]) ++ List.replicate (5 - (lg_sl ([.ref (ad 0), .int a0, .int a1, .int a2, .int a3])).length) Slot.unset).toArray = ls at hl ⊢
  have hl : lv_has ls 5 [(0, .ref (ad 0)), (1, .int a0), (2, .int a1), (3, .int a2), (4, .int a3)] := hl
  unfold f_V_production at h
  refine lv_aload_n hx hb d_V_production_0 rfl (lv_at hl 0 rfl) ?_
  refine g_V_grammar dC dI ad ca σ hx hb hts hown hK hP k_546 d_V_production_1 ?_
  refine lv_iload_n hx hb d_V_production_4 rfl (lv_at hl 1 rfl) ?_
  obtain ⟨q1, h2, h⟩ := vq_bi h
  have hFc := vq_freeAll hD hS hA
  refine va_calli (va_runV (As := [.int a0]) (rest := []) ⟨hx, hb, hml, hown, hts⟩ (c_G_hasSymbol l htr dC dI ad ca N σ a0 q1 h2 s.heap.size) (vq_cV WSk hts 1 rfl rfl ⟨by decide, by decide⟩ k_14 k_26 k_568 k_33 k_34 (by decide +kernel)) ⟨vq_blind, va_recv hK hP (ci := 1) (q0 := 1) rfl rfl, vq_here hst hS hN hP hK hD⟩ rfl rfl hl.1 rfl (lv_room (Nat.le_of_ble_eq_true rfl)) d_V_production_5 ⟨by decide, by decide⟩) hS (fun q _ h => hFc q h) hFc (fun r u t H1 locs ht hvm hw hB hz1 hk1 hS => ?_)
  obtain ⟨hP, -, hD1⟩ := hB
  rw [ht] at hP
  have hD := hD1.weaken (fun _ _ _ h => hFc _ h)
  have hw : r = q1.1 := hw
  subst hw
  generalize H1 = H at hP hS ⊢
  refine W.widen (k := 0) (n := 0) (by decide) (by decide) ?_
  have J25 : ∀ (τ : vS) (H : Heap) (locs : List Loc) (ls : Array Slot), f_V_production_25 N τ = some ((2, v.1), v.2) → lv_has ls 5 [] → va_P (dC, dI) CL (Xw ad ca τ) H → va_D A (Xw ad ca τ) → va_S A s.heap H locs → W p l e (headSpec WS ({ frames := 6, cells := 1, slots := 6, locals := 82 })).room s m ([.ref (ad 0), .int a0, .int a1, .int a2, .int a3] : List Value).toArray below meth c H locs 0 0 (vq_MQ2 below "java/lang/IllegalStateException" A (fun t => vq_Post (dC, dI) CL A (Xw ad ca v.2) (Xt ca) t) s 1 6) (F0 m 25 ls []) := by
    intro τ H locs ls h hl hP hD hS
    unfold f_V_production_25 at h
    simp at h
  refine lv_if_eq (tgt := 25) hx hb d_V_production_8 (by decide) (fun hc3 => ?_) (fun hc3 => ?_)
  ·
    rw [if_pos hc3] at h
    exact J25 _ _ _ _ h (lv_sub hl [] rfl) hP hD hS
  ·
    rw [if_neg hc3] at h
    refine lv_aload_n hx hb d_V_production_11 rfl (lv_at hl 0 rfl) ?_
    refine g_V_grammar dC dI ad ca q1.2 hx hb hts hown hK hP k_546 d_V_production_12 ?_
    refine lv_iload_n hx hb d_V_production_15 rfl (lv_at hl 2 rfl) ?_
    refine lv_iload_n hx hb d_V_production_16 rfl (lv_at hl 3 rfl) ?_
    refine lv_iload hx hb d_V_production_17 (lv_at hl 4 rfl) ?_
    obtain ⟨q4, h5, h⟩ := vq_bi h
    have hFc := vq_freeAll hD hS hA
    refine va_calli (va_runV (As := [.int a1, .int a2, .int a3]) (rest := []) ⟨hx, hb, hml, hown, hts⟩ (c_G_isRight l htr dC dI ad ca N q1.2 a1 a2 a3 q4 h5 H.size) (vq_cV WSk hts 3 rfl rfl ⟨by decide, by decide⟩ k_31 k_26 k_569 k_570 k_571 (by decide +kernel)) ⟨vq_blind, va_recv hK hP (ci := 1) (q0 := 1) rfl rfl, vq_here hst hS hN hP hK hD⟩ rfl rfl hl.1 rfl (lv_room (Nat.le_of_ble_eq_true rfl)) d_V_production_19 ⟨by decide, by decide⟩) hS (fun q _ h => hFc q h) hFc (fun r u t H1 locs ht hvm hw hB hz1 hk1 hS => ?_)
    obtain ⟨hP, -, hD1⟩ := hB
    rw [ht] at hP
    have hD := hD1.weaken (fun _ _ _ h => hFc _ h)
    have hw : r = q4.1 := hw
    subst hw
    generalize H1 = H at hP hS ⊢
    refine W.widen (k := 0) (n := 0) (by decide) (by decide) ?_
    refine lv_if_ne (tgt := 35) hx hb d_V_production_22 (by decide) (fun hc6 => ?_) (fun hc6 => ?_)
    ·
      rw [if_neg hc6] at h
      refine lv_aload_n hx hb d_V_production_35 rfl (lv_at hl 0 rfl) ?_
      refine g_V_grammar dC dI ad ca q4.2 hx hb hts hown hK hP k_546 d_V_production_36 ?_
      refine gN_G_productionCount dC dI ad ca q4.2 hx hb hts hown hK hP k_572 d_V_production_39 ?_
      refine lv_bipush (v := 10) hx hb d_V_production_42 (by decide) ?_
      refine lv_icmp_ne (tgt := 57) hx hb d_V_production_44 (by decide) (fun hc7 => ?_) (fun hc7 => ?_)
      ·
        rw [if_neg hc7] at h
        refine lv_aload_n hx hb d_V_production_57 rfl (lv_at hl 0 rfl) ?_
        obtain ⟨q8, h9, h⟩ := vq_bi h
        have hFc := vq_freeAll hD hS hA
        refine va_callv (va_runV (As := []) (rest := []) ⟨hx, hb, hml, hown, hts⟩ (c_V_dropAnalysis l htr dC dI ad ca N q4.2 q8 h9 H.size) (vq_cV WSk hts 0 rfl rfl ⟨by decide, by decide⟩ k_530 k_22 k_557 k_558 k_559 (by decide +kernel)) ⟨vq_blind, va_recv hK hP (ci := 0) (q0 := 0) rfl rfl, vq_here hst hS hN hP hK hD⟩ rfl rfl hl.1 rfl (lv_room (Nat.le_of_ble_eq_true rfl)) d_V_production_58 ⟨by decide, by decide⟩) hS (fun q _ h => hFc q h) hFc (fun u t H1 locs ht hvm hw hB hz1 hk1 hS => ?_)
        obtain ⟨hP, -, hD1⟩ := hB
        rw [ht] at hP
        have hD := hD1.weaken (fun _ _ _ h => hFc _ h)
        generalize H1 = H at hP hS ⊢
        refine W.widen (k := 0) (n := 0) (by decide) (by decide) ?_
        refine lv_aload_n hx hb d_V_production_61 rfl (lv_at hl 0 rfl) ?_
        refine g_V_grammar dC dI ad ca q8.2 hx hb hts hown hK hP k_546 d_V_production_62 ?_
        refine lv_iload_n hx hb d_V_production_65 rfl (lv_at hl 1 rfl) ?_
        refine lv_iload_n hx hb d_V_production_66 rfl (lv_at hl 2 rfl) ?_
        refine lv_iload_n hx hb d_V_production_67 rfl (lv_at hl 3 rfl) ?_
        refine lv_iload hx hb d_V_production_68 (lv_at hl 4 rfl) ?_
        obtain ⟨q10, h11, h⟩ := vq_bi h
        have hFc := vq_freeAll hD hS hA
        refine va_calli (va_runV (As := [.int a0, .int a1, .int a2, .int a3]) (rest := []) ⟨hx, hb, hml, hown, hts⟩ (c_G_addProduction l htr dC dI ad ca N q8.2 a0 a1 a2 a3 q10 h11 H.size) (vq_cV WSk hts 4 rfl rfl ⟨by decide, by decide⟩ k_50 k_26 k_573 k_574 k_575 (by decide +kernel)) ⟨vq_blind, va_recv hK hP (ci := 1) (q0 := 1) rfl rfl, vq_here hst hS hN hP hK hD⟩ rfl rfl hl.1 rfl (lv_room (Nat.le_of_ble_eq_true rfl)) d_V_production_70 ⟨by decide, by decide⟩) hS (fun q _ h => hFc q h) hFc (fun r u t H1 locs ht hvm hw hB hz1 hk1 hS => ?_)
        obtain ⟨hP, -, hD1⟩ := hB
        rw [ht] at hP
        have hD := hD1.weaken (fun _ _ _ h => hFc _ h)
        have hw : r = q10.1 := hw
        subst hw
        generalize H1 = H at hP hS ⊢
        refine W.widen (k := 0) (n := 0) (by decide) (by decide) ?_
        simp at h
      ·
        rw [if_pos hc7] at h
        have h9 : (0, q4.2) = v := by have h8 := Option.some.inj h; simp only [Prod.mk.injEq, true_and] at h8; exact Prod.ext h8.1 h8.2
        rw [← h9]
        have hws := vq_all WSk hts
        have hwu : ∀ u : State, u.vm = s.vm → s.WarmedH u.vm := fun u hu => by rw [hu]; exact State.WarmedH.refl s
        exact vq_throw2 (names := up_names) hx hb htr hown (by decide +kernel) (by decide +kernel) (fun u hu hsu => at_V_IllegalStateException (fun w hw => hws w hw _ u (hwu u hu)) hsu) hst (fun u hu => ⟨hws _ k_539 _ u (hwu u hu), hws _ k_540 _ u (hwu u hu), hws _ k_577 _ u (hwu u hu)⟩) hS hA hN hno hlocks (by decide) (hl.1.trans hml.symm) (fun t hz9 hk9 hW9 => ⟨hP.kept (fun k x hx9 => by have h7 := (hP k x hx9).lt; rw [Array.getElem?_eq_getElem h7]; exact hk9 _ _ (Array.getElem?_eq_getElem h7)), va_K.moved hW9.alike hK, hD⟩) d_V_production_47 d_V_production_50 d_V_production_51 d_V_production_53 d_V_production_56
    ·
      rw [if_pos hc6] at h
      exact J25 _ _ _ _ h (lv_sub hl [] rfl) hP hD hS

set_option maxHeartbeats 4000000 in
set_option maxRecDepth 100000 in
theorem c_V_rule (l : Launch) (htr : l.stackTraces = false) (dC : Nat → ClassId) (dI : Nat → Nat → Nat) (ad : Nat → Nat) (ca : Nat → ClassId) (N : Nat) (σ : vS) (a0 : Int32) (a1 : Int32) (a2 : Int32) (a3 : Int32) (a4 : Int32) (v : Int32 × vS) (h : f_V_rule N σ a0 a1 a2 a3 a4 = some ((0, v.1), v.2)) (sz : Nat) : Met l y_V_rule WS ({ frames := 6, cells := 0, slots := 0, locals := 82 }) (va_Pc [.ref (ad 0), .int a0, .int a1, .int a2, .int a3, .int a4] (vq_Pre (dC, dI) CL sz (Xw ad ca σ) (Xt ca))) (va_Qv (fun _ : Unit => True) (fun _ t => vq_Post (dC, dI) CL (va_A (Xw ad ca σ) sz) (Xw ad ca v.2) (Xt ca) t) (va_A (Xw ad ca σ) sz)) 0 0 (va_A (Xw ad ca σ) sz) := by
  refine vq_ofW (cc := prog_1_method_4_code) (maxL := 6) (ret := (Option.none : Option Jvm.ClassFile.FieldType)) pl_V (vq_his k_578) ?_
  intro p e s m args below meth c s₁ B hml hv
  obtain ⟨rfl, hst, hsz, hP, hK, hD0⟩ := hv
  have hx := B.exec
  have hb := B.bytes
  have hr := B.returns
  have hts := atoms_spec (ws := WS) B.pre
  have hown : s.vm.findClass R_V = some m.cls := findClass_of_methodNamed B.named
  have hlocks := B.notSynchronized
  have hno := vq_noH B (hts _ k_578)
  subst hsz
  have hN := vq_ns hP
  have hD := hD0.self (sz := s.heap.size)
  generalize hAe : va_A (Xw ad ca σ) s.heap.size = A at hD hN ⊢
  have hA : ∀ q : Nat, s.heap.size ≤ q → A q := fun q h => by rw [← hAe]; exact Or.inr h
  have hS : va_S A s.heap s.heap [] := va_S.rf
  have hl := lv_entry ([.ref (ad 0), .int a0, .int a1, .int a2, .int a3, .int a4]) (n := 6) (Nat.le_of_ble_eq_true rfl)
  rw [lg_entry_eq]
  generalize (lg_sl ([.ref (ad 0), .int a0, .int a1, .int a2, .int a3, .int a4]) ++ List.replicate (6 - (lg_sl ([.ref (ad 0), .int a0, .int a1, .int a2, .int a3, .int a4])).length) Slot.unset).toArray = ls at hl ⊢
  have hl : lv_has ls 6 [(0, .ref (ad 0)), (1, .int a0), (2, .int a1), (3, .int a2), (4, .int a3), (5, .int a4)] := hl
  unfold f_V_rule at h
  refine lv_aload_n hx hb d_V_rule_0 rfl (lv_at hl 0 rfl) ?_
  refine g_V_grammar dC dI ad ca σ hx hb hts hown hK hP k_546 d_V_rule_1 ?_
  refine lv_iload_n hx hb d_V_rule_4 rfl (lv_at hl 1 rfl) ?_
  obtain ⟨q1, h2, h⟩ := vq_bi h
  have hFc := vq_freeAll hD hS hA
  refine va_calli (va_runV (As := [.int a0]) (rest := []) ⟨hx, hb, hml, hown, hts⟩ (c_G_hasProduction l htr dC dI ad ca N σ a0 q1 h2 s.heap.size) (vq_cV WSk hts 1 rfl rfl ⟨by decide, by decide⟩ k_18 k_26 k_579 k_580 k_581 (by decide +kernel)) ⟨vq_blind, va_recv hK hP (ci := 1) (q0 := 1) rfl rfl, vq_here hst hS hN hP hK hD⟩ rfl rfl hl.1 rfl (lv_room (Nat.le_of_ble_eq_true rfl)) d_V_rule_5 ⟨by decide, by decide⟩) hS (fun q _ h => hFc q h) hFc (fun r u t H1 locs ht hvm hw hB hz1 hk1 hS => ?_)
  obtain ⟨hP, -, hD1⟩ := hB
  rw [ht] at hP
  have hD := hD1.weaken (fun _ _ _ h => hFc _ h)
  have hw : r = q1.1 := hw
  subst hw
  generalize H1 = H at hP hS ⊢
  refine W.widen (k := 0) (n := 0) (by decide) (by decide) ?_
  refine lv_if_ne (tgt := 21) hx hb d_V_rule_8 (by decide) (fun hc3 => ?_) (fun hc3 => ?_)
  ·
    rw [if_neg hc3] at h
    refine lv_aload_n hx hb d_V_rule_21 rfl (lv_at hl 0 rfl) ?_
    refine g_V_grammar dC dI ad ca q1.2 hx hb hts hown hK hP k_546 d_V_rule_22 ?_
    refine lv_iload_n hx hb d_V_rule_25 rfl (lv_at hl 1 rfl) ?_
    refine lv_iload_n hx hb d_V_rule_26 rfl (lv_at hl 2 rfl) ?_
    obtain ⟨q4, h5, h⟩ := vq_bi h
    have hFc := vq_freeAll hD hS hA
    refine va_calli (va_runV (As := [.int a0, .int a1]) (rest := []) ⟨hx, hb, hml, hown, hts⟩ (c_G_isToBeDefined l htr dC dI ad ca N q1.2 a0 a1 q4 h5 H.size) (vq_cV WSk hts 2 rfl rfl ⟨by decide, by decide⟩ k_25 k_26 k_582 k_583 k_584 (by decide +kernel)) ⟨vq_blind, va_recv hK hP (ci := 1) (q0 := 1) rfl rfl, vq_here hst hS hN hP hK hD⟩ rfl rfl hl.1 rfl (lv_room (Nat.le_of_ble_eq_true rfl)) d_V_rule_27 ⟨by decide, by decide⟩) hS (fun q _ h => hFc q h) hFc (fun r u t H1 locs ht hvm hw hB hz1 hk1 hS => ?_)
    obtain ⟨hP, -, hD1⟩ := hB
    rw [ht] at hP
    have hD := hD1.weaken (fun _ _ _ h => hFc _ h)
    have hw : r = q4.1 := hw
    subst hw
    generalize H1 = H at hP hS ⊢
    refine W.widen (k := 0) (n := 0) (by decide) (by decide) ?_
    refine lv_if_ne (tgt := 43) hx hb d_V_rule_30 (by decide) (fun hc6 => ?_) (fun hc6 => ?_)
    ·
      rw [if_neg hc6] at h
      refine lv_aload_n hx hb d_V_rule_43 rfl (lv_at hl 0 rfl) ?_
      refine g_V_grammar dC dI ad ca q4.2 hx hb hts hown hK hP k_546 d_V_rule_44 ?_
      refine lv_iload_n hx hb d_V_rule_47 rfl (lv_at hl 1 rfl) ?_
      refine lv_iload_n hx hb d_V_rule_48 rfl (lv_at hl 3 rfl) ?_
      refine lv_iload hx hb d_V_rule_49 (lv_at hl 4 rfl) ?_
      refine lv_iload hx hb d_V_rule_51 (lv_at hl 5 rfl) ?_
      obtain ⟨q7, h8, h⟩ := vq_bi h
      have hFc := vq_freeAll hD hS hA
      refine va_calli (va_runV (As := [.int a0, .int a2, .int a3, .int a4]) (rest := []) ⟨hx, hb, hml, hown, hts⟩ (c_G_isForm l htr dC dI ad ca N q4.2 a0 a2 a3 a4 q7 h8 H.size) (vq_cV WSk hts 4 rfl rfl ⟨by decide, by decide⟩ k_35 k_26 k_585 k_586 k_587 (by decide +kernel)) ⟨vq_blind, va_recv hK hP (ci := 1) (q0 := 1) rfl rfl, vq_here hst hS hN hP hK hD⟩ rfl rfl hl.1 rfl (lv_room (Nat.le_of_ble_eq_true rfl)) d_V_rule_53 ⟨by decide, by decide⟩) hS (fun q _ h => hFc q h) hFc (fun r u t H1 locs ht hvm hw hB hz1 hk1 hS => ?_)
      obtain ⟨hP, -, hD1⟩ := hB
      rw [ht] at hP
      have hD := hD1.weaken (fun _ _ _ h => hFc _ h)
      have hw : r = q7.1 := hw
      subst hw
      generalize H1 = H at hP hS ⊢
      refine W.widen (k := 0) (n := 0) (by decide) (by decide) ?_
      refine lv_if_ne (tgt := 69) hx hb d_V_rule_56 (by decide) (fun hc9 => ?_) (fun hc9 => ?_)
      ·
        rw [if_neg hc9] at h
        refine lv_aload_n hx hb d_V_rule_69 rfl (lv_at hl 0 rfl) ?_
        obtain ⟨q10, h11, h⟩ := vq_bi h
        have hFc := vq_freeAll hD hS hA
        refine va_callv (va_runV (As := []) (rest := []) ⟨hx, hb, hml, hown, hts⟩ (c_V_dropAnalysis l htr dC dI ad ca N q7.2 q10 h11 H.size) (vq_cV WSk hts 0 rfl rfl ⟨by decide, by decide⟩ k_530 k_22 k_557 k_558 k_559 (by decide +kernel)) ⟨vq_blind, va_recv hK hP (ci := 0) (q0 := 0) rfl rfl, vq_here hst hS hN hP hK hD⟩ rfl rfl hl.1 rfl (lv_room (Nat.le_of_ble_eq_true rfl)) d_V_rule_70 ⟨by decide, by decide⟩) hS (fun q _ h => hFc q h) hFc (fun u t H1 locs ht hvm hw hB hz1 hk1 hS => ?_)
        obtain ⟨hP, -, hD1⟩ := hB
        rw [ht] at hP
        have hD := hD1.weaken (fun _ _ _ h => hFc _ h)
        generalize H1 = H at hP hS ⊢
        refine W.widen (k := 0) (n := 0) (by decide) (by decide) ?_
        refine lv_aload_n hx hb d_V_rule_73 rfl (lv_at hl 0 rfl) ?_
        refine g_V_grammar dC dI ad ca q10.2 hx hb hts hown hK hP k_546 d_V_rule_74 ?_
        refine lv_iload_n hx hb d_V_rule_77 rfl (lv_at hl 1 rfl) ?_
        refine lv_iload_n hx hb d_V_rule_78 rfl (lv_at hl 2 rfl) ?_
        refine lv_iload_n hx hb d_V_rule_79 rfl (lv_at hl 3 rfl) ?_
        refine lv_iload hx hb d_V_rule_80 (lv_at hl 4 rfl) ?_
        refine lv_iload hx hb d_V_rule_82 (lv_at hl 5 rfl) ?_
        obtain ⟨q12, h13, h⟩ := vq_bi h
        have hFc := vq_freeAll hD hS hA
        refine va_callv (va_runV (As := [.int a0, .int a1, .int a2, .int a3, .int a4]) (rest := []) ⟨hx, hb, hml, hown, hts⟩ (c_G_setRule l htr dC dI ad ca N q10.2 a0 a1 a2 a3 a4 q12 h13 H.size) (vq_cV WSk hts 5 rfl rfl ⟨by decide, by decide⟩ k_54 k_26 k_588 k_589 k_590 (by decide +kernel)) ⟨vq_blind, va_recv hK hP (ci := 1) (q0 := 1) rfl rfl, vq_here hst hS hN hP hK hD⟩ rfl rfl hl.1 rfl (lv_room (Nat.le_of_ble_eq_true rfl)) d_V_rule_84 ⟨by decide, by decide⟩) hS (fun q _ h => hFc q h) hFc (fun u t H1 locs ht hvm hw hB hz1 hk1 hS => ?_)
        obtain ⟨hP, -, hD1⟩ := hB
        rw [ht] at hP
        have hD := hD1.weaken (fun _ _ _ h => hFc _ h)
        generalize H1 = H at hP hS ⊢
        refine W.widen (k := 0) (n := 0) (by decide) (by decide) ?_
        have h9 : ((0 : Int32), q12.2) = v := by have h8 := Option.some.inj h; simp only [Prod.mk.injEq, true_and] at h8; exact Prod.ext h8.1 h8.2
        rw [← h9]
        exact W.vret hx hb hr (fun t ht hW => ⟨⟨(), rfl, trivial, by rw [ht]; exact hP, va_K.moved hW.alike hK, hD⟩, hS.F ht⟩) hS.2.2 d_V_rule_87
      ·
        rw [if_pos hc9] at h
        simp at h
    ·
      rw [if_pos hc6] at h
      simp at h
  ·
    rw [if_pos hc3] at h
    simp at h

set_option maxHeartbeats 4000000 in
set_option maxRecDepth 100000 in
theorem t_V_rule_1 (l : Launch) (htr : l.stackTraces = false) (dC : Nat → ClassId) (dI : Nat → Nat → Nat) (ad : Nat → Nat) (ca : Nat → ClassId) (N : Nat) (σ : vS) (a0 : Int32) (a1 : Int32) (a2 : Int32) (a3 : Int32) (a4 : Int32) (v : Int32 × vS) (h : f_V_rule N σ a0 a1 a2 a3 a4 = some ((1, v.1), v.2)) (sz : Nat) : vq_T2 l y_V_rule WS ({ frames := 6, cells := 1, slots := 6, locals := 82 }) (va_Pc [.ref (ad 0), .int a0, .int a1, .int a2, .int a3, .int a4] (vq_Pre (dC, dI) CL sz (Xw ad ca σ) (Xt ca))) "java/lang/IllegalArgumentException" (va_A (Xw ad ca σ) sz) (fun t => vq_Post (dC, dI) CL (va_A (Xw ad ca σ) sz) (Xw ad ca v.2) (Xt ca) t) 1 6 := by
  refine vq_ofT2 (cc := prog_1_method_4_code) (maxL := 6) (ret := (Option.none : Option Jvm.ClassFile.FieldType)) pl_V (vq_his k_578) ?_
  intro p e s m args below meth c s₁ B hml hv
  obtain ⟨rfl, hst, hsz, hP, hK, hD0⟩ := hv
  have hx := B.exec
  have hb := B.bytes
  have hr := B.returns
  have hts := atoms_spec (ws := WS) B.pre
  have hown : s.vm.findClass R_V = some m.cls := findClass_of_methodNamed B.named
  have hlocks := B.notSynchronized
  have hno := vq_noH B (hts _ k_578)
  subst hsz
  have hN := vq_ns hP
  have hD := hD0.self (sz := s.heap.size)
  generalize hAe : va_A (Xw ad ca σ) s.heap.size = A at hD hN ⊢
  have hA : ∀ q : Nat, s.heap.size ≤ q → A q := fun q h => by rw [← hAe]; exact Or.inr h
  have hS : va_S A s.heap s.heap [] := va_S.rf
  have hl := lv_entry ([.ref (ad 0), .int a0, .int a1, .int a2, .int a3, .int a4]) (n := 6) (Nat.le_of_ble_eq_true rfl)
  rw [lg_entry_eq]
  generalize (lg_sl ([.ref (ad 0), .int a0, .int a1, .int a2, .int a3, .int a4]) ++ List.replicate (6 - (lg_sl ([.ref (ad 0), .int a0, .int a1, .int a2, .int a3, .int a4])).length) Slot.unset).toArray = ls at hl ⊢
  have hl : lv_has ls 6 [(0, .ref (ad 0)), (1, .int a0), (2, .int a1), (3, .int a2), (4, .int a3), (5, .int a4)] := hl
  unfold f_V_rule at h
  refine lv_aload_n hx hb d_V_rule_0 rfl (lv_at hl 0 rfl) ?_
  refine g_V_grammar dC dI ad ca σ hx hb hts hown hK hP k_546 d_V_rule_1 ?_
  refine lv_iload_n hx hb d_V_rule_4 rfl (lv_at hl 1 rfl) ?_
  obtain ⟨q1, h2, h⟩ := vq_bi h
  have hFc := vq_freeAll hD hS hA
  refine va_calli (va_runV (As := [.int a0]) (rest := []) ⟨hx, hb, hml, hown, hts⟩ (c_G_hasProduction l htr dC dI ad ca N σ a0 q1 h2 s.heap.size) (vq_cV WSk hts 1 rfl rfl ⟨by decide, by decide⟩ k_18 k_26 k_579 k_580 k_581 (by decide +kernel)) ⟨vq_blind, va_recv hK hP (ci := 1) (q0 := 1) rfl rfl, vq_here hst hS hN hP hK hD⟩ rfl rfl hl.1 rfl (lv_room (Nat.le_of_ble_eq_true rfl)) d_V_rule_5 ⟨by decide, by decide⟩) hS (fun q _ h => hFc q h) hFc (fun r u t H1 locs ht hvm hw hB hz1 hk1 hS => ?_)
  obtain ⟨hP, -, hD1⟩ := hB
  rw [ht] at hP
  have hD := hD1.weaken (fun _ _ _ h => hFc _ h)
  have hw : r = q1.1 := hw
  subst hw
  generalize H1 = H at hP hS ⊢
  refine W.widen (k := 0) (n := 0) (by decide) (by decide) ?_
  refine lv_if_ne (tgt := 21) hx hb d_V_rule_8 (by decide) (fun hc3 => ?_) (fun hc3 => ?_)
  ·
    rw [if_neg hc3] at h
    refine lv_aload_n hx hb d_V_rule_21 rfl (lv_at hl 0 rfl) ?_
    refine g_V_grammar dC dI ad ca q1.2 hx hb hts hown hK hP k_546 d_V_rule_22 ?_
    refine lv_iload_n hx hb d_V_rule_25 rfl (lv_at hl 1 rfl) ?_
    refine lv_iload_n hx hb d_V_rule_26 rfl (lv_at hl 2 rfl) ?_
    obtain ⟨q4, h5, h⟩ := vq_bi h
    have hFc := vq_freeAll hD hS hA
    refine va_calli (va_runV (As := [.int a0, .int a1]) (rest := []) ⟨hx, hb, hml, hown, hts⟩ (c_G_isToBeDefined l htr dC dI ad ca N q1.2 a0 a1 q4 h5 H.size) (vq_cV WSk hts 2 rfl rfl ⟨by decide, by decide⟩ k_25 k_26 k_582 k_583 k_584 (by decide +kernel)) ⟨vq_blind, va_recv hK hP (ci := 1) (q0 := 1) rfl rfl, vq_here hst hS hN hP hK hD⟩ rfl rfl hl.1 rfl (lv_room (Nat.le_of_ble_eq_true rfl)) d_V_rule_27 ⟨by decide, by decide⟩) hS (fun q _ h => hFc q h) hFc (fun r u t H1 locs ht hvm hw hB hz1 hk1 hS => ?_)
    obtain ⟨hP, -, hD1⟩ := hB
    rw [ht] at hP
    have hD := hD1.weaken (fun _ _ _ h => hFc _ h)
    have hw : r = q4.1 := hw
    subst hw
    generalize H1 = H at hP hS ⊢
    refine W.widen (k := 0) (n := 0) (by decide) (by decide) ?_
    refine lv_if_ne (tgt := 43) hx hb d_V_rule_30 (by decide) (fun hc6 => ?_) (fun hc6 => ?_)
    ·
      rw [if_neg hc6] at h
      refine lv_aload_n hx hb d_V_rule_43 rfl (lv_at hl 0 rfl) ?_
      refine g_V_grammar dC dI ad ca q4.2 hx hb hts hown hK hP k_546 d_V_rule_44 ?_
      refine lv_iload_n hx hb d_V_rule_47 rfl (lv_at hl 1 rfl) ?_
      refine lv_iload_n hx hb d_V_rule_48 rfl (lv_at hl 3 rfl) ?_
      refine lv_iload hx hb d_V_rule_49 (lv_at hl 4 rfl) ?_
      refine lv_iload hx hb d_V_rule_51 (lv_at hl 5 rfl) ?_
      obtain ⟨q7, h8, h⟩ := vq_bi h
      have hFc := vq_freeAll hD hS hA
      refine va_calli (va_runV (As := [.int a0, .int a2, .int a3, .int a4]) (rest := []) ⟨hx, hb, hml, hown, hts⟩ (c_G_isForm l htr dC dI ad ca N q4.2 a0 a2 a3 a4 q7 h8 H.size) (vq_cV WSk hts 4 rfl rfl ⟨by decide, by decide⟩ k_35 k_26 k_585 k_586 k_587 (by decide +kernel)) ⟨vq_blind, va_recv hK hP (ci := 1) (q0 := 1) rfl rfl, vq_here hst hS hN hP hK hD⟩ rfl rfl hl.1 rfl (lv_room (Nat.le_of_ble_eq_true rfl)) d_V_rule_53 ⟨by decide, by decide⟩) hS (fun q _ h => hFc q h) hFc (fun r u t H1 locs ht hvm hw hB hz1 hk1 hS => ?_)
      obtain ⟨hP, -, hD1⟩ := hB
      rw [ht] at hP
      have hD := hD1.weaken (fun _ _ _ h => hFc _ h)
      have hw : r = q7.1 := hw
      subst hw
      generalize H1 = H at hP hS ⊢
      refine W.widen (k := 0) (n := 0) (by decide) (by decide) ?_
      refine lv_if_ne (tgt := 69) hx hb d_V_rule_56 (by decide) (fun hc9 => ?_) (fun hc9 => ?_)
      ·
        rw [if_neg hc9] at h
        refine lv_aload_n hx hb d_V_rule_69 rfl (lv_at hl 0 rfl) ?_
        obtain ⟨q10, h11, h⟩ := vq_bi h
        have hFc := vq_freeAll hD hS hA
        refine va_callv (va_runV (As := []) (rest := []) ⟨hx, hb, hml, hown, hts⟩ (c_V_dropAnalysis l htr dC dI ad ca N q7.2 q10 h11 H.size) (vq_cV WSk hts 0 rfl rfl ⟨by decide, by decide⟩ k_530 k_22 k_557 k_558 k_559 (by decide +kernel)) ⟨vq_blind, va_recv hK hP (ci := 0) (q0 := 0) rfl rfl, vq_here hst hS hN hP hK hD⟩ rfl rfl hl.1 rfl (lv_room (Nat.le_of_ble_eq_true rfl)) d_V_rule_70 ⟨by decide, by decide⟩) hS (fun q _ h => hFc q h) hFc (fun u t H1 locs ht hvm hw hB hz1 hk1 hS => ?_)
        obtain ⟨hP, -, hD1⟩ := hB
        rw [ht] at hP
        have hD := hD1.weaken (fun _ _ _ h => hFc _ h)
        generalize H1 = H at hP hS ⊢
        refine W.widen (k := 0) (n := 0) (by decide) (by decide) ?_
        refine lv_aload_n hx hb d_V_rule_73 rfl (lv_at hl 0 rfl) ?_
        refine g_V_grammar dC dI ad ca q10.2 hx hb hts hown hK hP k_546 d_V_rule_74 ?_
        refine lv_iload_n hx hb d_V_rule_77 rfl (lv_at hl 1 rfl) ?_
        refine lv_iload_n hx hb d_V_rule_78 rfl (lv_at hl 2 rfl) ?_
        refine lv_iload_n hx hb d_V_rule_79 rfl (lv_at hl 3 rfl) ?_
        refine lv_iload hx hb d_V_rule_80 (lv_at hl 4 rfl) ?_
        refine lv_iload hx hb d_V_rule_82 (lv_at hl 5 rfl) ?_
        obtain ⟨q12, h13, h⟩ := vq_bi h
        have hFc := vq_freeAll hD hS hA
        refine va_callv (va_runV (As := [.int a0, .int a1, .int a2, .int a3, .int a4]) (rest := []) ⟨hx, hb, hml, hown, hts⟩ (c_G_setRule l htr dC dI ad ca N q10.2 a0 a1 a2 a3 a4 q12 h13 H.size) (vq_cV WSk hts 5 rfl rfl ⟨by decide, by decide⟩ k_54 k_26 k_588 k_589 k_590 (by decide +kernel)) ⟨vq_blind, va_recv hK hP (ci := 1) (q0 := 1) rfl rfl, vq_here hst hS hN hP hK hD⟩ rfl rfl hl.1 rfl (lv_room (Nat.le_of_ble_eq_true rfl)) d_V_rule_84 ⟨by decide, by decide⟩) hS (fun q _ h => hFc q h) hFc (fun u t H1 locs ht hvm hw hB hz1 hk1 hS => ?_)
        obtain ⟨hP, -, hD1⟩ := hB
        rw [ht] at hP
        have hD := hD1.weaken (fun _ _ _ h => hFc _ h)
        generalize H1 = H at hP hS ⊢
        refine W.widen (k := 0) (n := 0) (by decide) (by decide) ?_
        simp at h
      ·
        rw [if_pos hc9] at h
        have h9 : (0, q7.2) = v := by have h8 := Option.some.inj h; simp only [Prod.mk.injEq, true_and] at h8; exact Prod.ext h8.1 h8.2
        rw [← h9]
        have hws := vq_all WSk hts
        have hwu : ∀ u : State, u.vm = s.vm → s.WarmedH u.vm := fun u hu => by rw [hu]; exact State.WarmedH.refl s
        exact vq_throw2 (names := up_names) hx hb htr hown (by decide +kernel) (by decide +kernel) (fun u hu hsu => at_V_IllegalArgumentException (fun w hw => hws w hw _ u (hwu u hu)) hsu) hst (fun u hu => ⟨hws _ k_563 _ u (hwu u hu), hws _ k_564 _ u (hwu u hu), hws _ k_591 _ u (hwu u hu)⟩) hS hA hN hno hlocks (by decide) (hl.1.trans hml.symm) (fun t hz9 hk9 hW9 => ⟨hP.kept (fun k x hx9 => by have h7 := (hP k x hx9).lt; rw [Array.getElem?_eq_getElem h7]; exact hk9 _ _ (Array.getElem?_eq_getElem h7)), va_K.moved hW9.alike hK, hD⟩) d_V_rule_59 d_V_rule_62 d_V_rule_63 d_V_rule_65 d_V_rule_68
    ·
      rw [if_pos hc6] at h
      have h9 : (0, q4.2) = v := by have h8 := Option.some.inj h; simp only [Prod.mk.injEq, true_and] at h8; exact Prod.ext h8.1 h8.2
      rw [← h9]
      have hws := vq_all WSk hts
      have hwu : ∀ u : State, u.vm = s.vm → s.WarmedH u.vm := fun u hu => by rw [hu]; exact State.WarmedH.refl s
      exact vq_throw2 (names := up_names) hx hb htr hown (by decide +kernel) (by decide +kernel) (fun u hu hsu => at_V_IllegalArgumentException (fun w hw => hws w hw _ u (hwu u hu)) hsu) hst (fun u hu => ⟨hws _ k_563 _ u (hwu u hu), hws _ k_564 _ u (hwu u hu), hws _ k_592 _ u (hwu u hu)⟩) hS hA hN hno hlocks (by decide) (hl.1.trans hml.symm) (fun t hz9 hk9 hW9 => ⟨hP.kept (fun k x hx9 => by have h7 := (hP k x hx9).lt; rw [Array.getElem?_eq_getElem h7]; exact hk9 _ _ (Array.getElem?_eq_getElem h7)), va_K.moved hW9.alike hK, hD⟩) d_V_rule_33 d_V_rule_36 d_V_rule_37 d_V_rule_39 d_V_rule_42
  ·
    rw [if_pos hc3] at h
    simp at h

set_option maxHeartbeats 4000000 in
set_option maxRecDepth 100000 in
theorem t_V_rule_3 (l : Launch) (htr : l.stackTraces = false) (dC : Nat → ClassId) (dI : Nat → Nat → Nat) (ad : Nat → Nat) (ca : Nat → ClassId) (N : Nat) (σ : vS) (a0 : Int32) (a1 : Int32) (a2 : Int32) (a3 : Int32) (a4 : Int32) (v : Int32 × vS) (h : f_V_rule N σ a0 a1 a2 a3 a4 = some ((3, v.1), v.2)) (sz : Nat) : vq_T2 l y_V_rule WS ({ frames := 6, cells := 1, slots := 6, locals := 82 }) (va_Pc [.ref (ad 0), .int a0, .int a1, .int a2, .int a3, .int a4] (vq_Pre (dC, dI) CL sz (Xw ad ca σ) (Xt ca))) "java/lang/IndexOutOfBoundsException" (va_A (Xw ad ca σ) sz) (fun t => vq_Post (dC, dI) CL (va_A (Xw ad ca σ) sz) (Xw ad ca v.2) (Xt ca) t) 1 6 := by
  refine vq_ofT2 (cc := prog_1_method_4_code) (maxL := 6) (ret := (Option.none : Option Jvm.ClassFile.FieldType)) pl_V (vq_his k_578) ?_
  intro p e s m args below meth c s₁ B hml hv
  obtain ⟨rfl, hst, hsz, hP, hK, hD0⟩ := hv
  have hx := B.exec
  have hb := B.bytes
  have hr := B.returns
  have hts := atoms_spec (ws := WS) B.pre
  have hown : s.vm.findClass R_V = some m.cls := findClass_of_methodNamed B.named
  have hlocks := B.notSynchronized
  have hno := vq_noH B (hts _ k_578)
  subst hsz
  have hN := vq_ns hP
  have hD := hD0.self (sz := s.heap.size)
  generalize hAe : va_A (Xw ad ca σ) s.heap.size = A at hD hN ⊢
  have hA : ∀ q : Nat, s.heap.size ≤ q → A q := fun q h => by rw [← hAe]; exact Or.inr h
  have hS : va_S A s.heap s.heap [] := va_S.rf
  have hl := lv_entry ([.ref (ad 0), .int a0, .int a1, .int a2, .int a3, .int a4]) (n := 6) (Nat.le_of_ble_eq_true rfl)
  rw [lg_entry_eq]
  generalize (lg_sl ([.ref (ad 0), .int a0, .int a1, .int a2, .int a3, .int a4]) ++ List.replicate (6 - (lg_sl ([.ref (ad 0), .int a0, .int a1, .int a2, .int a3, .int a4])).length) Slot.unset).toArray = ls at hl ⊢
  have hl : lv_has ls 6 [(0, .ref (ad 0)), (1, .int a0), (2, .int a1), (3, .int a2), (4, .int a3), (5, .int a4)] := hl
  unfold f_V_rule at h
  refine lv_aload_n hx hb d_V_rule_0 rfl (lv_at hl 0 rfl) ?_
  refine g_V_grammar dC dI ad ca σ hx hb hts hown hK hP k_546 d_V_rule_1 ?_
  refine lv_iload_n hx hb d_V_rule_4 rfl (lv_at hl 1 rfl) ?_
  obtain ⟨q1, h2, h⟩ := vq_bi h
  have hFc := vq_freeAll hD hS hA
  refine va_calli (va_runV (As := [.int a0]) (rest := []) ⟨hx, hb, hml, hown, hts⟩ (c_G_hasProduction l htr dC dI ad ca N σ a0 q1 h2 s.heap.size) (vq_cV WSk hts 1 rfl rfl ⟨by decide, by decide⟩ k_18 k_26 k_579 k_580 k_581 (by decide +kernel)) ⟨vq_blind, va_recv hK hP (ci := 1) (q0 := 1) rfl rfl, vq_here hst hS hN hP hK hD⟩ rfl rfl hl.1 rfl (lv_room (Nat.le_of_ble_eq_true rfl)) d_V_rule_5 ⟨by decide, by decide⟩) hS (fun q _ h => hFc q h) hFc (fun r u t H1 locs ht hvm hw hB hz1 hk1 hS => ?_)
  obtain ⟨hP, -, hD1⟩ := hB
  rw [ht] at hP
  have hD := hD1.weaken (fun _ _ _ h => hFc _ h)
  have hw : r = q1.1 := hw
  subst hw
  generalize H1 = H at hP hS ⊢
  refine W.widen (k := 0) (n := 0) (by decide) (by decide) ?_
  refine lv_if_ne (tgt := 21) hx hb d_V_rule_8 (by decide) (fun hc3 => ?_) (fun hc3 => ?_)
  ·
    rw [if_neg hc3] at h
    refine lv_aload_n hx hb d_V_rule_21 rfl (lv_at hl 0 rfl) ?_
    refine g_V_grammar dC dI ad ca q1.2 hx hb hts hown hK hP k_546 d_V_rule_22 ?_
    refine lv_iload_n hx hb d_V_rule_25 rfl (lv_at hl 1 rfl) ?_
    refine lv_iload_n hx hb d_V_rule_26 rfl (lv_at hl 2 rfl) ?_
    obtain ⟨q4, h5, h⟩ := vq_bi h
    have hFc := vq_freeAll hD hS hA
    refine va_calli (va_runV (As := [.int a0, .int a1]) (rest := []) ⟨hx, hb, hml, hown, hts⟩ (c_G_isToBeDefined l htr dC dI ad ca N q1.2 a0 a1 q4 h5 H.size) (vq_cV WSk hts 2 rfl rfl ⟨by decide, by decide⟩ k_25 k_26 k_582 k_583 k_584 (by decide +kernel)) ⟨vq_blind, va_recv hK hP (ci := 1) (q0 := 1) rfl rfl, vq_here hst hS hN hP hK hD⟩ rfl rfl hl.1 rfl (lv_room (Nat.le_of_ble_eq_true rfl)) d_V_rule_27 ⟨by decide, by decide⟩) hS (fun q _ h => hFc q h) hFc (fun r u t H1 locs ht hvm hw hB hz1 hk1 hS => ?_)
    obtain ⟨hP, -, hD1⟩ := hB
    rw [ht] at hP
    have hD := hD1.weaken (fun _ _ _ h => hFc _ h)
    have hw : r = q4.1 := hw
    subst hw
    generalize H1 = H at hP hS ⊢
    refine W.widen (k := 0) (n := 0) (by decide) (by decide) ?_
    refine lv_if_ne (tgt := 43) hx hb d_V_rule_30 (by decide) (fun hc6 => ?_) (fun hc6 => ?_)
    ·
      rw [if_neg hc6] at h
      refine lv_aload_n hx hb d_V_rule_43 rfl (lv_at hl 0 rfl) ?_
      refine g_V_grammar dC dI ad ca q4.2 hx hb hts hown hK hP k_546 d_V_rule_44 ?_
      refine lv_iload_n hx hb d_V_rule_47 rfl (lv_at hl 1 rfl) ?_
      refine lv_iload_n hx hb d_V_rule_48 rfl (lv_at hl 3 rfl) ?_
      refine lv_iload hx hb d_V_rule_49 (lv_at hl 4 rfl) ?_
      refine lv_iload hx hb d_V_rule_51 (lv_at hl 5 rfl) ?_
      obtain ⟨q7, h8, h⟩ := vq_bi h
      have hFc := vq_freeAll hD hS hA
      refine va_calli (va_runV (As := [.int a0, .int a2, .int a3, .int a4]) (rest := []) ⟨hx, hb, hml, hown, hts⟩ (c_G_isForm l htr dC dI ad ca N q4.2 a0 a2 a3 a4 q7 h8 H.size) (vq_cV WSk hts 4 rfl rfl ⟨by decide, by decide⟩ k_35 k_26 k_585 k_586 k_587 (by decide +kernel)) ⟨vq_blind, va_recv hK hP (ci := 1) (q0 := 1) rfl rfl, vq_here hst hS hN hP hK hD⟩ rfl rfl hl.1 rfl (lv_room (Nat.le_of_ble_eq_true rfl)) d_V_rule_53 ⟨by decide, by decide⟩) hS (fun q _ h => hFc q h) hFc (fun r u t H1 locs ht hvm hw hB hz1 hk1 hS => ?_)
      obtain ⟨hP, -, hD1⟩ := hB
      rw [ht] at hP
      have hD := hD1.weaken (fun _ _ _ h => hFc _ h)
      have hw : r = q7.1 := hw
      subst hw
      generalize H1 = H at hP hS ⊢
      refine W.widen (k := 0) (n := 0) (by decide) (by decide) ?_
      refine lv_if_ne (tgt := 69) hx hb d_V_rule_56 (by decide) (fun hc9 => ?_) (fun hc9 => ?_)
      ·
        rw [if_neg hc9] at h
        refine lv_aload_n hx hb d_V_rule_69 rfl (lv_at hl 0 rfl) ?_
        obtain ⟨q10, h11, h⟩ := vq_bi h
        have hFc := vq_freeAll hD hS hA
        refine va_callv (va_runV (As := []) (rest := []) ⟨hx, hb, hml, hown, hts⟩ (c_V_dropAnalysis l htr dC dI ad ca N q7.2 q10 h11 H.size) (vq_cV WSk hts 0 rfl rfl ⟨by decide, by decide⟩ k_530 k_22 k_557 k_558 k_559 (by decide +kernel)) ⟨vq_blind, va_recv hK hP (ci := 0) (q0 := 0) rfl rfl, vq_here hst hS hN hP hK hD⟩ rfl rfl hl.1 rfl (lv_room (Nat.le_of_ble_eq_true rfl)) d_V_rule_70 ⟨by decide, by decide⟩) hS (fun q _ h => hFc q h) hFc (fun u t H1 locs ht hvm hw hB hz1 hk1 hS => ?_)
        obtain ⟨hP, -, hD1⟩ := hB
        rw [ht] at hP
        have hD := hD1.weaken (fun _ _ _ h => hFc _ h)
        generalize H1 = H at hP hS ⊢
        refine W.widen (k := 0) (n := 0) (by decide) (by decide) ?_
        refine lv_aload_n hx hb d_V_rule_73 rfl (lv_at hl 0 rfl) ?_
        refine g_V_grammar dC dI ad ca q10.2 hx hb hts hown hK hP k_546 d_V_rule_74 ?_
        refine lv_iload_n hx hb d_V_rule_77 rfl (lv_at hl 1 rfl) ?_
        refine lv_iload_n hx hb d_V_rule_78 rfl (lv_at hl 2 rfl) ?_
        refine lv_iload_n hx hb d_V_rule_79 rfl (lv_at hl 3 rfl) ?_
        refine lv_iload hx hb d_V_rule_80 (lv_at hl 4 rfl) ?_
        refine lv_iload hx hb d_V_rule_82 (lv_at hl 5 rfl) ?_
        obtain ⟨q12, h13, h⟩ := vq_bi h
        have hFc := vq_freeAll hD hS hA
        refine va_callv (va_runV (As := [.int a0, .int a1, .int a2, .int a3, .int a4]) (rest := []) ⟨hx, hb, hml, hown, hts⟩ (c_G_setRule l htr dC dI ad ca N q10.2 a0 a1 a2 a3 a4 q12 h13 H.size) (vq_cV WSk hts 5 rfl rfl ⟨by decide, by decide⟩ k_54 k_26 k_588 k_589 k_590 (by decide +kernel)) ⟨vq_blind, va_recv hK hP (ci := 1) (q0 := 1) rfl rfl, vq_here hst hS hN hP hK hD⟩ rfl rfl hl.1 rfl (lv_room (Nat.le_of_ble_eq_true rfl)) d_V_rule_84 ⟨by decide, by decide⟩) hS (fun q _ h => hFc q h) hFc (fun u t H1 locs ht hvm hw hB hz1 hk1 hS => ?_)
        obtain ⟨hP, -, hD1⟩ := hB
        rw [ht] at hP
        have hD := hD1.weaken (fun _ _ _ h => hFc _ h)
        generalize H1 = H at hP hS ⊢
        refine W.widen (k := 0) (n := 0) (by decide) (by decide) ?_
        simp at h
      ·
        rw [if_pos hc9] at h
        simp at h
    ·
      rw [if_pos hc6] at h
      simp at h
  ·
    rw [if_pos hc3] at h
    have h9 : (0, q1.2) = v := by have h8 := Option.some.inj h; simp only [Prod.mk.injEq, true_and] at h8; exact Prod.ext h8.1 h8.2
    rw [← h9]
    have hws := vq_all WSk hts
    have hwu : ∀ u : State, u.vm = s.vm → s.WarmedH u.vm := fun u hu => by rw [hu]; exact State.WarmedH.refl s
    exact vq_throw2 (names := up_names) hx hb htr hown (by decide +kernel) (by decide +kernel) (fun u hu hsu => at_V_IndexOutOfBoundsException (fun w hw => hws w hw _ u (hwu u hu)) hsu) hst (fun u hu => ⟨hws _ k_551 _ u (hwu u hu), hws _ k_552 _ u (hwu u hu), hws _ k_593 _ u (hwu u hu)⟩) hS hA hN hno hlocks (by decide) (hl.1.trans hml.symm) (fun t hz9 hk9 hW9 => ⟨hP.kept (fun k x hx9 => by have h7 := (hP k x hx9).lt; rw [Array.getElem?_eq_getElem h7]; exact hk9 _ _ (Array.getElem?_eq_getElem h7)), va_K.moved hW9.alike hK, hD⟩) d_V_rule_11 d_V_rule_14 d_V_rule_15 d_V_rule_17 d_V_rule_20

set_option maxHeartbeats 4000000 in
set_option maxRecDepth 100000 in
theorem c_V_analyse (l : Launch) (htr : l.stackTraces = false) (dC : Nat → ClassId) (dI : Nat → Nat → Nat) (ad : Nat → Nat) (ca : Nat → ClassId) (N : Nat) (σ : vS) (v : Int32 × vS) (h : f_V_analyse N σ = some ((0, v.1), v.2)) (sz : Nat) : Met l y_V_analyse WS ({ frames := 6, cells := 0, slots := 0, locals := 136 }) (va_Pc [.ref (ad 0)] (vq_Pre (dC, dI) CL sz (Xw ad ca σ) (Xt ca))) (va_Qi (fun (r : Int32) (_ : Unit) => r = v.1) (fun _ t => vq_Post (dC, dI) CL (va_A (Xw ad ca σ) sz) (Xw ad ca v.2) (Xt ca) t) (va_A (Xw ad ca σ) sz)) 0 0 (va_A (Xw ad ca σ) sz) := by
  refine vq_ofW (cc := prog_1_method_5_code) (maxL := 1) (ret := (Option.some Jvm.ClassFile.FieldType.int)) pl_V (vq_his k_594) ?_
  intro p e s m args below meth c s₁ B hml hv
  obtain ⟨rfl, hst, hsz, hP, hK, hD0⟩ := hv
  have hx := B.exec
  have hb := B.bytes
  have hr := B.returns
  have hts := atoms_spec (ws := WS) B.pre
  have hown : s.vm.findClass R_V = some m.cls := findClass_of_methodNamed B.named
  have hlocks := B.notSynchronized
  have hno := vq_noH B (hts _ k_594)
  subst hsz
  have hN := vq_ns hP
  have hD := hD0.self (sz := s.heap.size)
  generalize hAe : va_A (Xw ad ca σ) s.heap.size = A at hD hN ⊢
  have hA : ∀ q : Nat, s.heap.size ≤ q → A q := fun q h => by rw [← hAe]; exact Or.inr h
  have hS : va_S A s.heap s.heap [] := va_S.rf
  have hl := lv_entry ([.ref (ad 0)]) (n := 1) (Nat.le_of_ble_eq_true rfl)
  rw [lg_entry_eq]
  generalize (lg_sl ([.ref (ad 0)]) ++ List.replicate (1 - (lg_sl ([.ref (ad 0)])).length) Slot.unset).toArray = ls at hl ⊢
  have hl : lv_has ls 1 [(0, .ref (ad 0))] := hl
  unfold f_V_analyse at h
  refine lv_aload_n hx hb d_V_analyse_0 rfl (lv_at hl 0 rfl) ?_
  refine g_V_walk dC dI ad ca σ hx hb hts hown hK hP k_533 d_V_analyse_1 ?_
  obtain ⟨q1, h2, h⟩ := vq_bi h
  have hFc := vq_freeAll hD hS hA
  refine va_callv (va_runV (As := []) (rest := []) ⟨hx, hb, hml, hown, hts⟩ (c_U_end l htr dC dI ad ca N σ q1 h2 s.heap.size) (vq_cV WSk hts 0 rfl rfl ⟨by decide, by decide⟩ k_262 k_279 k_534 k_535 k_536 (by decide +kernel)) ⟨vq_blind, va_recv hK hP (ci := 7) (q0 := 7) rfl rfl, vq_here hst hS hN hP hK hD⟩ rfl rfl hl.1 rfl (lv_room (Nat.le_of_ble_eq_true rfl)) d_V_analyse_4 ⟨by decide, by decide⟩) hS (fun q _ h => hFc q h) hFc (fun u t H1 locs ht hvm hw hB hz1 hk1 hS => ?_)
  obtain ⟨hP, -, hD1⟩ := hB
  rw [ht] at hP
  have hD := hD1.weaken (fun _ _ _ h => hFc _ h)
  generalize H1 = H at hP hS ⊢
  refine W.widen (k := 0) (n := 0) (by decide) (by decide) ?_
  refine lv_aload_n hx hb d_V_analyse_7 rfl (lv_at hl 0 rfl) ?_
  refine g_V_analysis dC dI ad ca q1.2 hx hb hts hown hK hP k_531 d_V_analyse_8 ?_
  obtain ⟨q3, h4, h⟩ := vq_bi h
  have hFc := vq_freeAll hD hS hA
  refine va_callv (va_runV (As := []) (rest := []) ⟨hx, hb, hml, hown, hts⟩ (c_A_make l htr dC dI ad ca N q1.2 q3 h4 H.size) (vq_cV WSk hts 0 rfl rfl ⟨by decide, by decide⟩ k_340 k_313 k_595 k_596 k_597 (by decide +kernel)) ⟨vq_blind, va_recv hK hP (ci := 2) (q0 := 2) rfl rfl, vq_here hst hS hN hP hK hD⟩ rfl rfl hl.1 rfl (lv_room (Nat.le_of_ble_eq_true rfl)) d_V_analyse_11 ⟨by decide, by decide⟩) hS (fun q _ h => hFc q h) hFc (fun u t H1 locs ht hvm hw hB hz1 hk1 hS => ?_)
  obtain ⟨hP, -, hD1⟩ := hB
  rw [ht] at hP
  have hD := hD1.weaken (fun _ _ _ h => hFc _ h)
  generalize H1 = H at hP hS ⊢
  refine W.widen (k := 0) (n := 0) (by decide) (by decide) ?_
  refine lv_aload_n hx hb d_V_analyse_14 rfl (lv_at hl 0 rfl) ?_
  refine g_V_analysis dC dI ad ca q3.2 hx hb hts hown hK hP k_531 d_V_analyse_15 ?_
  refine gN_A_faultKind dC dI ad ca q3.2 hx hb hts hown hK hP k_598 d_V_analyse_18 ?_
  refine lv_iconst (v := 2) hx hb d_V_analyse_21 (by decide) ?_
  have J36 : ∀ (τ : vS) (H : Heap) (locs : List Loc) (ls : Array Slot), f_V_analyse_36 N τ = some ((0, v.1), v.2) → lv_has ls 1 [] → va_P (dC, dI) CL (Xw ad ca τ) H → va_D A (Xw ad ca τ) → va_S A s.heap H locs → W p l e (headSpec WS ({ frames := 6, cells := 0, slots := 0, locals := 136 })).room s m ([.ref (ad 0)] : List Value).toArray below meth c H locs 0 0 (MQ below (va_Qi (fun (r : Int32) (_ : Unit) => r = v.1) (fun _ t => vq_Post (dC, dI) CL A (Xw ad ca v.2) (Xt ca) t) A) ([.ref (ad 0)] : List Value).toArray s 0 0 A) (F0 m 36 ls []) := by
    intro τ H locs ls h hl hP hD hS
    unfold f_V_analyse_36 at h
    simp at h
  refine lv_icmp_eq (tgt := 36) hx hb d_V_analyse_22 (by decide) (fun hc5 => ?_) (fun hc5 => ?_)
  ·
    rw [if_pos hc5] at h
    exact J36 _ _ _ _ h (lv_sub hl [] rfl) hP hD hS
  ·
    rw [if_neg hc5] at h
    refine lv_aload_n hx hb d_V_analyse_25 rfl (lv_at hl 0 rfl) ?_
    refine g_V_analysis dC dI ad ca q3.2 hx hb hts hown hK hP k_531 d_V_analyse_26 ?_
    refine gN_A_faultKind dC dI ad ca q3.2 hx hb hts hown hK hP k_598 d_V_analyse_29 ?_
    refine lv_iconst (v := 3) hx hb d_V_analyse_32 (by decide) ?_
    refine lv_icmp_ne (tgt := 46) hx hb d_V_analyse_33 (by decide) (fun hc6 => ?_) (fun hc6 => ?_)
    ·
      rw [if_neg hc6] at h
      refine lv_aload_n hx hb d_V_analyse_46 rfl (lv_at hl 0 rfl) ?_
      refine g_V_analysis dC dI ad ca q3.2 hx hb hts hown hK hP k_531 d_V_analyse_47 ?_
      refine gN_A_present dC dI ad ca q3.2 hx hb hts hown hK hP k_532 d_V_analyse_50 ?_
      refine lv_if_ne (tgt := 66) hx hb d_V_analyse_53 (by decide) (fun hc7 => ?_) (fun hc7 => ?_)
      ·
        rw [if_neg hc7] at h
        refine lv_aload_n hx hb d_V_analyse_66 rfl (lv_at hl 0 rfl) ?_
        refine g_V_analysis dC dI ad ca q3.2 hx hb hts hown hK hP k_531 d_V_analyse_67 ?_
        refine gN_A_sequences dC dI ad ca q3.2 hx hb hts hown hK hP k_600 d_V_analyse_70 ?_
        obtain ⟨q8, h9, h⟩ := vq_bi h
        have hFc := vq_freeAll hD hS hA
        refine va_calli (va_runV (As := []) (rest := []) ⟨hx, hb, hml, hown, hts⟩ (c_Q_lengthOfAll l htr dC dI ad ca N q3.2 q8 h9 H.size) (vq_cV WSk hts 0 rfl rfl ⟨by decide, by decide⟩ k_152 k_169 k_601 k_602 k_603 (by decide +kernel)) ⟨vq_blind, va_recv hK hP (ci := 5) (q0 := 5) rfl rfl, vq_here hst hS hN hP hK hD⟩ rfl rfl hl.1 rfl (lv_room (Nat.le_of_ble_eq_true rfl)) d_V_analyse_73 ⟨by decide, by decide⟩) hS (fun q _ h => hFc q h) hFc (fun r u t H1 locs ht hvm hw hB hz1 hk1 hS => ?_)
        obtain ⟨hP, -, hD1⟩ := hB
        rw [ht] at hP
        have hD := hD1.weaken (fun _ _ _ h => hFc _ h)
        have hw : r = q8.1 := hw
        subst hw
        generalize H1 = H at hP hS ⊢
        refine W.widen (k := 0) (n := 0) (by decide) (by decide) ?_
        have h9 : ((q8.1), q8.2) = v := by have h8 := Option.some.inj h; simp only [Prod.mk.injEq, true_and] at h8; exact Prod.ext h8.1 h8.2
        rw [← h9]
        exact W.iret (v := (q8.1)) hx hb hr (fun t ht hW => ⟨⟨(q8.1), (), rfl, rfl, by rw [ht]; exact hP, va_K.moved hW.alike hK, hD⟩, hS.F ht⟩) hS.2.2 d_V_analyse_76
      ·
        rw [if_pos hc7] at h
        simp at h
    ·
      rw [if_pos hc6] at h
      exact J36 _ _ _ _ h (lv_sub hl [] rfl) hP hD hS

set_option maxHeartbeats 4000000 in
set_option maxRecDepth 100000 in
theorem t_V_analyse_2 (l : Launch) (htr : l.stackTraces = false) (dC : Nat → ClassId) (dI : Nat → Nat → Nat) (ad : Nat → Nat) (ca : Nat → ClassId) (N : Nat) (σ : vS) (v : Int32 × vS) (h : f_V_analyse N σ = some ((2, v.1), v.2)) (sz : Nat) : vq_T2 l y_V_analyse WS ({ frames := 6, cells := 1, slots := 6, locals := 136 }) (va_Pc [.ref (ad 0)] (vq_Pre (dC, dI) CL sz (Xw ad ca σ) (Xt ca))) "java/lang/IllegalStateException" (va_A (Xw ad ca σ) sz) (fun t => vq_Post (dC, dI) CL (va_A (Xw ad ca σ) sz) (Xw ad ca v.2) (Xt ca) t) 1 6 := by
  refine vq_ofT2 (cc := prog_1_method_5_code) (maxL := 1) (ret := (Option.some Jvm.ClassFile.FieldType.int)) pl_V (vq_his k_594) ?_
  intro p e s m args below meth c s₁ B hml hv
  obtain ⟨rfl, hst, hsz, hP, hK, hD0⟩ := hv
  have hx := B.exec
  have hb := B.bytes
  have hr := B.returns
  have hts := atoms_spec (ws := WS) B.pre
  have hown : s.vm.findClass R_V = some m.cls := findClass_of_methodNamed B.named
  have hlocks := B.notSynchronized
  have hno := vq_noH B (hts _ k_594)
  subst hsz
  have hN := vq_ns hP
  have hD := hD0.self (sz := s.heap.size)
  generalize hAe : va_A (Xw ad ca σ) s.heap.size = A at hD hN ⊢
  have hA : ∀ q : Nat, s.heap.size ≤ q → A q := fun q h => by rw [← hAe]; exact Or.inr h
  have hS : va_S A s.heap s.heap [] := va_S.rf
  have hl := lv_entry ([.ref (ad 0)]) (n := 1) (Nat.le_of_ble_eq_true rfl)
  rw [lg_entry_eq]
  generalize (lg_sl ([.ref (ad 0)]) ++ List.replicate (1 - (lg_sl ([.ref (ad 0)])).length) Slot.unset).toArray = ls at hl ⊢
  have hl : lv_has ls 1 [(0, .ref (ad 0))] := hl
  unfold f_V_analyse at h
  refine lv_aload_n hx hb d_V_analyse_0 rfl (lv_at hl 0 rfl) ?_
  refine g_V_walk dC dI ad ca σ hx hb hts hown hK hP k_533 d_V_analyse_1 ?_
  obtain ⟨q1, h2, h⟩ := vq_bi h
  have hFc := vq_freeAll hD hS hA
  refine va_callv (va_runV (As := []) (rest := []) ⟨hx, hb, hml, hown, hts⟩ (c_U_end l htr dC dI ad ca N σ q1 h2 s.heap.size) (vq_cV WSk hts 0 rfl rfl ⟨by decide, by decide⟩ k_262 k_279 k_534 k_535 k_536 (by decide +kernel)) ⟨vq_blind, va_recv hK hP (ci := 7) (q0 := 7) rfl rfl, vq_here hst hS hN hP hK hD⟩ rfl rfl hl.1 rfl (lv_room (Nat.le_of_ble_eq_true rfl)) d_V_analyse_4 ⟨by decide, by decide⟩) hS (fun q _ h => hFc q h) hFc (fun u t H1 locs ht hvm hw hB hz1 hk1 hS => ?_)
  obtain ⟨hP, -, hD1⟩ := hB
  rw [ht] at hP
  have hD := hD1.weaken (fun _ _ _ h => hFc _ h)
  generalize H1 = H at hP hS ⊢
  refine W.widen (k := 0) (n := 0) (by decide) (by decide) ?_
  refine lv_aload_n hx hb d_V_analyse_7 rfl (lv_at hl 0 rfl) ?_
  refine g_V_analysis dC dI ad ca q1.2 hx hb hts hown hK hP k_531 d_V_analyse_8 ?_
  obtain ⟨q3, h4, h⟩ := vq_bi h
  have hFc := vq_freeAll hD hS hA
  refine va_callv (va_runV (As := []) (rest := []) ⟨hx, hb, hml, hown, hts⟩ (c_A_make l htr dC dI ad ca N q1.2 q3 h4 H.size) (vq_cV WSk hts 0 rfl rfl ⟨by decide, by decide⟩ k_340 k_313 k_595 k_596 k_597 (by decide +kernel)) ⟨vq_blind, va_recv hK hP (ci := 2) (q0 := 2) rfl rfl, vq_here hst hS hN hP hK hD⟩ rfl rfl hl.1 rfl (lv_room (Nat.le_of_ble_eq_true rfl)) d_V_analyse_11 ⟨by decide, by decide⟩) hS (fun q _ h => hFc q h) hFc (fun u t H1 locs ht hvm hw hB hz1 hk1 hS => ?_)
  obtain ⟨hP, -, hD1⟩ := hB
  rw [ht] at hP
  have hD := hD1.weaken (fun _ _ _ h => hFc _ h)
  generalize H1 = H at hP hS ⊢
  refine W.widen (k := 0) (n := 0) (by decide) (by decide) ?_
  refine lv_aload_n hx hb d_V_analyse_14 rfl (lv_at hl 0 rfl) ?_
  refine g_V_analysis dC dI ad ca q3.2 hx hb hts hown hK hP k_531 d_V_analyse_15 ?_
  refine gN_A_faultKind dC dI ad ca q3.2 hx hb hts hown hK hP k_598 d_V_analyse_18 ?_
  refine lv_iconst (v := 2) hx hb d_V_analyse_21 (by decide) ?_
  have J36 : ∀ (τ : vS) (H : Heap) (locs : List Loc) (ls : Array Slot), f_V_analyse_36 N τ = some ((2, v.1), v.2) → lv_has ls 1 [] → va_P (dC, dI) CL (Xw ad ca τ) H → va_D A (Xw ad ca τ) → va_S A s.heap H locs → W p l e (headSpec WS ({ frames := 6, cells := 1, slots := 6, locals := 136 })).room s m ([.ref (ad 0)] : List Value).toArray below meth c H locs 0 0 (vq_MQ2 below "java/lang/IllegalStateException" A (fun t => vq_Post (dC, dI) CL A (Xw ad ca v.2) (Xt ca) t) s 1 6) (F0 m 36 ls []) := by
    intro τ H locs ls h hl hP hD hS
    unfold f_V_analyse_36 at h
    simp at h
  refine lv_icmp_eq (tgt := 36) hx hb d_V_analyse_22 (by decide) (fun hc5 => ?_) (fun hc5 => ?_)
  ·
    rw [if_pos hc5] at h
    exact J36 _ _ _ _ h (lv_sub hl [] rfl) hP hD hS
  ·
    rw [if_neg hc5] at h
    refine lv_aload_n hx hb d_V_analyse_25 rfl (lv_at hl 0 rfl) ?_
    refine g_V_analysis dC dI ad ca q3.2 hx hb hts hown hK hP k_531 d_V_analyse_26 ?_
    refine gN_A_faultKind dC dI ad ca q3.2 hx hb hts hown hK hP k_598 d_V_analyse_29 ?_
    refine lv_iconst (v := 3) hx hb d_V_analyse_32 (by decide) ?_
    refine lv_icmp_ne (tgt := 46) hx hb d_V_analyse_33 (by decide) (fun hc6 => ?_) (fun hc6 => ?_)
    ·
      rw [if_neg hc6] at h
      refine lv_aload_n hx hb d_V_analyse_46 rfl (lv_at hl 0 rfl) ?_
      refine g_V_analysis dC dI ad ca q3.2 hx hb hts hown hK hP k_531 d_V_analyse_47 ?_
      refine gN_A_present dC dI ad ca q3.2 hx hb hts hown hK hP k_532 d_V_analyse_50 ?_
      refine lv_if_ne (tgt := 66) hx hb d_V_analyse_53 (by decide) (fun hc7 => ?_) (fun hc7 => ?_)
      ·
        rw [if_neg hc7] at h
        refine lv_aload_n hx hb d_V_analyse_66 rfl (lv_at hl 0 rfl) ?_
        refine g_V_analysis dC dI ad ca q3.2 hx hb hts hown hK hP k_531 d_V_analyse_67 ?_
        refine gN_A_sequences dC dI ad ca q3.2 hx hb hts hown hK hP k_600 d_V_analyse_70 ?_
        obtain ⟨q8, h9, h⟩ := vq_bi h
        have hFc := vq_freeAll hD hS hA
        refine va_calli (va_runV (As := []) (rest := []) ⟨hx, hb, hml, hown, hts⟩ (c_Q_lengthOfAll l htr dC dI ad ca N q3.2 q8 h9 H.size) (vq_cV WSk hts 0 rfl rfl ⟨by decide, by decide⟩ k_152 k_169 k_601 k_602 k_603 (by decide +kernel)) ⟨vq_blind, va_recv hK hP (ci := 5) (q0 := 5) rfl rfl, vq_here hst hS hN hP hK hD⟩ rfl rfl hl.1 rfl (lv_room (Nat.le_of_ble_eq_true rfl)) d_V_analyse_73 ⟨by decide, by decide⟩) hS (fun q _ h => hFc q h) hFc (fun r u t H1 locs ht hvm hw hB hz1 hk1 hS => ?_)
        obtain ⟨hP, -, hD1⟩ := hB
        rw [ht] at hP
        have hD := hD1.weaken (fun _ _ _ h => hFc _ h)
        have hw : r = q8.1 := hw
        subst hw
        generalize H1 = H at hP hS ⊢
        refine W.widen (k := 0) (n := 0) (by decide) (by decide) ?_
        simp at h
      ·
        rw [if_pos hc7] at h
        have h9 : (0, q3.2) = v := by have h8 := Option.some.inj h; simp only [Prod.mk.injEq, true_and] at h8; exact Prod.ext h8.1 h8.2
        rw [← h9]
        have hws := vq_all WSk hts
        have hwu : ∀ u : State, u.vm = s.vm → s.WarmedH u.vm := fun u hu => by rw [hu]; exact State.WarmedH.refl s
        exact vq_throw2 (names := up_names) hx hb htr hown (by decide +kernel) (by decide +kernel) (fun u hu hsu => at_V_IllegalStateException (fun w hw => hws w hw _ u (hwu u hu)) hsu) hst (fun u hu => ⟨hws _ k_539 _ u (hwu u hu), hws _ k_540 _ u (hwu u hu), hws _ k_604 _ u (hwu u hu)⟩) hS hA hN hno hlocks (by decide) (hl.1.trans hml.symm) (fun t hz9 hk9 hW9 => ⟨hP.kept (fun k x hx9 => by have h7 := (hP k x hx9).lt; rw [Array.getElem?_eq_getElem h7]; exact hk9 _ _ (Array.getElem?_eq_getElem h7)), va_K.moved hW9.alike hK, hD⟩) d_V_analyse_56 d_V_analyse_59 d_V_analyse_60 d_V_analyse_62 d_V_analyse_65
    ·
      rw [if_pos hc6] at h
      exact J36 _ _ _ _ h (lv_sub hl [] rfl) hP hD hS

set_option maxHeartbeats 4000000 in
set_option maxRecDepth 100000 in
theorem t_V_analyse_4 (l : Launch) (htr : l.stackTraces = false) (dC : Nat → ClassId) (dI : Nat → Nat → Nat) (ad : Nat → Nat) (ca : Nat → ClassId) (N : Nat) (σ : vS) (v : Int32 × vS) (h : f_V_analyse N σ = some ((4, v.1), v.2)) (sz : Nat) : vq_T2 l y_V_analyse WS ({ frames := 6, cells := 1, slots := 6, locals := 136 }) (va_Pc [.ref (ad 0)] (vq_Pre (dC, dI) CL sz (Xw ad ca σ) (Xt ca))) "java/lang/UnsupportedOperationException" (va_A (Xw ad ca σ) sz) (fun t => vq_Post (dC, dI) CL (va_A (Xw ad ca σ) sz) (Xw ad ca v.2) (Xt ca) t) 1 6 := by
  refine vq_ofT2 (cc := prog_1_method_5_code) (maxL := 1) (ret := (Option.some Jvm.ClassFile.FieldType.int)) pl_V (vq_his k_594) ?_
  intro p e s m args below meth c s₁ B hml hv
  obtain ⟨rfl, hst, hsz, hP, hK, hD0⟩ := hv
  have hx := B.exec
  have hb := B.bytes
  have hr := B.returns
  have hts := atoms_spec (ws := WS) B.pre
  have hown : s.vm.findClass R_V = some m.cls := findClass_of_methodNamed B.named
  have hlocks := B.notSynchronized
  have hno := vq_noH B (hts _ k_594)
  subst hsz
  have hN := vq_ns hP
  have hD := hD0.self (sz := s.heap.size)
  generalize hAe : va_A (Xw ad ca σ) s.heap.size = A at hD hN ⊢
  have hA : ∀ q : Nat, s.heap.size ≤ q → A q := fun q h => by rw [← hAe]; exact Or.inr h
  have hS : va_S A s.heap s.heap [] := va_S.rf
  have hl := lv_entry ([.ref (ad 0)]) (n := 1) (Nat.le_of_ble_eq_true rfl)
  rw [lg_entry_eq]
  generalize (lg_sl ([.ref (ad 0)]) ++ List.replicate (1 - (lg_sl ([.ref (ad 0)])).length) Slot.unset).toArray = ls at hl ⊢
  have hl : lv_has ls 1 [(0, .ref (ad 0))] := hl
  unfold f_V_analyse at h
  refine lv_aload_n hx hb d_V_analyse_0 rfl (lv_at hl 0 rfl) ?_
  refine g_V_walk dC dI ad ca σ hx hb hts hown hK hP k_533 d_V_analyse_1 ?_
  obtain ⟨q1, h2, h⟩ := vq_bi h
  have hFc := vq_freeAll hD hS hA
  refine va_callv (va_runV (As := []) (rest := []) ⟨hx, hb, hml, hown, hts⟩ (c_U_end l htr dC dI ad ca N σ q1 h2 s.heap.size) (vq_cV WSk hts 0 rfl rfl ⟨by decide, by decide⟩ k_262 k_279 k_534 k_535 k_536 (by decide +kernel)) ⟨vq_blind, va_recv hK hP (ci := 7) (q0 := 7) rfl rfl, vq_here hst hS hN hP hK hD⟩ rfl rfl hl.1 rfl (lv_room (Nat.le_of_ble_eq_true rfl)) d_V_analyse_4 ⟨by decide, by decide⟩) hS (fun q _ h => hFc q h) hFc (fun u t H1 locs ht hvm hw hB hz1 hk1 hS => ?_)
  obtain ⟨hP, -, hD1⟩ := hB
  rw [ht] at hP
  have hD := hD1.weaken (fun _ _ _ h => hFc _ h)
  generalize H1 = H at hP hS ⊢
  refine W.widen (k := 0) (n := 0) (by decide) (by decide) ?_
  refine lv_aload_n hx hb d_V_analyse_7 rfl (lv_at hl 0 rfl) ?_
  refine g_V_analysis dC dI ad ca q1.2 hx hb hts hown hK hP k_531 d_V_analyse_8 ?_
  obtain ⟨q3, h4, h⟩ := vq_bi h
  have hFc := vq_freeAll hD hS hA
  refine va_callv (va_runV (As := []) (rest := []) ⟨hx, hb, hml, hown, hts⟩ (c_A_make l htr dC dI ad ca N q1.2 q3 h4 H.size) (vq_cV WSk hts 0 rfl rfl ⟨by decide, by decide⟩ k_340 k_313 k_595 k_596 k_597 (by decide +kernel)) ⟨vq_blind, va_recv hK hP (ci := 2) (q0 := 2) rfl rfl, vq_here hst hS hN hP hK hD⟩ rfl rfl hl.1 rfl (lv_room (Nat.le_of_ble_eq_true rfl)) d_V_analyse_11 ⟨by decide, by decide⟩) hS (fun q _ h => hFc q h) hFc (fun u t H1 locs ht hvm hw hB hz1 hk1 hS => ?_)
  obtain ⟨hP, -, hD1⟩ := hB
  rw [ht] at hP
  have hD := hD1.weaken (fun _ _ _ h => hFc _ h)
  generalize H1 = H at hP hS ⊢
  refine W.widen (k := 0) (n := 0) (by decide) (by decide) ?_
  refine lv_aload_n hx hb d_V_analyse_14 rfl (lv_at hl 0 rfl) ?_
  refine g_V_analysis dC dI ad ca q3.2 hx hb hts hown hK hP k_531 d_V_analyse_15 ?_
  refine gN_A_faultKind dC dI ad ca q3.2 hx hb hts hown hK hP k_598 d_V_analyse_18 ?_
  refine lv_iconst (v := 2) hx hb d_V_analyse_21 (by decide) ?_
  have J36 : ∀ (τ : vS) (H : Heap) (locs : List Loc) (ls : Array Slot), f_V_analyse_36 N τ = some ((4, v.1), v.2) → lv_has ls 1 [] → va_P (dC, dI) CL (Xw ad ca τ) H → va_D A (Xw ad ca τ) → va_S A s.heap H locs → W p l e (headSpec WS ({ frames := 6, cells := 1, slots := 6, locals := 136 })).room s m ([.ref (ad 0)] : List Value).toArray below meth c H locs 0 0 (vq_MQ2 below "java/lang/UnsupportedOperationException" A (fun t => vq_Post (dC, dI) CL A (Xw ad ca v.2) (Xt ca) t) s 1 6) (F0 m 36 ls []) := by
    intro τ H locs ls h hl hP hD hS
    unfold f_V_analyse_36 at h
    have h9 : (0, τ) = v := by have h8 := Option.some.inj h; simp only [Prod.mk.injEq, true_and] at h8; exact Prod.ext h8.1 h8.2
    rw [← h9]
    have hws := vq_all WSk hts
    have hwu : ∀ u : State, u.vm = s.vm → s.WarmedH u.vm := fun u hu => by rw [hu]; exact State.WarmedH.refl s
    exact vq_throw2 (names := up_names) hx hb htr hown (by decide +kernel) (by decide +kernel) (fun u hu hsu => at_V_UnsupportedOperationException (fun w hw => hws w hw _ u (hwu u hu)) hsu) hst (fun u hu => ⟨hws _ k_605 _ u (hwu u hu), hws _ k_606 _ u (hwu u hu), hws _ k_607 _ u (hwu u hu)⟩) hS hA hN hno hlocks (by decide) (hl.1.trans hml.symm) (fun t hz9 hk9 hW9 => ⟨hP.kept (fun k x hx9 => by have h7 := (hP k x hx9).lt; rw [Array.getElem?_eq_getElem h7]; exact hk9 _ _ (Array.getElem?_eq_getElem h7)), va_K.moved hW9.alike hK, hD⟩) d_V_analyse_36 d_V_analyse_39 d_V_analyse_40 d_V_analyse_42 d_V_analyse_45
  refine lv_icmp_eq (tgt := 36) hx hb d_V_analyse_22 (by decide) (fun hc5 => ?_) (fun hc5 => ?_)
  ·
    rw [if_pos hc5] at h
    exact J36 _ _ _ _ h (lv_sub hl [] rfl) hP hD hS
  ·
    rw [if_neg hc5] at h
    refine lv_aload_n hx hb d_V_analyse_25 rfl (lv_at hl 0 rfl) ?_
    refine g_V_analysis dC dI ad ca q3.2 hx hb hts hown hK hP k_531 d_V_analyse_26 ?_
    refine gN_A_faultKind dC dI ad ca q3.2 hx hb hts hown hK hP k_598 d_V_analyse_29 ?_
    refine lv_iconst (v := 3) hx hb d_V_analyse_32 (by decide) ?_
    refine lv_icmp_ne (tgt := 46) hx hb d_V_analyse_33 (by decide) (fun hc6 => ?_) (fun hc6 => ?_)
    ·
      rw [if_neg hc6] at h
      refine lv_aload_n hx hb d_V_analyse_46 rfl (lv_at hl 0 rfl) ?_
      refine g_V_analysis dC dI ad ca q3.2 hx hb hts hown hK hP k_531 d_V_analyse_47 ?_
      refine gN_A_present dC dI ad ca q3.2 hx hb hts hown hK hP k_532 d_V_analyse_50 ?_
      refine lv_if_ne (tgt := 66) hx hb d_V_analyse_53 (by decide) (fun hc7 => ?_) (fun hc7 => ?_)
      ·
        rw [if_neg hc7] at h
        refine lv_aload_n hx hb d_V_analyse_66 rfl (lv_at hl 0 rfl) ?_
        refine g_V_analysis dC dI ad ca q3.2 hx hb hts hown hK hP k_531 d_V_analyse_67 ?_
        refine gN_A_sequences dC dI ad ca q3.2 hx hb hts hown hK hP k_600 d_V_analyse_70 ?_
        obtain ⟨q8, h9, h⟩ := vq_bi h
        have hFc := vq_freeAll hD hS hA
        refine va_calli (va_runV (As := []) (rest := []) ⟨hx, hb, hml, hown, hts⟩ (c_Q_lengthOfAll l htr dC dI ad ca N q3.2 q8 h9 H.size) (vq_cV WSk hts 0 rfl rfl ⟨by decide, by decide⟩ k_152 k_169 k_601 k_602 k_603 (by decide +kernel)) ⟨vq_blind, va_recv hK hP (ci := 5) (q0 := 5) rfl rfl, vq_here hst hS hN hP hK hD⟩ rfl rfl hl.1 rfl (lv_room (Nat.le_of_ble_eq_true rfl)) d_V_analyse_73 ⟨by decide, by decide⟩) hS (fun q _ h => hFc q h) hFc (fun r u t H1 locs ht hvm hw hB hz1 hk1 hS => ?_)
        obtain ⟨hP, -, hD1⟩ := hB
        rw [ht] at hP
        have hD := hD1.weaken (fun _ _ _ h => hFc _ h)
        have hw : r = q8.1 := hw
        subst hw
        generalize H1 = H at hP hS ⊢
        refine W.widen (k := 0) (n := 0) (by decide) (by decide) ?_
        simp at h
      ·
        rw [if_pos hc7] at h
        simp at h
    ·
      rw [if_pos hc6] at h
      exact J36 _ _ _ _ h (lv_sub hl [] rfl) hP hD hS

set_option maxHeartbeats 4000000 in
set_option maxRecDepth 100000 in
theorem c_V_fault (l : Launch) (htr : l.stackTraces = false) (dC : Nat → ClassId) (dI : Nat → Nat → Nat) (ad : Nat → Nat) (ca : Nat → ClassId) (N : Nat) (σ : vS) (a0 : Int32) (v : Int32 × vS) (h : f_V_fault N σ a0 = some v) (sz : Nat) : Met l y_V_fault WS ({ frames := 0, cells := 0, slots := 0, locals := 0 }) (va_Pc [.ref (ad 0), .int a0] (vq_Pre (dC, dI) CL sz (Xw ad ca σ) (Xt ca))) (va_Qi (fun (r : Int32) (_ : Unit) => r = v.1) (fun _ t => vq_Post (dC, dI) CL (va_A (Xw ad ca σ) sz) (Xw ad ca v.2) (Xt ca) t) (va_A (Xw ad ca σ) sz)) 0 0 (va_A (Xw ad ca σ) sz) := by
  refine vq_ofW (cc := prog_1_method_6_code) (maxL := 2) (ret := (Option.some Jvm.ClassFile.FieldType.int)) pl_V (vq_his k_608) ?_
  intro p e s m args below meth c s₁ B hml hv
  obtain ⟨rfl, hst, hsz, hP, hK, hD0⟩ := hv
  have hx := B.exec
  have hb := B.bytes
  have hr := B.returns
  have hts := atoms_spec (ws := WS) B.pre
  have hown : s.vm.findClass R_V = some m.cls := findClass_of_methodNamed B.named
  have hlocks := B.notSynchronized
  have hno := vq_noH B (hts _ k_608)
  subst hsz
  have hN := vq_ns hP
  have hD := hD0.self (sz := s.heap.size)
  generalize hAe : va_A (Xw ad ca σ) s.heap.size = A at hD hN ⊢
  have hA : ∀ q : Nat, s.heap.size ≤ q → A q := fun q h => by rw [← hAe]; exact Or.inr h
  have hS : va_S A s.heap s.heap [] := va_S.rf
  have hl := lv_entry ([.ref (ad 0), .int a0]) (n := 2) (Nat.le_of_ble_eq_true rfl)
  rw [lg_entry_eq]
  generalize (lg_sl ([.ref (ad 0), .int a0]) ++ List.replicate (2 - (lg_sl ([.ref (ad 0), .int a0])).length) Slot.unset).toArray = ls at hl ⊢
  have hl : lv_has ls 2 [(0, .ref (ad 0)), (1, .int a0)] := hl
  unfold f_V_fault at h
  refine lv_iload_n hx hb d_V_fault_0 rfl (lv_at hl 1 rfl) ?_
  by_cases hc1 : a0 = 0
  ·
    rw [if_pos hc1] at h
    refine vq_top (y := 0) hc1 ?_
    refine lv_tableIn (x := 0) (off := 27) (tgt := 28) hx hb d_V_fault_1 (by decide) (by decide) (by decide) (by decide) ?_
    refine lv_aload_n hx hb d_V_fault_28 rfl (lv_at hl 0 rfl) ?_
    refine g_V_analysis dC dI ad ca σ hx hb hts hown hK hP k_531 d_V_fault_29 ?_
    refine gN_A_faultKind dC dI ad ca σ hx hb hts hown hK hP k_598 d_V_fault_32 ?_
    have h9 := Option.some.inj h
    rw [← h9]
    exact W.iret (v := (σ.1 3)) hx hb hr (fun t ht hW => ⟨⟨(σ.1 3), (), rfl, rfl, by rw [ht]; exact hP, va_K.moved hW.alike hK, hD⟩, hS.F ht⟩) hS.2.2 d_V_fault_35
  rw [if_neg hc1] at h
  by_cases hc2 : a0 = 1
  ·
    rw [if_pos hc2] at h
    refine vq_top (y := 1) hc2 ?_
    refine lv_tableIn (x := 1) (off := 35) (tgt := 36) hx hb d_V_fault_1 (by decide) (by decide) (by decide) (by decide) ?_
    refine lv_aload_n hx hb d_V_fault_36 rfl (lv_at hl 0 rfl) ?_
    refine g_V_analysis dC dI ad ca σ hx hb hts hown hK hP k_531 d_V_fault_37 ?_
    refine gN_A_faultProduction dC dI ad ca σ hx hb hts hown hK hP k_609 d_V_fault_40 ?_
    have h9 := Option.some.inj h
    rw [← h9]
    exact W.iret (v := (σ.1 4)) hx hb hr (fun t ht hW => ⟨⟨(σ.1 4), (), rfl, rfl, by rw [ht]; exact hP, va_K.moved hW.alike hK, hD⟩, hS.F ht⟩) hS.2.2 d_V_fault_43
  rw [if_neg hc2] at h
  by_cases hc3 : a0 = 2
  ·
    rw [if_pos hc3] at h
    refine vq_top (y := 2) hc3 ?_
    refine lv_tableIn (x := 2) (off := 43) (tgt := 44) hx hb d_V_fault_1 (by decide) (by decide) (by decide) (by decide) ?_
    refine lv_aload_n hx hb d_V_fault_44 rfl (lv_at hl 0 rfl) ?_
    refine g_V_analysis dC dI ad ca σ hx hb hts hown hK hP k_531 d_V_fault_45 ?_
    refine gN_A_faultOccurrence dC dI ad ca σ hx hb hts hown hK hP k_610 d_V_fault_48 ?_
    have h9 := Option.some.inj h
    rw [← h9]
    exact W.iret (v := (σ.1 5)) hx hb hr (fun t ht hW => ⟨⟨(σ.1 5), (), rfl, rfl, by rw [ht]; exact hP, va_K.moved hW.alike hK, hD⟩, hS.F ht⟩) hS.2.2 d_V_fault_51
  rw [if_neg hc3] at h
  refine lv_tableOut (tgt := 52) hx hb d_V_fault_1 (vq_out3 hc1 hc2 hc3) (by decide) ?_
  refine lv_iconst (v := (-1)) hx hb d_V_fault_52 (by decide) ?_
  have h9 := Option.some.inj h
  rw [← h9]
  exact W.iret (v := ((-1) : Int32)) hx hb hr (fun t ht hW => ⟨⟨((-1) : Int32), (), rfl, rfl, by rw [ht]; exact hP, va_K.moved hW.alike hK, hD⟩, hS.F ht⟩) hS.2.2 d_V_fault_53

set_option maxHeartbeats 4000000 in
set_option maxRecDepth 100000 in
theorem c_V_visits (l : Launch) (htr : l.stackTraces = false) (dC : Nat → ClassId) (dI : Nat → Nat → Nat) (ad : Nat → Nat) (ca : Nat → ClassId) (N : Nat) (σ : vS) (a0 : Int32) (v : Int32 × vS) (h : f_V_visits N σ a0 = some ((0, v.1), v.2)) (sz : Nat) : Met l y_V_visits WS ({ frames := 7, cells := 0, slots := 0, locals := 102 }) (va_Pc [.ref (ad 0), .int a0] (vq_Pre (dC, dI) CL sz (Xw ad ca σ) (Xt ca))) (va_Qi (fun (r : Int32) (_ : Unit) => r = v.1) (fun _ t => vq_Post (dC, dI) CL (va_A (Xw ad ca σ) sz) (Xw ad ca v.2) (Xt ca) t) (va_A (Xw ad ca σ) sz)) 0 0 (va_A (Xw ad ca σ) sz) := by
  refine vq_ofW (cc := prog_1_method_7_code) (maxL := 2) (ret := (Option.some Jvm.ClassFile.FieldType.int)) pl_V (vq_his k_611) ?_
  intro p e s m args below meth c s₁ B hml hv
  obtain ⟨rfl, hst, hsz, hP, hK, hD0⟩ := hv
  have hx := B.exec
  have hb := B.bytes
  have hr := B.returns
  have hts := atoms_spec (ws := WS) B.pre
  have hown : s.vm.findClass R_V = some m.cls := findClass_of_methodNamed B.named
  have hlocks := B.notSynchronized
  have hno := vq_noH B (hts _ k_611)
  subst hsz
  have hN := vq_ns hP
  have hD := hD0.self (sz := s.heap.size)
  generalize hAe : va_A (Xw ad ca σ) s.heap.size = A at hD hN ⊢
  have hA : ∀ q : Nat, s.heap.size ≤ q → A q := fun q h => by rw [← hAe]; exact Or.inr h
  have hS : va_S A s.heap s.heap [] := va_S.rf
  have hl := lv_entry ([.ref (ad 0), .int a0]) (n := 2) (Nat.le_of_ble_eq_true rfl)
  rw [lg_entry_eq]
  generalize (lg_sl ([.ref (ad 0), .int a0]) ++ List.replicate (2 - (lg_sl ([.ref (ad 0), .int a0])).length) Slot.unset).toArray = ls at hl ⊢
  have hl : lv_has ls 2 [(0, .ref (ad 0)), (1, .int a0)] := hl
  unfold f_V_visits at h
  refine lv_aload_n hx hb d_V_visits_0 rfl (lv_at hl 0 rfl) ?_
  obtain ⟨q1, h2, h⟩ := vq_bi h
  have hFc := vq_freeAll hD hS hA
  have hkd := kd_V_requireAnalysis h2
  by_cases hz3 : q1.1.1 = 0
  ·
    rw [if_pos hz3] at h
    have h2 : f_V_requireAnalysis N σ = some ((0, q1.1.2), q1.2) := by rw [h2, ← hz3]
    refine va_callv (va_runV (As := []) (rest := []) ⟨hx, hb, hml, hown, hts⟩ (c_V_requireAnalysis l htr dC dI ad ca N σ (q1.1.2, q1.2) h2 s.heap.size) (vq_cV WSk hts 0 rfl rfl ⟨by decide, by decide⟩ k_537 k_22 k_612 k_613 k_614 (by decide +kernel)) ⟨vq_blind, va_recv hK hP (ci := 0) (q0 := 0) rfl rfl, vq_here hst hS hN hP hK hD⟩ rfl rfl hl.1 rfl (lv_room (Nat.le_of_ble_eq_true rfl)) d_V_visits_1 ⟨by decide, by decide⟩) hS (fun q _ h => hFc q h) hFc (fun u t H1 locs ht hvm hw hB hz1 hk1 hS => ?_)
    obtain ⟨hP, -, hD1⟩ := hB
    rw [ht] at hP
    have hD := hD1.weaken (fun _ _ _ h => hFc _ h)
    generalize H1 = H at hP hS ⊢
    refine W.widen (k := 0) (n := 0) (by decide) (by decide) ?_
    refine lv_aload_n hx hb d_V_visits_4 rfl (lv_at hl 0 rfl) ?_
    refine g_V_grammar dC dI ad ca q1.2 hx hb hts hown hK hP k_546 d_V_visits_5 ?_
    refine lv_iload_n hx hb d_V_visits_8 rfl (lv_at hl 1 rfl) ?_
    obtain ⟨q4, h5, h⟩ := vq_bi h
    have hFc := vq_freeAll hD hS hA
    refine va_calli (va_runV (As := [.int a0]) (rest := []) ⟨hx, hb, hml, hown, hts⟩ (c_G_hasSymbol l htr dC dI ad ca N q1.2 a0 q4 h5 H.size) (vq_cV WSk hts 1 rfl rfl ⟨by decide, by decide⟩ k_14 k_26 k_568 k_33 k_34 (by decide +kernel)) ⟨vq_blind, va_recv hK hP (ci := 1) (q0 := 1) rfl rfl, vq_here hst hS hN hP hK hD⟩ rfl rfl hl.1 rfl (lv_room (Nat.le_of_ble_eq_true rfl)) d_V_visits_9 ⟨by decide, by decide⟩) hS (fun q _ h => hFc q h) hFc (fun r u t H1 locs ht hvm hw hB hz1 hk1 hS => ?_)
    obtain ⟨hP, -, hD1⟩ := hB
    rw [ht] at hP
    have hD := hD1.weaken (fun _ _ _ h => hFc _ h)
    have hw : r = q4.1 := hw
    subst hw
    generalize H1 = H at hP hS ⊢
    refine W.widen (k := 0) (n := 0) (by decide) (by decide) ?_
    refine lv_if_ne (tgt := 25) hx hb d_V_visits_12 (by decide) (fun hc6 => ?_) (fun hc6 => ?_)
    ·
      rw [if_neg hc6] at h
      refine lv_aload_n hx hb d_V_visits_25 rfl (lv_at hl 0 rfl) ?_
      refine g_V_analysis dC dI ad ca q4.2 hx hb hts hown hK hP k_531 d_V_visits_26 ?_
      refine gN_A_ranking dC dI ad ca q4.2 hx hb hts hown hK hP k_615 d_V_visits_29 ?_
      refine gN_K_visitCounts dC dI ad ca q4.2 hx hb hts hown hK hP k_616 d_V_visits_32 ?_
      refine lv_iload_n hx hb d_V_visits_35 rfl (lv_at hl 1 rfl) ?_
      obtain ⟨hi7, h⟩ := vq_bd h
      refine al_X14 dC dI ad ca q4.2 hx hb hts hown hK hP hi7 d_V_visits_36 ?_
      obtain ⟨i8, ei8, h⟩ := vq_let h
      refine vq_top ei8.symm ?_
      have h9 : (i8, q4.2) = v := by have h8 := Option.some.inj h; simp only [Prod.mk.injEq, true_and] at h8; exact Prod.ext h8.1 h8.2
      rw [← h9]
      exact W.iret (v := i8) hx hb hr (fun t ht hW => ⟨⟨i8, (), rfl, rfl, by rw [ht]; exact hP, va_K.moved hW.alike hK, hD⟩, hS.F ht⟩) hS.2.2 d_V_visits_37
    ·
      rw [if_pos hc6] at h
      simp at h
  ·
    rw [if_neg hz3] at h
    have h2 : f_V_requireAnalysis N σ = some ((2, q1.1.2), q1.2) := by rw [h2, ← hkd.resolve_left hz3]
    simp at h

set_option maxHeartbeats 4000000 in
set_option maxRecDepth 100000 in
theorem t_V_visits_2 (l : Launch) (htr : l.stackTraces = false) (dC : Nat → ClassId) (dI : Nat → Nat → Nat) (ad : Nat → Nat) (ca : Nat → ClassId) (N : Nat) (σ : vS) (a0 : Int32) (v : Int32 × vS) (h : f_V_visits N σ a0 = some ((2, v.1), v.2)) (sz : Nat) : vq_T2 l y_V_visits WS ({ frames := 7, cells := 1, slots := 6, locals := 102 }) (va_Pc [.ref (ad 0), .int a0] (vq_Pre (dC, dI) CL sz (Xw ad ca σ) (Xt ca))) "java/lang/IllegalStateException" (va_A (Xw ad ca σ) sz) (fun t => vq_Post (dC, dI) CL (va_A (Xw ad ca σ) sz) (Xw ad ca v.2) (Xt ca) t) 1 6 := by
  refine vq_ofT2 (cc := prog_1_method_7_code) (maxL := 2) (ret := (Option.some Jvm.ClassFile.FieldType.int)) pl_V (vq_his k_611) ?_
  intro p e s m args below meth c s₁ B hml hv
  obtain ⟨rfl, hst, hsz, hP, hK, hD0⟩ := hv
  have hx := B.exec
  have hb := B.bytes
  have hr := B.returns
  have hts := atoms_spec (ws := WS) B.pre
  have hown : s.vm.findClass R_V = some m.cls := findClass_of_methodNamed B.named
  have hlocks := B.notSynchronized
  have hno := vq_noH B (hts _ k_611)
  subst hsz
  have hN := vq_ns hP
  have hD := hD0.self (sz := s.heap.size)
  generalize hAe : va_A (Xw ad ca σ) s.heap.size = A at hD hN ⊢
  have hA : ∀ q : Nat, s.heap.size ≤ q → A q := fun q h => by rw [← hAe]; exact Or.inr h
  have hS : va_S A s.heap s.heap [] := va_S.rf
  have hl := lv_entry ([.ref (ad 0), .int a0]) (n := 2) (Nat.le_of_ble_eq_true rfl)
  rw [lg_entry_eq]
  generalize (lg_sl ([.ref (ad 0), .int a0]) ++ List.replicate (2 - (lg_sl ([.ref (ad 0), .int a0])).length) Slot.unset).toArray = ls at hl ⊢
  have hl : lv_has ls 2 [(0, .ref (ad 0)), (1, .int a0)] := hl
  unfold f_V_visits at h
  refine lv_aload_n hx hb d_V_visits_0 rfl (lv_at hl 0 rfl) ?_
  obtain ⟨q1, h2, h⟩ := vq_bi h
  have hFc := vq_freeAll hD hS hA
  have hkd := kd_V_requireAnalysis h2
  by_cases hz3 : q1.1.1 = 0
  ·
    rw [if_pos hz3] at h
    have h2 : f_V_requireAnalysis N σ = some ((0, q1.1.2), q1.2) := by rw [h2, ← hz3]
    refine va_callv (va_runV (As := []) (rest := []) ⟨hx, hb, hml, hown, hts⟩ (c_V_requireAnalysis l htr dC dI ad ca N σ (q1.1.2, q1.2) h2 s.heap.size) (vq_cV WSk hts 0 rfl rfl ⟨by decide, by decide⟩ k_537 k_22 k_612 k_613 k_614 (by decide +kernel)) ⟨vq_blind, va_recv hK hP (ci := 0) (q0 := 0) rfl rfl, vq_here hst hS hN hP hK hD⟩ rfl rfl hl.1 rfl (lv_room (Nat.le_of_ble_eq_true rfl)) d_V_visits_1 ⟨by decide, by decide⟩) hS (fun q _ h => hFc q h) hFc (fun u t H1 locs ht hvm hw hB hz1 hk1 hS => ?_)
    obtain ⟨hP, -, hD1⟩ := hB
    rw [ht] at hP
    have hD := hD1.weaken (fun _ _ _ h => hFc _ h)
    generalize H1 = H at hP hS ⊢
    refine W.widen (k := 0) (n := 0) (by decide) (by decide) ?_
    refine lv_aload_n hx hb d_V_visits_4 rfl (lv_at hl 0 rfl) ?_
    refine g_V_grammar dC dI ad ca q1.2 hx hb hts hown hK hP k_546 d_V_visits_5 ?_
    refine lv_iload_n hx hb d_V_visits_8 rfl (lv_at hl 1 rfl) ?_
    obtain ⟨q4, h5, h⟩ := vq_bi h
    have hFc := vq_freeAll hD hS hA
    refine va_calli (va_runV (As := [.int a0]) (rest := []) ⟨hx, hb, hml, hown, hts⟩ (c_G_hasSymbol l htr dC dI ad ca N q1.2 a0 q4 h5 H.size) (vq_cV WSk hts 1 rfl rfl ⟨by decide, by decide⟩ k_14 k_26 k_568 k_33 k_34 (by decide +kernel)) ⟨vq_blind, va_recv hK hP (ci := 1) (q0 := 1) rfl rfl, vq_here hst hS hN hP hK hD⟩ rfl rfl hl.1 rfl (lv_room (Nat.le_of_ble_eq_true rfl)) d_V_visits_9 ⟨by decide, by decide⟩) hS (fun q _ h => hFc q h) hFc (fun r u t H1 locs ht hvm hw hB hz1 hk1 hS => ?_)
    obtain ⟨hP, -, hD1⟩ := hB
    rw [ht] at hP
    have hD := hD1.weaken (fun _ _ _ h => hFc _ h)
    have hw : r = q4.1 := hw
    subst hw
    generalize H1 = H at hP hS ⊢
    refine W.widen (k := 0) (n := 0) (by decide) (by decide) ?_
    refine lv_if_ne (tgt := 25) hx hb d_V_visits_12 (by decide) (fun hc6 => ?_) (fun hc6 => ?_)
    ·
      rw [if_neg hc6] at h
      refine lv_aload_n hx hb d_V_visits_25 rfl (lv_at hl 0 rfl) ?_
      refine g_V_analysis dC dI ad ca q4.2 hx hb hts hown hK hP k_531 d_V_visits_26 ?_
      refine gN_A_ranking dC dI ad ca q4.2 hx hb hts hown hK hP k_615 d_V_visits_29 ?_
      refine gN_K_visitCounts dC dI ad ca q4.2 hx hb hts hown hK hP k_616 d_V_visits_32 ?_
      refine lv_iload_n hx hb d_V_visits_35 rfl (lv_at hl 1 rfl) ?_
      obtain ⟨hi7, h⟩ := vq_bd h
      refine al_X14 dC dI ad ca q4.2 hx hb hts hown hK hP hi7 d_V_visits_36 ?_
      obtain ⟨i8, ei8, h⟩ := vq_let h
      refine vq_top ei8.symm ?_
      simp at h
    ·
      rw [if_pos hc6] at h
      simp at h
  ·
    rw [if_neg hz3] at h
    have h2 : f_V_requireAnalysis N σ = some ((2, q1.1.2), q1.2) := by rw [h2, ← hkd.resolve_left hz3]
    have h9 : (q1.1.2, q1.2) = v := by have h8 := Option.some.inj h; simp only [Prod.mk.injEq, true_and] at h8; exact Prod.ext h8.1 h8.2
    rw [← h9]
    exact vq_pass2 (vq_runT2 (As := []) (rest := []) ⟨hx, hb, hml, hown, hts⟩ (t_V_requireAnalysis_2 l htr dC dI ad ca N σ (q1.1.2, q1.2) h2 s.heap.size) (vq_cV WSk hts 0 rfl rfl ⟨by decide, by decide⟩ k_537 k_22 k_612 k_613 k_614 (by decide +kernel)) ⟨vq_blind, va_recv hK hP (ci := 0) (q0 := 0) rfl rfl, vq_here hst hS hN hP hK hD⟩ rfl rfl hl.1 rfl (lv_room (Nat.le_of_ble_eq_true rfl)) d_V_visits_1 ⟨by decide, by decide⟩) hS hFc hno hlocks (by decide) (by decide) (fun t t2 hh ha hb9 hB9 => ⟨by rw [← hh]; exact hB9.1, va_K.moved hb9 hK, hB9.2.2.weaken (fun _ _ _ h => hFc _ h)⟩)

set_option maxHeartbeats 4000000 in
set_option maxRecDepth 100000 in
theorem t_V_visits_3 (l : Launch) (htr : l.stackTraces = false) (dC : Nat → ClassId) (dI : Nat → Nat → Nat) (ad : Nat → Nat) (ca : Nat → ClassId) (N : Nat) (σ : vS) (a0 : Int32) (v : Int32 × vS) (h : f_V_visits N σ a0 = some ((3, v.1), v.2)) (sz : Nat) : vq_T2 l y_V_visits WS ({ frames := 7, cells := 1, slots := 6, locals := 102 }) (va_Pc [.ref (ad 0), .int a0] (vq_Pre (dC, dI) CL sz (Xw ad ca σ) (Xt ca))) "java/lang/IndexOutOfBoundsException" (va_A (Xw ad ca σ) sz) (fun t => vq_Post (dC, dI) CL (va_A (Xw ad ca σ) sz) (Xw ad ca v.2) (Xt ca) t) 1 6 := by
  refine vq_ofT2 (cc := prog_1_method_7_code) (maxL := 2) (ret := (Option.some Jvm.ClassFile.FieldType.int)) pl_V (vq_his k_611) ?_
  intro p e s m args below meth c s₁ B hml hv
  obtain ⟨rfl, hst, hsz, hP, hK, hD0⟩ := hv
  have hx := B.exec
  have hb := B.bytes
  have hr := B.returns
  have hts := atoms_spec (ws := WS) B.pre
  have hown : s.vm.findClass R_V = some m.cls := findClass_of_methodNamed B.named
  have hlocks := B.notSynchronized
  have hno := vq_noH B (hts _ k_611)
  subst hsz
  have hN := vq_ns hP
  have hD := hD0.self (sz := s.heap.size)
  generalize hAe : va_A (Xw ad ca σ) s.heap.size = A at hD hN ⊢
  have hA : ∀ q : Nat, s.heap.size ≤ q → A q := fun q h => by rw [← hAe]; exact Or.inr h
  have hS : va_S A s.heap s.heap [] := va_S.rf
  have hl := lv_entry ([.ref (ad 0), .int a0]) (n := 2) (Nat.le_of_ble_eq_true rfl)
  rw [lg_entry_eq]
  generalize (lg_sl ([.ref (ad 0), .int a0]) ++ List.replicate (2 - (lg_sl ([.ref (ad 0), .int a0])).length) Slot.unset).toArray = ls at hl ⊢
  have hl : lv_has ls 2 [(0, .ref (ad 0)), (1, .int a0)] := hl
  unfold f_V_visits at h
  refine lv_aload_n hx hb d_V_visits_0 rfl (lv_at hl 0 rfl) ?_
  obtain ⟨q1, h2, h⟩ := vq_bi h
  have hFc := vq_freeAll hD hS hA
  have hkd := kd_V_requireAnalysis h2
  by_cases hz3 : q1.1.1 = 0
  ·
    rw [if_pos hz3] at h
    have h2 : f_V_requireAnalysis N σ = some ((0, q1.1.2), q1.2) := by rw [h2, ← hz3]
    refine va_callv (va_runV (As := []) (rest := []) ⟨hx, hb, hml, hown, hts⟩ (c_V_requireAnalysis l htr dC dI ad ca N σ (q1.1.2, q1.2) h2 s.heap.size) (vq_cV WSk hts 0 rfl rfl ⟨by decide, by decide⟩ k_537 k_22 k_612 k_613 k_614 (by decide +kernel)) ⟨vq_blind, va_recv hK hP (ci := 0) (q0 := 0) rfl rfl, vq_here hst hS hN hP hK hD⟩ rfl rfl hl.1 rfl (lv_room (Nat.le_of_ble_eq_true rfl)) d_V_visits_1 ⟨by decide, by decide⟩) hS (fun q _ h => hFc q h) hFc (fun u t H1 locs ht hvm hw hB hz1 hk1 hS => ?_)
    obtain ⟨hP, -, hD1⟩ := hB
    rw [ht] at hP
    have hD := hD1.weaken (fun _ _ _ h => hFc _ h)
    generalize H1 = H at hP hS ⊢
    refine W.widen (k := 0) (n := 0) (by decide) (by decide) ?_
    refine lv_aload_n hx hb d_V_visits_4 rfl (lv_at hl 0 rfl) ?_
    refine g_V_grammar dC dI ad ca q1.2 hx hb hts hown hK hP k_546 d_V_visits_5 ?_
    refine lv_iload_n hx hb d_V_visits_8 rfl (lv_at hl 1 rfl) ?_
    obtain ⟨q4, h5, h⟩ := vq_bi h
    have hFc := vq_freeAll hD hS hA
    refine va_calli (va_runV (As := [.int a0]) (rest := []) ⟨hx, hb, hml, hown, hts⟩ (c_G_hasSymbol l htr dC dI ad ca N q1.2 a0 q4 h5 H.size) (vq_cV WSk hts 1 rfl rfl ⟨by decide, by decide⟩ k_14 k_26 k_568 k_33 k_34 (by decide +kernel)) ⟨vq_blind, va_recv hK hP (ci := 1) (q0 := 1) rfl rfl, vq_here hst hS hN hP hK hD⟩ rfl rfl hl.1 rfl (lv_room (Nat.le_of_ble_eq_true rfl)) d_V_visits_9 ⟨by decide, by decide⟩) hS (fun q _ h => hFc q h) hFc (fun r u t H1 locs ht hvm hw hB hz1 hk1 hS => ?_)
    obtain ⟨hP, -, hD1⟩ := hB
    rw [ht] at hP
    have hD := hD1.weaken (fun _ _ _ h => hFc _ h)
    have hw : r = q4.1 := hw
    subst hw
    generalize H1 = H at hP hS ⊢
    refine W.widen (k := 0) (n := 0) (by decide) (by decide) ?_
    refine lv_if_ne (tgt := 25) hx hb d_V_visits_12 (by decide) (fun hc6 => ?_) (fun hc6 => ?_)
    ·
      rw [if_neg hc6] at h
      refine lv_aload_n hx hb d_V_visits_25 rfl (lv_at hl 0 rfl) ?_
      refine g_V_analysis dC dI ad ca q4.2 hx hb hts hown hK hP k_531 d_V_visits_26 ?_
      refine gN_A_ranking dC dI ad ca q4.2 hx hb hts hown hK hP k_615 d_V_visits_29 ?_
      refine gN_K_visitCounts dC dI ad ca q4.2 hx hb hts hown hK hP k_616 d_V_visits_32 ?_
      refine lv_iload_n hx hb d_V_visits_35 rfl (lv_at hl 1 rfl) ?_
      obtain ⟨hi7, h⟩ := vq_bd h
      refine al_X14 dC dI ad ca q4.2 hx hb hts hown hK hP hi7 d_V_visits_36 ?_
      obtain ⟨i8, ei8, h⟩ := vq_let h
      refine vq_top ei8.symm ?_
      simp at h
    ·
      rw [if_pos hc6] at h
      have h9 : (0, q4.2) = v := by have h8 := Option.some.inj h; simp only [Prod.mk.injEq, true_and] at h8; exact Prod.ext h8.1 h8.2
      rw [← h9]
      have hws := vq_all WSk hts
      have hwu : ∀ u : State, u.vm = s.vm → s.WarmedH u.vm := fun u hu => by rw [hu]; exact State.WarmedH.refl s
      exact vq_throw2 (names := up_names) hx hb htr hown (by decide +kernel) (by decide +kernel) (fun u hu hsu => at_V_IndexOutOfBoundsException (fun w hw => hws w hw _ u (hwu u hu)) hsu) hst (fun u hu => ⟨hws _ k_551 _ u (hwu u hu), hws _ k_552 _ u (hwu u hu), hws _ k_617 _ u (hwu u hu)⟩) hS hA hN hno hlocks (by decide) (hl.1.trans hml.symm) (fun t hz9 hk9 hW9 => ⟨hP.kept (fun k x hx9 => by have h7 := (hP k x hx9).lt; rw [Array.getElem?_eq_getElem h7]; exact hk9 _ _ (Array.getElem?_eq_getElem h7)), va_K.moved hW9.alike hK, hD⟩) d_V_visits_15 d_V_visits_18 d_V_visits_19 d_V_visits_21 d_V_visits_24
  ·
    rw [if_neg hz3] at h
    have h2 : f_V_requireAnalysis N σ = some ((2, q1.1.2), q1.2) := by rw [h2, ← hkd.resolve_left hz3]
    simp at h

set_option maxHeartbeats 4000000 in
set_option maxRecDepth 100000 in
theorem c_V_rank (l : Launch) (htr : l.stackTraces = false) (dC : Nat → ClassId) (dI : Nat → Nat → Nat) (ad : Nat → Nat) (ca : Nat → ClassId) (N : Nat) (σ : vS) (a0 : Int32) (a1 : Int32) (v : Int32 × vS) (h : f_V_rank N σ a0 a1 = some ((0, v.1), v.2)) (sz : Nat) : Met l y_V_rank WS ({ frames := 7, cells := 0, slots := 0, locals := 102 }) (va_Pc [.ref (ad 0), .int a0, .int a1] (vq_Pre (dC, dI) CL sz (Xw ad ca σ) (Xt ca))) (va_Qi (fun (r : Int32) (_ : Unit) => r = v.1) (fun _ t => vq_Post (dC, dI) CL (va_A (Xw ad ca σ) sz) (Xw ad ca v.2) (Xt ca) t) (va_A (Xw ad ca σ) sz)) 0 0 (va_A (Xw ad ca σ) sz) := by
  refine vq_ofW (cc := prog_1_method_8_code) (maxL := 3) (ret := (Option.some Jvm.ClassFile.FieldType.int)) pl_V (vq_his k_618) ?_
  intro p e s m args below meth c s₁ B hml hv
  obtain ⟨rfl, hst, hsz, hP, hK, hD0⟩ := hv
  have hx := B.exec
  have hb := B.bytes
  have hr := B.returns
  have hts := atoms_spec (ws := WS) B.pre
  have hown : s.vm.findClass R_V = some m.cls := findClass_of_methodNamed B.named
  have hlocks := B.notSynchronized
  have hno := vq_noH B (hts _ k_618)
  subst hsz
  have hN := vq_ns hP
  have hD := hD0.self (sz := s.heap.size)
  generalize hAe : va_A (Xw ad ca σ) s.heap.size = A at hD hN ⊢
  have hA : ∀ q : Nat, s.heap.size ≤ q → A q := fun q h => by rw [← hAe]; exact Or.inr h
  have hS : va_S A s.heap s.heap [] := va_S.rf
  have hl := lv_entry ([.ref (ad 0), .int a0, .int a1]) (n := 3) (Nat.le_of_ble_eq_true rfl)
  rw [lg_entry_eq]
  generalize (lg_sl ([.ref (ad 0), .int a0, .int a1]) ++ List.replicate (3 - (lg_sl ([.ref (ad 0), .int a0, .int a1])).length) Slot.unset).toArray = ls at hl ⊢
  have hl : lv_has ls 3 [(0, .ref (ad 0)), (1, .int a0), (2, .int a1)] := hl
  unfold f_V_rank at h
  refine lv_aload_n hx hb d_V_rank_0 rfl (lv_at hl 0 rfl) ?_
  obtain ⟨q1, h2, h⟩ := vq_bi h
  have hFc := vq_freeAll hD hS hA
  have hkd := kd_V_requireAnalysis h2
  by_cases hz3 : q1.1.1 = 0
  ·
    rw [if_pos hz3] at h
    have h2 : f_V_requireAnalysis N σ = some ((0, q1.1.2), q1.2) := by rw [h2, ← hz3]
    refine va_callv (va_runV (As := []) (rest := []) ⟨hx, hb, hml, hown, hts⟩ (c_V_requireAnalysis l htr dC dI ad ca N σ (q1.1.2, q1.2) h2 s.heap.size) (vq_cV WSk hts 0 rfl rfl ⟨by decide, by decide⟩ k_537 k_22 k_612 k_613 k_614 (by decide +kernel)) ⟨vq_blind, va_recv hK hP (ci := 0) (q0 := 0) rfl rfl, vq_here hst hS hN hP hK hD⟩ rfl rfl hl.1 rfl (lv_room (Nat.le_of_ble_eq_true rfl)) d_V_rank_1 ⟨by decide, by decide⟩) hS (fun q _ h => hFc q h) hFc (fun u t H1 locs ht hvm hw hB hz1 hk1 hS => ?_)
    obtain ⟨hP, -, hD1⟩ := hB
    rw [ht] at hP
    have hD := hD1.weaken (fun _ _ _ h => hFc _ h)
    generalize H1 = H at hP hS ⊢
    refine W.widen (k := 0) (n := 0) (by decide) (by decide) ?_
    refine lv_aload_n hx hb d_V_rank_4 rfl (lv_at hl 0 rfl) ?_
    refine g_V_grammar dC dI ad ca q1.2 hx hb hts hown hK hP k_546 d_V_rank_5 ?_
    refine lv_iload_n hx hb d_V_rank_8 rfl (lv_at hl 1 rfl) ?_
    obtain ⟨q4, h5, h⟩ := vq_bi h
    have hFc := vq_freeAll hD hS hA
    refine va_calli (va_runV (As := [.int a0]) (rest := []) ⟨hx, hb, hml, hown, hts⟩ (c_G_hasSymbol l htr dC dI ad ca N q1.2 a0 q4 h5 H.size) (vq_cV WSk hts 1 rfl rfl ⟨by decide, by decide⟩ k_14 k_26 k_568 k_33 k_34 (by decide +kernel)) ⟨vq_blind, va_recv hK hP (ci := 1) (q0 := 1) rfl rfl, vq_here hst hS hN hP hK hD⟩ rfl rfl hl.1 rfl (lv_room (Nat.le_of_ble_eq_true rfl)) d_V_rank_9 ⟨by decide, by decide⟩) hS (fun q _ h => hFc q h) hFc (fun r u t H1 locs ht hvm hw hB hz1 hk1 hS => ?_)
    obtain ⟨hP, -, hD1⟩ := hB
    rw [ht] at hP
    have hD := hD1.weaken (fun _ _ _ h => hFc _ h)
    have hw : r = q4.1 := hw
    subst hw
    generalize H1 = H at hP hS ⊢
    refine W.widen (k := 0) (n := 0) (by decide) (by decide) ?_
    have J27 : ∀ (τ : vS) (H : Heap) (locs : List Loc) (ls : Array Slot), f_V_rank_27 N τ = some ((0, v.1), v.2) → lv_has ls 3 [] → va_P (dC, dI) CL (Xw ad ca τ) H → va_D A (Xw ad ca τ) → va_S A s.heap H locs → W p l e (headSpec WS ({ frames := 7, cells := 0, slots := 0, locals := 102 })).room s m ([.ref (ad 0), .int a0, .int a1] : List Value).toArray below meth c H locs 0 0 (MQ below (va_Qi (fun (r : Int32) (_ : Unit) => r = v.1) (fun _ t => vq_Post (dC, dI) CL A (Xw ad ca v.2) (Xt ca) t) A) ([.ref (ad 0), .int a0, .int a1] : List Value).toArray s 0 0 A) (F0 m 27 ls []) := by
      intro τ H locs ls h hl hP hD hS
      unfold f_V_rank_27 at h
      simp at h
    refine lv_if_eq (tgt := 27) hx hb d_V_rank_12 (by decide) (fun hc6 => ?_) (fun hc6 => ?_)
    ·
      rw [if_pos hc6] at h
      exact J27 _ _ _ _ h (lv_sub hl [] rfl) hP hD hS
    ·
      rw [if_neg hc6] at h
      refine lv_aload_n hx hb d_V_rank_15 rfl (lv_at hl 0 rfl) ?_
      refine g_V_grammar dC dI ad ca q4.2 hx hb hts hown hK hP k_546 d_V_rank_16 ?_
      refine lv_iload_n hx hb d_V_rank_19 rfl (lv_at hl 1 rfl) ?_
      refine lv_iload_n hx hb d_V_rank_20 rfl (lv_at hl 2 rfl) ?_
      obtain ⟨q7, h8, h⟩ := vq_bi h
      have hFc := vq_freeAll hD hS hA
      refine va_calli (va_runV (As := [.int a0, .int a1]) (rest := []) ⟨hx, hb, hml, hown, hts⟩ (c_G_hasAttribute l htr dC dI ad ca N q4.2 a0 a1 q7 h8 H.size) (vq_cV WSk hts 2 rfl rfl ⟨by decide, by decide⟩ k_16 k_26 k_548 k_549 k_550 (by decide +kernel)) ⟨vq_blind, va_recv hK hP (ci := 1) (q0 := 1) rfl rfl, vq_here hst hS hN hP hK hD⟩ rfl rfl hl.1 rfl (lv_room (Nat.le_of_ble_eq_true rfl)) d_V_rank_21 ⟨by decide, by decide⟩) hS (fun q _ h => hFc q h) hFc (fun r u t H1 locs ht hvm hw hB hz1 hk1 hS => ?_)
      obtain ⟨hP, -, hD1⟩ := hB
      rw [ht] at hP
      have hD := hD1.weaken (fun _ _ _ h => hFc _ h)
      have hw : r = q7.1 := hw
      subst hw
      generalize H1 = H at hP hS ⊢
      refine W.widen (k := 0) (n := 0) (by decide) (by decide) ?_
      refine lv_if_ne (tgt := 37) hx hb d_V_rank_24 (by decide) (fun hc9 => ?_) (fun hc9 => ?_)
      ·
        rw [if_neg hc9] at h
        refine lv_aload_n hx hb d_V_rank_37 rfl (lv_at hl 0 rfl) ?_
        refine g_V_analysis dC dI ad ca q7.2 hx hb hts hown hK hP k_531 d_V_rank_38 ?_
        refine gN_A_ranking dC dI ad ca q7.2 hx hb hts hown hK hP k_615 d_V_rank_41 ?_
        refine gN_K_ranks dC dI ad ca q7.2 hx hb hts hown hK hP k_619 d_V_rank_44 ?_
        refine lv_iload_n hx hb d_V_rank_47 rfl (lv_at hl 1 rfl) ?_
        refine lv_iconst (v := 4) hx hb d_V_rank_48 (by decide) ?_
        refine lv_imul hx hb d_V_rank_49 ?_
        refine lv_iload_n hx hb d_V_rank_50 rfl (lv_at hl 2 rfl) ?_
        refine lv_iadd hx hb d_V_rank_51 ?_
        obtain ⟨hi10, h⟩ := vq_bd h
        refine al_X13 dC dI ad ca q7.2 hx hb hts hown hK hP hi10 d_V_rank_52 ?_
        obtain ⟨i11, ei11, h⟩ := vq_let h
        refine vq_top ei11.symm ?_
        have h9 : (i11, q7.2) = v := by have h8 := Option.some.inj h; simp only [Prod.mk.injEq, true_and] at h8; exact Prod.ext h8.1 h8.2
        rw [← h9]
        exact W.iret (v := i11) hx hb hr (fun t ht hW => ⟨⟨i11, (), rfl, rfl, by rw [ht]; exact hP, va_K.moved hW.alike hK, hD⟩, hS.F ht⟩) hS.2.2 d_V_rank_53
      ·
        rw [if_pos hc9] at h
        exact J27 _ _ _ _ h (lv_sub hl [] rfl) hP hD hS
  ·
    rw [if_neg hz3] at h
    have h2 : f_V_requireAnalysis N σ = some ((2, q1.1.2), q1.2) := by rw [h2, ← hkd.resolve_left hz3]
    simp at h

set_option maxHeartbeats 4000000 in
set_option maxRecDepth 100000 in
theorem t_V_rank_2 (l : Launch) (htr : l.stackTraces = false) (dC : Nat → ClassId) (dI : Nat → Nat → Nat) (ad : Nat → Nat) (ca : Nat → ClassId) (N : Nat) (σ : vS) (a0 : Int32) (a1 : Int32) (v : Int32 × vS) (h : f_V_rank N σ a0 a1 = some ((2, v.1), v.2)) (sz : Nat) : vq_T2 l y_V_rank WS ({ frames := 7, cells := 1, slots := 6, locals := 102 }) (va_Pc [.ref (ad 0), .int a0, .int a1] (vq_Pre (dC, dI) CL sz (Xw ad ca σ) (Xt ca))) "java/lang/IllegalStateException" (va_A (Xw ad ca σ) sz) (fun t => vq_Post (dC, dI) CL (va_A (Xw ad ca σ) sz) (Xw ad ca v.2) (Xt ca) t) 1 6 := by
  refine vq_ofT2 (cc := prog_1_method_8_code) (maxL := 3) (ret := (Option.some Jvm.ClassFile.FieldType.int)) pl_V (vq_his k_618) ?_
  intro p e s m args below meth c s₁ B hml hv
  obtain ⟨rfl, hst, hsz, hP, hK, hD0⟩ := hv
  have hx := B.exec
  have hb := B.bytes
  have hr := B.returns
  have hts := atoms_spec (ws := WS) B.pre
  have hown : s.vm.findClass R_V = some m.cls := findClass_of_methodNamed B.named
  have hlocks := B.notSynchronized
  have hno := vq_noH B (hts _ k_618)
  subst hsz
  have hN := vq_ns hP
  have hD := hD0.self (sz := s.heap.size)
  generalize hAe : va_A (Xw ad ca σ) s.heap.size = A at hD hN ⊢
  have hA : ∀ q : Nat, s.heap.size ≤ q → A q := fun q h => by rw [← hAe]; exact Or.inr h
  have hS : va_S A s.heap s.heap [] := va_S.rf
  have hl := lv_entry ([.ref (ad 0), .int a0, .int a1]) (n := 3) (Nat.le_of_ble_eq_true rfl)
  rw [lg_entry_eq]
  generalize (lg_sl ([.ref (ad 0), .int a0, .int a1]) ++ List.replicate (3 - (lg_sl ([.ref (ad 0), .int a0, .int a1])).length) Slot.unset).toArray = ls at hl ⊢
  have hl : lv_has ls 3 [(0, .ref (ad 0)), (1, .int a0), (2, .int a1)] := hl
  unfold f_V_rank at h
  refine lv_aload_n hx hb d_V_rank_0 rfl (lv_at hl 0 rfl) ?_
  obtain ⟨q1, h2, h⟩ := vq_bi h
  have hFc := vq_freeAll hD hS hA
  have hkd := kd_V_requireAnalysis h2
  by_cases hz3 : q1.1.1 = 0
  ·
    rw [if_pos hz3] at h
    have h2 : f_V_requireAnalysis N σ = some ((0, q1.1.2), q1.2) := by rw [h2, ← hz3]
    refine va_callv (va_runV (As := []) (rest := []) ⟨hx, hb, hml, hown, hts⟩ (c_V_requireAnalysis l htr dC dI ad ca N σ (q1.1.2, q1.2) h2 s.heap.size) (vq_cV WSk hts 0 rfl rfl ⟨by decide, by decide⟩ k_537 k_22 k_612 k_613 k_614 (by decide +kernel)) ⟨vq_blind, va_recv hK hP (ci := 0) (q0 := 0) rfl rfl, vq_here hst hS hN hP hK hD⟩ rfl rfl hl.1 rfl (lv_room (Nat.le_of_ble_eq_true rfl)) d_V_rank_1 ⟨by decide, by decide⟩) hS (fun q _ h => hFc q h) hFc (fun u t H1 locs ht hvm hw hB hz1 hk1 hS => ?_)
    obtain ⟨hP, -, hD1⟩ := hB
    rw [ht] at hP
    have hD := hD1.weaken (fun _ _ _ h => hFc _ h)
    generalize H1 = H at hP hS ⊢
    refine W.widen (k := 0) (n := 0) (by decide) (by decide) ?_
    refine lv_aload_n hx hb d_V_rank_4 rfl (lv_at hl 0 rfl) ?_
    refine g_V_grammar dC dI ad ca q1.2 hx hb hts hown hK hP k_546 d_V_rank_5 ?_
    refine lv_iload_n hx hb d_V_rank_8 rfl (lv_at hl 1 rfl) ?_
    obtain ⟨q4, h5, h⟩ := vq_bi h
    have hFc := vq_freeAll hD hS hA
    refine va_calli (va_runV (As := [.int a0]) (rest := []) ⟨hx, hb, hml, hown, hts⟩ (c_G_hasSymbol l htr dC dI ad ca N q1.2 a0 q4 h5 H.size) (vq_cV WSk hts 1 rfl rfl ⟨by decide, by decide⟩ k_14 k_26 k_568 k_33 k_34 (by decide +kernel)) ⟨vq_blind, va_recv hK hP (ci := 1) (q0 := 1) rfl rfl, vq_here hst hS hN hP hK hD⟩ rfl rfl hl.1 rfl (lv_room (Nat.le_of_ble_eq_true rfl)) d_V_rank_9 ⟨by decide, by decide⟩) hS (fun q _ h => hFc q h) hFc (fun r u t H1 locs ht hvm hw hB hz1 hk1 hS => ?_)
    obtain ⟨hP, -, hD1⟩ := hB
    rw [ht] at hP
    have hD := hD1.weaken (fun _ _ _ h => hFc _ h)
    have hw : r = q4.1 := hw
    subst hw
    generalize H1 = H at hP hS ⊢
    refine W.widen (k := 0) (n := 0) (by decide) (by decide) ?_
    have J27 : ∀ (τ : vS) (H : Heap) (locs : List Loc) (ls : Array Slot), f_V_rank_27 N τ = some ((2, v.1), v.2) → lv_has ls 3 [] → va_P (dC, dI) CL (Xw ad ca τ) H → va_D A (Xw ad ca τ) → va_S A s.heap H locs → W p l e (headSpec WS ({ frames := 7, cells := 1, slots := 6, locals := 102 })).room s m ([.ref (ad 0), .int a0, .int a1] : List Value).toArray below meth c H locs 0 0 (vq_MQ2 below "java/lang/IllegalStateException" A (fun t => vq_Post (dC, dI) CL A (Xw ad ca v.2) (Xt ca) t) s 1 6) (F0 m 27 ls []) := by
      intro τ H locs ls h hl hP hD hS
      unfold f_V_rank_27 at h
      simp at h
    refine lv_if_eq (tgt := 27) hx hb d_V_rank_12 (by decide) (fun hc6 => ?_) (fun hc6 => ?_)
    ·
      rw [if_pos hc6] at h
      exact J27 _ _ _ _ h (lv_sub hl [] rfl) hP hD hS
    ·
      rw [if_neg hc6] at h
      refine lv_aload_n hx hb d_V_rank_15 rfl (lv_at hl 0 rfl) ?_
      refine g_V_grammar dC dI ad ca q4.2 hx hb hts hown hK hP k_546 d_V_rank_16 ?_
      refine lv_iload_n hx hb d_V_rank_19 rfl (lv_at hl 1 rfl) ?_
      refine lv_iload_n hx hb d_V_rank_20 rfl (lv_at hl 2 rfl) ?_
      obtain ⟨q7, h8, h⟩ := vq_bi h
      have hFc := vq_freeAll hD hS hA
      refine va_calli (va_runV (As := [.int a0, .int a1]) (rest := []) ⟨hx, hb, hml, hown, hts⟩ (c_G_hasAttribute l htr dC dI ad ca N q4.2 a0 a1 q7 h8 H.size) (vq_cV WSk hts 2 rfl rfl ⟨by decide, by decide⟩ k_16 k_26 k_548 k_549 k_550 (by decide +kernel)) ⟨vq_blind, va_recv hK hP (ci := 1) (q0 := 1) rfl rfl, vq_here hst hS hN hP hK hD⟩ rfl rfl hl.1 rfl (lv_room (Nat.le_of_ble_eq_true rfl)) d_V_rank_21 ⟨by decide, by decide⟩) hS (fun q _ h => hFc q h) hFc (fun r u t H1 locs ht hvm hw hB hz1 hk1 hS => ?_)
      obtain ⟨hP, -, hD1⟩ := hB
      rw [ht] at hP
      have hD := hD1.weaken (fun _ _ _ h => hFc _ h)
      have hw : r = q7.1 := hw
      subst hw
      generalize H1 = H at hP hS ⊢
      refine W.widen (k := 0) (n := 0) (by decide) (by decide) ?_
      refine lv_if_ne (tgt := 37) hx hb d_V_rank_24 (by decide) (fun hc9 => ?_) (fun hc9 => ?_)
      ·
        rw [if_neg hc9] at h
        refine lv_aload_n hx hb d_V_rank_37 rfl (lv_at hl 0 rfl) ?_
        refine g_V_analysis dC dI ad ca q7.2 hx hb hts hown hK hP k_531 d_V_rank_38 ?_
        refine gN_A_ranking dC dI ad ca q7.2 hx hb hts hown hK hP k_615 d_V_rank_41 ?_
        refine gN_K_ranks dC dI ad ca q7.2 hx hb hts hown hK hP k_619 d_V_rank_44 ?_
        refine lv_iload_n hx hb d_V_rank_47 rfl (lv_at hl 1 rfl) ?_
        refine lv_iconst (v := 4) hx hb d_V_rank_48 (by decide) ?_
        refine lv_imul hx hb d_V_rank_49 ?_
        refine lv_iload_n hx hb d_V_rank_50 rfl (lv_at hl 2 rfl) ?_
        refine lv_iadd hx hb d_V_rank_51 ?_
        obtain ⟨hi10, h⟩ := vq_bd h
        refine al_X13 dC dI ad ca q7.2 hx hb hts hown hK hP hi10 d_V_rank_52 ?_
        obtain ⟨i11, ei11, h⟩ := vq_let h
        refine vq_top ei11.symm ?_
        simp at h
      ·
        rw [if_pos hc9] at h
        exact J27 _ _ _ _ h (lv_sub hl [] rfl) hP hD hS
  ·
    rw [if_neg hz3] at h
    have h2 : f_V_requireAnalysis N σ = some ((2, q1.1.2), q1.2) := by rw [h2, ← hkd.resolve_left hz3]
    have h9 : (q1.1.2, q1.2) = v := by have h8 := Option.some.inj h; simp only [Prod.mk.injEq, true_and] at h8; exact Prod.ext h8.1 h8.2
    rw [← h9]
    exact vq_pass2 (vq_runT2 (As := []) (rest := []) ⟨hx, hb, hml, hown, hts⟩ (t_V_requireAnalysis_2 l htr dC dI ad ca N σ (q1.1.2, q1.2) h2 s.heap.size) (vq_cV WSk hts 0 rfl rfl ⟨by decide, by decide⟩ k_537 k_22 k_612 k_613 k_614 (by decide +kernel)) ⟨vq_blind, va_recv hK hP (ci := 0) (q0 := 0) rfl rfl, vq_here hst hS hN hP hK hD⟩ rfl rfl hl.1 rfl (lv_room (Nat.le_of_ble_eq_true rfl)) d_V_rank_1 ⟨by decide, by decide⟩) hS hFc hno hlocks (by decide) (by decide) (fun t t2 hh ha hb9 hB9 => ⟨by rw [← hh]; exact hB9.1, va_K.moved hb9 hK, hB9.2.2.weaken (fun _ _ _ h => hFc _ h)⟩)

set_option maxHeartbeats 4000000 in
set_option maxRecDepth 100000 in
theorem t_V_rank_3 (l : Launch) (htr : l.stackTraces = false) (dC : Nat → ClassId) (dI : Nat → Nat → Nat) (ad : Nat → Nat) (ca : Nat → ClassId) (N : Nat) (σ : vS) (a0 : Int32) (a1 : Int32) (v : Int32 × vS) (h : f_V_rank N σ a0 a1 = some ((3, v.1), v.2)) (sz : Nat) : vq_T2 l y_V_rank WS ({ frames := 7, cells := 1, slots := 6, locals := 102 }) (va_Pc [.ref (ad 0), .int a0, .int a1] (vq_Pre (dC, dI) CL sz (Xw ad ca σ) (Xt ca))) "java/lang/IndexOutOfBoundsException" (va_A (Xw ad ca σ) sz) (fun t => vq_Post (dC, dI) CL (va_A (Xw ad ca σ) sz) (Xw ad ca v.2) (Xt ca) t) 1 6 := by
  refine vq_ofT2 (cc := prog_1_method_8_code) (maxL := 3) (ret := (Option.some Jvm.ClassFile.FieldType.int)) pl_V (vq_his k_618) ?_
  intro p e s m args below meth c s₁ B hml hv
  obtain ⟨rfl, hst, hsz, hP, hK, hD0⟩ := hv
  have hx := B.exec
  have hb := B.bytes
  have hr := B.returns
  have hts := atoms_spec (ws := WS) B.pre
  have hown : s.vm.findClass R_V = some m.cls := findClass_of_methodNamed B.named
  have hlocks := B.notSynchronized
  have hno := vq_noH B (hts _ k_618)
  subst hsz
  have hN := vq_ns hP
  have hD := hD0.self (sz := s.heap.size)
  generalize hAe : va_A (Xw ad ca σ) s.heap.size = A at hD hN ⊢
  have hA : ∀ q : Nat, s.heap.size ≤ q → A q := fun q h => by rw [← hAe]; exact Or.inr h
  have hS : va_S A s.heap s.heap [] := va_S.rf
  have hl := lv_entry ([.ref (ad 0), .int a0, .int a1]) (n := 3) (Nat.le_of_ble_eq_true rfl)
  rw [lg_entry_eq]
  generalize (lg_sl ([.ref (ad 0), .int a0, .int a1]) ++ List.replicate (3 - (lg_sl ([.ref (ad 0), .int a0, .int a1])).length) Slot.unset).toArray = ls at hl ⊢
  have hl : lv_has ls 3 [(0, .ref (ad 0)), (1, .int a0), (2, .int a1)] := hl
  unfold f_V_rank at h
  refine lv_aload_n hx hb d_V_rank_0 rfl (lv_at hl 0 rfl) ?_
  obtain ⟨q1, h2, h⟩ := vq_bi h
  have hFc := vq_freeAll hD hS hA
  have hkd := kd_V_requireAnalysis h2
  by_cases hz3 : q1.1.1 = 0
  ·
    rw [if_pos hz3] at h
    have h2 : f_V_requireAnalysis N σ = some ((0, q1.1.2), q1.2) := by rw [h2, ← hz3]
    refine va_callv (va_runV (As := []) (rest := []) ⟨hx, hb, hml, hown, hts⟩ (c_V_requireAnalysis l htr dC dI ad ca N σ (q1.1.2, q1.2) h2 s.heap.size) (vq_cV WSk hts 0 rfl rfl ⟨by decide, by decide⟩ k_537 k_22 k_612 k_613 k_614 (by decide +kernel)) ⟨vq_blind, va_recv hK hP (ci := 0) (q0 := 0) rfl rfl, vq_here hst hS hN hP hK hD⟩ rfl rfl hl.1 rfl (lv_room (Nat.le_of_ble_eq_true rfl)) d_V_rank_1 ⟨by decide, by decide⟩) hS (fun q _ h => hFc q h) hFc (fun u t H1 locs ht hvm hw hB hz1 hk1 hS => ?_)
    obtain ⟨hP, -, hD1⟩ := hB
    rw [ht] at hP
    have hD := hD1.weaken (fun _ _ _ h => hFc _ h)
    generalize H1 = H at hP hS ⊢
    refine W.widen (k := 0) (n := 0) (by decide) (by decide) ?_
    refine lv_aload_n hx hb d_V_rank_4 rfl (lv_at hl 0 rfl) ?_
    refine g_V_grammar dC dI ad ca q1.2 hx hb hts hown hK hP k_546 d_V_rank_5 ?_
    refine lv_iload_n hx hb d_V_rank_8 rfl (lv_at hl 1 rfl) ?_
    obtain ⟨q4, h5, h⟩ := vq_bi h
    have hFc := vq_freeAll hD hS hA
    refine va_calli (va_runV (As := [.int a0]) (rest := []) ⟨hx, hb, hml, hown, hts⟩ (c_G_hasSymbol l htr dC dI ad ca N q1.2 a0 q4 h5 H.size) (vq_cV WSk hts 1 rfl rfl ⟨by decide, by decide⟩ k_14 k_26 k_568 k_33 k_34 (by decide +kernel)) ⟨vq_blind, va_recv hK hP (ci := 1) (q0 := 1) rfl rfl, vq_here hst hS hN hP hK hD⟩ rfl rfl hl.1 rfl (lv_room (Nat.le_of_ble_eq_true rfl)) d_V_rank_9 ⟨by decide, by decide⟩) hS (fun q _ h => hFc q h) hFc (fun r u t H1 locs ht hvm hw hB hz1 hk1 hS => ?_)
    obtain ⟨hP, -, hD1⟩ := hB
    rw [ht] at hP
    have hD := hD1.weaken (fun _ _ _ h => hFc _ h)
    have hw : r = q4.1 := hw
    subst hw
    generalize H1 = H at hP hS ⊢
    refine W.widen (k := 0) (n := 0) (by decide) (by decide) ?_
    have J27 : ∀ (τ : vS) (H : Heap) (locs : List Loc) (ls : Array Slot), f_V_rank_27 N τ = some ((3, v.1), v.2) → lv_has ls 3 [] → va_P (dC, dI) CL (Xw ad ca τ) H → va_D A (Xw ad ca τ) → va_S A s.heap H locs → W p l e (headSpec WS ({ frames := 7, cells := 1, slots := 6, locals := 102 })).room s m ([.ref (ad 0), .int a0, .int a1] : List Value).toArray below meth c H locs 0 0 (vq_MQ2 below "java/lang/IndexOutOfBoundsException" A (fun t => vq_Post (dC, dI) CL A (Xw ad ca v.2) (Xt ca) t) s 1 6) (F0 m 27 ls []) := by
      intro τ H locs ls h hl hP hD hS
      unfold f_V_rank_27 at h
      have h9 : (0, τ) = v := by have h8 := Option.some.inj h; simp only [Prod.mk.injEq, true_and] at h8; exact Prod.ext h8.1 h8.2
      rw [← h9]
      have hws := vq_all WSk hts
      have hwu : ∀ u : State, u.vm = s.vm → s.WarmedH u.vm := fun u hu => by rw [hu]; exact State.WarmedH.refl s
      exact vq_throw2 (names := up_names) hx hb htr hown (by decide +kernel) (by decide +kernel) (fun u hu hsu => at_V_IndexOutOfBoundsException (fun w hw => hws w hw _ u (hwu u hu)) hsu) hst (fun u hu => ⟨hws _ k_551 _ u (hwu u hu), hws _ k_552 _ u (hwu u hu), hws _ k_620 _ u (hwu u hu)⟩) hS hA hN hno hlocks (by decide) (hl.1.trans hml.symm) (fun t hz9 hk9 hW9 => ⟨hP.kept (fun k x hx9 => by have h7 := (hP k x hx9).lt; rw [Array.getElem?_eq_getElem h7]; exact hk9 _ _ (Array.getElem?_eq_getElem h7)), va_K.moved hW9.alike hK, hD⟩) d_V_rank_27 d_V_rank_30 d_V_rank_31 d_V_rank_33 d_V_rank_36
    refine lv_if_eq (tgt := 27) hx hb d_V_rank_12 (by decide) (fun hc6 => ?_) (fun hc6 => ?_)
    ·
      rw [if_pos hc6] at h
      exact J27 _ _ _ _ h (lv_sub hl [] rfl) hP hD hS
    ·
      rw [if_neg hc6] at h
      refine lv_aload_n hx hb d_V_rank_15 rfl (lv_at hl 0 rfl) ?_
      refine g_V_grammar dC dI ad ca q4.2 hx hb hts hown hK hP k_546 d_V_rank_16 ?_
      refine lv_iload_n hx hb d_V_rank_19 rfl (lv_at hl 1 rfl) ?_
      refine lv_iload_n hx hb d_V_rank_20 rfl (lv_at hl 2 rfl) ?_
      obtain ⟨q7, h8, h⟩ := vq_bi h
      have hFc := vq_freeAll hD hS hA
      refine va_calli (va_runV (As := [.int a0, .int a1]) (rest := []) ⟨hx, hb, hml, hown, hts⟩ (c_G_hasAttribute l htr dC dI ad ca N q4.2 a0 a1 q7 h8 H.size) (vq_cV WSk hts 2 rfl rfl ⟨by decide, by decide⟩ k_16 k_26 k_548 k_549 k_550 (by decide +kernel)) ⟨vq_blind, va_recv hK hP (ci := 1) (q0 := 1) rfl rfl, vq_here hst hS hN hP hK hD⟩ rfl rfl hl.1 rfl (lv_room (Nat.le_of_ble_eq_true rfl)) d_V_rank_21 ⟨by decide, by decide⟩) hS (fun q _ h => hFc q h) hFc (fun r u t H1 locs ht hvm hw hB hz1 hk1 hS => ?_)
      obtain ⟨hP, -, hD1⟩ := hB
      rw [ht] at hP
      have hD := hD1.weaken (fun _ _ _ h => hFc _ h)
      have hw : r = q7.1 := hw
      subst hw
      generalize H1 = H at hP hS ⊢
      refine W.widen (k := 0) (n := 0) (by decide) (by decide) ?_
      refine lv_if_ne (tgt := 37) hx hb d_V_rank_24 (by decide) (fun hc9 => ?_) (fun hc9 => ?_)
      ·
        rw [if_neg hc9] at h
        refine lv_aload_n hx hb d_V_rank_37 rfl (lv_at hl 0 rfl) ?_
        refine g_V_analysis dC dI ad ca q7.2 hx hb hts hown hK hP k_531 d_V_rank_38 ?_
        refine gN_A_ranking dC dI ad ca q7.2 hx hb hts hown hK hP k_615 d_V_rank_41 ?_
        refine gN_K_ranks dC dI ad ca q7.2 hx hb hts hown hK hP k_619 d_V_rank_44 ?_
        refine lv_iload_n hx hb d_V_rank_47 rfl (lv_at hl 1 rfl) ?_
        refine lv_iconst (v := 4) hx hb d_V_rank_48 (by decide) ?_
        refine lv_imul hx hb d_V_rank_49 ?_
        refine lv_iload_n hx hb d_V_rank_50 rfl (lv_at hl 2 rfl) ?_
        refine lv_iadd hx hb d_V_rank_51 ?_
        obtain ⟨hi10, h⟩ := vq_bd h
        refine al_X13 dC dI ad ca q7.2 hx hb hts hown hK hP hi10 d_V_rank_52 ?_
        obtain ⟨i11, ei11, h⟩ := vq_let h
        refine vq_top ei11.symm ?_
        simp at h
      ·
        rw [if_pos hc9] at h
        exact J27 _ _ _ _ h (lv_sub hl [] rfl) hP hD hS
  ·
    rw [if_neg hz3] at h
    have h2 : f_V_requireAnalysis N σ = some ((2, q1.1.2), q1.2) := by rw [h2, ← hkd.resolve_left hz3]
    simp at h

set_option maxHeartbeats 4000000 in
set_option maxRecDepth 100000 in
theorem c_V_instruction (l : Launch) (htr : l.stackTraces = false) (dC : Nat → ClassId) (dI : Nat → Nat → Nat) (ad : Nat → Nat) (ca : Nat → ClassId) (N : Nat) (σ : vS) (a0 : Int32) (a1 : Int32) (v : Int32 × vS) (h : f_V_instruction N σ a0 a1 = some ((0, v.1), v.2)) (sz : Nat) : Met l y_V_instruction WS ({ frames := 7, cells := 0, slots := 0, locals := 102 }) (va_Pc [.ref (ad 0), .int a0, .int a1] (vq_Pre (dC, dI) CL sz (Xw ad ca σ) (Xt ca))) (va_Qi (fun (r : Int32) (_ : Unit) => r = v.1) (fun _ t => vq_Post (dC, dI) CL (va_A (Xw ad ca σ) sz) (Xw ad ca v.2) (Xt ca) t) (va_A (Xw ad ca σ) sz)) 0 0 (va_A (Xw ad ca σ) sz) := by
  refine vq_ofW (cc := prog_1_method_9_code) (maxL := 3) (ret := (Option.some Jvm.ClassFile.FieldType.int)) pl_V (vq_his k_621) ?_
  intro p e s m args below meth c s₁ B hml hv
  obtain ⟨rfl, hst, hsz, hP, hK, hD0⟩ := hv
  have hx := B.exec
  have hb := B.bytes
  have hr := B.returns
  have hts := atoms_spec (ws := WS) B.pre
  have hown : s.vm.findClass R_V = some m.cls := findClass_of_methodNamed B.named
  have hlocks := B.notSynchronized
  have hno := vq_noH B (hts _ k_621)
  subst hsz
  have hN := vq_ns hP
  have hD := hD0.self (sz := s.heap.size)
  generalize hAe : va_A (Xw ad ca σ) s.heap.size = A at hD hN ⊢
  have hA : ∀ q : Nat, s.heap.size ≤ q → A q := fun q h => by rw [← hAe]; exact Or.inr h
  have hS : va_S A s.heap s.heap [] := va_S.rf
  have hl := lv_entry ([.ref (ad 0), .int a0, .int a1]) (n := 3) (Nat.le_of_ble_eq_true rfl)
  rw [lg_entry_eq]
  generalize (lg_sl ([.ref (ad 0), .int a0, .int a1]) ++ List.replicate (3 - (lg_sl ([.ref (ad 0), .int a0, .int a1])).length) Slot.unset).toArray = ls at hl ⊢
  have hl : lv_has ls 3 [(0, .ref (ad 0)), (1, .int a0), (2, .int a1)] := hl
  unfold f_V_instruction at h
  refine lv_aload_n hx hb d_V_instruction_0 rfl (lv_at hl 0 rfl) ?_
  obtain ⟨q1, h2, h⟩ := vq_bi h
  have hFc := vq_freeAll hD hS hA
  have hkd := kd_V_requireAnalysis h2
  by_cases hz3 : q1.1.1 = 0
  ·
    rw [if_pos hz3] at h
    have h2 : f_V_requireAnalysis N σ = some ((0, q1.1.2), q1.2) := by rw [h2, ← hz3]
    refine va_callv (va_runV (As := []) (rest := []) ⟨hx, hb, hml, hown, hts⟩ (c_V_requireAnalysis l htr dC dI ad ca N σ (q1.1.2, q1.2) h2 s.heap.size) (vq_cV WSk hts 0 rfl rfl ⟨by decide, by decide⟩ k_537 k_22 k_612 k_613 k_614 (by decide +kernel)) ⟨vq_blind, va_recv hK hP (ci := 0) (q0 := 0) rfl rfl, vq_here hst hS hN hP hK hD⟩ rfl rfl hl.1 rfl (lv_room (Nat.le_of_ble_eq_true rfl)) d_V_instruction_1 ⟨by decide, by decide⟩) hS (fun q _ h => hFc q h) hFc (fun u t H1 locs ht hvm hw hB hz1 hk1 hS => ?_)
    obtain ⟨hP, -, hD1⟩ := hB
    rw [ht] at hP
    have hD := hD1.weaken (fun _ _ _ h => hFc _ h)
    generalize H1 = H at hP hS ⊢
    refine W.widen (k := 0) (n := 0) (by decide) (by decide) ?_
    refine lv_aload_n hx hb d_V_instruction_4 rfl (lv_at hl 0 rfl) ?_
    refine g_V_grammar dC dI ad ca q1.2 hx hb hts hown hK hP k_546 d_V_instruction_5 ?_
    refine lv_iload_n hx hb d_V_instruction_8 rfl (lv_at hl 1 rfl) ?_
    obtain ⟨q4, h5, h⟩ := vq_bi h
    have hFc := vq_freeAll hD hS hA
    refine va_calli (va_runV (As := [.int a0]) (rest := []) ⟨hx, hb, hml, hown, hts⟩ (c_G_hasProduction l htr dC dI ad ca N q1.2 a0 q4 h5 H.size) (vq_cV WSk hts 1 rfl rfl ⟨by decide, by decide⟩ k_18 k_26 k_579 k_580 k_581 (by decide +kernel)) ⟨vq_blind, va_recv hK hP (ci := 1) (q0 := 1) rfl rfl, vq_here hst hS hN hP hK hD⟩ rfl rfl hl.1 rfl (lv_room (Nat.le_of_ble_eq_true rfl)) d_V_instruction_9 ⟨by decide, by decide⟩) hS (fun q _ h => hFc q h) hFc (fun r u t H1 locs ht hvm hw hB hz1 hk1 hS => ?_)
    obtain ⟨hP, -, hD1⟩ := hB
    rw [ht] at hP
    have hD := hD1.weaken (fun _ _ _ h => hFc _ h)
    have hw : r = q4.1 := hw
    subst hw
    generalize H1 = H at hP hS ⊢
    refine W.widen (k := 0) (n := 0) (by decide) (by decide) ?_
    have J19 : ∀ (τ : vS) (H : Heap) (locs : List Loc) (ls : Array Slot), f_V_instruction_19 N τ = some ((0, v.1), v.2) → lv_has ls 3 [] → va_P (dC, dI) CL (Xw ad ca τ) H → va_D A (Xw ad ca τ) → va_S A s.heap H locs → W p l e (headSpec WS ({ frames := 7, cells := 0, slots := 0, locals := 102 })).room s m ([.ref (ad 0), .int a0, .int a1] : List Value).toArray below meth c H locs 0 0 (MQ below (va_Qi (fun (r : Int32) (_ : Unit) => r = v.1) (fun _ t => vq_Post (dC, dI) CL A (Xw ad ca v.2) (Xt ca) t) A) ([.ref (ad 0), .int a0, .int a1] : List Value).toArray s 0 0 A) (F0 m 19 ls []) := by
      intro τ H locs ls h hl hP hD hS
      unfold f_V_instruction_19 at h
      simp at h
    refine lv_if_eq (tgt := 19) hx hb d_V_instruction_12 (by decide) (fun hc6 => ?_) (fun hc6 => ?_)
    ·
      rw [if_pos hc6] at h
      exact J19 _ _ _ _ h (lv_sub hl [] rfl) hP hD hS
    ·
      rw [if_neg hc6] at h
      refine lv_iload_n hx hb d_V_instruction_15 rfl (lv_at hl 2 rfl) ?_
      refine lv_if_ge (tgt := 29) hx hb d_V_instruction_16 (by decide) (fun hc7 => ?_) (fun hc7 => ?_)
      ·
        rw [if_pos hc7] at h
        refine lv_aload_n hx hb d_V_instruction_29 rfl (lv_at hl 0 rfl) ?_
        refine g_V_analysis dC dI ad ca q4.2 hx hb hts hown hK hP k_531 d_V_instruction_30 ?_
        refine gN_A_sequences dC dI ad ca q4.2 hx hb hts hown hK hP k_600 d_V_instruction_33 ?_
        refine lv_iload_n hx hb d_V_instruction_36 rfl (lv_at hl 1 rfl) ?_
        refine lv_iload_n hx hb d_V_instruction_37 rfl (lv_at hl 2 rfl) ?_
        obtain ⟨q8, h9, h⟩ := vq_bi h
        have hFc := vq_freeAll hD hS hA
        refine va_calli (va_runV (As := [.int a0, .int a1]) (rest := []) ⟨hx, hb, hml, hown, hts⟩ (c_Q_at l htr dC dI ad ca N q4.2 a0 a1 q8 h9 H.size) (vq_cV WSk hts 2 rfl rfl ⟨by decide, by decide⟩ k_149 k_169 k_622 k_287 k_288 (by decide +kernel)) ⟨vq_blind, va_recv hK hP (ci := 5) (q0 := 5) rfl rfl, vq_here hst hS hN hP hK hD⟩ rfl rfl hl.1 rfl (lv_room (Nat.le_of_ble_eq_true rfl)) d_V_instruction_38 ⟨by decide, by decide⟩) hS (fun q _ h => hFc q h) hFc (fun r u t H1 locs ht hvm hw hB hz1 hk1 hS => ?_)
        obtain ⟨hP, -, hD1⟩ := hB
        rw [ht] at hP
        have hD := hD1.weaken (fun _ _ _ h => hFc _ h)
        have hw : r = q8.1 := hw
        subst hw
        generalize H1 = H at hP hS ⊢
        refine W.widen (k := 0) (n := 0) (by decide) (by decide) ?_
        have h9 : ((q8.1), q8.2) = v := by have h8 := Option.some.inj h; simp only [Prod.mk.injEq, true_and] at h8; exact Prod.ext h8.1 h8.2
        rw [← h9]
        exact W.iret (v := (q8.1)) hx hb hr (fun t ht hW => ⟨⟨(q8.1), (), rfl, rfl, by rw [ht]; exact hP, va_K.moved hW.alike hK, hD⟩, hS.F ht⟩) hS.2.2 d_V_instruction_41
      ·
        rw [if_neg hc7] at h
        exact J19 _ _ _ _ h (lv_sub hl [] rfl) hP hD hS
  ·
    rw [if_neg hz3] at h
    have h2 : f_V_requireAnalysis N σ = some ((2, q1.1.2), q1.2) := by rw [h2, ← hkd.resolve_left hz3]
    simp at h

set_option maxHeartbeats 4000000 in
set_option maxRecDepth 100000 in
theorem t_V_instruction_2 (l : Launch) (htr : l.stackTraces = false) (dC : Nat → ClassId) (dI : Nat → Nat → Nat) (ad : Nat → Nat) (ca : Nat → ClassId) (N : Nat) (σ : vS) (a0 : Int32) (a1 : Int32) (v : Int32 × vS) (h : f_V_instruction N σ a0 a1 = some ((2, v.1), v.2)) (sz : Nat) : vq_T2 l y_V_instruction WS ({ frames := 7, cells := 1, slots := 6, locals := 102 }) (va_Pc [.ref (ad 0), .int a0, .int a1] (vq_Pre (dC, dI) CL sz (Xw ad ca σ) (Xt ca))) "java/lang/IllegalStateException" (va_A (Xw ad ca σ) sz) (fun t => vq_Post (dC, dI) CL (va_A (Xw ad ca σ) sz) (Xw ad ca v.2) (Xt ca) t) 1 6 := by
  refine vq_ofT2 (cc := prog_1_method_9_code) (maxL := 3) (ret := (Option.some Jvm.ClassFile.FieldType.int)) pl_V (vq_his k_621) ?_
  intro p e s m args below meth c s₁ B hml hv
  obtain ⟨rfl, hst, hsz, hP, hK, hD0⟩ := hv
  have hx := B.exec
  have hb := B.bytes
  have hr := B.returns
  have hts := atoms_spec (ws := WS) B.pre
  have hown : s.vm.findClass R_V = some m.cls := findClass_of_methodNamed B.named
  have hlocks := B.notSynchronized
  have hno := vq_noH B (hts _ k_621)
  subst hsz
  have hN := vq_ns hP
  have hD := hD0.self (sz := s.heap.size)
  generalize hAe : va_A (Xw ad ca σ) s.heap.size = A at hD hN ⊢
  have hA : ∀ q : Nat, s.heap.size ≤ q → A q := fun q h => by rw [← hAe]; exact Or.inr h
  have hS : va_S A s.heap s.heap [] := va_S.rf
  have hl := lv_entry ([.ref (ad 0), .int a0, .int a1]) (n := 3) (Nat.le_of_ble_eq_true rfl)
  rw [lg_entry_eq]
  generalize (lg_sl ([.ref (ad 0), .int a0, .int a1]) ++ List.replicate (3 - (lg_sl ([.ref (ad 0), .int a0, .int a1])).length) Slot.unset).toArray = ls at hl ⊢
  have hl : lv_has ls 3 [(0, .ref (ad 0)), (1, .int a0), (2, .int a1)] := hl
  unfold f_V_instruction at h
  refine lv_aload_n hx hb d_V_instruction_0 rfl (lv_at hl 0 rfl) ?_
  obtain ⟨q1, h2, h⟩ := vq_bi h
  have hFc := vq_freeAll hD hS hA
  have hkd := kd_V_requireAnalysis h2
  by_cases hz3 : q1.1.1 = 0
  ·
    rw [if_pos hz3] at h
    have h2 : f_V_requireAnalysis N σ = some ((0, q1.1.2), q1.2) := by rw [h2, ← hz3]
    refine va_callv (va_runV (As := []) (rest := []) ⟨hx, hb, hml, hown, hts⟩ (c_V_requireAnalysis l htr dC dI ad ca N σ (q1.1.2, q1.2) h2 s.heap.size) (vq_cV WSk hts 0 rfl rfl ⟨by decide, by decide⟩ k_537 k_22 k_612 k_613 k_614 (by decide +kernel)) ⟨vq_blind, va_recv hK hP (ci := 0) (q0 := 0) rfl rfl, vq_here hst hS hN hP hK hD⟩ rfl rfl hl.1 rfl (lv_room (Nat.le_of_ble_eq_true rfl)) d_V_instruction_1 ⟨by decide, by decide⟩) hS (fun q _ h => hFc q h) hFc (fun u t H1 locs ht hvm hw hB hz1 hk1 hS => ?_)
    obtain ⟨hP, -, hD1⟩ := hB
    rw [ht] at hP
    have hD := hD1.weaken (fun _ _ _ h => hFc _ h)
    generalize H1 = H at hP hS ⊢
    refine W.widen (k := 0) (n := 0) (by decide) (by decide) ?_
    refine lv_aload_n hx hb d_V_instruction_4 rfl (lv_at hl 0 rfl) ?_
    refine g_V_grammar dC dI ad ca q1.2 hx hb hts hown hK hP k_546 d_V_instruction_5 ?_
    refine lv_iload_n hx hb d_V_instruction_8 rfl (lv_at hl 1 rfl) ?_
    obtain ⟨q4, h5, h⟩ := vq_bi h
    have hFc := vq_freeAll hD hS hA
    refine va_calli (va_runV (As := [.int a0]) (rest := []) ⟨hx, hb, hml, hown, hts⟩ (c_G_hasProduction l htr dC dI ad ca N q1.2 a0 q4 h5 H.size) (vq_cV WSk hts 1 rfl rfl ⟨by decide, by decide⟩ k_18 k_26 k_579 k_580 k_581 (by decide +kernel)) ⟨vq_blind, va_recv hK hP (ci := 1) (q0 := 1) rfl rfl, vq_here hst hS hN hP hK hD⟩ rfl rfl hl.1 rfl (lv_room (Nat.le_of_ble_eq_true rfl)) d_V_instruction_9 ⟨by decide, by decide⟩) hS (fun q _ h => hFc q h) hFc (fun r u t H1 locs ht hvm hw hB hz1 hk1 hS => ?_)
    obtain ⟨hP, -, hD1⟩ := hB
    rw [ht] at hP
    have hD := hD1.weaken (fun _ _ _ h => hFc _ h)
    have hw : r = q4.1 := hw
    subst hw
    generalize H1 = H at hP hS ⊢
    refine W.widen (k := 0) (n := 0) (by decide) (by decide) ?_
    have J19 : ∀ (τ : vS) (H : Heap) (locs : List Loc) (ls : Array Slot), f_V_instruction_19 N τ = some ((2, v.1), v.2) → lv_has ls 3 [] → va_P (dC, dI) CL (Xw ad ca τ) H → va_D A (Xw ad ca τ) → va_S A s.heap H locs → W p l e (headSpec WS ({ frames := 7, cells := 1, slots := 6, locals := 102 })).room s m ([.ref (ad 0), .int a0, .int a1] : List Value).toArray below meth c H locs 0 0 (vq_MQ2 below "java/lang/IllegalStateException" A (fun t => vq_Post (dC, dI) CL A (Xw ad ca v.2) (Xt ca) t) s 1 6) (F0 m 19 ls []) := by
      intro τ H locs ls h hl hP hD hS
      unfold f_V_instruction_19 at h
      simp at h
    refine lv_if_eq (tgt := 19) hx hb d_V_instruction_12 (by decide) (fun hc6 => ?_) (fun hc6 => ?_)
    ·
      rw [if_pos hc6] at h
      exact J19 _ _ _ _ h (lv_sub hl [] rfl) hP hD hS
    ·
      rw [if_neg hc6] at h
      refine lv_iload_n hx hb d_V_instruction_15 rfl (lv_at hl 2 rfl) ?_
      refine lv_if_ge (tgt := 29) hx hb d_V_instruction_16 (by decide) (fun hc7 => ?_) (fun hc7 => ?_)
      ·
        rw [if_pos hc7] at h
        refine lv_aload_n hx hb d_V_instruction_29 rfl (lv_at hl 0 rfl) ?_
        refine g_V_analysis dC dI ad ca q4.2 hx hb hts hown hK hP k_531 d_V_instruction_30 ?_
        refine gN_A_sequences dC dI ad ca q4.2 hx hb hts hown hK hP k_600 d_V_instruction_33 ?_
        refine lv_iload_n hx hb d_V_instruction_36 rfl (lv_at hl 1 rfl) ?_
        refine lv_iload_n hx hb d_V_instruction_37 rfl (lv_at hl 2 rfl) ?_
        obtain ⟨q8, h9, h⟩ := vq_bi h
        have hFc := vq_freeAll hD hS hA
        refine va_calli (va_runV (As := [.int a0, .int a1]) (rest := []) ⟨hx, hb, hml, hown, hts⟩ (c_Q_at l htr dC dI ad ca N q4.2 a0 a1 q8 h9 H.size) (vq_cV WSk hts 2 rfl rfl ⟨by decide, by decide⟩ k_149 k_169 k_622 k_287 k_288 (by decide +kernel)) ⟨vq_blind, va_recv hK hP (ci := 5) (q0 := 5) rfl rfl, vq_here hst hS hN hP hK hD⟩ rfl rfl hl.1 rfl (lv_room (Nat.le_of_ble_eq_true rfl)) d_V_instruction_38 ⟨by decide, by decide⟩) hS (fun q _ h => hFc q h) hFc (fun r u t H1 locs ht hvm hw hB hz1 hk1 hS => ?_)
        obtain ⟨hP, -, hD1⟩ := hB
        rw [ht] at hP
        have hD := hD1.weaken (fun _ _ _ h => hFc _ h)
        have hw : r = q8.1 := hw
        subst hw
        generalize H1 = H at hP hS ⊢
        refine W.widen (k := 0) (n := 0) (by decide) (by decide) ?_
        simp at h
      ·
        rw [if_neg hc7] at h
        exact J19 _ _ _ _ h (lv_sub hl [] rfl) hP hD hS
  ·
    rw [if_neg hz3] at h
    have h2 : f_V_requireAnalysis N σ = some ((2, q1.1.2), q1.2) := by rw [h2, ← hkd.resolve_left hz3]
    have h9 : (q1.1.2, q1.2) = v := by have h8 := Option.some.inj h; simp only [Prod.mk.injEq, true_and] at h8; exact Prod.ext h8.1 h8.2
    rw [← h9]
    exact vq_pass2 (vq_runT2 (As := []) (rest := []) ⟨hx, hb, hml, hown, hts⟩ (t_V_requireAnalysis_2 l htr dC dI ad ca N σ (q1.1.2, q1.2) h2 s.heap.size) (vq_cV WSk hts 0 rfl rfl ⟨by decide, by decide⟩ k_537 k_22 k_612 k_613 k_614 (by decide +kernel)) ⟨vq_blind, va_recv hK hP (ci := 0) (q0 := 0) rfl rfl, vq_here hst hS hN hP hK hD⟩ rfl rfl hl.1 rfl (lv_room (Nat.le_of_ble_eq_true rfl)) d_V_instruction_1 ⟨by decide, by decide⟩) hS hFc hno hlocks (by decide) (by decide) (fun t t2 hh ha hb9 hB9 => ⟨by rw [← hh]; exact hB9.1, va_K.moved hb9 hK, hB9.2.2.weaken (fun _ _ _ h => hFc _ h)⟩)

set_option maxHeartbeats 4000000 in
set_option maxRecDepth 100000 in
theorem t_V_instruction_3 (l : Launch) (htr : l.stackTraces = false) (dC : Nat → ClassId) (dI : Nat → Nat → Nat) (ad : Nat → Nat) (ca : Nat → ClassId) (N : Nat) (σ : vS) (a0 : Int32) (a1 : Int32) (v : Int32 × vS) (h : f_V_instruction N σ a0 a1 = some ((3, v.1), v.2)) (sz : Nat) : vq_T2 l y_V_instruction WS ({ frames := 7, cells := 1, slots := 6, locals := 102 }) (va_Pc [.ref (ad 0), .int a0, .int a1] (vq_Pre (dC, dI) CL sz (Xw ad ca σ) (Xt ca))) "java/lang/IndexOutOfBoundsException" (va_A (Xw ad ca σ) sz) (fun t => vq_Post (dC, dI) CL (va_A (Xw ad ca σ) sz) (Xw ad ca v.2) (Xt ca) t) 1 6 := by
  refine vq_ofT2 (cc := prog_1_method_9_code) (maxL := 3) (ret := (Option.some Jvm.ClassFile.FieldType.int)) pl_V (vq_his k_621) ?_
  intro p e s m args below meth c s₁ B hml hv
  obtain ⟨rfl, hst, hsz, hP, hK, hD0⟩ := hv
  have hx := B.exec
  have hb := B.bytes
  have hr := B.returns
  have hts := atoms_spec (ws := WS) B.pre
  have hown : s.vm.findClass R_V = some m.cls := findClass_of_methodNamed B.named
  have hlocks := B.notSynchronized
  have hno := vq_noH B (hts _ k_621)
  subst hsz
  have hN := vq_ns hP
  have hD := hD0.self (sz := s.heap.size)
  generalize hAe : va_A (Xw ad ca σ) s.heap.size = A at hD hN ⊢
  have hA : ∀ q : Nat, s.heap.size ≤ q → A q := fun q h => by rw [← hAe]; exact Or.inr h
  have hS : va_S A s.heap s.heap [] := va_S.rf
  have hl := lv_entry ([.ref (ad 0), .int a0, .int a1]) (n := 3) (Nat.le_of_ble_eq_true rfl)
  rw [lg_entry_eq]
  generalize (lg_sl ([.ref (ad 0), .int a0, .int a1]) ++ List.replicate (3 - (lg_sl ([.ref (ad 0), .int a0, .int a1])).length) Slot.unset).toArray = ls at hl ⊢
  have hl : lv_has ls 3 [(0, .ref (ad 0)), (1, .int a0), (2, .int a1)] := hl
  unfold f_V_instruction at h
  refine lv_aload_n hx hb d_V_instruction_0 rfl (lv_at hl 0 rfl) ?_
  obtain ⟨q1, h2, h⟩ := vq_bi h
  have hFc := vq_freeAll hD hS hA
  have hkd := kd_V_requireAnalysis h2
  by_cases hz3 : q1.1.1 = 0
  ·
    rw [if_pos hz3] at h
    have h2 : f_V_requireAnalysis N σ = some ((0, q1.1.2), q1.2) := by rw [h2, ← hz3]
    refine va_callv (va_runV (As := []) (rest := []) ⟨hx, hb, hml, hown, hts⟩ (c_V_requireAnalysis l htr dC dI ad ca N σ (q1.1.2, q1.2) h2 s.heap.size) (vq_cV WSk hts 0 rfl rfl ⟨by decide, by decide⟩ k_537 k_22 k_612 k_613 k_614 (by decide +kernel)) ⟨vq_blind, va_recv hK hP (ci := 0) (q0 := 0) rfl rfl, vq_here hst hS hN hP hK hD⟩ rfl rfl hl.1 rfl (lv_room (Nat.le_of_ble_eq_true rfl)) d_V_instruction_1 ⟨by decide, by decide⟩) hS (fun q _ h => hFc q h) hFc (fun u t H1 locs ht hvm hw hB hz1 hk1 hS => ?_)
    obtain ⟨hP, -, hD1⟩ := hB
    rw [ht] at hP
    have hD := hD1.weaken (fun _ _ _ h => hFc _ h)
    generalize H1 = H at hP hS ⊢
    refine W.widen (k := 0) (n := 0) (by decide) (by decide) ?_
    refine lv_aload_n hx hb d_V_instruction_4 rfl (lv_at hl 0 rfl) ?_
    refine g_V_grammar dC dI ad ca q1.2 hx hb hts hown hK hP k_546 d_V_instruction_5 ?_
    refine lv_iload_n hx hb d_V_instruction_8 rfl (lv_at hl 1 rfl) ?_
    obtain ⟨q4, h5, h⟩ := vq_bi h
    have hFc := vq_freeAll hD hS hA
    refine va_calli (va_runV (As := [.int a0]) (rest := []) ⟨hx, hb, hml, hown, hts⟩ (c_G_hasProduction l htr dC dI ad ca N q1.2 a0 q4 h5 H.size) (vq_cV WSk hts 1 rfl rfl ⟨by decide, by decide⟩ k_18 k_26 k_579 k_580 k_581 (by decide +kernel)) ⟨vq_blind, va_recv hK hP (ci := 1) (q0 := 1) rfl rfl, vq_here hst hS hN hP hK hD⟩ rfl rfl hl.1 rfl (lv_room (Nat.le_of_ble_eq_true rfl)) d_V_instruction_9 ⟨by decide, by decide⟩) hS (fun q _ h => hFc q h) hFc (fun r u t H1 locs ht hvm hw hB hz1 hk1 hS => ?_)
    obtain ⟨hP, -, hD1⟩ := hB
    rw [ht] at hP
    have hD := hD1.weaken (fun _ _ _ h => hFc _ h)
    have hw : r = q4.1 := hw
    subst hw
    generalize H1 = H at hP hS ⊢
    refine W.widen (k := 0) (n := 0) (by decide) (by decide) ?_
    have J19 : ∀ (τ : vS) (H : Heap) (locs : List Loc) (ls : Array Slot), f_V_instruction_19 N τ = some ((3, v.1), v.2) → lv_has ls 3 [] → va_P (dC, dI) CL (Xw ad ca τ) H → va_D A (Xw ad ca τ) → va_S A s.heap H locs → W p l e (headSpec WS ({ frames := 7, cells := 1, slots := 6, locals := 102 })).room s m ([.ref (ad 0), .int a0, .int a1] : List Value).toArray below meth c H locs 0 0 (vq_MQ2 below "java/lang/IndexOutOfBoundsException" A (fun t => vq_Post (dC, dI) CL A (Xw ad ca v.2) (Xt ca) t) s 1 6) (F0 m 19 ls []) := by
      intro τ H locs ls h hl hP hD hS
      unfold f_V_instruction_19 at h
      have h9 : (0, τ) = v := by have h8 := Option.some.inj h; simp only [Prod.mk.injEq, true_and] at h8; exact Prod.ext h8.1 h8.2
      rw [← h9]
      have hws := vq_all WSk hts
      have hwu : ∀ u : State, u.vm = s.vm → s.WarmedH u.vm := fun u hu => by rw [hu]; exact State.WarmedH.refl s
      exact vq_throw2 (names := up_names) hx hb htr hown (by decide +kernel) (by decide +kernel) (fun u hu hsu => at_V_IndexOutOfBoundsException (fun w hw => hws w hw _ u (hwu u hu)) hsu) hst (fun u hu => ⟨hws _ k_551 _ u (hwu u hu), hws _ k_552 _ u (hwu u hu), hws _ k_623 _ u (hwu u hu)⟩) hS hA hN hno hlocks (by decide) (hl.1.trans hml.symm) (fun t hz9 hk9 hW9 => ⟨hP.kept (fun k x hx9 => by have h7 := (hP k x hx9).lt; rw [Array.getElem?_eq_getElem h7]; exact hk9 _ _ (Array.getElem?_eq_getElem h7)), va_K.moved hW9.alike hK, hD⟩) d_V_instruction_19 d_V_instruction_22 d_V_instruction_23 d_V_instruction_25 d_V_instruction_28
    refine lv_if_eq (tgt := 19) hx hb d_V_instruction_12 (by decide) (fun hc6 => ?_) (fun hc6 => ?_)
    ·
      rw [if_pos hc6] at h
      exact J19 _ _ _ _ h (lv_sub hl [] rfl) hP hD hS
    ·
      rw [if_neg hc6] at h
      refine lv_iload_n hx hb d_V_instruction_15 rfl (lv_at hl 2 rfl) ?_
      refine lv_if_ge (tgt := 29) hx hb d_V_instruction_16 (by decide) (fun hc7 => ?_) (fun hc7 => ?_)
      ·
        rw [if_pos hc7] at h
        refine lv_aload_n hx hb d_V_instruction_29 rfl (lv_at hl 0 rfl) ?_
        refine g_V_analysis dC dI ad ca q4.2 hx hb hts hown hK hP k_531 d_V_instruction_30 ?_
        refine gN_A_sequences dC dI ad ca q4.2 hx hb hts hown hK hP k_600 d_V_instruction_33 ?_
        refine lv_iload_n hx hb d_V_instruction_36 rfl (lv_at hl 1 rfl) ?_
        refine lv_iload_n hx hb d_V_instruction_37 rfl (lv_at hl 2 rfl) ?_
        obtain ⟨q8, h9, h⟩ := vq_bi h
        have hFc := vq_freeAll hD hS hA
        refine va_calli (va_runV (As := [.int a0, .int a1]) (rest := []) ⟨hx, hb, hml, hown, hts⟩ (c_Q_at l htr dC dI ad ca N q4.2 a0 a1 q8 h9 H.size) (vq_cV WSk hts 2 rfl rfl ⟨by decide, by decide⟩ k_149 k_169 k_622 k_287 k_288 (by decide +kernel)) ⟨vq_blind, va_recv hK hP (ci := 5) (q0 := 5) rfl rfl, vq_here hst hS hN hP hK hD⟩ rfl rfl hl.1 rfl (lv_room (Nat.le_of_ble_eq_true rfl)) d_V_instruction_38 ⟨by decide, by decide⟩) hS (fun q _ h => hFc q h) hFc (fun r u t H1 locs ht hvm hw hB hz1 hk1 hS => ?_)
        obtain ⟨hP, -, hD1⟩ := hB
        rw [ht] at hP
        have hD := hD1.weaken (fun _ _ _ h => hFc _ h)
        have hw : r = q8.1 := hw
        subst hw
        generalize H1 = H at hP hS ⊢
        refine W.widen (k := 0) (n := 0) (by decide) (by decide) ?_
        simp at h
      ·
        rw [if_neg hc7] at h
        exact J19 _ _ _ _ h (lv_sub hl [] rfl) hP hD hS
  ·
    rw [if_neg hz3] at h
    have h2 : f_V_requireAnalysis N σ = some ((2, q1.1.2), q1.2) := by rw [h2, ← hkd.resolve_left hz3]
    simp at h

set_option maxHeartbeats 4000000 in
set_option maxRecDepth 100000 in
theorem c_V_node (l : Launch) (htr : l.stackTraces = false) (dC : Nat → ClassId) (dI : Nat → Nat → Nat) (ad : Nat → Nat) (ca : Nat → ClassId) (N : Nat) (σ : vS) (a0 : Int32) (a1 : Int32) (a2 : Int32) (a3 : Int32) (a4 : Int32) (v : Int32 × vS) (h : f_V_node N σ a0 a1 a2 a3 a4 = some ((0, v.1), v.2)) (sz : Nat) : Met l y_V_node WS ({ frames := 6, cells := 0, slots := 0, locals := 90 }) (va_Pc [.ref (ad 0), .int a0, .int a1, .int a2, .int a3, .int a4] (vq_Pre (dC, dI) CL sz (Xw ad ca σ) (Xt ca))) (va_Qi (fun (r : Int32) (_ : Unit) => r = v.1) (fun _ t => vq_Post (dC, dI) CL (va_A (Xw ad ca σ) sz) (Xw ad ca v.2) (Xt ca) t) (va_A (Xw ad ca σ) sz)) 0 0 (va_A (Xw ad ca σ) sz) := by
  refine vq_ofW (cc := prog_1_method_10_code) (maxL := 6) (ret := (Option.some Jvm.ClassFile.FieldType.int)) pl_V (vq_his k_624) ?_
  intro p e s m args below meth c s₁ B hml hv
  obtain ⟨rfl, hst, hsz, hP, hK, hD0⟩ := hv
  have hx := B.exec
  have hb := B.bytes
  have hr := B.returns
  have hts := atoms_spec (ws := WS) B.pre
  have hown : s.vm.findClass R_V = some m.cls := findClass_of_methodNamed B.named
  have hlocks := B.notSynchronized
  have hno := vq_noH B (hts _ k_624)
  subst hsz
  have hN := vq_ns hP
  have hD := hD0.self (sz := s.heap.size)
  generalize hAe : va_A (Xw ad ca σ) s.heap.size = A at hD hN ⊢
  have hA : ∀ q : Nat, s.heap.size ≤ q → A q := fun q h => by rw [← hAe]; exact Or.inr h
  have hS : va_S A s.heap s.heap [] := va_S.rf
  have hl := lv_entry ([.ref (ad 0), .int a0, .int a1, .int a2, .int a3, .int a4]) (n := 6) (Nat.le_of_ble_eq_true rfl)
  rw [lg_entry_eq]
  generalize (lg_sl ([.ref (ad 0), .int a0, .int a1, .int a2, .int a3, .int a4]) ++ List.replicate (6 - (lg_sl ([.ref (ad 0), .int a0, .int a1, .int a2, .int a3, .int a4])).length) Slot.unset).toArray = ls at hl ⊢
  have hl : lv_has ls 6 [(0, .ref (ad 0)), (1, .int a0), (2, .int a1), (3, .int a2), (4, .int a3), (5, .int a4)] := hl
  unfold f_V_node at h
  refine lv_aload_n hx hb d_V_node_0 rfl (lv_at hl 0 rfl) ?_
  refine g_V_grammar dC dI ad ca σ hx hb hts hown hK hP k_546 d_V_node_1 ?_
  refine lv_iload_n hx hb d_V_node_4 rfl (lv_at hl 1 rfl) ?_
  obtain ⟨q1, h2, h⟩ := vq_bi h
  have hFc := vq_freeAll hD hS hA
  refine va_calli (va_runV (As := [.int a0]) (rest := []) ⟨hx, hb, hml, hown, hts⟩ (c_G_hasProduction l htr dC dI ad ca N σ a0 q1 h2 s.heap.size) (vq_cV WSk hts 1 rfl rfl ⟨by decide, by decide⟩ k_18 k_26 k_579 k_580 k_581 (by decide +kernel)) ⟨vq_blind, va_recv hK hP (ci := 1) (q0 := 1) rfl rfl, vq_here hst hS hN hP hK hD⟩ rfl rfl hl.1 rfl (lv_room (Nat.le_of_ble_eq_true rfl)) d_V_node_5 ⟨by decide, by decide⟩) hS (fun q _ h => hFc q h) hFc (fun r u t H1 locs ht hvm hw hB hz1 hk1 hS => ?_)
  obtain ⟨hP, -, hD1⟩ := hB
  rw [ht] at hP
  have hD := hD1.weaken (fun _ _ _ h => hFc _ h)
  have hw : r = q1.1 := hw
  subst hw
  generalize H1 = H at hP hS ⊢
  refine W.widen (k := 0) (n := 0) (by decide) (by decide) ?_
  have J27 : ∀ (τ : vS) (H : Heap) (locs : List Loc) (ls : Array Slot), f_V_node_27 N τ = some ((0, v.1), v.2) → lv_has ls 6 [] → va_P (dC, dI) CL (Xw ad ca τ) H → va_D A (Xw ad ca τ) → va_S A s.heap H locs → W p l e (headSpec WS ({ frames := 6, cells := 0, slots := 0, locals := 90 })).room s m ([.ref (ad 0), .int a0, .int a1, .int a2, .int a3, .int a4] : List Value).toArray below meth c H locs 0 0 (MQ below (va_Qi (fun (r : Int32) (_ : Unit) => r = v.1) (fun _ t => vq_Post (dC, dI) CL A (Xw ad ca v.2) (Xt ca) t) A) ([.ref (ad 0), .int a0, .int a1, .int a2, .int a3, .int a4] : List Value).toArray s 0 0 A) (F0 m 27 ls []) := by
    intro τ H locs ls h hl hP hD hS
    unfold f_V_node_27 at h
    simp at h
  refine lv_if_eq (tgt := 27) hx hb d_V_node_8 (by decide) (fun hc3 => ?_) (fun hc3 => ?_)
  ·
    rw [if_pos hc3] at h
    exact J27 _ _ _ _ h (lv_sub hl [] rfl) hP hD hS
  ·
    rw [if_neg hc3] at h
    refine lv_aload_n hx hb d_V_node_11 rfl (lv_at hl 0 rfl) ?_
    refine g_V_tree dC dI ad ca q1.2 hx hb hts hown hK hP k_543 d_V_node_12 ?_
    refine lv_iload_n hx hb d_V_node_15 rfl (lv_at hl 1 rfl) ?_
    refine lv_iload_n hx hb d_V_node_16 rfl (lv_at hl 3 rfl) ?_
    refine lv_iload hx hb d_V_node_17 (lv_at hl 4 rfl) ?_
    refine lv_iload hx hb d_V_node_19 (lv_at hl 5 rfl) ?_
    obtain ⟨q4, h5, h⟩ := vq_bi h
    have hFc := vq_freeAll hD hS hA
    refine va_calli (va_runV (As := [.int a0, .int a2, .int a3, .int a4]) (rest := []) ⟨hx, hb, hml, hown, hts⟩ (c_Z_canBeChildren l htr dC dI ad ca N q1.2 a0 a2 a3 a4 q4 h5 H.size) (vq_cV WSk hts 4 rfl rfl ⟨by decide, by decide⟩ k_234 k_226 k_625 k_626 k_627 (by decide +kernel)) ⟨vq_blind, va_recv hK hP (ci := 6) (q0 := 6) rfl rfl, vq_here hst hS hN hP hK hD⟩ rfl rfl hl.1 rfl (lv_room (Nat.le_of_ble_eq_true rfl)) d_V_node_21 ⟨by decide, by decide⟩) hS (fun q _ h => hFc q h) hFc (fun r u t H1 locs ht hvm hw hB hz1 hk1 hS => ?_)
    obtain ⟨hP, -, hD1⟩ := hB
    rw [ht] at hP
    have hD := hD1.weaken (fun _ _ _ h => hFc _ h)
    have hw : r = q4.1 := hw
    subst hw
    generalize H1 = H at hP hS ⊢
    refine W.widen (k := 0) (n := 0) (by decide) (by decide) ?_
    refine lv_if_ne (tgt := 37) hx hb d_V_node_24 (by decide) (fun hc6 => ?_) (fun hc6 => ?_)
    ·
      rw [if_neg hc6] at h
      refine lv_aload_n hx hb d_V_node_37 rfl (lv_at hl 0 rfl) ?_
      refine g_V_tree dC dI ad ca q4.2 hx hb hts hown hK hP k_543 d_V_node_38 ?_
      refine gN_Z_nodeCount dC dI ad ca q4.2 hx hb hts hown hK hP k_628 d_V_node_41 ?_
      refine lv_bipush (v := 40) hx hb d_V_node_44 (by decide) ?_
      refine lv_icmp_ne (tgt := 59) hx hb d_V_node_46 (by decide) (fun hc7 => ?_) (fun hc7 => ?_)
      ·
        rw [if_neg hc7] at h
        refine lv_aload_n hx hb d_V_node_59 rfl (lv_at hl 0 rfl) ?_
        refine g_V_tree dC dI ad ca q4.2 hx hb hts hown hK hP k_543 d_V_node_60 ?_
        refine lv_iload_n hx hb d_V_node_63 rfl (lv_at hl 1 rfl) ?_
        refine lv_iload_n hx hb d_V_node_64 rfl (lv_at hl 2 rfl) ?_
        refine lv_iload_n hx hb d_V_node_65 rfl (lv_at hl 3 rfl) ?_
        refine lv_iload hx hb d_V_node_66 (lv_at hl 4 rfl) ?_
        refine lv_iload hx hb d_V_node_68 (lv_at hl 5 rfl) ?_
        obtain ⟨q8, h9, h⟩ := vq_bi h
        have hFc := vq_freeAll hD hS hA
        refine va_calli (va_runV (As := [.int a0, .int a1, .int a2, .int a3, .int a4]) (rest := []) ⟨hx, hb, hml, hown, hts⟩ (c_Z_grow l htr dC dI ad ca N q4.2 a0 a1 a2 a3 a4 q8 h9 H.size) (vq_cV WSk hts 5 rfl rfl ⟨by decide, by decide⟩ k_239 k_226 k_629 k_630 k_631 (by decide +kernel)) ⟨vq_blind, va_recv hK hP (ci := 6) (q0 := 6) rfl rfl, vq_here hst hS hN hP hK hD⟩ rfl rfl hl.1 rfl (lv_room (Nat.le_of_ble_eq_true rfl)) d_V_node_70 ⟨by decide, by decide⟩) hS (fun q _ h => hFc q h) hFc (fun r u t H1 locs ht hvm hw hB hz1 hk1 hS => ?_)
        obtain ⟨hP, -, hD1⟩ := hB
        rw [ht] at hP
        have hD := hD1.weaken (fun _ _ _ h => hFc _ h)
        have hw : r = q8.1 := hw
        subst hw
        generalize H1 = H at hP hS ⊢
        refine W.widen (k := 0) (n := 0) (by decide) (by decide) ?_
        have h9 : ((q8.1), q8.2) = v := by have h8 := Option.some.inj h; simp only [Prod.mk.injEq, true_and] at h8; exact Prod.ext h8.1 h8.2
        rw [← h9]
        exact W.iret (v := (q8.1)) hx hb hr (fun t ht hW => ⟨⟨(q8.1), (), rfl, rfl, by rw [ht]; exact hP, va_K.moved hW.alike hK, hD⟩, hS.F ht⟩) hS.2.2 d_V_node_73
      ·
        rw [if_pos hc7] at h
        simp at h
    ·
      rw [if_pos hc6] at h
      exact J27 _ _ _ _ h (lv_sub hl [] rfl) hP hD hS

set_option maxHeartbeats 4000000 in
set_option maxRecDepth 100000 in
theorem t_V_node_1 (l : Launch) (htr : l.stackTraces = false) (dC : Nat → ClassId) (dI : Nat → Nat → Nat) (ad : Nat → Nat) (ca : Nat → ClassId) (N : Nat) (σ : vS) (a0 : Int32) (a1 : Int32) (a2 : Int32) (a3 : Int32) (a4 : Int32) (v : Int32 × vS) (h : f_V_node N σ a0 a1 a2 a3 a4 = some ((1, v.1), v.2)) (sz : Nat) : vq_T2 l y_V_node WS ({ frames := 6, cells := 1, slots := 6, locals := 90 }) (va_Pc [.ref (ad 0), .int a0, .int a1, .int a2, .int a3, .int a4] (vq_Pre (dC, dI) CL sz (Xw ad ca σ) (Xt ca))) "java/lang/IllegalArgumentException" (va_A (Xw ad ca σ) sz) (fun t => vq_Post (dC, dI) CL (va_A (Xw ad ca σ) sz) (Xw ad ca v.2) (Xt ca) t) 1 6 := by
  refine vq_ofT2 (cc := prog_1_method_10_code) (maxL := 6) (ret := (Option.some Jvm.ClassFile.FieldType.int)) pl_V (vq_his k_624) ?_
  intro p e s m args below meth c s₁ B hml hv
  obtain ⟨rfl, hst, hsz, hP, hK, hD0⟩ := hv
  have hx := B.exec
  have hb := B.bytes
  have hr := B.returns
  have hts := atoms_spec (ws := WS) B.pre
  have hown : s.vm.findClass R_V = some m.cls := findClass_of_methodNamed B.named
  have hlocks := B.notSynchronized
  have hno := vq_noH B (hts _ k_624)
  subst hsz
  have hN := vq_ns hP
  have hD := hD0.self (sz := s.heap.size)
  generalize hAe : va_A (Xw ad ca σ) s.heap.size = A at hD hN ⊢
  have hA : ∀ q : Nat, s.heap.size ≤ q → A q := fun q h => by rw [← hAe]; exact Or.inr h
  have hS : va_S A s.heap s.heap [] := va_S.rf
  have hl := lv_entry ([.ref (ad 0), .int a0, .int a1, .int a2, .int a3, .int a4]) (n := 6) (Nat.le_of_ble_eq_true rfl)
  rw [lg_entry_eq]
  generalize (lg_sl ([.ref (ad 0), .int a0, .int a1, .int a2, .int a3, .int a4]) ++ List.replicate (6 - (lg_sl ([.ref (ad 0), .int a0, .int a1, .int a2, .int a3, .int a4])).length) Slot.unset).toArray = ls at hl ⊢
  have hl : lv_has ls 6 [(0, .ref (ad 0)), (1, .int a0), (2, .int a1), (3, .int a2), (4, .int a3), (5, .int a4)] := hl
  unfold f_V_node at h
  refine lv_aload_n hx hb d_V_node_0 rfl (lv_at hl 0 rfl) ?_
  refine g_V_grammar dC dI ad ca σ hx hb hts hown hK hP k_546 d_V_node_1 ?_
  refine lv_iload_n hx hb d_V_node_4 rfl (lv_at hl 1 rfl) ?_
  obtain ⟨q1, h2, h⟩ := vq_bi h
  have hFc := vq_freeAll hD hS hA
  refine va_calli (va_runV (As := [.int a0]) (rest := []) ⟨hx, hb, hml, hown, hts⟩ (c_G_hasProduction l htr dC dI ad ca N σ a0 q1 h2 s.heap.size) (vq_cV WSk hts 1 rfl rfl ⟨by decide, by decide⟩ k_18 k_26 k_579 k_580 k_581 (by decide +kernel)) ⟨vq_blind, va_recv hK hP (ci := 1) (q0 := 1) rfl rfl, vq_here hst hS hN hP hK hD⟩ rfl rfl hl.1 rfl (lv_room (Nat.le_of_ble_eq_true rfl)) d_V_node_5 ⟨by decide, by decide⟩) hS (fun q _ h => hFc q h) hFc (fun r u t H1 locs ht hvm hw hB hz1 hk1 hS => ?_)
  obtain ⟨hP, -, hD1⟩ := hB
  rw [ht] at hP
  have hD := hD1.weaken (fun _ _ _ h => hFc _ h)
  have hw : r = q1.1 := hw
  subst hw
  generalize H1 = H at hP hS ⊢
  refine W.widen (k := 0) (n := 0) (by decide) (by decide) ?_
  have J27 : ∀ (τ : vS) (H : Heap) (locs : List Loc) (ls : Array Slot), f_V_node_27 N τ = some ((1, v.1), v.2) → lv_has ls 6 [] → va_P (dC, dI) CL (Xw ad ca τ) H → va_D A (Xw ad ca τ) → va_S A s.heap H locs → W p l e (headSpec WS ({ frames := 6, cells := 1, slots := 6, locals := 90 })).room s m ([.ref (ad 0), .int a0, .int a1, .int a2, .int a3, .int a4] : List Value).toArray below meth c H locs 0 0 (vq_MQ2 below "java/lang/IllegalArgumentException" A (fun t => vq_Post (dC, dI) CL A (Xw ad ca v.2) (Xt ca) t) s 1 6) (F0 m 27 ls []) := by
    intro τ H locs ls h hl hP hD hS
    unfold f_V_node_27 at h
    have h9 : (0, τ) = v := by have h8 := Option.some.inj h; simp only [Prod.mk.injEq, true_and] at h8; exact Prod.ext h8.1 h8.2
    rw [← h9]
    have hws := vq_all WSk hts
    have hwu : ∀ u : State, u.vm = s.vm → s.WarmedH u.vm := fun u hu => by rw [hu]; exact State.WarmedH.refl s
    exact vq_throw2 (names := up_names) hx hb htr hown (by decide +kernel) (by decide +kernel) (fun u hu hsu => at_V_IllegalArgumentException (fun w hw => hws w hw _ u (hwu u hu)) hsu) hst (fun u hu => ⟨hws _ k_563 _ u (hwu u hu), hws _ k_564 _ u (hwu u hu), hws _ k_632 _ u (hwu u hu)⟩) hS hA hN hno hlocks (by decide) (hl.1.trans hml.symm) (fun t hz9 hk9 hW9 => ⟨hP.kept (fun k x hx9 => by have h7 := (hP k x hx9).lt; rw [Array.getElem?_eq_getElem h7]; exact hk9 _ _ (Array.getElem?_eq_getElem h7)), va_K.moved hW9.alike hK, hD⟩) d_V_node_27 d_V_node_30 d_V_node_31 d_V_node_33 d_V_node_36
  refine lv_if_eq (tgt := 27) hx hb d_V_node_8 (by decide) (fun hc3 => ?_) (fun hc3 => ?_)
  ·
    rw [if_pos hc3] at h
    exact J27 _ _ _ _ h (lv_sub hl [] rfl) hP hD hS
  ·
    rw [if_neg hc3] at h
    refine lv_aload_n hx hb d_V_node_11 rfl (lv_at hl 0 rfl) ?_
    refine g_V_tree dC dI ad ca q1.2 hx hb hts hown hK hP k_543 d_V_node_12 ?_
    refine lv_iload_n hx hb d_V_node_15 rfl (lv_at hl 1 rfl) ?_
    refine lv_iload_n hx hb d_V_node_16 rfl (lv_at hl 3 rfl) ?_
    refine lv_iload hx hb d_V_node_17 (lv_at hl 4 rfl) ?_
    refine lv_iload hx hb d_V_node_19 (lv_at hl 5 rfl) ?_
    obtain ⟨q4, h5, h⟩ := vq_bi h
    have hFc := vq_freeAll hD hS hA
    refine va_calli (va_runV (As := [.int a0, .int a2, .int a3, .int a4]) (rest := []) ⟨hx, hb, hml, hown, hts⟩ (c_Z_canBeChildren l htr dC dI ad ca N q1.2 a0 a2 a3 a4 q4 h5 H.size) (vq_cV WSk hts 4 rfl rfl ⟨by decide, by decide⟩ k_234 k_226 k_625 k_626 k_627 (by decide +kernel)) ⟨vq_blind, va_recv hK hP (ci := 6) (q0 := 6) rfl rfl, vq_here hst hS hN hP hK hD⟩ rfl rfl hl.1 rfl (lv_room (Nat.le_of_ble_eq_true rfl)) d_V_node_21 ⟨by decide, by decide⟩) hS (fun q _ h => hFc q h) hFc (fun r u t H1 locs ht hvm hw hB hz1 hk1 hS => ?_)
    obtain ⟨hP, -, hD1⟩ := hB
    rw [ht] at hP
    have hD := hD1.weaken (fun _ _ _ h => hFc _ h)
    have hw : r = q4.1 := hw
    subst hw
    generalize H1 = H at hP hS ⊢
    refine W.widen (k := 0) (n := 0) (by decide) (by decide) ?_
    refine lv_if_ne (tgt := 37) hx hb d_V_node_24 (by decide) (fun hc6 => ?_) (fun hc6 => ?_)
    ·
      rw [if_neg hc6] at h
      refine lv_aload_n hx hb d_V_node_37 rfl (lv_at hl 0 rfl) ?_
      refine g_V_tree dC dI ad ca q4.2 hx hb hts hown hK hP k_543 d_V_node_38 ?_
      refine gN_Z_nodeCount dC dI ad ca q4.2 hx hb hts hown hK hP k_628 d_V_node_41 ?_
      refine lv_bipush (v := 40) hx hb d_V_node_44 (by decide) ?_
      refine lv_icmp_ne (tgt := 59) hx hb d_V_node_46 (by decide) (fun hc7 => ?_) (fun hc7 => ?_)
      ·
        rw [if_neg hc7] at h
        refine lv_aload_n hx hb d_V_node_59 rfl (lv_at hl 0 rfl) ?_
        refine g_V_tree dC dI ad ca q4.2 hx hb hts hown hK hP k_543 d_V_node_60 ?_
        refine lv_iload_n hx hb d_V_node_63 rfl (lv_at hl 1 rfl) ?_
        refine lv_iload_n hx hb d_V_node_64 rfl (lv_at hl 2 rfl) ?_
        refine lv_iload_n hx hb d_V_node_65 rfl (lv_at hl 3 rfl) ?_
        refine lv_iload hx hb d_V_node_66 (lv_at hl 4 rfl) ?_
        refine lv_iload hx hb d_V_node_68 (lv_at hl 5 rfl) ?_
        obtain ⟨q8, h9, h⟩ := vq_bi h
        have hFc := vq_freeAll hD hS hA
        refine va_calli (va_runV (As := [.int a0, .int a1, .int a2, .int a3, .int a4]) (rest := []) ⟨hx, hb, hml, hown, hts⟩ (c_Z_grow l htr dC dI ad ca N q4.2 a0 a1 a2 a3 a4 q8 h9 H.size) (vq_cV WSk hts 5 rfl rfl ⟨by decide, by decide⟩ k_239 k_226 k_629 k_630 k_631 (by decide +kernel)) ⟨vq_blind, va_recv hK hP (ci := 6) (q0 := 6) rfl rfl, vq_here hst hS hN hP hK hD⟩ rfl rfl hl.1 rfl (lv_room (Nat.le_of_ble_eq_true rfl)) d_V_node_70 ⟨by decide, by decide⟩) hS (fun q _ h => hFc q h) hFc (fun r u t H1 locs ht hvm hw hB hz1 hk1 hS => ?_)
        obtain ⟨hP, -, hD1⟩ := hB
        rw [ht] at hP
        have hD := hD1.weaken (fun _ _ _ h => hFc _ h)
        have hw : r = q8.1 := hw
        subst hw
        generalize H1 = H at hP hS ⊢
        refine W.widen (k := 0) (n := 0) (by decide) (by decide) ?_
        simp at h
      ·
        rw [if_pos hc7] at h
        simp at h
    ·
      rw [if_pos hc6] at h
      exact J27 _ _ _ _ h (lv_sub hl [] rfl) hP hD hS

set_option maxHeartbeats 4000000 in
set_option maxRecDepth 100000 in
theorem t_V_node_2 (l : Launch) (htr : l.stackTraces = false) (dC : Nat → ClassId) (dI : Nat → Nat → Nat) (ad : Nat → Nat) (ca : Nat → ClassId) (N : Nat) (σ : vS) (a0 : Int32) (a1 : Int32) (a2 : Int32) (a3 : Int32) (a4 : Int32) (v : Int32 × vS) (h : f_V_node N σ a0 a1 a2 a3 a4 = some ((2, v.1), v.2)) (sz : Nat) : vq_T2 l y_V_node WS ({ frames := 6, cells := 1, slots := 6, locals := 90 }) (va_Pc [.ref (ad 0), .int a0, .int a1, .int a2, .int a3, .int a4] (vq_Pre (dC, dI) CL sz (Xw ad ca σ) (Xt ca))) "java/lang/IllegalStateException" (va_A (Xw ad ca σ) sz) (fun t => vq_Post (dC, dI) CL (va_A (Xw ad ca σ) sz) (Xw ad ca v.2) (Xt ca) t) 1 6 := by
  refine vq_ofT2 (cc := prog_1_method_10_code) (maxL := 6) (ret := (Option.some Jvm.ClassFile.FieldType.int)) pl_V (vq_his k_624) ?_
  intro p e s m args below meth c s₁ B hml hv
  obtain ⟨rfl, hst, hsz, hP, hK, hD0⟩ := hv
  have hx := B.exec
  have hb := B.bytes
  have hr := B.returns
  have hts := atoms_spec (ws := WS) B.pre
  have hown : s.vm.findClass R_V = some m.cls := findClass_of_methodNamed B.named
  have hlocks := B.notSynchronized
  have hno := vq_noH B (hts _ k_624)
  subst hsz
  have hN := vq_ns hP
  have hD := hD0.self (sz := s.heap.size)
  generalize hAe : va_A (Xw ad ca σ) s.heap.size = A at hD hN ⊢
  have hA : ∀ q : Nat, s.heap.size ≤ q → A q := fun q h => by rw [← hAe]; exact Or.inr h
  have hS : va_S A s.heap s.heap [] := va_S.rf
  have hl := lv_entry ([.ref (ad 0), .int a0, .int a1, .int a2, .int a3, .int a4]) (n := 6) (Nat.le_of_ble_eq_true rfl)
  rw [lg_entry_eq]
  generalize (lg_sl ([.ref (ad 0), .int a0, .int a1, .int a2, .int a3, .int a4]) ++ List.replicate (6 - (lg_sl ([.ref (ad 0), .int a0, .int a1, .int a2, .int a3, .int a4])).length) Slot.unset).toArray = ls at hl ⊢
  have hl : lv_has ls 6 [(0, .ref (ad 0)), (1, .int a0), (2, .int a1), (3, .int a2), (4, .int a3), (5, .int a4)] := hl
  unfold f_V_node at h
  refine lv_aload_n hx hb d_V_node_0 rfl (lv_at hl 0 rfl) ?_
  refine g_V_grammar dC dI ad ca σ hx hb hts hown hK hP k_546 d_V_node_1 ?_
  refine lv_iload_n hx hb d_V_node_4 rfl (lv_at hl 1 rfl) ?_
  obtain ⟨q1, h2, h⟩ := vq_bi h
  have hFc := vq_freeAll hD hS hA
  refine va_calli (va_runV (As := [.int a0]) (rest := []) ⟨hx, hb, hml, hown, hts⟩ (c_G_hasProduction l htr dC dI ad ca N σ a0 q1 h2 s.heap.size) (vq_cV WSk hts 1 rfl rfl ⟨by decide, by decide⟩ k_18 k_26 k_579 k_580 k_581 (by decide +kernel)) ⟨vq_blind, va_recv hK hP (ci := 1) (q0 := 1) rfl rfl, vq_here hst hS hN hP hK hD⟩ rfl rfl hl.1 rfl (lv_room (Nat.le_of_ble_eq_true rfl)) d_V_node_5 ⟨by decide, by decide⟩) hS (fun q _ h => hFc q h) hFc (fun r u t H1 locs ht hvm hw hB hz1 hk1 hS => ?_)
  obtain ⟨hP, -, hD1⟩ := hB
  rw [ht] at hP
  have hD := hD1.weaken (fun _ _ _ h => hFc _ h)
  have hw : r = q1.1 := hw
  subst hw
  generalize H1 = H at hP hS ⊢
  refine W.widen (k := 0) (n := 0) (by decide) (by decide) ?_
  have J27 : ∀ (τ : vS) (H : Heap) (locs : List Loc) (ls : Array Slot), f_V_node_27 N τ = some ((2, v.1), v.2) → lv_has ls 6 [] → va_P (dC, dI) CL (Xw ad ca τ) H → va_D A (Xw ad ca τ) → va_S A s.heap H locs → W p l e (headSpec WS ({ frames := 6, cells := 1, slots := 6, locals := 90 })).room s m ([.ref (ad 0), .int a0, .int a1, .int a2, .int a3, .int a4] : List Value).toArray below meth c H locs 0 0 (vq_MQ2 below "java/lang/IllegalStateException" A (fun t => vq_Post (dC, dI) CL A (Xw ad ca v.2) (Xt ca) t) s 1 6) (F0 m 27 ls []) := by
    intro τ H locs ls h hl hP hD hS
    unfold f_V_node_27 at h
    simp at h
  refine lv_if_eq (tgt := 27) hx hb d_V_node_8 (by decide) (fun hc3 => ?_) (fun hc3 => ?_)
  ·
    rw [if_pos hc3] at h
    exact J27 _ _ _ _ h (lv_sub hl [] rfl) hP hD hS
  ·
    rw [if_neg hc3] at h
    refine lv_aload_n hx hb d_V_node_11 rfl (lv_at hl 0 rfl) ?_
    refine g_V_tree dC dI ad ca q1.2 hx hb hts hown hK hP k_543 d_V_node_12 ?_
    refine lv_iload_n hx hb d_V_node_15 rfl (lv_at hl 1 rfl) ?_
    refine lv_iload_n hx hb d_V_node_16 rfl (lv_at hl 3 rfl) ?_
    refine lv_iload hx hb d_V_node_17 (lv_at hl 4 rfl) ?_
    refine lv_iload hx hb d_V_node_19 (lv_at hl 5 rfl) ?_
    obtain ⟨q4, h5, h⟩ := vq_bi h
    have hFc := vq_freeAll hD hS hA
    refine va_calli (va_runV (As := [.int a0, .int a2, .int a3, .int a4]) (rest := []) ⟨hx, hb, hml, hown, hts⟩ (c_Z_canBeChildren l htr dC dI ad ca N q1.2 a0 a2 a3 a4 q4 h5 H.size) (vq_cV WSk hts 4 rfl rfl ⟨by decide, by decide⟩ k_234 k_226 k_625 k_626 k_627 (by decide +kernel)) ⟨vq_blind, va_recv hK hP (ci := 6) (q0 := 6) rfl rfl, vq_here hst hS hN hP hK hD⟩ rfl rfl hl.1 rfl (lv_room (Nat.le_of_ble_eq_true rfl)) d_V_node_21 ⟨by decide, by decide⟩) hS (fun q _ h => hFc q h) hFc (fun r u t H1 locs ht hvm hw hB hz1 hk1 hS => ?_)
    obtain ⟨hP, -, hD1⟩ := hB
    rw [ht] at hP
    have hD := hD1.weaken (fun _ _ _ h => hFc _ h)
    have hw : r = q4.1 := hw
    subst hw
    generalize H1 = H at hP hS ⊢
    refine W.widen (k := 0) (n := 0) (by decide) (by decide) ?_
    refine lv_if_ne (tgt := 37) hx hb d_V_node_24 (by decide) (fun hc6 => ?_) (fun hc6 => ?_)
    ·
      rw [if_neg hc6] at h
      refine lv_aload_n hx hb d_V_node_37 rfl (lv_at hl 0 rfl) ?_
      refine g_V_tree dC dI ad ca q4.2 hx hb hts hown hK hP k_543 d_V_node_38 ?_
      refine gN_Z_nodeCount dC dI ad ca q4.2 hx hb hts hown hK hP k_628 d_V_node_41 ?_
      refine lv_bipush (v := 40) hx hb d_V_node_44 (by decide) ?_
      refine lv_icmp_ne (tgt := 59) hx hb d_V_node_46 (by decide) (fun hc7 => ?_) (fun hc7 => ?_)
      ·
        rw [if_neg hc7] at h
        refine lv_aload_n hx hb d_V_node_59 rfl (lv_at hl 0 rfl) ?_
        refine g_V_tree dC dI ad ca q4.2 hx hb hts hown hK hP k_543 d_V_node_60 ?_
        refine lv_iload_n hx hb d_V_node_63 rfl (lv_at hl 1 rfl) ?_
        refine lv_iload_n hx hb d_V_node_64 rfl (lv_at hl 2 rfl) ?_
        refine lv_iload_n hx hb d_V_node_65 rfl (lv_at hl 3 rfl) ?_
        refine lv_iload hx hb d_V_node_66 (lv_at hl 4 rfl) ?_
        refine lv_iload hx hb d_V_node_68 (lv_at hl 5 rfl) ?_
        obtain ⟨q8, h9, h⟩ := vq_bi h
        have hFc := vq_freeAll hD hS hA
        refine va_calli (va_runV (As := [.int a0, .int a1, .int a2, .int a3, .int a4]) (rest := []) ⟨hx, hb, hml, hown, hts⟩ (c_Z_grow l htr dC dI ad ca N q4.2 a0 a1 a2 a3 a4 q8 h9 H.size) (vq_cV WSk hts 5 rfl rfl ⟨by decide, by decide⟩ k_239 k_226 k_629 k_630 k_631 (by decide +kernel)) ⟨vq_blind, va_recv hK hP (ci := 6) (q0 := 6) rfl rfl, vq_here hst hS hN hP hK hD⟩ rfl rfl hl.1 rfl (lv_room (Nat.le_of_ble_eq_true rfl)) d_V_node_70 ⟨by decide, by decide⟩) hS (fun q _ h => hFc q h) hFc (fun r u t H1 locs ht hvm hw hB hz1 hk1 hS => ?_)
        obtain ⟨hP, -, hD1⟩ := hB
        rw [ht] at hP
        have hD := hD1.weaken (fun _ _ _ h => hFc _ h)
        have hw : r = q8.1 := hw
        subst hw
        generalize H1 = H at hP hS ⊢
        refine W.widen (k := 0) (n := 0) (by decide) (by decide) ?_
        simp at h
      ·
        rw [if_pos hc7] at h
        have h9 : (0, q4.2) = v := by have h8 := Option.some.inj h; simp only [Prod.mk.injEq, true_and] at h8; exact Prod.ext h8.1 h8.2
        rw [← h9]
        have hws := vq_all WSk hts
        have hwu : ∀ u : State, u.vm = s.vm → s.WarmedH u.vm := fun u hu => by rw [hu]; exact State.WarmedH.refl s
        exact vq_throw2 (names := up_names) hx hb htr hown (by decide +kernel) (by decide +kernel) (fun u hu hsu => at_V_IllegalStateException (fun w hw => hws w hw _ u (hwu u hu)) hsu) hst (fun u hu => ⟨hws _ k_539 _ u (hwu u hu), hws _ k_540 _ u (hwu u hu), hws _ k_633 _ u (hwu u hu)⟩) hS hA hN hno hlocks (by decide) (hl.1.trans hml.symm) (fun t hz9 hk9 hW9 => ⟨hP.kept (fun k x hx9 => by have h7 := (hP k x hx9).lt; rw [Array.getElem?_eq_getElem h7]; exact hk9 _ _ (Array.getElem?_eq_getElem h7)), va_K.moved hW9.alike hK, hD⟩) d_V_node_49 d_V_node_52 d_V_node_53 d_V_node_55 d_V_node_58
    ·
      rw [if_pos hc6] at h
      exact J27 _ _ _ _ h (lv_sub hl [] rfl) hP hD hS

set_option maxHeartbeats 4000000 in
set_option maxRecDepth 100000 in
theorem c_V_fell (l : Launch) (htr : l.stackTraces = false) (dC : Nat → ClassId) (dI : Nat → Nat → Nat) (ad : Nat → Nat) (ca : Nat → ClassId) (N : Nat) (σ : vS) (v : Int32 × vS) (h : f_V_fell N σ = some v) (sz : Nat) : Met l y_V_fell WS ({ frames := 1, cells := 0, slots := 0, locals := 20 }) (va_Pc [.ref (ad 0)] (vq_Pre (dC, dI) CL sz (Xw ad ca σ) (Xt ca))) (va_Qv (fun _ : Unit => True) (fun _ t => vq_Post (dC, dI) CL (va_A (Xw ad ca σ) sz) (Xw ad ca v.2) (Xt ca) t) (va_A (Xw ad ca σ) sz)) 0 0 (va_A (Xw ad ca σ) sz) := by
  refine vq_ofW (cc := prog_1_method_11_code) (maxL := 1) (ret := (Option.none : Option Jvm.ClassFile.FieldType)) pl_V (vq_his k_634) ?_
  intro p e s m args below meth c s₁ B hml hv
  obtain ⟨rfl, hst, hsz, hP, hK, hD0⟩ := hv
  have hx := B.exec
  have hb := B.bytes
  have hr := B.returns
  have hts := atoms_spec (ws := WS) B.pre
  have hown : s.vm.findClass R_V = some m.cls := findClass_of_methodNamed B.named
  have hlocks := B.notSynchronized
  have hno := vq_noH B (hts _ k_634)
  subst hsz
  have hN := vq_ns hP
  have hD := hD0.self (sz := s.heap.size)
  generalize hAe : va_A (Xw ad ca σ) s.heap.size = A at hD hN ⊢
  have hA : ∀ q : Nat, s.heap.size ≤ q → A q := fun q h => by rw [← hAe]; exact Or.inr h
  have hS : va_S A s.heap s.heap [] := va_S.rf
  have hl := lv_entry ([.ref (ad 0)]) (n := 1) (Nat.le_of_ble_eq_true rfl)
  rw [lg_entry_eq]
  generalize (lg_sl ([.ref (ad 0)]) ++ List.replicate (1 - (lg_sl ([.ref (ad 0)])).length) Slot.unset).toArray = ls at hl ⊢
  have hl : lv_has ls 1 [(0, .ref (ad 0))] := hl
  unfold f_V_fell at h
  refine lv_aload_n hx hb d_V_fell_0 rfl (lv_at hl 0 rfl) ?_
  refine g_V_walk dC dI ad ca σ hx hb hts hown hK hP k_533 d_V_fell_1 ?_
  obtain ⟨q1, h2, h⟩ := vq_bi h
  have hFc := vq_freeAll hD hS hA
  refine va_callv (va_runV (As := []) (rest := []) ⟨hx, hb, hml, hown, hts⟩ (c_U_end l htr dC dI ad ca N σ q1 h2 s.heap.size) (vq_cV WSk hts 0 rfl rfl ⟨by decide, by decide⟩ k_262 k_279 k_534 k_535 k_536 (by decide +kernel)) ⟨vq_blind, va_recv hK hP (ci := 7) (q0 := 7) rfl rfl, vq_here hst hS hN hP hK hD⟩ rfl rfl hl.1 rfl (lv_room (Nat.le_of_ble_eq_true rfl)) d_V_fell_4 ⟨by decide, by decide⟩) hS (fun q _ h => hFc q h) hFc (fun u t H1 locs ht hvm hw hB hz1 hk1 hS => ?_)
  obtain ⟨hP, -, hD1⟩ := hB
  rw [ht] at hP
  have hD := hD1.weaken (fun _ _ _ h => hFc _ h)
  generalize H1 = H at hP hS ⊢
  refine W.widen (k := 0) (n := 0) (by decide) (by decide) ?_
  refine lv_aload_n hx hb d_V_fell_7 rfl (lv_at hl 0 rfl) ?_
  refine g_V_tree dC dI ad ca q1.2 hx hb hts hown hK hP k_543 d_V_fell_8 ?_
  obtain ⟨q3, h4, h⟩ := vq_bi h
  have hFc := vq_freeAll hD hS hA
  refine va_callv (va_runV (As := []) (rest := []) ⟨hx, hb, hml, hown, hts⟩ (c_Z_clear l htr dC dI ad ca N q1.2 q3 h4 H.size) (vq_cV WSk hts 0 rfl rfl ⟨by decide, by decide⟩ k_244 k_226 k_635 k_636 k_637 (by decide +kernel)) ⟨vq_blind, va_recv hK hP (ci := 6) (q0 := 6) rfl rfl, vq_here hst hS hN hP hK hD⟩ rfl rfl hl.1 rfl (lv_room (Nat.le_of_ble_eq_true rfl)) d_V_fell_11 ⟨by decide, by decide⟩) hS (fun q _ h => hFc q h) hFc (fun u t H1 locs ht hvm hw hB hz1 hk1 hS => ?_)
  obtain ⟨hP, -, hD1⟩ := hB
  rw [ht] at hP
  have hD := hD1.weaken (fun _ _ _ h => hFc _ h)
  generalize H1 = H at hP hS ⊢
  refine W.widen (k := 0) (n := 0) (by decide) (by decide) ?_
  have h9 := Option.some.inj h
  rw [← h9]
  exact W.vret hx hb hr (fun t ht hW => ⟨⟨(), rfl, trivial, by rw [ht]; exact hP, va_K.moved hW.alike hK, hD⟩, hS.F ht⟩) hS.2.2 d_V_fell_14

set_option maxHeartbeats 4000000 in
set_option maxRecDepth 100000 in
theorem c_V_give (l : Launch) (htr : l.stackTraces = false) (dC : Nat → ClassId) (dI : Nat → Nat → Nat) (ad : Nat → Nat) (ca : Nat → ClassId) (N : Nat) (σ : vS) (a0 : Int32) (a1 : Int32) (v : Int32 × vS) (h : f_V_give N σ a0 a1 = some ((0, v.1), v.2)) (sz : Nat) : Met l y_V_give WS ({ frames := 6, cells := 0, slots := 0, locals := 82 }) (va_Pc [.ref (ad 0), .int a0, .int a1] (vq_Pre (dC, dI) CL sz (Xw ad ca σ) (Xt ca))) (va_Qv (fun _ : Unit => True) (fun _ t => vq_Post (dC, dI) CL (va_A (Xw ad ca σ) sz) (Xw ad ca v.2) (Xt ca) t) (va_A (Xw ad ca σ) sz)) 0 0 (va_A (Xw ad ca σ) sz) := by
  refine vq_ofW (cc := prog_1_method_12_code) (maxL := 3) (ret := (Option.none : Option Jvm.ClassFile.FieldType)) pl_V (vq_his k_638) ?_
  intro p e s m args below meth c s₁ B hml hv
  obtain ⟨rfl, hst, hsz, hP, hK, hD0⟩ := hv
  have hx := B.exec
  have hb := B.bytes
  have hr := B.returns
  have hts := atoms_spec (ws := WS) B.pre
  have hown : s.vm.findClass R_V = some m.cls := findClass_of_methodNamed B.named
  have hlocks := B.notSynchronized
  have hno := vq_noH B (hts _ k_638)
  subst hsz
  have hN := vq_ns hP
  have hD := hD0.self (sz := s.heap.size)
  generalize hAe : va_A (Xw ad ca σ) s.heap.size = A at hD hN ⊢
  have hA : ∀ q : Nat, s.heap.size ≤ q → A q := fun q h => by rw [← hAe]; exact Or.inr h
  have hS : va_S A s.heap s.heap [] := va_S.rf
  have hl := lv_entry ([.ref (ad 0), .int a0, .int a1]) (n := 3) (Nat.le_of_ble_eq_true rfl)
  rw [lg_entry_eq]
  generalize (lg_sl ([.ref (ad 0), .int a0, .int a1]) ++ List.replicate (3 - (lg_sl ([.ref (ad 0), .int a0, .int a1])).length) Slot.unset).toArray = ls at hl ⊢
  have hl : lv_has ls 3 [(0, .ref (ad 0)), (1, .int a0), (2, .int a1)] := hl
  unfold f_V_give at h
  refine lv_iload_n hx hb d_V_give_0 rfl (lv_at hl 1 rfl) ?_
  have J9 : ∀ (τ : vS) (H : Heap) (locs : List Loc) (ls : Array Slot), f_V_give_9 N τ = some ((0, v.1), v.2) → lv_has ls 3 [] → va_P (dC, dI) CL (Xw ad ca τ) H → va_D A (Xw ad ca τ) → va_S A s.heap H locs → W p l e (headSpec WS ({ frames := 6, cells := 0, slots := 0, locals := 82 })).room s m ([.ref (ad 0), .int a0, .int a1] : List Value).toArray below meth c H locs 0 0 (MQ below (va_Qv (fun _ : Unit => True) (fun _ t => vq_Post (dC, dI) CL A (Xw ad ca v.2) (Xt ca) t) A) ([.ref (ad 0), .int a0, .int a1] : List Value).toArray s 0 0 A) (F0 m 9 ls []) := by
    intro τ H locs ls h hl hP hD hS
    unfold f_V_give_9 at h
    simp at h
  refine lv_if_lt (tgt := 9) hx hb d_V_give_1 (by decide) (fun hc1 => ?_) (fun hc1 => ?_)
  ·
    rw [if_pos hc1] at h
    exact J9 _ _ _ _ h (lv_sub hl [] rfl) hP hD hS
  ·
    rw [if_neg hc1] at h
    refine lv_iload_n hx hb d_V_give_4 rfl (lv_at hl 1 rfl) ?_
    refine lv_iconst (v := 4) hx hb d_V_give_5 (by decide) ?_
    refine lv_icmp_lt (tgt := 19) hx hb d_V_give_6 (by decide) (fun hc2 => ?_) (fun hc2 => ?_)
    ·
      rw [if_pos hc2] at h
      refine lv_aload_n hx hb d_V_give_19 rfl (lv_at hl 0 rfl) ?_
      refine g_V_walk dC dI ad ca σ hx hb hts hown hK hP k_533 d_V_give_20 ?_
      refine gN_U_given dC dI ad ca σ hx hb hts hown hK hP k_639 d_V_give_23 ?_
      refine lv_iload_n hx hb d_V_give_26 rfl (lv_at hl 1 rfl) ?_
      refine lv_iload_n hx hb d_V_give_27 rfl (lv_at hl 2 rfl) ?_
      obtain ⟨hi3, h⟩ := vq_bd h
      refine as_X23 dC dI ad ca σ hx hb hts hown hK hP hD hS hi3 d_V_give_28 (fun H locs hP hD hS => ?_)
      obtain ⟨σ4, eσ4, h⟩ := vq_let h
      rw [← eσ4] at hP hD
      have h9 : ((0 : Int32), σ4) = v := by have h8 := Option.some.inj h; simp only [Prod.mk.injEq, true_and] at h8; exact Prod.ext h8.1 h8.2
      rw [← h9]
      exact W.vret hx hb hr (fun t ht hW => ⟨⟨(), rfl, trivial, by rw [ht]; exact hP, va_K.moved hW.alike hK, hD⟩, hS.F ht⟩) hS.2.2 d_V_give_29
    ·
      rw [if_neg hc2] at h
      exact J9 _ _ _ _ h (lv_sub hl [] rfl) hP hD hS

set_option maxHeartbeats 4000000 in
set_option maxRecDepth 100000 in
theorem t_V_give_3 (l : Launch) (htr : l.stackTraces = false) (dC : Nat → ClassId) (dI : Nat → Nat → Nat) (ad : Nat → Nat) (ca : Nat → ClassId) (N : Nat) (σ : vS) (a0 : Int32) (a1 : Int32) (v : Int32 × vS) (h : f_V_give N σ a0 a1 = some ((3, v.1), v.2)) (sz : Nat) : vq_T2 l y_V_give WS ({ frames := 6, cells := 1, slots := 6, locals := 82 }) (va_Pc [.ref (ad 0), .int a0, .int a1] (vq_Pre (dC, dI) CL sz (Xw ad ca σ) (Xt ca))) "java/lang/IndexOutOfBoundsException" (va_A (Xw ad ca σ) sz) (fun t => vq_Post (dC, dI) CL (va_A (Xw ad ca σ) sz) (Xw ad ca v.2) (Xt ca) t) 1 6 := by
  refine vq_ofT2 (cc := prog_1_method_12_code) (maxL := 3) (ret := (Option.none : Option Jvm.ClassFile.FieldType)) pl_V (vq_his k_638) ?_
  intro p e s m args below meth c s₁ B hml hv
  obtain ⟨rfl, hst, hsz, hP, hK, hD0⟩ := hv
  have hx := B.exec
  have hb := B.bytes
  have hr := B.returns
  have hts := atoms_spec (ws := WS) B.pre
  have hown : s.vm.findClass R_V = some m.cls := findClass_of_methodNamed B.named
  have hlocks := B.notSynchronized
  have hno := vq_noH B (hts _ k_638)
  subst hsz
  have hN := vq_ns hP
  have hD := hD0.self (sz := s.heap.size)
  generalize hAe : va_A (Xw ad ca σ) s.heap.size = A at hD hN ⊢
  have hA : ∀ q : Nat, s.heap.size ≤ q → A q := fun q h => by rw [← hAe]; exact Or.inr h
  have hS : va_S A s.heap s.heap [] := va_S.rf
  have hl := lv_entry ([.ref (ad 0), .int a0, .int a1]) (n := 3) (Nat.le_of_ble_eq_true rfl)
  rw [lg_entry_eq]
  generalize (lg_sl ([.ref (ad 0), .int a0, .int a1]) ++ List.replicate (3 - (lg_sl ([.ref (ad 0), .int a0, .int a1])).length) Slot.unset).toArray = ls at hl ⊢
  have hl : lv_has ls 3 [(0, .ref (ad 0)), (1, .int a0), (2, .int a1)] := hl
  unfold f_V_give at h
  refine lv_iload_n hx hb d_V_give_0 rfl (lv_at hl 1 rfl) ?_
  have J9 : ∀ (τ : vS) (H : Heap) (locs : List Loc) (ls : Array Slot), f_V_give_9 N τ = some ((3, v.1), v.2) → lv_has ls 3 [] → va_P (dC, dI) CL (Xw ad ca τ) H → va_D A (Xw ad ca τ) → va_S A s.heap H locs → W p l e (headSpec WS ({ frames := 6, cells := 1, slots := 6, locals := 82 })).room s m ([.ref (ad 0), .int a0, .int a1] : List Value).toArray below meth c H locs 0 0 (vq_MQ2 below "java/lang/IndexOutOfBoundsException" A (fun t => vq_Post (dC, dI) CL A (Xw ad ca v.2) (Xt ca) t) s 1 6) (F0 m 9 ls []) := by
    intro τ H locs ls h hl hP hD hS
    unfold f_V_give_9 at h
    have h9 : (0, τ) = v := by have h8 := Option.some.inj h; simp only [Prod.mk.injEq, true_and] at h8; exact Prod.ext h8.1 h8.2
    rw [← h9]
    have hws := vq_all WSk hts
    have hwu : ∀ u : State, u.vm = s.vm → s.WarmedH u.vm := fun u hu => by rw [hu]; exact State.WarmedH.refl s
    exact vq_throw2 (names := up_names) hx hb htr hown (by decide +kernel) (by decide +kernel) (fun u hu hsu => at_V_IndexOutOfBoundsException (fun w hw => hws w hw _ u (hwu u hu)) hsu) hst (fun u hu => ⟨hws _ k_551 _ u (hwu u hu), hws _ k_552 _ u (hwu u hu), hws _ k_640 _ u (hwu u hu)⟩) hS hA hN hno hlocks (by decide) (hl.1.trans hml.symm) (fun t hz9 hk9 hW9 => ⟨hP.kept (fun k x hx9 => by have h7 := (hP k x hx9).lt; rw [Array.getElem?_eq_getElem h7]; exact hk9 _ _ (Array.getElem?_eq_getElem h7)), va_K.moved hW9.alike hK, hD⟩) d_V_give_9 d_V_give_12 d_V_give_13 d_V_give_15 d_V_give_18
  refine lv_if_lt (tgt := 9) hx hb d_V_give_1 (by decide) (fun hc1 => ?_) (fun hc1 => ?_)
  ·
    rw [if_pos hc1] at h
    exact J9 _ _ _ _ h (lv_sub hl [] rfl) hP hD hS
  ·
    rw [if_neg hc1] at h
    refine lv_iload_n hx hb d_V_give_4 rfl (lv_at hl 1 rfl) ?_
    refine lv_iconst (v := 4) hx hb d_V_give_5 (by decide) ?_
    refine lv_icmp_lt (tgt := 19) hx hb d_V_give_6 (by decide) (fun hc2 => ?_) (fun hc2 => ?_)
    ·
      rw [if_pos hc2] at h
      refine lv_aload_n hx hb d_V_give_19 rfl (lv_at hl 0 rfl) ?_
      refine g_V_walk dC dI ad ca σ hx hb hts hown hK hP k_533 d_V_give_20 ?_
      refine gN_U_given dC dI ad ca σ hx hb hts hown hK hP k_639 d_V_give_23 ?_
      refine lv_iload_n hx hb d_V_give_26 rfl (lv_at hl 1 rfl) ?_
      refine lv_iload_n hx hb d_V_give_27 rfl (lv_at hl 2 rfl) ?_
      obtain ⟨hi3, h⟩ := vq_bd h
      refine as_X23 dC dI ad ca σ hx hb hts hown hK hP hD hS hi3 d_V_give_28 (fun H locs hP hD hS => ?_)
      obtain ⟨σ4, eσ4, h⟩ := vq_let h
      rw [← eσ4] at hP hD
      simp at h
    ·
      rw [if_neg hc2] at h
      exact J9 _ _ _ _ h (lv_sub hl [] rfl) hP hD hS

set_option maxHeartbeats 4000000 in
set_option maxRecDepth 100000 in
theorem c_V_start (l : Launch) (htr : l.stackTraces = false) (dC : Nat → ClassId) (dI : Nat → Nat → Nat) (ad : Nat → Nat) (ca : Nat → ClassId) (N : Nat) (σ : vS) (a0 : Int32) (v : Int32 × vS) (h : f_V_start N σ a0 = some ((0, v.1), v.2)) (sz : Nat) : Met l y_V_start WS ({ frames := 7, cells := 0, slots := 0, locals := 102 }) (va_Pc [.ref (ad 0), .int a0] (vq_Pre (dC, dI) CL sz (Xw ad ca σ) (Xt ca))) (va_Qv (fun _ : Unit => True) (fun _ t => vq_Post (dC, dI) CL (va_A (Xw ad ca σ) sz) (Xw ad ca v.2) (Xt ca) t) (va_A (Xw ad ca σ) sz)) 0 0 (va_A (Xw ad ca σ) sz) := by
  refine vq_ofW (cc := prog_1_method_13_code) (maxL := 2) (ret := (Option.none : Option Jvm.ClassFile.FieldType)) pl_V (vq_his k_641) ?_
  intro p e s m args below meth c s₁ B hml hv
  obtain ⟨rfl, hst, hsz, hP, hK, hD0⟩ := hv
  have hx := B.exec
  have hb := B.bytes
  have hr := B.returns
  have hts := atoms_spec (ws := WS) B.pre
  have hown : s.vm.findClass R_V = some m.cls := findClass_of_methodNamed B.named
  have hlocks := B.notSynchronized
  have hno := vq_noH B (hts _ k_641)
  subst hsz
  have hN := vq_ns hP
  have hD := hD0.self (sz := s.heap.size)
  generalize hAe : va_A (Xw ad ca σ) s.heap.size = A at hD hN ⊢
  have hA : ∀ q : Nat, s.heap.size ≤ q → A q := fun q h => by rw [← hAe]; exact Or.inr h
  have hS : va_S A s.heap s.heap [] := va_S.rf
  have hl := lv_entry ([.ref (ad 0), .int a0]) (n := 2) (Nat.le_of_ble_eq_true rfl)
  rw [lg_entry_eq]
  generalize (lg_sl ([.ref (ad 0), .int a0]) ++ List.replicate (2 - (lg_sl ([.ref (ad 0), .int a0])).length) Slot.unset).toArray = ls at hl ⊢
  have hl : lv_has ls 2 [(0, .ref (ad 0)), (1, .int a0)] := hl
  unfold f_V_start at h
  refine lv_aload_n hx hb d_V_start_0 rfl (lv_at hl 0 rfl) ?_
  obtain ⟨q1, h2, h⟩ := vq_bi h
  have hFc := vq_freeAll hD hS hA
  have hkd := kd_V_requireAnalysis h2
  by_cases hz3 : q1.1.1 = 0
  ·
    rw [if_pos hz3] at h
    have h2 : f_V_requireAnalysis N σ = some ((0, q1.1.2), q1.2) := by rw [h2, ← hz3]
    refine va_callv (va_runV (As := []) (rest := []) ⟨hx, hb, hml, hown, hts⟩ (c_V_requireAnalysis l htr dC dI ad ca N σ (q1.1.2, q1.2) h2 s.heap.size) (vq_cV WSk hts 0 rfl rfl ⟨by decide, by decide⟩ k_537 k_22 k_612 k_613 k_614 (by decide +kernel)) ⟨vq_blind, va_recv hK hP (ci := 0) (q0 := 0) rfl rfl, vq_here hst hS hN hP hK hD⟩ rfl rfl hl.1 rfl (lv_room (Nat.le_of_ble_eq_true rfl)) d_V_start_1 ⟨by decide, by decide⟩) hS (fun q _ h => hFc q h) hFc (fun u t H1 locs ht hvm hw hB hz1 hk1 hS => ?_)
    obtain ⟨hP, -, hD1⟩ := hB
    rw [ht] at hP
    have hD := hD1.weaken (fun _ _ _ h => hFc _ h)
    generalize H1 = H at hP hS ⊢
    refine W.widen (k := 0) (n := 0) (by decide) (by decide) ?_
    refine lv_aload_n hx hb d_V_start_4 rfl (lv_at hl 0 rfl) ?_
    refine g_V_tree dC dI ad ca q1.2 hx hb hts hown hK hP k_543 d_V_start_5 ?_
    refine lv_iload_n hx hb d_V_start_8 rfl (lv_at hl 1 rfl) ?_
    obtain ⟨q4, h5, h⟩ := vq_bi h
    have hFc := vq_freeAll hD hS hA
    refine va_calli (va_runV (As := [.int a0]) (rest := []) ⟨hx, hb, hml, hown, hts⟩ (c_Z_hasNode l htr dC dI ad ca N q1.2 a0 q4 h5 H.size) (vq_cV WSk hts 1 rfl rfl ⟨by decide, by decide⟩ k_216 k_226 k_544 k_228 k_229 (by decide +kernel)) ⟨vq_blind, va_recv hK hP (ci := 6) (q0 := 6) rfl rfl, vq_here hst hS hN hP hK hD⟩ rfl rfl hl.1 rfl (lv_room (Nat.le_of_ble_eq_true rfl)) d_V_start_9 ⟨by decide, by decide⟩) hS (fun q _ h => hFc q h) hFc (fun r u t H1 locs ht hvm hw hB hz1 hk1 hS => ?_)
    obtain ⟨hP, -, hD1⟩ := hB
    rw [ht] at hP
    have hD := hD1.weaken (fun _ _ _ h => hFc _ h)
    have hw : r = q4.1 := hw
    subst hw
    generalize H1 = H at hP hS ⊢
    refine W.widen (k := 0) (n := 0) (by decide) (by decide) ?_
    refine lv_if_ne (tgt := 25) hx hb d_V_start_12 (by decide) (fun hc6 => ?_) (fun hc6 => ?_)
    ·
      rw [if_neg hc6] at h
      refine lv_aload_n hx hb d_V_start_25 rfl (lv_at hl 0 rfl) ?_
      refine g_V_walk dC dI ad ca q4.2 hx hb hts hown hK hP k_533 d_V_start_26 ?_
      refine lv_iload_n hx hb d_V_start_29 rfl (lv_at hl 1 rfl) ?_
      obtain ⟨q7, h8, h⟩ := vq_bi h
      have hFc := vq_freeAll hD hS hA
      refine va_callv (va_runV (As := [.int a0]) (rest := []) ⟨hx, hb, hml, hown, hts⟩ (c_U_begin l htr dC dI ad ca N q4.2 a0 q7 h8 H.size) (vq_cV WSk hts 1 rfl rfl ⟨by decide, by decide⟩ k_245 k_279 k_642 k_643 k_644 (by decide +kernel)) ⟨vq_blind, va_recv hK hP (ci := 7) (q0 := 7) rfl rfl, vq_here hst hS hN hP hK hD⟩ rfl rfl hl.1 rfl (lv_room (Nat.le_of_ble_eq_true rfl)) d_V_start_30 ⟨by decide, by decide⟩) hS (fun q _ h => hFc q h) hFc (fun u t H1 locs ht hvm hw hB hz1 hk1 hS => ?_)
      obtain ⟨hP, -, hD1⟩ := hB
      rw [ht] at hP
      have hD := hD1.weaken (fun _ _ _ h => hFc _ h)
      generalize H1 = H at hP hS ⊢
      refine W.widen (k := 0) (n := 0) (by decide) (by decide) ?_
      have h9 : ((0 : Int32), q7.2) = v := by have h8 := Option.some.inj h; simp only [Prod.mk.injEq, true_and] at h8; exact Prod.ext h8.1 h8.2
      rw [← h9]
      exact W.vret hx hb hr (fun t ht hW => ⟨⟨(), rfl, trivial, by rw [ht]; exact hP, va_K.moved hW.alike hK, hD⟩, hS.F ht⟩) hS.2.2 d_V_start_33
    ·
      rw [if_pos hc6] at h
      simp at h
  ·
    rw [if_neg hz3] at h
    have h2 : f_V_requireAnalysis N σ = some ((2, q1.1.2), q1.2) := by rw [h2, ← hkd.resolve_left hz3]
    simp at h

set_option maxHeartbeats 4000000 in
set_option maxRecDepth 100000 in
theorem t_V_start_2 (l : Launch) (htr : l.stackTraces = false) (dC : Nat → ClassId) (dI : Nat → Nat → Nat) (ad : Nat → Nat) (ca : Nat → ClassId) (N : Nat) (σ : vS) (a0 : Int32) (v : Int32 × vS) (h : f_V_start N σ a0 = some ((2, v.1), v.2)) (sz : Nat) : vq_T2 l y_V_start WS ({ frames := 7, cells := 1, slots := 6, locals := 102 }) (va_Pc [.ref (ad 0), .int a0] (vq_Pre (dC, dI) CL sz (Xw ad ca σ) (Xt ca))) "java/lang/IllegalStateException" (va_A (Xw ad ca σ) sz) (fun t => vq_Post (dC, dI) CL (va_A (Xw ad ca σ) sz) (Xw ad ca v.2) (Xt ca) t) 1 6 := by
  refine vq_ofT2 (cc := prog_1_method_13_code) (maxL := 2) (ret := (Option.none : Option Jvm.ClassFile.FieldType)) pl_V (vq_his k_641) ?_
  intro p e s m args below meth c s₁ B hml hv
  obtain ⟨rfl, hst, hsz, hP, hK, hD0⟩ := hv
  have hx := B.exec
  have hb := B.bytes
  have hr := B.returns
  have hts := atoms_spec (ws := WS) B.pre
  have hown : s.vm.findClass R_V = some m.cls := findClass_of_methodNamed B.named
  have hlocks := B.notSynchronized
  have hno := vq_noH B (hts _ k_641)
  subst hsz
  have hN := vq_ns hP
  have hD := hD0.self (sz := s.heap.size)
  generalize hAe : va_A (Xw ad ca σ) s.heap.size = A at hD hN ⊢
  have hA : ∀ q : Nat, s.heap.size ≤ q → A q := fun q h => by rw [← hAe]; exact Or.inr h
  have hS : va_S A s.heap s.heap [] := va_S.rf
  have hl := lv_entry ([.ref (ad 0), .int a0]) (n := 2) (Nat.le_of_ble_eq_true rfl)
  rw [lg_entry_eq]
  generalize (lg_sl ([.ref (ad 0), .int a0]) ++ List.replicate (2 - (lg_sl ([.ref (ad 0), .int a0])).length) Slot.unset).toArray = ls at hl ⊢
  have hl : lv_has ls 2 [(0, .ref (ad 0)), (1, .int a0)] := hl
  unfold f_V_start at h
  refine lv_aload_n hx hb d_V_start_0 rfl (lv_at hl 0 rfl) ?_
  obtain ⟨q1, h2, h⟩ := vq_bi h
  have hFc := vq_freeAll hD hS hA
  have hkd := kd_V_requireAnalysis h2
  by_cases hz3 : q1.1.1 = 0
  ·
    rw [if_pos hz3] at h
    have h2 : f_V_requireAnalysis N σ = some ((0, q1.1.2), q1.2) := by rw [h2, ← hz3]
    refine va_callv (va_runV (As := []) (rest := []) ⟨hx, hb, hml, hown, hts⟩ (c_V_requireAnalysis l htr dC dI ad ca N σ (q1.1.2, q1.2) h2 s.heap.size) (vq_cV WSk hts 0 rfl rfl ⟨by decide, by decide⟩ k_537 k_22 k_612 k_613 k_614 (by decide +kernel)) ⟨vq_blind, va_recv hK hP (ci := 0) (q0 := 0) rfl rfl, vq_here hst hS hN hP hK hD⟩ rfl rfl hl.1 rfl (lv_room (Nat.le_of_ble_eq_true rfl)) d_V_start_1 ⟨by decide, by decide⟩) hS (fun q _ h => hFc q h) hFc (fun u t H1 locs ht hvm hw hB hz1 hk1 hS => ?_)
    obtain ⟨hP, -, hD1⟩ := hB
    rw [ht] at hP
    have hD := hD1.weaken (fun _ _ _ h => hFc _ h)
    generalize H1 = H at hP hS ⊢
    refine W.widen (k := 0) (n := 0) (by decide) (by decide) ?_
    refine lv_aload_n hx hb d_V_start_4 rfl (lv_at hl 0 rfl) ?_
    refine g_V_tree dC dI ad ca q1.2 hx hb hts hown hK hP k_543 d_V_start_5 ?_
    refine lv_iload_n hx hb d_V_start_8 rfl (lv_at hl 1 rfl) ?_
    obtain ⟨q4, h5, h⟩ := vq_bi h
    have hFc := vq_freeAll hD hS hA
    refine va_calli (va_runV (As := [.int a0]) (rest := []) ⟨hx, hb, hml, hown, hts⟩ (c_Z_hasNode l htr dC dI ad ca N q1.2 a0 q4 h5 H.size) (vq_cV WSk hts 1 rfl rfl ⟨by decide, by decide⟩ k_216 k_226 k_544 k_228 k_229 (by decide +kernel)) ⟨vq_blind, va_recv hK hP (ci := 6) (q0 := 6) rfl rfl, vq_here hst hS hN hP hK hD⟩ rfl rfl hl.1 rfl (lv_room (Nat.le_of_ble_eq_true rfl)) d_V_start_9 ⟨by decide, by decide⟩) hS (fun q _ h => hFc q h) hFc (fun r u t H1 locs ht hvm hw hB hz1 hk1 hS => ?_)
    obtain ⟨hP, -, hD1⟩ := hB
    rw [ht] at hP
    have hD := hD1.weaken (fun _ _ _ h => hFc _ h)
    have hw : r = q4.1 := hw
    subst hw
    generalize H1 = H at hP hS ⊢
    refine W.widen (k := 0) (n := 0) (by decide) (by decide) ?_
    refine lv_if_ne (tgt := 25) hx hb d_V_start_12 (by decide) (fun hc6 => ?_) (fun hc6 => ?_)
    ·
      rw [if_neg hc6] at h
      refine lv_aload_n hx hb d_V_start_25 rfl (lv_at hl 0 rfl) ?_
      refine g_V_walk dC dI ad ca q4.2 hx hb hts hown hK hP k_533 d_V_start_26 ?_
      refine lv_iload_n hx hb d_V_start_29 rfl (lv_at hl 1 rfl) ?_
      obtain ⟨q7, h8, h⟩ := vq_bi h
      have hFc := vq_freeAll hD hS hA
      refine va_callv (va_runV (As := [.int a0]) (rest := []) ⟨hx, hb, hml, hown, hts⟩ (c_U_begin l htr dC dI ad ca N q4.2 a0 q7 h8 H.size) (vq_cV WSk hts 1 rfl rfl ⟨by decide, by decide⟩ k_245 k_279 k_642 k_643 k_644 (by decide +kernel)) ⟨vq_blind, va_recv hK hP (ci := 7) (q0 := 7) rfl rfl, vq_here hst hS hN hP hK hD⟩ rfl rfl hl.1 rfl (lv_room (Nat.le_of_ble_eq_true rfl)) d_V_start_30 ⟨by decide, by decide⟩) hS (fun q _ h => hFc q h) hFc (fun u t H1 locs ht hvm hw hB hz1 hk1 hS => ?_)
      obtain ⟨hP, -, hD1⟩ := hB
      rw [ht] at hP
      have hD := hD1.weaken (fun _ _ _ h => hFc _ h)
      generalize H1 = H at hP hS ⊢
      refine W.widen (k := 0) (n := 0) (by decide) (by decide) ?_
      simp at h
    ·
      rw [if_pos hc6] at h
      simp at h
  ·
    rw [if_neg hz3] at h
    have h2 : f_V_requireAnalysis N σ = some ((2, q1.1.2), q1.2) := by rw [h2, ← hkd.resolve_left hz3]
    have h9 : (q1.1.2, q1.2) = v := by have h8 := Option.some.inj h; simp only [Prod.mk.injEq, true_and] at h8; exact Prod.ext h8.1 h8.2
    rw [← h9]
    exact vq_pass2 (vq_runT2 (As := []) (rest := []) ⟨hx, hb, hml, hown, hts⟩ (t_V_requireAnalysis_2 l htr dC dI ad ca N σ (q1.1.2, q1.2) h2 s.heap.size) (vq_cV WSk hts 0 rfl rfl ⟨by decide, by decide⟩ k_537 k_22 k_612 k_613 k_614 (by decide +kernel)) ⟨vq_blind, va_recv hK hP (ci := 0) (q0 := 0) rfl rfl, vq_here hst hS hN hP hK hD⟩ rfl rfl hl.1 rfl (lv_room (Nat.le_of_ble_eq_true rfl)) d_V_start_1 ⟨by decide, by decide⟩) hS hFc hno hlocks (by decide) (by decide) (fun t t2 hh ha hb9 hB9 => ⟨by rw [← hh]; exact hB9.1, va_K.moved hb9 hK, hB9.2.2.weaken (fun _ _ _ h => hFc _ h)⟩)

set_option maxHeartbeats 4000000 in
set_option maxRecDepth 100000 in
theorem t_V_start_3 (l : Launch) (htr : l.stackTraces = false) (dC : Nat → ClassId) (dI : Nat → Nat → Nat) (ad : Nat → Nat) (ca : Nat → ClassId) (N : Nat) (σ : vS) (a0 : Int32) (v : Int32 × vS) (h : f_V_start N σ a0 = some ((3, v.1), v.2)) (sz : Nat) : vq_T2 l y_V_start WS ({ frames := 7, cells := 1, slots := 6, locals := 102 }) (va_Pc [.ref (ad 0), .int a0] (vq_Pre (dC, dI) CL sz (Xw ad ca σ) (Xt ca))) "java/lang/IndexOutOfBoundsException" (va_A (Xw ad ca σ) sz) (fun t => vq_Post (dC, dI) CL (va_A (Xw ad ca σ) sz) (Xw ad ca v.2) (Xt ca) t) 1 6 := by
  refine vq_ofT2 (cc := prog_1_method_13_code) (maxL := 2) (ret := (Option.none : Option Jvm.ClassFile.FieldType)) pl_V (vq_his k_641) ?_
  intro p e s m args below meth c s₁ B hml hv
  obtain ⟨rfl, hst, hsz, hP, hK, hD0⟩ := hv
  have hx := B.exec
  have hb := B.bytes
  have hr := B.returns
  have hts := atoms_spec (ws := WS) B.pre
  have hown : s.vm.findClass R_V = some m.cls := findClass_of_methodNamed B.named
  have hlocks := B.notSynchronized
  have hno := vq_noH B (hts _ k_641)
  subst hsz
  have hN := vq_ns hP
  have hD := hD0.self (sz := s.heap.size)
  generalize hAe : va_A (Xw ad ca σ) s.heap.size = A at hD hN ⊢
  have hA : ∀ q : Nat, s.heap.size ≤ q → A q := fun q h => by rw [← hAe]; exact Or.inr h
  have hS : va_S A s.heap s.heap [] := va_S.rf
  have hl := lv_entry ([.ref (ad 0), .int a0]) (n := 2) (Nat.le_of_ble_eq_true rfl)
  rw [lg_entry_eq]
  generalize (lg_sl ([.ref (ad 0), .int a0]) ++ List.replicate (2 - (lg_sl ([.ref (ad 0), .int a0])).length) Slot.unset).toArray = ls at hl ⊢
  have hl : lv_has ls 2 [(0, .ref (ad 0)), (1, .int a0)] := hl
  unfold f_V_start at h
  refine lv_aload_n hx hb d_V_start_0 rfl (lv_at hl 0 rfl) ?_
  obtain ⟨q1, h2, h⟩ := vq_bi h
  have hFc := vq_freeAll hD hS hA
  have hkd := kd_V_requireAnalysis h2
  by_cases hz3 : q1.1.1 = 0
  ·
    rw [if_pos hz3] at h
    have h2 : f_V_requireAnalysis N σ = some ((0, q1.1.2), q1.2) := by rw [h2, ← hz3]
    refine va_callv (va_runV (As := []) (rest := []) ⟨hx, hb, hml, hown, hts⟩ (c_V_requireAnalysis l htr dC dI ad ca N σ (q1.1.2, q1.2) h2 s.heap.size) (vq_cV WSk hts 0 rfl rfl ⟨by decide, by decide⟩ k_537 k_22 k_612 k_613 k_614 (by decide +kernel)) ⟨vq_blind, va_recv hK hP (ci := 0) (q0 := 0) rfl rfl, vq_here hst hS hN hP hK hD⟩ rfl rfl hl.1 rfl (lv_room (Nat.le_of_ble_eq_true rfl)) d_V_start_1 ⟨by decide, by decide⟩) hS (fun q _ h => hFc q h) hFc (fun u t H1 locs ht hvm hw hB hz1 hk1 hS => ?_)
    obtain ⟨hP, -, hD1⟩ := hB
    rw [ht] at hP
    have hD := hD1.weaken (fun _ _ _ h => hFc _ h)
    generalize H1 = H at hP hS ⊢
    refine W.widen (k := 0) (n := 0) (by decide) (by decide) ?_
    refine lv_aload_n hx hb d_V_start_4 rfl (lv_at hl 0 rfl) ?_
    refine g_V_tree dC dI ad ca q1.2 hx hb hts hown hK hP k_543 d_V_start_5 ?_
    refine lv_iload_n hx hb d_V_start_8 rfl (lv_at hl 1 rfl) ?_
    obtain ⟨q4, h5, h⟩ := vq_bi h
    have hFc := vq_freeAll hD hS hA
    refine va_calli (va_runV (As := [.int a0]) (rest := []) ⟨hx, hb, hml, hown, hts⟩ (c_Z_hasNode l htr dC dI ad ca N q1.2 a0 q4 h5 H.size) (vq_cV WSk hts 1 rfl rfl ⟨by decide, by decide⟩ k_216 k_226 k_544 k_228 k_229 (by decide +kernel)) ⟨vq_blind, va_recv hK hP (ci := 6) (q0 := 6) rfl rfl, vq_here hst hS hN hP hK hD⟩ rfl rfl hl.1 rfl (lv_room (Nat.le_of_ble_eq_true rfl)) d_V_start_9 ⟨by decide, by decide⟩) hS (fun q _ h => hFc q h) hFc (fun r u t H1 locs ht hvm hw hB hz1 hk1 hS => ?_)
    obtain ⟨hP, -, hD1⟩ := hB
    rw [ht] at hP
    have hD := hD1.weaken (fun _ _ _ h => hFc _ h)
    have hw : r = q4.1 := hw
    subst hw
    generalize H1 = H at hP hS ⊢
    refine W.widen (k := 0) (n := 0) (by decide) (by decide) ?_
    refine lv_if_ne (tgt := 25) hx hb d_V_start_12 (by decide) (fun hc6 => ?_) (fun hc6 => ?_)
    ·
      rw [if_neg hc6] at h
      refine lv_aload_n hx hb d_V_start_25 rfl (lv_at hl 0 rfl) ?_
      refine g_V_walk dC dI ad ca q4.2 hx hb hts hown hK hP k_533 d_V_start_26 ?_
      refine lv_iload_n hx hb d_V_start_29 rfl (lv_at hl 1 rfl) ?_
      obtain ⟨q7, h8, h⟩ := vq_bi h
      have hFc := vq_freeAll hD hS hA
      refine va_callv (va_runV (As := [.int a0]) (rest := []) ⟨hx, hb, hml, hown, hts⟩ (c_U_begin l htr dC dI ad ca N q4.2 a0 q7 h8 H.size) (vq_cV WSk hts 1 rfl rfl ⟨by decide, by decide⟩ k_245 k_279 k_642 k_643 k_644 (by decide +kernel)) ⟨vq_blind, va_recv hK hP (ci := 7) (q0 := 7) rfl rfl, vq_here hst hS hN hP hK hD⟩ rfl rfl hl.1 rfl (lv_room (Nat.le_of_ble_eq_true rfl)) d_V_start_30 ⟨by decide, by decide⟩) hS (fun q _ h => hFc q h) hFc (fun u t H1 locs ht hvm hw hB hz1 hk1 hS => ?_)
      obtain ⟨hP, -, hD1⟩ := hB
      rw [ht] at hP
      have hD := hD1.weaken (fun _ _ _ h => hFc _ h)
      generalize H1 = H at hP hS ⊢
      refine W.widen (k := 0) (n := 0) (by decide) (by decide) ?_
      simp at h
    ·
      rw [if_pos hc6] at h
      have h9 : (0, q4.2) = v := by have h8 := Option.some.inj h; simp only [Prod.mk.injEq, true_and] at h8; exact Prod.ext h8.1 h8.2
      rw [← h9]
      have hws := vq_all WSk hts
      have hwu : ∀ u : State, u.vm = s.vm → s.WarmedH u.vm := fun u hu => by rw [hu]; exact State.WarmedH.refl s
      exact vq_throw2 (names := up_names) hx hb htr hown (by decide +kernel) (by decide +kernel) (fun u hu hsu => at_V_IndexOutOfBoundsException (fun w hw => hws w hw _ u (hwu u hu)) hsu) hst (fun u hu => ⟨hws _ k_551 _ u (hwu u hu), hws _ k_552 _ u (hwu u hu), hws _ k_645 _ u (hwu u hu)⟩) hS hA hN hno hlocks (by decide) (hl.1.trans hml.symm) (fun t hz9 hk9 hW9 => ⟨hP.kept (fun k x hx9 => by have h7 := (hP k x hx9).lt; rw [Array.getElem?_eq_getElem h7]; exact hk9 _ _ (Array.getElem?_eq_getElem h7)), va_K.moved hW9.alike hK, hD⟩) d_V_start_15 d_V_start_18 d_V_start_19 d_V_start_21 d_V_start_24
  ·
    rw [if_neg hz3] at h
    have h2 : f_V_requireAnalysis N σ = some ((2, q1.1.2), q1.2) := by rw [h2, ← hkd.resolve_left hz3]
    simp at h

set_option maxHeartbeats 4000000 in
set_option maxRecDepth 100000 in
theorem c_V_run (l : Launch) (htr : l.stackTraces = false) (dC : Nat → ClassId) (dI : Nat → Nat → Nat) (ad : Nat → Nat) (ca : Nat → ClassId) (N : Nat) (σ : vS) (a0 : Int32) (v : Int32 × vS) (h : f_V_run N σ a0 = some ((0, v.1), v.2)) (sz : Nat) : Met l y_V_run WS ({ frames := 6, cells := 0, slots := 0, locals := 111 }) (va_Pc [.ref (ad 0), .int a0] (vq_Pre (dC, dI) CL sz (Xw ad ca σ) (Xt ca))) (va_Qi (fun (r : Int32) (_ : Unit) => r = v.1) (fun _ t => vq_Post (dC, dI) CL (va_A (Xw ad ca σ) sz) (Xw ad ca v.2) (Xt ca) t) (va_A (Xw ad ca σ) sz)) 0 0 (va_A (Xw ad ca σ) sz) := by
  refine vq_ofW (cc := prog_1_method_14_code) (maxL := 2) (ret := (Option.some Jvm.ClassFile.FieldType.int)) pl_V (vq_his k_646) ?_
  intro p e s m args below meth c s₁ B hml hv
  obtain ⟨rfl, hst, hsz, hP, hK, hD0⟩ := hv
  have hx := B.exec
  have hb := B.bytes
  have hr := B.returns
  have hts := atoms_spec (ws := WS) B.pre
  have hown : s.vm.findClass R_V = some m.cls := findClass_of_methodNamed B.named
  have hlocks := B.notSynchronized
  have hno := vq_noH B (hts _ k_646)
  subst hsz
  have hN := vq_ns hP
  have hD := hD0.self (sz := s.heap.size)
  generalize hAe : va_A (Xw ad ca σ) s.heap.size = A at hD hN ⊢
  have hA : ∀ q : Nat, s.heap.size ≤ q → A q := fun q h => by rw [← hAe]; exact Or.inr h
  have hS : va_S A s.heap s.heap [] := va_S.rf
  have hl := lv_entry ([.ref (ad 0), .int a0]) (n := 2) (Nat.le_of_ble_eq_true rfl)
  rw [lg_entry_eq]
  generalize (lg_sl ([.ref (ad 0), .int a0]) ++ List.replicate (2 - (lg_sl ([.ref (ad 0), .int a0])).length) Slot.unset).toArray = ls at hl ⊢
  have hl : lv_has ls 2 [(0, .ref (ad 0)), (1, .int a0)] := hl
  unfold f_V_run at h
  refine lv_iload_n hx hb d_V_run_0 rfl (lv_at hl 1 rfl) ?_
  have J11 : ∀ (τ : vS) (H : Heap) (locs : List Loc) (ls : Array Slot), f_V_run_11 N τ = some ((0, v.1), v.2) → lv_has ls 2 [] → va_P (dC, dI) CL (Xw ad ca τ) H → va_D A (Xw ad ca τ) → va_S A s.heap H locs → W p l e (headSpec WS ({ frames := 6, cells := 0, slots := 0, locals := 111 })).room s m ([.ref (ad 0), .int a0] : List Value).toArray below meth c H locs 0 0 (MQ below (va_Qi (fun (r : Int32) (_ : Unit) => r = v.1) (fun _ t => vq_Post (dC, dI) CL A (Xw ad ca v.2) (Xt ca) t) A) ([.ref (ad 0), .int a0] : List Value).toArray s 0 0 A) (F0 m 11 ls []) := by
    intro τ H locs ls h hl hP hD hS
    unfold f_V_run_11 at h
    simp at h
  refine lv_if_lt (tgt := 11) hx hb d_V_run_1 (by decide) (fun hc1 => ?_) (fun hc1 => ?_)
  ·
    rw [if_pos hc1] at h
    exact J11 _ _ _ _ h (lv_sub hl [] rfl) hP hD hS
  ·
    rw [if_neg hc1] at h
    refine lv_iload_n hx hb d_V_run_4 rfl (lv_at hl 1 rfl) ?_
    refine lv_sipush (v := 500) hx hb d_V_run_5 (by decide) ?_
    refine lv_icmp_le (tgt := 21) hx hb d_V_run_8 (by decide) (fun hc2 => ?_) (fun hc2 => ?_)
    ·
      rw [if_pos hc2] at h
      refine lv_aload_n hx hb d_V_run_21 rfl (lv_at hl 0 rfl) ?_
      refine g_V_walk dC dI ad ca σ hx hb hts hown hK hP k_533 d_V_run_22 ?_
      refine gN_U_state dC dI ad ca σ hx hb hts hown hK hP k_647 d_V_run_25 ?_
      refine lv_if_ne (tgt := 41) hx hb d_V_run_28 (by decide) (fun hc3 => ?_) (fun hc3 => ?_)
      ·
        rw [if_neg hc3] at h
        refine lv_aload_n hx hb d_V_run_41 rfl (lv_at hl 0 rfl) ?_
        refine g_V_walk dC dI ad ca σ hx hb hts hown hK hP k_533 d_V_run_42 ?_
        refine lv_iload_n hx hb d_V_run_45 rfl (lv_at hl 1 rfl) ?_
        obtain ⟨q4, h5, h⟩ := vq_bi h
        have hFc := vq_freeAll hD hS hA
        refine va_calli (va_runV (As := [.int a0]) (rest := []) ⟨hx, hb, hml, hown, hts⟩ (c_U_advance l htr dC dI ad ca N σ a0 q4 h5 s.heap.size) (vq_cV WSk hts 1 rfl rfl ⟨by decide, by decide⟩ k_298 k_279 k_648 k_649 k_650 (by decide +kernel)) ⟨vq_blind, va_recv hK hP (ci := 7) (q0 := 7) rfl rfl, vq_here hst hS hN hP hK hD⟩ rfl rfl hl.1 rfl (lv_room (Nat.le_of_ble_eq_true rfl)) d_V_run_46 ⟨by decide, by decide⟩) hS (fun q _ h => hFc q h) hFc (fun r u t H1 locs ht hvm hw hB hz1 hk1 hS => ?_)
        obtain ⟨hP, -, hD1⟩ := hB
        rw [ht] at hP
        have hD := hD1.weaken (fun _ _ _ h => hFc _ h)
        have hw : r = q4.1 := hw
        subst hw
        generalize H1 = H at hP hS ⊢
        refine W.widen (k := 0) (n := 0) (by decide) (by decide) ?_
        have h9 : ((q4.1), q4.2) = v := by have h8 := Option.some.inj h; simp only [Prod.mk.injEq, true_and] at h8; exact Prod.ext h8.1 h8.2
        rw [← h9]
        exact W.iret (v := (q4.1)) hx hb hr (fun t ht hW => ⟨⟨(q4.1), (), rfl, rfl, by rw [ht]; exact hP, va_K.moved hW.alike hK, hD⟩, hS.F ht⟩) hS.2.2 d_V_run_49
      ·
        rw [if_pos hc3] at h
        simp at h
    ·
      rw [if_neg hc2] at h
      exact J11 _ _ _ _ h (lv_sub hl [] rfl) hP hD hS

set_option maxHeartbeats 4000000 in
set_option maxRecDepth 100000 in
theorem t_V_run_1 (l : Launch) (htr : l.stackTraces = false) (dC : Nat → ClassId) (dI : Nat → Nat → Nat) (ad : Nat → Nat) (ca : Nat → ClassId) (N : Nat) (σ : vS) (a0 : Int32) (v : Int32 × vS) (h : f_V_run N σ a0 = some ((1, v.1), v.2)) (sz : Nat) : vq_T2 l y_V_run WS ({ frames := 6, cells := 1, slots := 6, locals := 111 }) (va_Pc [.ref (ad 0), .int a0] (vq_Pre (dC, dI) CL sz (Xw ad ca σ) (Xt ca))) "java/lang/IllegalArgumentException" (va_A (Xw ad ca σ) sz) (fun t => vq_Post (dC, dI) CL (va_A (Xw ad ca σ) sz) (Xw ad ca v.2) (Xt ca) t) 1 6 := by
  refine vq_ofT2 (cc := prog_1_method_14_code) (maxL := 2) (ret := (Option.some Jvm.ClassFile.FieldType.int)) pl_V (vq_his k_646) ?_
  intro p e s m args below meth c s₁ B hml hv
  obtain ⟨rfl, hst, hsz, hP, hK, hD0⟩ := hv
  have hx := B.exec
  have hb := B.bytes
  have hr := B.returns
  have hts := atoms_spec (ws := WS) B.pre
  have hown : s.vm.findClass R_V = some m.cls := findClass_of_methodNamed B.named
  have hlocks := B.notSynchronized
  have hno := vq_noH B (hts _ k_646)
  subst hsz
  have hN := vq_ns hP
  have hD := hD0.self (sz := s.heap.size)
  generalize hAe : va_A (Xw ad ca σ) s.heap.size = A at hD hN ⊢
  have hA : ∀ q : Nat, s.heap.size ≤ q → A q := fun q h => by rw [← hAe]; exact Or.inr h
  have hS : va_S A s.heap s.heap [] := va_S.rf
  have hl := lv_entry ([.ref (ad 0), .int a0]) (n := 2) (Nat.le_of_ble_eq_true rfl)
  rw [lg_entry_eq]
  generalize (lg_sl ([.ref (ad 0), .int a0]) ++ List.replicate (2 - (lg_sl ([.ref (ad 0), .int a0])).length) Slot.unset).toArray = ls at hl ⊢
  have hl : lv_has ls 2 [(0, .ref (ad 0)), (1, .int a0)] := hl
  unfold f_V_run at h
  refine lv_iload_n hx hb d_V_run_0 rfl (lv_at hl 1 rfl) ?_
  have J11 : ∀ (τ : vS) (H : Heap) (locs : List Loc) (ls : Array Slot), f_V_run_11 N τ = some ((1, v.1), v.2) → lv_has ls 2 [] → va_P (dC, dI) CL (Xw ad ca τ) H → va_D A (Xw ad ca τ) → va_S A s.heap H locs → W p l e (headSpec WS ({ frames := 6, cells := 1, slots := 6, locals := 111 })).room s m ([.ref (ad 0), .int a0] : List Value).toArray below meth c H locs 0 0 (vq_MQ2 below "java/lang/IllegalArgumentException" A (fun t => vq_Post (dC, dI) CL A (Xw ad ca v.2) (Xt ca) t) s 1 6) (F0 m 11 ls []) := by
    intro τ H locs ls h hl hP hD hS
    unfold f_V_run_11 at h
    have h9 : (0, τ) = v := by have h8 := Option.some.inj h; simp only [Prod.mk.injEq, true_and] at h8; exact Prod.ext h8.1 h8.2
    rw [← h9]
    have hws := vq_all WSk hts
    have hwu : ∀ u : State, u.vm = s.vm → s.WarmedH u.vm := fun u hu => by rw [hu]; exact State.WarmedH.refl s
    exact vq_throw2 (names := up_names) hx hb htr hown (by decide +kernel) (by decide +kernel) (fun u hu hsu => at_V_IllegalArgumentException (fun w hw => hws w hw _ u (hwu u hu)) hsu) hst (fun u hu => ⟨hws _ k_563 _ u (hwu u hu), hws _ k_564 _ u (hwu u hu), hws _ k_651 _ u (hwu u hu)⟩) hS hA hN hno hlocks (by decide) (hl.1.trans hml.symm) (fun t hz9 hk9 hW9 => ⟨hP.kept (fun k x hx9 => by have h7 := (hP k x hx9).lt; rw [Array.getElem?_eq_getElem h7]; exact hk9 _ _ (Array.getElem?_eq_getElem h7)), va_K.moved hW9.alike hK, hD⟩) d_V_run_11 d_V_run_14 d_V_run_15 d_V_run_17 d_V_run_20
  refine lv_if_lt (tgt := 11) hx hb d_V_run_1 (by decide) (fun hc1 => ?_) (fun hc1 => ?_)
  ·
    rw [if_pos hc1] at h
    exact J11 _ _ _ _ h (lv_sub hl [] rfl) hP hD hS
  ·
    rw [if_neg hc1] at h
    refine lv_iload_n hx hb d_V_run_4 rfl (lv_at hl 1 rfl) ?_
    refine lv_sipush (v := 500) hx hb d_V_run_5 (by decide) ?_
    refine lv_icmp_le (tgt := 21) hx hb d_V_run_8 (by decide) (fun hc2 => ?_) (fun hc2 => ?_)
    ·
      rw [if_pos hc2] at h
      refine lv_aload_n hx hb d_V_run_21 rfl (lv_at hl 0 rfl) ?_
      refine g_V_walk dC dI ad ca σ hx hb hts hown hK hP k_533 d_V_run_22 ?_
      refine gN_U_state dC dI ad ca σ hx hb hts hown hK hP k_647 d_V_run_25 ?_
      refine lv_if_ne (tgt := 41) hx hb d_V_run_28 (by decide) (fun hc3 => ?_) (fun hc3 => ?_)
      ·
        rw [if_neg hc3] at h
        refine lv_aload_n hx hb d_V_run_41 rfl (lv_at hl 0 rfl) ?_
        refine g_V_walk dC dI ad ca σ hx hb hts hown hK hP k_533 d_V_run_42 ?_
        refine lv_iload_n hx hb d_V_run_45 rfl (lv_at hl 1 rfl) ?_
        obtain ⟨q4, h5, h⟩ := vq_bi h
        have hFc := vq_freeAll hD hS hA
        refine va_calli (va_runV (As := [.int a0]) (rest := []) ⟨hx, hb, hml, hown, hts⟩ (c_U_advance l htr dC dI ad ca N σ a0 q4 h5 s.heap.size) (vq_cV WSk hts 1 rfl rfl ⟨by decide, by decide⟩ k_298 k_279 k_648 k_649 k_650 (by decide +kernel)) ⟨vq_blind, va_recv hK hP (ci := 7) (q0 := 7) rfl rfl, vq_here hst hS hN hP hK hD⟩ rfl rfl hl.1 rfl (lv_room (Nat.le_of_ble_eq_true rfl)) d_V_run_46 ⟨by decide, by decide⟩) hS (fun q _ h => hFc q h) hFc (fun r u t H1 locs ht hvm hw hB hz1 hk1 hS => ?_)
        obtain ⟨hP, -, hD1⟩ := hB
        rw [ht] at hP
        have hD := hD1.weaken (fun _ _ _ h => hFc _ h)
        have hw : r = q4.1 := hw
        subst hw
        generalize H1 = H at hP hS ⊢
        refine W.widen (k := 0) (n := 0) (by decide) (by decide) ?_
        simp at h
      ·
        rw [if_pos hc3] at h
        simp at h
    ·
      rw [if_neg hc2] at h
      exact J11 _ _ _ _ h (lv_sub hl [] rfl) hP hD hS

set_option maxHeartbeats 4000000 in
set_option maxRecDepth 100000 in
theorem t_V_run_2 (l : Launch) (htr : l.stackTraces = false) (dC : Nat → ClassId) (dI : Nat → Nat → Nat) (ad : Nat → Nat) (ca : Nat → ClassId) (N : Nat) (σ : vS) (a0 : Int32) (v : Int32 × vS) (h : f_V_run N σ a0 = some ((2, v.1), v.2)) (sz : Nat) : vq_T2 l y_V_run WS ({ frames := 6, cells := 1, slots := 6, locals := 111 }) (va_Pc [.ref (ad 0), .int a0] (vq_Pre (dC, dI) CL sz (Xw ad ca σ) (Xt ca))) "java/lang/IllegalStateException" (va_A (Xw ad ca σ) sz) (fun t => vq_Post (dC, dI) CL (va_A (Xw ad ca σ) sz) (Xw ad ca v.2) (Xt ca) t) 1 6 := by
  refine vq_ofT2 (cc := prog_1_method_14_code) (maxL := 2) (ret := (Option.some Jvm.ClassFile.FieldType.int)) pl_V (vq_his k_646) ?_
  intro p e s m args below meth c s₁ B hml hv
  obtain ⟨rfl, hst, hsz, hP, hK, hD0⟩ := hv
  have hx := B.exec
  have hb := B.bytes
  have hr := B.returns
  have hts := atoms_spec (ws := WS) B.pre
  have hown : s.vm.findClass R_V = some m.cls := findClass_of_methodNamed B.named
  have hlocks := B.notSynchronized
  have hno := vq_noH B (hts _ k_646)
  subst hsz
  have hN := vq_ns hP
  have hD := hD0.self (sz := s.heap.size)
  generalize hAe : va_A (Xw ad ca σ) s.heap.size = A at hD hN ⊢
  have hA : ∀ q : Nat, s.heap.size ≤ q → A q := fun q h => by rw [← hAe]; exact Or.inr h
  have hS : va_S A s.heap s.heap [] := va_S.rf
  have hl := lv_entry ([.ref (ad 0), .int a0]) (n := 2) (Nat.le_of_ble_eq_true rfl)
  rw [lg_entry_eq]
  generalize (lg_sl ([.ref (ad 0), .int a0]) ++ List.replicate (2 - (lg_sl ([.ref (ad 0), .int a0])).length) Slot.unset).toArray = ls at hl ⊢
  have hl : lv_has ls 2 [(0, .ref (ad 0)), (1, .int a0)] := hl
  unfold f_V_run at h
  refine lv_iload_n hx hb d_V_run_0 rfl (lv_at hl 1 rfl) ?_
  have J11 : ∀ (τ : vS) (H : Heap) (locs : List Loc) (ls : Array Slot), f_V_run_11 N τ = some ((2, v.1), v.2) → lv_has ls 2 [] → va_P (dC, dI) CL (Xw ad ca τ) H → va_D A (Xw ad ca τ) → va_S A s.heap H locs → W p l e (headSpec WS ({ frames := 6, cells := 1, slots := 6, locals := 111 })).room s m ([.ref (ad 0), .int a0] : List Value).toArray below meth c H locs 0 0 (vq_MQ2 below "java/lang/IllegalStateException" A (fun t => vq_Post (dC, dI) CL A (Xw ad ca v.2) (Xt ca) t) s 1 6) (F0 m 11 ls []) := by
    intro τ H locs ls h hl hP hD hS
    unfold f_V_run_11 at h
    simp at h
  refine lv_if_lt (tgt := 11) hx hb d_V_run_1 (by decide) (fun hc1 => ?_) (fun hc1 => ?_)
  ·
    rw [if_pos hc1] at h
    exact J11 _ _ _ _ h (lv_sub hl [] rfl) hP hD hS
  ·
    rw [if_neg hc1] at h
    refine lv_iload_n hx hb d_V_run_4 rfl (lv_at hl 1 rfl) ?_
    refine lv_sipush (v := 500) hx hb d_V_run_5 (by decide) ?_
    refine lv_icmp_le (tgt := 21) hx hb d_V_run_8 (by decide) (fun hc2 => ?_) (fun hc2 => ?_)
    ·
      rw [if_pos hc2] at h
      refine lv_aload_n hx hb d_V_run_21 rfl (lv_at hl 0 rfl) ?_
      refine g_V_walk dC dI ad ca σ hx hb hts hown hK hP k_533 d_V_run_22 ?_
      refine gN_U_state dC dI ad ca σ hx hb hts hown hK hP k_647 d_V_run_25 ?_
      refine lv_if_ne (tgt := 41) hx hb d_V_run_28 (by decide) (fun hc3 => ?_) (fun hc3 => ?_)
      ·
        rw [if_neg hc3] at h
        refine lv_aload_n hx hb d_V_run_41 rfl (lv_at hl 0 rfl) ?_
        refine g_V_walk dC dI ad ca σ hx hb hts hown hK hP k_533 d_V_run_42 ?_
        refine lv_iload_n hx hb d_V_run_45 rfl (lv_at hl 1 rfl) ?_
        obtain ⟨q4, h5, h⟩ := vq_bi h
        have hFc := vq_freeAll hD hS hA
        refine va_calli (va_runV (As := [.int a0]) (rest := []) ⟨hx, hb, hml, hown, hts⟩ (c_U_advance l htr dC dI ad ca N σ a0 q4 h5 s.heap.size) (vq_cV WSk hts 1 rfl rfl ⟨by decide, by decide⟩ k_298 k_279 k_648 k_649 k_650 (by decide +kernel)) ⟨vq_blind, va_recv hK hP (ci := 7) (q0 := 7) rfl rfl, vq_here hst hS hN hP hK hD⟩ rfl rfl hl.1 rfl (lv_room (Nat.le_of_ble_eq_true rfl)) d_V_run_46 ⟨by decide, by decide⟩) hS (fun q _ h => hFc q h) hFc (fun r u t H1 locs ht hvm hw hB hz1 hk1 hS => ?_)
        obtain ⟨hP, -, hD1⟩ := hB
        rw [ht] at hP
        have hD := hD1.weaken (fun _ _ _ h => hFc _ h)
        have hw : r = q4.1 := hw
        subst hw
        generalize H1 = H at hP hS ⊢
        refine W.widen (k := 0) (n := 0) (by decide) (by decide) ?_
        simp at h
      ·
        rw [if_pos hc3] at h
        have h9 : (0, σ) = v := by have h8 := Option.some.inj h; simp only [Prod.mk.injEq, true_and] at h8; exact Prod.ext h8.1 h8.2
        rw [← h9]
        have hws := vq_all WSk hts
        have hwu : ∀ u : State, u.vm = s.vm → s.WarmedH u.vm := fun u hu => by rw [hu]; exact State.WarmedH.refl s
        exact vq_throw2 (names := up_names) hx hb htr hown (by decide +kernel) (by decide +kernel) (fun u hu hsu => at_V_IllegalStateException (fun w hw => hws w hw _ u (hwu u hu)) hsu) hst (fun u hu => ⟨hws _ k_539 _ u (hwu u hu), hws _ k_540 _ u (hwu u hu), hws _ k_652 _ u (hwu u hu)⟩) hS hA hN hno hlocks (by decide) (hl.1.trans hml.symm) (fun t hz9 hk9 hW9 => ⟨hP.kept (fun k x hx9 => by have h7 := (hP k x hx9).lt; rw [Array.getElem?_eq_getElem h7]; exact hk9 _ _ (Array.getElem?_eq_getElem h7)), va_K.moved hW9.alike hK, hD⟩) d_V_run_31 d_V_run_34 d_V_run_35 d_V_run_37 d_V_run_40
    ·
      rw [if_neg hc2] at h
      exact J11 _ _ _ _ h (lv_sub hl [] rfl) hP hD hS

set_option maxHeartbeats 4000000 in
set_option maxRecDepth 100000 in
theorem c_V_status (l : Launch) (htr : l.stackTraces = false) (dC : Nat → ClassId) (dI : Nat → Nat → Nat) (ad : Nat → Nat) (ca : Nat → ClassId) (N : Nat) (σ : vS) (v : Int32 × vS) (h : f_V_status N σ = some v) (sz : Nat) : Met l y_V_status WS ({ frames := 0, cells := 0, slots := 0, locals := 0 }) (va_Pc [.ref (ad 0)] (vq_Pre (dC, dI) CL sz (Xw ad ca σ) (Xt ca))) (va_Qi (fun (r : Int32) (_ : Unit) => r = v.1) (fun _ t => vq_Post (dC, dI) CL (va_A (Xw ad ca σ) sz) (Xw ad ca v.2) (Xt ca) t) (va_A (Xw ad ca σ) sz)) 0 0 (va_A (Xw ad ca σ) sz) := by
  refine vq_ofW (cc := prog_1_method_15_code) (maxL := 1) (ret := (Option.some Jvm.ClassFile.FieldType.int)) pl_V (vq_his k_653) ?_
  intro p e s m args below meth c s₁ B hml hv
  obtain ⟨rfl, hst, hsz, hP, hK, hD0⟩ := hv
  have hx := B.exec
  have hb := B.bytes
  have hr := B.returns
  have hts := atoms_spec (ws := WS) B.pre
  have hown : s.vm.findClass R_V = some m.cls := findClass_of_methodNamed B.named
  have hlocks := B.notSynchronized
  have hno := vq_noH B (hts _ k_653)
  subst hsz
  have hN := vq_ns hP
  have hD := hD0.self (sz := s.heap.size)
  generalize hAe : va_A (Xw ad ca σ) s.heap.size = A at hD hN ⊢
  have hA : ∀ q : Nat, s.heap.size ≤ q → A q := fun q h => by rw [← hAe]; exact Or.inr h
  have hS : va_S A s.heap s.heap [] := va_S.rf
  have hl := lv_entry ([.ref (ad 0)]) (n := 1) (Nat.le_of_ble_eq_true rfl)
  rw [lg_entry_eq]
  generalize (lg_sl ([.ref (ad 0)]) ++ List.replicate (1 - (lg_sl ([.ref (ad 0)])).length) Slot.unset).toArray = ls at hl ⊢
  have hl : lv_has ls 1 [(0, .ref (ad 0))] := hl
  unfold f_V_status at h
  refine lv_aload_n hx hb d_V_status_0 rfl (lv_at hl 0 rfl) ?_
  refine g_V_walk dC dI ad ca σ hx hb hts hown hK hP k_533 d_V_status_1 ?_
  refine gN_U_state dC dI ad ca σ hx hb hts hown hK hP k_647 d_V_status_4 ?_
  have h9 := Option.some.inj h
  rw [← h9]
  exact W.iret (v := (σ.1 9)) hx hb hr (fun t ht hW => ⟨⟨(σ.1 9), (), rfl, rfl, by rw [ht]; exact hP, va_K.moved hW.alike hK, hD⟩, hS.F ht⟩) hS.2.2 d_V_status_7

set_option maxHeartbeats 4000000 in
set_option maxRecDepth 100000 in
theorem c_V_atHand (l : Launch) (htr : l.stackTraces = false) (dC : Nat → ClassId) (dI : Nat → Nat → Nat) (ad : Nat → Nat) (ca : Nat → ClassId) (N : Nat) (σ : vS) (v : Int32 × vS) (h : f_V_atHand N σ = some v) (sz : Nat) : Met l y_V_atHand WS ({ frames := 0, cells := 0, slots := 0, locals := 0 }) (va_Pc [.ref (ad 0)] (vq_Pre (dC, dI) CL sz (Xw ad ca σ) (Xt ca))) (va_Qi (fun (r : Int32) (_ : Unit) => r = v.1) (fun _ t => vq_Post (dC, dI) CL (va_A (Xw ad ca σ) sz) (Xw ad ca v.2) (Xt ca) t) (va_A (Xw ad ca σ) sz)) 0 0 (va_A (Xw ad ca σ) sz) := by
  refine vq_ofW (cc := prog_1_method_16_code) (maxL := 1) (ret := (Option.some Jvm.ClassFile.FieldType.int)) pl_V (vq_his k_654) ?_
  intro p e s m args below meth c s₁ B hml hv
  obtain ⟨rfl, hst, hsz, hP, hK, hD0⟩ := hv
  have hx := B.exec
  have hb := B.bytes
  have hr := B.returns
  have hts := atoms_spec (ws := WS) B.pre
  have hown : s.vm.findClass R_V = some m.cls := findClass_of_methodNamed B.named
  have hlocks := B.notSynchronized
  have hno := vq_noH B (hts _ k_654)
  subst hsz
  have hN := vq_ns hP
  have hD := hD0.self (sz := s.heap.size)
  generalize hAe : va_A (Xw ad ca σ) s.heap.size = A at hD hN ⊢
  have hA : ∀ q : Nat, s.heap.size ≤ q → A q := fun q h => by rw [← hAe]; exact Or.inr h
  have hS : va_S A s.heap s.heap [] := va_S.rf
  have hl := lv_entry ([.ref (ad 0)]) (n := 1) (Nat.le_of_ble_eq_true rfl)
  rw [lg_entry_eq]
  generalize (lg_sl ([.ref (ad 0)]) ++ List.replicate (1 - (lg_sl ([.ref (ad 0)])).length) Slot.unset).toArray = ls at hl ⊢
  have hl : lv_has ls 1 [(0, .ref (ad 0))] := hl
  unfold f_V_atHand at h
  refine lv_aload_n hx hb d_V_atHand_0 rfl (lv_at hl 0 rfl) ?_
  refine g_V_walk dC dI ad ca σ hx hb hts hown hK hP k_533 d_V_atHand_1 ?_
  refine gN_U_state dC dI ad ca σ hx hb hts hown hK hP k_647 d_V_atHand_4 ?_
  refine lv_iconst (v := 1) hx hb d_V_atHand_7 (by decide) ?_
  refine lv_icmp_ne (tgt := 21) hx hb d_V_atHand_8 (by decide) (fun hc1 => ?_) (fun hc1 => ?_)
  ·
    rw [if_neg hc1] at h
    refine lv_iconst (v := (-1)) hx hb d_V_atHand_21 (by decide) ?_
    have h9 := Option.some.inj h
    rw [← h9]
    exact W.iret (v := ((-1) : Int32)) hx hb hr (fun t ht hW => ⟨⟨((-1) : Int32), (), rfl, rfl, by rw [ht]; exact hP, va_K.moved hW.alike hK, hD⟩, hS.F ht⟩) hS.2.2 d_V_atHand_22
  ·
    rw [if_pos hc1] at h
    refine lv_aload_n hx hb d_V_atHand_11 rfl (lv_at hl 0 rfl) ?_
    refine g_V_walk dC dI ad ca σ hx hb hts hown hK hP k_533 d_V_atHand_12 ?_
    refine gN_U_nodeAtHand dC dI ad ca σ hx hb hts hown hK hP k_655 d_V_atHand_15 ?_
    refine lv_goto (tgt := 22) hx hb d_V_atHand_18 (by decide) ?_
    have h9 := Option.some.inj h
    rw [← h9]
    exact W.iret (v := (σ.1 11)) hx hb hr (fun t ht hW => ⟨⟨(σ.1 11), (), rfl, rfl, by rw [ht]; exact hP, va_K.moved hW.alike hK, hD⟩, hS.F ht⟩) hS.2.2 d_V_atHand_22

set_option maxHeartbeats 4000000 in
set_option maxRecDepth 100000 in
theorem c_V_knows (l : Launch) (htr : l.stackTraces = false) (dC : Nat → ClassId) (dI : Nat → Nat → Nat) (ad : Nat → Nat) (ca : Nat → ClassId) (N : Nat) (σ : vS) (a0 : Int32) (a1 : Int32) (v : Int32 × vS) (h : f_V_knows N σ a0 a1 = some ((0, v.1), v.2)) (sz : Nat) : Met l y_V_knows WS ({ frames := 7, cells := 0, slots := 0, locals := 104 }) (va_Pc [.ref (ad 0), .int a0, .int a1] (vq_Pre (dC, dI) CL sz (Xw ad ca σ) (Xt ca))) (va_Qi (fun (r : Int32) (_ : Unit) => r = v.1) (fun _ t => vq_Post (dC, dI) CL (va_A (Xw ad ca σ) sz) (Xw ad ca v.2) (Xt ca) t) (va_A (Xw ad ca σ) sz)) 0 0 (va_A (Xw ad ca σ) sz) := by
  refine vq_ofW (cc := prog_1_method_17_code) (maxL := 3) (ret := (Option.some Jvm.ClassFile.FieldType.boolean)) pl_V (vq_his k_656) ?_
  intro p e s m args below meth c s₁ B hml hv
  obtain ⟨rfl, hst, hsz, hP, hK, hD0⟩ := hv
  have hx := B.exec
  have hb := B.bytes
  have hr := B.returns
  have hts := atoms_spec (ws := WS) B.pre
  have hown : s.vm.findClass R_V = some m.cls := findClass_of_methodNamed B.named
  have hlocks := B.notSynchronized
  have hno := vq_noH B (hts _ k_656)
  subst hsz
  have hN := vq_ns hP
  have hD := hD0.self (sz := s.heap.size)
  generalize hAe : va_A (Xw ad ca σ) s.heap.size = A at hD hN ⊢
  have hA : ∀ q : Nat, s.heap.size ≤ q → A q := fun q h => by rw [← hAe]; exact Or.inr h
  have hS : va_S A s.heap s.heap [] := va_S.rf
  have hl := lv_entry ([.ref (ad 0), .int a0, .int a1]) (n := 3) (Nat.le_of_ble_eq_true rfl)
  rw [lg_entry_eq]
  generalize (lg_sl ([.ref (ad 0), .int a0, .int a1]) ++ List.replicate (3 - (lg_sl ([.ref (ad 0), .int a0, .int a1])).length) Slot.unset).toArray = ls at hl ⊢
  have hl : lv_has ls 3 [(0, .ref (ad 0)), (1, .int a0), (2, .int a1)] := hl
  unfold f_V_knows at h
  refine lv_aload_n hx hb d_V_knows_0 rfl (lv_at hl 0 rfl) ?_
  refine lv_iload_n hx hb d_V_knows_1 rfl (lv_at hl 1 rfl) ?_
  refine lv_iload_n hx hb d_V_knows_2 rfl (lv_at hl 2 rfl) ?_
  obtain ⟨q1, h2, h⟩ := vq_bi h
  have hFc := vq_freeAll hD hS hA
  have hkd := kd_V_requireAttribute h2
  by_cases hz3 : q1.1.1 = 0
  ·
    rw [if_pos hz3] at h
    have h2 : f_V_requireAttribute N σ a0 a1 = some ((0, q1.1.2), q1.2) := by rw [h2, ← hz3]
    refine va_callv (va_runV (As := [.int a0, .int a1]) (rest := []) ⟨hx, hb, hml, hown, hts⟩ (c_V_requireAttribute l htr dC dI ad ca N σ a0 a1 (q1.1.2, q1.2) h2 s.heap.size) (vq_cV WSk hts 2 rfl rfl ⟨by decide, by decide⟩ k_542 k_22 k_657 k_658 k_659 (by decide +kernel)) ⟨vq_blind, va_recv hK hP (ci := 0) (q0 := 0) rfl rfl, vq_here hst hS hN hP hK hD⟩ rfl rfl hl.1 rfl (lv_room (Nat.le_of_ble_eq_true rfl)) d_V_knows_3 ⟨by decide, by decide⟩) hS (fun q _ h => hFc q h) hFc (fun u t H1 locs ht hvm hw hB hz1 hk1 hS => ?_)
    obtain ⟨hP, -, hD1⟩ := hB
    rw [ht] at hP
    have hD := hD1.weaken (fun _ _ _ h => hFc _ h)
    generalize H1 = H at hP hS ⊢
    refine W.widen (k := 0) (n := 0) (by decide) (by decide) ?_
    refine lv_aload_n hx hb d_V_knows_6 rfl (lv_at hl 0 rfl) ?_
    refine g_V_walk dC dI ad ca q1.2 hx hb hts hown hK hP k_533 d_V_knows_7 ?_
    refine lv_iload_n hx hb d_V_knows_10 rfl (lv_at hl 1 rfl) ?_
    refine lv_iload_n hx hb d_V_knows_11 rfl (lv_at hl 2 rfl) ?_
    obtain ⟨q4, h5, h⟩ := vq_bi h
    have hFc := vq_freeAll hD hS hA
    refine va_calli (va_runV (As := [.int a0, .int a1]) (rest := []) ⟨hx, hb, hml, hown, hts⟩ (c_U_isKnown l htr dC dI ad ca N q1.2 a0 a1 q4 h5 H.size) (vq_cV WSk hts 2 rfl rfl ⟨by decide, by decide⟩ k_263 k_279 k_660 k_661 k_662 (by decide +kernel)) ⟨vq_blind, va_recv hK hP (ci := 7) (q0 := 7) rfl rfl, vq_here hst hS hN hP hK hD⟩ rfl rfl hl.1 rfl (lv_room (Nat.le_of_ble_eq_true rfl)) d_V_knows_12 ⟨by decide, by decide⟩) hS (fun q _ h => hFc q h) hFc (fun r u t H1 locs ht hvm hw hB hz1 hk1 hS => ?_)
    obtain ⟨hP, -, hD1⟩ := hB
    rw [ht] at hP
    have hD := hD1.weaken (fun _ _ _ h => hFc _ h)
    have hw : r = q4.1 := hw
    subst hw
    generalize H1 = H at hP hS ⊢
    refine W.widen (k := 0) (n := 0) (by decide) (by decide) ?_
    have h9 : (vp_nar .boolean (q4.1), q4.2) = v := by have h8 := Option.some.inj h; simp only [Prod.mk.injEq, true_and] at h8; exact Prod.ext h8.1 h8.2
    rw [← h9]
    exact vq_zret hx hb hr (fun t ht hW => ⟨⟨_, (), rfl, rfl, by rw [ht]; exact hP, va_K.moved hW.alike hK, hD⟩, hS.F ht⟩) hS.2.2 d_V_knows_15
  ·
    rw [if_neg hz3] at h
    have h2 : f_V_requireAttribute N σ a0 a1 = some ((3, q1.1.2), q1.2) := by rw [h2, ← hkd.resolve_left hz3]
    simp at h

set_option maxHeartbeats 4000000 in
set_option maxRecDepth 100000 in
theorem t_V_knows_3 (l : Launch) (htr : l.stackTraces = false) (dC : Nat → ClassId) (dI : Nat → Nat → Nat) (ad : Nat → Nat) (ca : Nat → ClassId) (N : Nat) (σ : vS) (a0 : Int32) (a1 : Int32) (v : Int32 × vS) (h : f_V_knows N σ a0 a1 = some ((3, v.1), v.2)) (sz : Nat) : vq_T2 l y_V_knows WS ({ frames := 7, cells := 1, slots := 6, locals := 104 }) (va_Pc [.ref (ad 0), .int a0, .int a1] (vq_Pre (dC, dI) CL sz (Xw ad ca σ) (Xt ca))) "java/lang/IndexOutOfBoundsException" (va_A (Xw ad ca σ) sz) (fun t => vq_Post (dC, dI) CL (va_A (Xw ad ca σ) sz) (Xw ad ca v.2) (Xt ca) t) 1 6 := by
  refine vq_ofT2 (cc := prog_1_method_17_code) (maxL := 3) (ret := (Option.some Jvm.ClassFile.FieldType.boolean)) pl_V (vq_his k_656) ?_
  intro p e s m args below meth c s₁ B hml hv
  obtain ⟨rfl, hst, hsz, hP, hK, hD0⟩ := hv
  have hx := B.exec
  have hb := B.bytes
  have hr := B.returns
  have hts := atoms_spec (ws := WS) B.pre
  have hown : s.vm.findClass R_V = some m.cls := findClass_of_methodNamed B.named
  have hlocks := B.notSynchronized
  have hno := vq_noH B (hts _ k_656)
  subst hsz
  have hN := vq_ns hP
  have hD := hD0.self (sz := s.heap.size)
  generalize hAe : va_A (Xw ad ca σ) s.heap.size = A at hD hN ⊢
  have hA : ∀ q : Nat, s.heap.size ≤ q → A q := fun q h => by rw [← hAe]; exact Or.inr h
  have hS : va_S A s.heap s.heap [] := va_S.rf
  have hl := lv_entry ([.ref (ad 0), .int a0, .int a1]) (n := 3) (Nat.le_of_ble_eq_true rfl)
  rw [lg_entry_eq]
  generalize (lg_sl ([.ref (ad 0), .int a0, .int a1]) ++ List.replicate (3 - (lg_sl ([.ref (ad 0), .int a0, .int a1])).length) Slot.unset).toArray = ls at hl ⊢
  have hl : lv_has ls 3 [(0, .ref (ad 0)), (1, .int a0), (2, .int a1)] := hl
  unfold f_V_knows at h
  refine lv_aload_n hx hb d_V_knows_0 rfl (lv_at hl 0 rfl) ?_
  refine lv_iload_n hx hb d_V_knows_1 rfl (lv_at hl 1 rfl) ?_
  refine lv_iload_n hx hb d_V_knows_2 rfl (lv_at hl 2 rfl) ?_
  obtain ⟨q1, h2, h⟩ := vq_bi h
  have hFc := vq_freeAll hD hS hA
  have hkd := kd_V_requireAttribute h2
  by_cases hz3 : q1.1.1 = 0
  ·
    rw [if_pos hz3] at h
    have h2 : f_V_requireAttribute N σ a0 a1 = some ((0, q1.1.2), q1.2) := by rw [h2, ← hz3]
    refine va_callv (va_runV (As := [.int a0, .int a1]) (rest := []) ⟨hx, hb, hml, hown, hts⟩ (c_V_requireAttribute l htr dC dI ad ca N σ a0 a1 (q1.1.2, q1.2) h2 s.heap.size) (vq_cV WSk hts 2 rfl rfl ⟨by decide, by decide⟩ k_542 k_22 k_657 k_658 k_659 (by decide +kernel)) ⟨vq_blind, va_recv hK hP (ci := 0) (q0 := 0) rfl rfl, vq_here hst hS hN hP hK hD⟩ rfl rfl hl.1 rfl (lv_room (Nat.le_of_ble_eq_true rfl)) d_V_knows_3 ⟨by decide, by decide⟩) hS (fun q _ h => hFc q h) hFc (fun u t H1 locs ht hvm hw hB hz1 hk1 hS => ?_)
    obtain ⟨hP, -, hD1⟩ := hB
    rw [ht] at hP
    have hD := hD1.weaken (fun _ _ _ h => hFc _ h)
    generalize H1 = H at hP hS ⊢
    refine W.widen (k := 0) (n := 0) (by decide) (by decide) ?_
    refine lv_aload_n hx hb d_V_knows_6 rfl (lv_at hl 0 rfl) ?_
    refine g_V_walk dC dI ad ca q1.2 hx hb hts hown hK hP k_533 d_V_knows_7 ?_
    refine lv_iload_n hx hb d_V_knows_10 rfl (lv_at hl 1 rfl) ?_
    refine lv_iload_n hx hb d_V_knows_11 rfl (lv_at hl 2 rfl) ?_
    obtain ⟨q4, h5, h⟩ := vq_bi h
    have hFc := vq_freeAll hD hS hA
    refine va_calli (va_runV (As := [.int a0, .int a1]) (rest := []) ⟨hx, hb, hml, hown, hts⟩ (c_U_isKnown l htr dC dI ad ca N q1.2 a0 a1 q4 h5 H.size) (vq_cV WSk hts 2 rfl rfl ⟨by decide, by decide⟩ k_263 k_279 k_660 k_661 k_662 (by decide +kernel)) ⟨vq_blind, va_recv hK hP (ci := 7) (q0 := 7) rfl rfl, vq_here hst hS hN hP hK hD⟩ rfl rfl hl.1 rfl (lv_room (Nat.le_of_ble_eq_true rfl)) d_V_knows_12 ⟨by decide, by decide⟩) hS (fun q _ h => hFc q h) hFc (fun r u t H1 locs ht hvm hw hB hz1 hk1 hS => ?_)
    obtain ⟨hP, -, hD1⟩ := hB
    rw [ht] at hP
    have hD := hD1.weaken (fun _ _ _ h => hFc _ h)
    have hw : r = q4.1 := hw
    subst hw
    generalize H1 = H at hP hS ⊢
    refine W.widen (k := 0) (n := 0) (by decide) (by decide) ?_
    simp at h
  ·
    rw [if_neg hz3] at h
    have h2 : f_V_requireAttribute N σ a0 a1 = some ((3, q1.1.2), q1.2) := by rw [h2, ← hkd.resolve_left hz3]
    have h9 : (q1.1.2, q1.2) = v := by have h8 := Option.some.inj h; simp only [Prod.mk.injEq, true_and] at h8; exact Prod.ext h8.1 h8.2
    rw [← h9]
    exact vq_pass2 (vq_runT2 (As := [.int a0, .int a1]) (rest := []) ⟨hx, hb, hml, hown, hts⟩ (t_V_requireAttribute_3 l htr dC dI ad ca N σ a0 a1 (q1.1.2, q1.2) h2 s.heap.size) (vq_cV WSk hts 2 rfl rfl ⟨by decide, by decide⟩ k_542 k_22 k_657 k_658 k_659 (by decide +kernel)) ⟨vq_blind, va_recv hK hP (ci := 0) (q0 := 0) rfl rfl, vq_here hst hS hN hP hK hD⟩ rfl rfl hl.1 rfl (lv_room (Nat.le_of_ble_eq_true rfl)) d_V_knows_3 ⟨by decide, by decide⟩) hS hFc hno hlocks (by decide) (by decide) (fun t t2 hh ha hb9 hB9 => ⟨by rw [← hh]; exact hB9.1, va_K.moved hb9 hK, hB9.2.2.weaken (fun _ _ _ h => hFc _ h)⟩)

set_option maxHeartbeats 4000000 in
set_option maxRecDepth 100000 in
theorem c_V_value (l : Launch) (htr : l.stackTraces = false) (dC : Nat → ClassId) (dI : Nat → Nat → Nat) (ad : Nat → Nat) (ca : Nat → ClassId) (N : Nat) (σ : vS) (a0 : Int32) (a1 : Int32) (v : Int32 × vS) (h : f_V_value N σ a0 a1 = some ((0, v.1), v.2)) (sz : Nat) : Met l y_V_value WS ({ frames := 7, cells := 0, slots := 0, locals := 104 }) (va_Pc [.ref (ad 0), .int a0, .int a1] (vq_Pre (dC, dI) CL sz (Xw ad ca σ) (Xt ca))) (va_Qi (fun (r : Int32) (_ : Unit) => r = v.1) (fun _ t => vq_Post (dC, dI) CL (va_A (Xw ad ca σ) sz) (Xw ad ca v.2) (Xt ca) t) (va_A (Xw ad ca σ) sz)) 0 0 (va_A (Xw ad ca σ) sz) := by
  refine vq_ofW (cc := prog_1_method_18_code) (maxL := 3) (ret := (Option.some Jvm.ClassFile.FieldType.int)) pl_V (vq_his k_663) ?_
  intro p e s m args below meth c s₁ B hml hv
  obtain ⟨rfl, hst, hsz, hP, hK, hD0⟩ := hv
  have hx := B.exec
  have hb := B.bytes
  have hr := B.returns
  have hts := atoms_spec (ws := WS) B.pre
  have hown : s.vm.findClass R_V = some m.cls := findClass_of_methodNamed B.named
  have hlocks := B.notSynchronized
  have hno := vq_noH B (hts _ k_663)
  subst hsz
  have hN := vq_ns hP
  have hD := hD0.self (sz := s.heap.size)
  generalize hAe : va_A (Xw ad ca σ) s.heap.size = A at hD hN ⊢
  have hA : ∀ q : Nat, s.heap.size ≤ q → A q := fun q h => by rw [← hAe]; exact Or.inr h
  have hS : va_S A s.heap s.heap [] := va_S.rf
  have hl := lv_entry ([.ref (ad 0), .int a0, .int a1]) (n := 3) (Nat.le_of_ble_eq_true rfl)
  rw [lg_entry_eq]
  generalize (lg_sl ([.ref (ad 0), .int a0, .int a1]) ++ List.replicate (3 - (lg_sl ([.ref (ad 0), .int a0, .int a1])).length) Slot.unset).toArray = ls at hl ⊢
  have hl : lv_has ls 3 [(0, .ref (ad 0)), (1, .int a0), (2, .int a1)] := hl
  unfold f_V_value at h
  refine lv_aload_n hx hb d_V_value_0 rfl (lv_at hl 0 rfl) ?_
  refine lv_iload_n hx hb d_V_value_1 rfl (lv_at hl 1 rfl) ?_
  refine lv_iload_n hx hb d_V_value_2 rfl (lv_at hl 2 rfl) ?_
  obtain ⟨q1, h2, h⟩ := vq_bi h
  have hFc := vq_freeAll hD hS hA
  have hkd := kd_V_requireAttribute h2
  by_cases hz3 : q1.1.1 = 0
  ·
    rw [if_pos hz3] at h
    have h2 : f_V_requireAttribute N σ a0 a1 = some ((0, q1.1.2), q1.2) := by rw [h2, ← hz3]
    refine va_callv (va_runV (As := [.int a0, .int a1]) (rest := []) ⟨hx, hb, hml, hown, hts⟩ (c_V_requireAttribute l htr dC dI ad ca N σ a0 a1 (q1.1.2, q1.2) h2 s.heap.size) (vq_cV WSk hts 2 rfl rfl ⟨by decide, by decide⟩ k_542 k_22 k_657 k_658 k_659 (by decide +kernel)) ⟨vq_blind, va_recv hK hP (ci := 0) (q0 := 0) rfl rfl, vq_here hst hS hN hP hK hD⟩ rfl rfl hl.1 rfl (lv_room (Nat.le_of_ble_eq_true rfl)) d_V_value_3 ⟨by decide, by decide⟩) hS (fun q _ h => hFc q h) hFc (fun u t H1 locs ht hvm hw hB hz1 hk1 hS => ?_)
    obtain ⟨hP, -, hD1⟩ := hB
    rw [ht] at hP
    have hD := hD1.weaken (fun _ _ _ h => hFc _ h)
    generalize H1 = H at hP hS ⊢
    refine W.widen (k := 0) (n := 0) (by decide) (by decide) ?_
    refine lv_aload_n hx hb d_V_value_6 rfl (lv_at hl 0 rfl) ?_
    refine g_V_walk dC dI ad ca q1.2 hx hb hts hown hK hP k_533 d_V_value_7 ?_
    refine lv_iload_n hx hb d_V_value_10 rfl (lv_at hl 1 rfl) ?_
    refine lv_iload_n hx hb d_V_value_11 rfl (lv_at hl 2 rfl) ?_
    obtain ⟨q4, h5, h⟩ := vq_bi h
    have hFc := vq_freeAll hD hS hA
    refine va_calli (va_runV (As := [.int a0, .int a1]) (rest := []) ⟨hx, hb, hml, hown, hts⟩ (c_U_isKnown l htr dC dI ad ca N q1.2 a0 a1 q4 h5 H.size) (vq_cV WSk hts 2 rfl rfl ⟨by decide, by decide⟩ k_263 k_279 k_660 k_661 k_662 (by decide +kernel)) ⟨vq_blind, va_recv hK hP (ci := 7) (q0 := 7) rfl rfl, vq_here hst hS hN hP hK hD⟩ rfl rfl hl.1 rfl (lv_room (Nat.le_of_ble_eq_true rfl)) d_V_value_12 ⟨by decide, by decide⟩) hS (fun q _ h => hFc q h) hFc (fun r u t H1 locs ht hvm hw hB hz1 hk1 hS => ?_)
    obtain ⟨hP, -, hD1⟩ := hB
    rw [ht] at hP
    have hD := hD1.weaken (fun _ _ _ h => hFc _ h)
    have hw : r = q4.1 := hw
    subst hw
    generalize H1 = H at hP hS ⊢
    refine W.widen (k := 0) (n := 0) (by decide) (by decide) ?_
    refine lv_if_ne (tgt := 28) hx hb d_V_value_15 (by decide) (fun hc6 => ?_) (fun hc6 => ?_)
    ·
      rw [if_neg hc6] at h
      refine lv_aload_n hx hb d_V_value_28 rfl (lv_at hl 0 rfl) ?_
      refine g_V_walk dC dI ad ca q4.2 hx hb hts hown hK hP k_533 d_V_value_29 ?_
      refine gN_U_values dC dI ad ca q4.2 hx hb hts hown hK hP k_664 d_V_value_32 ?_
      refine lv_iload_n hx hb d_V_value_35 rfl (lv_at hl 1 rfl) ?_
      refine lv_iconst (v := 4) hx hb d_V_value_36 (by decide) ?_
      refine lv_imul hx hb d_V_value_37 ?_
      refine lv_iload_n hx hb d_V_value_38 rfl (lv_at hl 2 rfl) ?_
      refine lv_iadd hx hb d_V_value_39 ?_
      obtain ⟨hi7, h⟩ := vq_bd h
      refine al_X24 dC dI ad ca q4.2 hx hb hts hown hK hP hi7 d_V_value_40 ?_
      obtain ⟨i8, ei8, h⟩ := vq_let h
      refine vq_top ei8.symm ?_
      have h9 : (i8, q4.2) = v := by have h8 := Option.some.inj h; simp only [Prod.mk.injEq, true_and] at h8; exact Prod.ext h8.1 h8.2
      rw [← h9]
      exact W.iret (v := i8) hx hb hr (fun t ht hW => ⟨⟨i8, (), rfl, rfl, by rw [ht]; exact hP, va_K.moved hW.alike hK, hD⟩, hS.F ht⟩) hS.2.2 d_V_value_41
    ·
      rw [if_pos hc6] at h
      simp at h
  ·
    rw [if_neg hz3] at h
    have h2 : f_V_requireAttribute N σ a0 a1 = some ((3, q1.1.2), q1.2) := by rw [h2, ← hkd.resolve_left hz3]
    simp at h

set_option maxHeartbeats 4000000 in
set_option maxRecDepth 100000 in
theorem t_V_value_2 (l : Launch) (htr : l.stackTraces = false) (dC : Nat → ClassId) (dI : Nat → Nat → Nat) (ad : Nat → Nat) (ca : Nat → ClassId) (N : Nat) (σ : vS) (a0 : Int32) (a1 : Int32) (v : Int32 × vS) (h : f_V_value N σ a0 a1 = some ((2, v.1), v.2)) (sz : Nat) : vq_T2 l y_V_value WS ({ frames := 7, cells := 1, slots := 6, locals := 104 }) (va_Pc [.ref (ad 0), .int a0, .int a1] (vq_Pre (dC, dI) CL sz (Xw ad ca σ) (Xt ca))) "java/lang/IllegalStateException" (va_A (Xw ad ca σ) sz) (fun t => vq_Post (dC, dI) CL (va_A (Xw ad ca σ) sz) (Xw ad ca v.2) (Xt ca) t) 1 6 := by
  refine vq_ofT2 (cc := prog_1_method_18_code) (maxL := 3) (ret := (Option.some Jvm.ClassFile.FieldType.int)) pl_V (vq_his k_663) ?_
  intro p e s m args below meth c s₁ B hml hv
  obtain ⟨rfl, hst, hsz, hP, hK, hD0⟩ := hv
  have hx := B.exec
  have hb := B.bytes
  have hr := B.returns
  have hts := atoms_spec (ws := WS) B.pre
  have hown : s.vm.findClass R_V = some m.cls := findClass_of_methodNamed B.named
  have hlocks := B.notSynchronized
  have hno := vq_noH B (hts _ k_663)
  subst hsz
  have hN := vq_ns hP
  have hD := hD0.self (sz := s.heap.size)
  generalize hAe : va_A (Xw ad ca σ) s.heap.size = A at hD hN ⊢
  have hA : ∀ q : Nat, s.heap.size ≤ q → A q := fun q h => by rw [← hAe]; exact Or.inr h
  have hS : va_S A s.heap s.heap [] := va_S.rf
  have hl := lv_entry ([.ref (ad 0), .int a0, .int a1]) (n := 3) (Nat.le_of_ble_eq_true rfl)
  rw [lg_entry_eq]
  generalize (lg_sl ([.ref (ad 0), .int a0, .int a1]) ++ List.replicate (3 - (lg_sl ([.ref (ad 0), .int a0, .int a1])).length) Slot.unset).toArray = ls at hl ⊢
  have hl : lv_has ls 3 [(0, .ref (ad 0)), (1, .int a0), (2, .int a1)] := hl
  unfold f_V_value at h
  refine lv_aload_n hx hb d_V_value_0 rfl (lv_at hl 0 rfl) ?_
  refine lv_iload_n hx hb d_V_value_1 rfl (lv_at hl 1 rfl) ?_
  refine lv_iload_n hx hb d_V_value_2 rfl (lv_at hl 2 rfl) ?_
  obtain ⟨q1, h2, h⟩ := vq_bi h
  have hFc := vq_freeAll hD hS hA
  have hkd := kd_V_requireAttribute h2
  by_cases hz3 : q1.1.1 = 0
  ·
    rw [if_pos hz3] at h
    have h2 : f_V_requireAttribute N σ a0 a1 = some ((0, q1.1.2), q1.2) := by rw [h2, ← hz3]
    refine va_callv (va_runV (As := [.int a0, .int a1]) (rest := []) ⟨hx, hb, hml, hown, hts⟩ (c_V_requireAttribute l htr dC dI ad ca N σ a0 a1 (q1.1.2, q1.2) h2 s.heap.size) (vq_cV WSk hts 2 rfl rfl ⟨by decide, by decide⟩ k_542 k_22 k_657 k_658 k_659 (by decide +kernel)) ⟨vq_blind, va_recv hK hP (ci := 0) (q0 := 0) rfl rfl, vq_here hst hS hN hP hK hD⟩ rfl rfl hl.1 rfl (lv_room (Nat.le_of_ble_eq_true rfl)) d_V_value_3 ⟨by decide, by decide⟩) hS (fun q _ h => hFc q h) hFc (fun u t H1 locs ht hvm hw hB hz1 hk1 hS => ?_)
    obtain ⟨hP, -, hD1⟩ := hB
    rw [ht] at hP
    have hD := hD1.weaken (fun _ _ _ h => hFc _ h)
    generalize H1 = H at hP hS ⊢
    refine W.widen (k := 0) (n := 0) (by decide) (by decide) ?_
    refine lv_aload_n hx hb d_V_value_6 rfl (lv_at hl 0 rfl) ?_
    refine g_V_walk dC dI ad ca q1.2 hx hb hts hown hK hP k_533 d_V_value_7 ?_
    refine lv_iload_n hx hb d_V_value_10 rfl (lv_at hl 1 rfl) ?_
    refine lv_iload_n hx hb d_V_value_11 rfl (lv_at hl 2 rfl) ?_
    obtain ⟨q4, h5, h⟩ := vq_bi h
    have hFc := vq_freeAll hD hS hA
    refine va_calli (va_runV (As := [.int a0, .int a1]) (rest := []) ⟨hx, hb, hml, hown, hts⟩ (c_U_isKnown l htr dC dI ad ca N q1.2 a0 a1 q4 h5 H.size) (vq_cV WSk hts 2 rfl rfl ⟨by decide, by decide⟩ k_263 k_279 k_660 k_661 k_662 (by decide +kernel)) ⟨vq_blind, va_recv hK hP (ci := 7) (q0 := 7) rfl rfl, vq_here hst hS hN hP hK hD⟩ rfl rfl hl.1 rfl (lv_room (Nat.le_of_ble_eq_true rfl)) d_V_value_12 ⟨by decide, by decide⟩) hS (fun q _ h => hFc q h) hFc (fun r u t H1 locs ht hvm hw hB hz1 hk1 hS => ?_)
    obtain ⟨hP, -, hD1⟩ := hB
    rw [ht] at hP
    have hD := hD1.weaken (fun _ _ _ h => hFc _ h)
    have hw : r = q4.1 := hw
    subst hw
    generalize H1 = H at hP hS ⊢
    refine W.widen (k := 0) (n := 0) (by decide) (by decide) ?_
    refine lv_if_ne (tgt := 28) hx hb d_V_value_15 (by decide) (fun hc6 => ?_) (fun hc6 => ?_)
    ·
      rw [if_neg hc6] at h
      refine lv_aload_n hx hb d_V_value_28 rfl (lv_at hl 0 rfl) ?_
      refine g_V_walk dC dI ad ca q4.2 hx hb hts hown hK hP k_533 d_V_value_29 ?_
      refine gN_U_values dC dI ad ca q4.2 hx hb hts hown hK hP k_664 d_V_value_32 ?_
      refine lv_iload_n hx hb d_V_value_35 rfl (lv_at hl 1 rfl) ?_
      refine lv_iconst (v := 4) hx hb d_V_value_36 (by decide) ?_
      refine lv_imul hx hb d_V_value_37 ?_
      refine lv_iload_n hx hb d_V_value_38 rfl (lv_at hl 2 rfl) ?_
      refine lv_iadd hx hb d_V_value_39 ?_
      obtain ⟨hi7, h⟩ := vq_bd h
      refine al_X24 dC dI ad ca q4.2 hx hb hts hown hK hP hi7 d_V_value_40 ?_
      obtain ⟨i8, ei8, h⟩ := vq_let h
      refine vq_top ei8.symm ?_
      simp at h
    ·
      rw [if_pos hc6] at h
      have h9 : (0, q4.2) = v := by have h8 := Option.some.inj h; simp only [Prod.mk.injEq, true_and] at h8; exact Prod.ext h8.1 h8.2
      rw [← h9]
      have hws := vq_all WSk hts
      have hwu : ∀ u : State, u.vm = s.vm → s.WarmedH u.vm := fun u hu => by rw [hu]; exact State.WarmedH.refl s
      exact vq_throw2 (names := up_names) hx hb htr hown (by decide +kernel) (by decide +kernel) (fun u hu hsu => at_V_IllegalStateException (fun w hw => hws w hw _ u (hwu u hu)) hsu) hst (fun u hu => ⟨hws _ k_539 _ u (hwu u hu), hws _ k_540 _ u (hwu u hu), hws _ k_665 _ u (hwu u hu)⟩) hS hA hN hno hlocks (by decide) (hl.1.trans hml.symm) (fun t hz9 hk9 hW9 => ⟨hP.kept (fun k x hx9 => by have h7 := (hP k x hx9).lt; rw [Array.getElem?_eq_getElem h7]; exact hk9 _ _ (Array.getElem?_eq_getElem h7)), va_K.moved hW9.alike hK, hD⟩) d_V_value_18 d_V_value_21 d_V_value_22 d_V_value_24 d_V_value_27
  ·
    rw [if_neg hz3] at h
    have h2 : f_V_requireAttribute N σ a0 a1 = some ((3, q1.1.2), q1.2) := by rw [h2, ← hkd.resolve_left hz3]
    simp at h

set_option maxHeartbeats 4000000 in
set_option maxRecDepth 100000 in
theorem t_V_value_3 (l : Launch) (htr : l.stackTraces = false) (dC : Nat → ClassId) (dI : Nat → Nat → Nat) (ad : Nat → Nat) (ca : Nat → ClassId) (N : Nat) (σ : vS) (a0 : Int32) (a1 : Int32) (v : Int32 × vS) (h : f_V_value N σ a0 a1 = some ((3, v.1), v.2)) (sz : Nat) : vq_T2 l y_V_value WS ({ frames := 7, cells := 1, slots := 6, locals := 104 }) (va_Pc [.ref (ad 0), .int a0, .int a1] (vq_Pre (dC, dI) CL sz (Xw ad ca σ) (Xt ca))) "java/lang/IndexOutOfBoundsException" (va_A (Xw ad ca σ) sz) (fun t => vq_Post (dC, dI) CL (va_A (Xw ad ca σ) sz) (Xw ad ca v.2) (Xt ca) t) 1 6 := by
  refine vq_ofT2 (cc := prog_1_method_18_code) (maxL := 3) (ret := (Option.some Jvm.ClassFile.FieldType.int)) pl_V (vq_his k_663) ?_
  intro p e s m args below meth c s₁ B hml hv
  obtain ⟨rfl, hst, hsz, hP, hK, hD0⟩ := hv
  have hx := B.exec
  have hb := B.bytes
  have hr := B.returns
  have hts := atoms_spec (ws := WS) B.pre
  have hown : s.vm.findClass R_V = some m.cls := findClass_of_methodNamed B.named
  have hlocks := B.notSynchronized
  have hno := vq_noH B (hts _ k_663)
  subst hsz
  have hN := vq_ns hP
  have hD := hD0.self (sz := s.heap.size)
  generalize hAe : va_A (Xw ad ca σ) s.heap.size = A at hD hN ⊢
  have hA : ∀ q : Nat, s.heap.size ≤ q → A q := fun q h => by rw [← hAe]; exact Or.inr h
  have hS : va_S A s.heap s.heap [] := va_S.rf
  have hl := lv_entry ([.ref (ad 0), .int a0, .int a1]) (n := 3) (Nat.le_of_ble_eq_true rfl)
  rw [lg_entry_eq]
  generalize (lg_sl ([.ref (ad 0), .int a0, .int a1]) ++ List.replicate (3 - (lg_sl ([.ref (ad 0), .int a0, .int a1])).length) Slot.unset).toArray = ls at hl ⊢
  have hl : lv_has ls 3 [(0, .ref (ad 0)), (1, .int a0), (2, .int a1)] := hl
  unfold f_V_value at h
  refine lv_aload_n hx hb d_V_value_0 rfl (lv_at hl 0 rfl) ?_
  refine lv_iload_n hx hb d_V_value_1 rfl (lv_at hl 1 rfl) ?_
  refine lv_iload_n hx hb d_V_value_2 rfl (lv_at hl 2 rfl) ?_
  obtain ⟨q1, h2, h⟩ := vq_bi h
  have hFc := vq_freeAll hD hS hA
  have hkd := kd_V_requireAttribute h2
  by_cases hz3 : q1.1.1 = 0
  ·
    rw [if_pos hz3] at h
    have h2 : f_V_requireAttribute N σ a0 a1 = some ((0, q1.1.2), q1.2) := by rw [h2, ← hz3]
    refine va_callv (va_runV (As := [.int a0, .int a1]) (rest := []) ⟨hx, hb, hml, hown, hts⟩ (c_V_requireAttribute l htr dC dI ad ca N σ a0 a1 (q1.1.2, q1.2) h2 s.heap.size) (vq_cV WSk hts 2 rfl rfl ⟨by decide, by decide⟩ k_542 k_22 k_657 k_658 k_659 (by decide +kernel)) ⟨vq_blind, va_recv hK hP (ci := 0) (q0 := 0) rfl rfl, vq_here hst hS hN hP hK hD⟩ rfl rfl hl.1 rfl (lv_room (Nat.le_of_ble_eq_true rfl)) d_V_value_3 ⟨by decide, by decide⟩) hS (fun q _ h => hFc q h) hFc (fun u t H1 locs ht hvm hw hB hz1 hk1 hS => ?_)
    obtain ⟨hP, -, hD1⟩ := hB
    rw [ht] at hP
    have hD := hD1.weaken (fun _ _ _ h => hFc _ h)
    generalize H1 = H at hP hS ⊢
    refine W.widen (k := 0) (n := 0) (by decide) (by decide) ?_
    refine lv_aload_n hx hb d_V_value_6 rfl (lv_at hl 0 rfl) ?_
    refine g_V_walk dC dI ad ca q1.2 hx hb hts hown hK hP k_533 d_V_value_7 ?_
    refine lv_iload_n hx hb d_V_value_10 rfl (lv_at hl 1 rfl) ?_
    refine lv_iload_n hx hb d_V_value_11 rfl (lv_at hl 2 rfl) ?_
    obtain ⟨q4, h5, h⟩ := vq_bi h
    have hFc := vq_freeAll hD hS hA
    refine va_calli (va_runV (As := [.int a0, .int a1]) (rest := []) ⟨hx, hb, hml, hown, hts⟩ (c_U_isKnown l htr dC dI ad ca N q1.2 a0 a1 q4 h5 H.size) (vq_cV WSk hts 2 rfl rfl ⟨by decide, by decide⟩ k_263 k_279 k_660 k_661 k_662 (by decide +kernel)) ⟨vq_blind, va_recv hK hP (ci := 7) (q0 := 7) rfl rfl, vq_here hst hS hN hP hK hD⟩ rfl rfl hl.1 rfl (lv_room (Nat.le_of_ble_eq_true rfl)) d_V_value_12 ⟨by decide, by decide⟩) hS (fun q _ h => hFc q h) hFc (fun r u t H1 locs ht hvm hw hB hz1 hk1 hS => ?_)
    obtain ⟨hP, -, hD1⟩ := hB
    rw [ht] at hP
    have hD := hD1.weaken (fun _ _ _ h => hFc _ h)
    have hw : r = q4.1 := hw
    subst hw
    generalize H1 = H at hP hS ⊢
    refine W.widen (k := 0) (n := 0) (by decide) (by decide) ?_
    refine lv_if_ne (tgt := 28) hx hb d_V_value_15 (by decide) (fun hc6 => ?_) (fun hc6 => ?_)
    ·
      rw [if_neg hc6] at h
      refine lv_aload_n hx hb d_V_value_28 rfl (lv_at hl 0 rfl) ?_
      refine g_V_walk dC dI ad ca q4.2 hx hb hts hown hK hP k_533 d_V_value_29 ?_
      refine gN_U_values dC dI ad ca q4.2 hx hb hts hown hK hP k_664 d_V_value_32 ?_
      refine lv_iload_n hx hb d_V_value_35 rfl (lv_at hl 1 rfl) ?_
      refine lv_iconst (v := 4) hx hb d_V_value_36 (by decide) ?_
      refine lv_imul hx hb d_V_value_37 ?_
      refine lv_iload_n hx hb d_V_value_38 rfl (lv_at hl 2 rfl) ?_
      refine lv_iadd hx hb d_V_value_39 ?_
      obtain ⟨hi7, h⟩ := vq_bd h
      refine al_X24 dC dI ad ca q4.2 hx hb hts hown hK hP hi7 d_V_value_40 ?_
      obtain ⟨i8, ei8, h⟩ := vq_let h
      refine vq_top ei8.symm ?_
      simp at h
    ·
      rw [if_pos hc6] at h
      simp at h
  ·
    rw [if_neg hz3] at h
    have h2 : f_V_requireAttribute N σ a0 a1 = some ((3, q1.1.2), q1.2) := by rw [h2, ← hkd.resolve_left hz3]
    have h9 : (q1.1.2, q1.2) = v := by have h8 := Option.some.inj h; simp only [Prod.mk.injEq, true_and] at h8; exact Prod.ext h8.1 h8.2
    rw [← h9]
    exact vq_pass2 (vq_runT2 (As := [.int a0, .int a1]) (rest := []) ⟨hx, hb, hml, hown, hts⟩ (t_V_requireAttribute_3 l htr dC dI ad ca N σ a0 a1 (q1.1.2, q1.2) h2 s.heap.size) (vq_cV WSk hts 2 rfl rfl ⟨by decide, by decide⟩ k_542 k_22 k_657 k_658 k_659 (by decide +kernel)) ⟨vq_blind, va_recv hK hP (ci := 0) (q0 := 0) rfl rfl, vq_here hst hS hN hP hK hD⟩ rfl rfl hl.1 rfl (lv_room (Nat.le_of_ble_eq_true rfl)) d_V_value_3 ⟨by decide, by decide⟩) hS hFc hno hlocks (by decide) (by decide) (fun t t2 hh ha hb9 hB9 => ⟨by rw [← hh]; exact hB9.1, va_K.moved hb9 hK, hB9.2.2.weaken (fun _ _ _ h => hFc _ h)⟩)
