set_option maxHeartbeats 4000000 in
set_option maxRecDepth 100000 in
theorem c_M_visitOf (l : Launch) (htr : l.stackTraces = false) (dC : Nat → ClassId) (dI : Nat → Nat → Nat) (bd : Nat → Nat) (cb : Nat → ClassId) (N : Nat) (σ : vS) (a0 : Int32) (a1 : Int32) (v : Int32 × vS) (h : f_M_visitOf N σ a0 a1 = some v) (sz : Nat) : Met l y_M_visitOf WS ({ frames := 1, cells := 0, slots := 0, locals := 22 }) (va_Pc [.ref (bd 0), .int a0, .int a1] (vq_Pre (dC, dI) CL sz (Mw bd cb σ) (Mt cb))) (va_Qi (fun (r : Int32) (_ : Unit) => r = v.1) (fun _ t => vq_Post (dC, dI) CL (va_A (Mw bd cb σ) sz) (Mw bd cb v.2) (Mt cb) t) (va_A (Mw bd cb σ) sz)) 0 0 (va_A (Mw bd cb σ) sz) := by
  refine vq_ofW (cc := prog_10_method_24_code) (maxL := 4) (ret := (Option.some Jvm.ClassFile.FieldType.int)) pl_M (vq_his k_438) ?_
  intro p e s m args below meth c s₁ B hml hv
  obtain ⟨rfl, hst, hsz, hP, hK, hD0⟩ := hv
  have hx := B.exec
  have hb := B.bytes
  have hr := B.returns
  have hts := atoms_spec (ws := WS) B.pre
  have hown : s.vm.findClass R_M = some m.cls := findClass_of_methodNamed B.named
  have hlocks := B.notSynchronized
  have hno := vq_noH B (hts _ k_438)
  subst hsz
  have hN := vq_ns hP
  have hD := hD0.self (sz := s.heap.size)
  generalize hAe : va_A (Mw bd cb σ) s.heap.size = A at hD hN ⊢
  have hA : ∀ q : Nat, s.heap.size ≤ q → A q := fun q h => by rw [← hAe]; exact Or.inr h
  have hS : va_S A s.heap s.heap [] := va_S.rf
  have hl := lv_entry ([.ref (bd 0), .int a0, .int a1]) (n := 4) (Nat.le_of_ble_eq_true rfl)
  rw [lg_entry_eq]
  generalize (lg_sl ([.ref (bd 0), .int a0, .int a1]) ++ List.replicate (4 - (lg_sl ([.ref (bd 0), .int a0, .int a1])).length) Slot.unset).toArray = ls at hl ⊢
  have hl : lv_has ls 4 [(0, .ref (bd 0)), (1, .int a0), (2, .int a1)] := hl
  unfold f_M_visitOf at h
  refine lv_aload_n hx hb d_M_visitOf_0 rfl (lv_at hl 0 rfl) ?_
  refine lv_iload_n hx hb d_M_visitOf_1 rfl (lv_at hl 1 rfl) ?_
  refine lv_iload_n hx hb d_M_visitOf_2 rfl (lv_at hl 2 rfl) ?_
  obtain ⟨q1, h2, h⟩ := vq_bi h
  have hFc := vq_freeAll hD hS hA
  refine va_calli (va_runV (As := [.int a0, .int a1]) (rest := []) ⟨hx, hb, hml, hown, hts⟩ (c_M_attributeOf l htr dC dI bd cb N σ a0 a1 q1 h2 s.heap.size) (vq_cV WSk hts 2 rfl rfl ⟨by decide, by decide⟩ k_387 k_367 k_392 k_393 k_394 (by decide +kernel)) ⟨vq_blind, va_recv hK hP (ci := 8) (q0 := 0) rfl rfl, vq_here hst hS hN hP hK hD⟩ rfl rfl hl.1 rfl (lv_room (Nat.le_of_ble_eq_true rfl)) d_M_visitOf_3 ⟨by decide, by decide⟩) hS (fun q _ h => hFc q h) hFc (fun r u t H1 locs ht hvm hw hB hz1 hk1 hS => ?_)
  obtain ⟨hP, -, hD1⟩ := hB
  rw [ht] at hP
  have hD := hD1.weaken (fun _ _ _ h => hFc _ h)
  have hw : r = q1.1 := hw
  subst hw
  generalize H1 = H at hP hS ⊢
  refine W.widen (k := 0) (n := 0) (by decide) (by decide) ?_
  refine lv_istore_n (lv' := [(3, .int (q1.1)), (0, .ref (bd 0)), (1, .int a0), (2, .int a1)]) hx hb d_M_visitOf_6 rfl hl (by decide) rfl (fun ls hl => ?_)
  refine lv_aload_n hx hb d_M_visitOf_7 rfl (lv_at hl 1 rfl) ?_
  refine g_M_visits dC dI bd cb q1.2 hx hb hts hown hK hP k_427 d_M_visitOf_8 ?_
  refine lv_iload_n hx hb d_M_visitOf_11 rfl (lv_at hl 0 rfl) ?_
  refine lv_iconst (v := 4) hx hb d_M_visitOf_12 (by decide) ?_
  refine lv_idiv hx hb d_M_visitOf_13 (by decide) ?_
  obtain ⟨hi3, h⟩ := vq_bd h
  refine al_M12 dC dI bd cb q1.2 hx hb hts hown hK hP hi3 d_M_visitOf_14 ?_
  obtain ⟨i4, ei4, h⟩ := vq_let h
  refine vq_top ei4.symm ?_
  refine lv_aload_n hx hb d_M_visitOf_15 rfl (lv_at hl 1 rfl) ?_
  refine g_M_rank dC dI bd cb q1.2 hx hb hts hown hK hP k_431 d_M_visitOf_16 ?_
  refine lv_iload_n hx hb d_M_visitOf_19 rfl (lv_at hl 0 rfl) ?_
  obtain ⟨hi5, h⟩ := vq_bd h
  refine al_M11 dC dI bd cb q1.2 hx hb hts hown hK hP hi5 d_M_visitOf_20 ?_
  obtain ⟨i6, ei6, h⟩ := vq_let h
  refine vq_top ei6.symm ?_
  refine lv_iconst (v := 1) hx hb d_M_visitOf_21 (by decide) ?_
  refine lv_isub hx hb d_M_visitOf_22 ?_
  refine lv_iconst (v := 2) hx hb d_M_visitOf_23 (by decide) ?_
  refine lv_idiv hx hb d_M_visitOf_24 (by decide) ?_
  refine lv_isub hx hb d_M_visitOf_25 ?_
  have h9 := Option.some.inj h
  rw [← h9]
  exact W.iret (v := (i4 - ((i6 - 1) / 2))) hx hb hr (fun t ht hW => ⟨⟨(i4 - ((i6 - 1) / 2)), (), rfl, rfl, by rw [ht]; exact hP, va_K.moved hW.alike hK, hD⟩, hS.F ht⟩) hS.2.2 d_M_visitOf_26

set_option maxHeartbeats 4000000 in
set_option maxRecDepth 100000 in
theorem c_M_isKnown (l : Launch) (htr : l.stackTraces = false) (dC : Nat → ClassId) (dI : Nat → Nat → Nat) (bd : Nat → Nat) (cb : Nat → ClassId) (N : Nat) (σ : vS) (a0 : Int32) (a1 : Int32) (v : Int32 × vS) (h : f_M_isKnown N σ a0 a1 = some v) (sz : Nat) : Met l y_M_isKnown WS ({ frames := 2, cells := 0, slots := 0, locals := 45 }) (va_Pc [.ref (bd 0), .int a0, .int a1] (vq_Pre (dC, dI) CL sz (Mw bd cb σ) (Mt cb))) (va_Qi (fun (r : Int32) (_ : Unit) => r = v.1) (fun _ t => vq_Post (dC, dI) CL (va_A (Mw bd cb σ) sz) (Mw bd cb v.2) (Mt cb) t) (va_A (Mw bd cb σ) sz)) 0 0 (va_A (Mw bd cb σ) sz) := by
  refine vq_ofW (cc := prog_10_method_25_code) (maxL := 3) (ret := (Option.some Jvm.ClassFile.FieldType.boolean)) pl_M (vq_his k_439) ?_
  intro p e s m args below meth c s₁ B hml hv
  obtain ⟨rfl, hst, hsz, hP, hK, hD0⟩ := hv
  have hx := B.exec
  have hb := B.bytes
  have hr := B.returns
  have hts := atoms_spec (ws := WS) B.pre
  have hown : s.vm.findClass R_M = some m.cls := findClass_of_methodNamed B.named
  have hlocks := B.notSynchronized
  have hno := vq_noH B (hts _ k_439)
  subst hsz
  have hN := vq_ns hP
  have hD := hD0.self (sz := s.heap.size)
  generalize hAe : va_A (Mw bd cb σ) s.heap.size = A at hD hN ⊢
  have hA : ∀ q : Nat, s.heap.size ≤ q → A q := fun q h => by rw [← hAe]; exact Or.inr h
  have hS : va_S A s.heap s.heap [] := va_S.rf
  have hl := lv_entry ([.ref (bd 0), .int a0, .int a1]) (n := 3) (Nat.le_of_ble_eq_true rfl)
  rw [lg_entry_eq]
  generalize (lg_sl ([.ref (bd 0), .int a0, .int a1]) ++ List.replicate (3 - (lg_sl ([.ref (bd 0), .int a0, .int a1])).length) Slot.unset).toArray = ls at hl ⊢
  have hl : lv_has ls 3 [(0, .ref (bd 0)), (1, .int a0), (2, .int a1)] := hl
  unfold f_M_isKnown at h
  refine lv_aload_n hx hb d_M_isKnown_0 rfl (lv_at hl 0 rfl) ?_
  refine g_M_set dC dI bd cb σ hx hb hts hown hK hP k_440 d_M_isKnown_1 ?_
  refine lv_iload_n hx hb d_M_isKnown_4 rfl (lv_at hl 2 rfl) ?_
  obtain ⟨hi1, h⟩ := vq_bd h
  refine al_M15 dC dI bd cb σ hx hb hts hown hK hP hi1 d_M_isKnown_5 ?_
  obtain ⟨i2, ei2, h⟩ := vq_let h
  refine vq_top ei2.symm ?_
  refine lv_if_eq (tgt := 11) hx hb d_M_isKnown_6 (by decide) (fun hc3 => ?_) (fun hc3 => ?_)
  ·
    rw [if_pos hc3] at h
    refine lv_aload_n hx hb d_M_isKnown_11 rfl (lv_at hl 0 rfl) ?_
    refine lv_iload_n hx hb d_M_isKnown_12 rfl (lv_at hl 1 rfl) ?_
    refine lv_iload_n hx hb d_M_isKnown_13 rfl (lv_at hl 2 rfl) ?_
    obtain ⟨q4, h5, h⟩ := vq_bi h
    have hFc := vq_freeAll hD hS hA
    refine va_calli (va_runV (As := [.int a0, .int a1]) (rest := []) ⟨hx, hb, hml, hown, hts⟩ (c_M_isDefined l htr dC dI bd cb N σ a0 a1 q4 h5 s.heap.size) (vq_cV WSk hts 2 rfl rfl ⟨by decide, by decide⟩ k_388 k_367 k_396 k_397 k_398 (by decide +kernel)) ⟨vq_blind, va_recv hK hP (ci := 8) (q0 := 0) rfl rfl, vq_here hst hS hN hP hK hD⟩ rfl rfl hl.1 rfl (lv_room (Nat.le_of_ble_eq_true rfl)) d_M_isKnown_14 ⟨by decide, by decide⟩) hS (fun q _ h => hFc q h) hFc (fun r u t H1 locs ht hvm hw hB hz1 hk1 hS => ?_)
    obtain ⟨hP, -, hD1⟩ := hB
    rw [ht] at hP
    have hD := hD1.weaken (fun _ _ _ h => hFc _ h)
    have hw : r = q4.1 := hw
    subst hw
    generalize H1 = H at hP hS ⊢
    refine W.widen (k := 0) (n := 0) (by decide) (by decide) ?_
    refine lv_if_eq (tgt := 22) hx hb d_M_isKnown_17 (by decide) (fun hc6 => ?_) (fun hc6 => ?_)
    ·
      rw [if_pos hc6] at h
      refine lv_iload_n hx hb d_M_isKnown_22 rfl (lv_at hl 2 rfl) ?_
      refine lv_iconst (v := 4) hx hb d_M_isKnown_23 (by decide) ?_
      refine lv_icmp_ge (tgt := 52) hx hb d_M_isKnown_24 (by decide) (fun hc7 => ?_) (fun hc7 => ?_)
      ·
        rw [if_pos hc7] at h
        refine lv_aload_n hx hb d_M_isKnown_52 rfl (lv_at hl 0 rfl) ?_
        refine lv_iload_n hx hb d_M_isKnown_53 rfl (lv_at hl 1 rfl) ?_
        refine lv_iload_n hx hb d_M_isKnown_54 rfl (lv_at hl 2 rfl) ?_
        obtain ⟨q8, h9, h⟩ := vq_bi h
        have hFc := vq_freeAll hD hS hA
        refine va_calli (va_runV (As := [.int a0, .int a1]) (rest := []) ⟨hx, hb, hml, hown, hts⟩ (c_M_visitOf l htr dC dI bd cb N q4.2 a0 a1 q8 h9 H.size) (vq_cV WSk hts 2 rfl rfl ⟨by decide, by decide⟩ k_438 k_367 k_441 k_442 k_443 (by decide +kernel)) ⟨vq_blind, va_recv hK hP (ci := 8) (q0 := 0) rfl rfl, vq_here hst hS hN hP hK hD⟩ rfl rfl hl.1 rfl (lv_room (Nat.le_of_ble_eq_true rfl)) d_M_isKnown_55 ⟨by decide, by decide⟩) hS (fun q _ h => hFc q h) hFc (fun r u t H1 locs ht hvm hw hB hz1 hk1 hS => ?_)
        obtain ⟨hP, -, hD1⟩ := hB
        rw [ht] at hP
        have hD := hD1.weaken (fun _ _ _ h => hFc _ h)
        have hw : r = q8.1 := hw
        subst hw
        generalize H1 = H at hP hS ⊢
        refine W.widen (k := 0) (n := 0) (by decide) (by decide) ?_
        refine lv_aload_n hx hb d_M_isKnown_58 rfl (lv_at hl 0 rfl) ?_
        refine g_M_visited dC dI bd cb q8.2 hx hb hts hown hK hP k_444 d_M_isKnown_59 ?_
        refine lv_iload_n hx hb d_M_isKnown_62 rfl (lv_at hl 2 rfl) ?_
        refine lv_iconst (v := 4) hx hb d_M_isKnown_63 (by decide) ?_
        refine lv_idiv hx hb d_M_isKnown_64 (by decide) ?_
        obtain ⟨hi10, h⟩ := vq_bd h
        refine al_M16 dC dI bd cb q8.2 hx hb hts hown hK hP hi10 d_M_isKnown_65 ?_
        obtain ⟨i11, ei11, h⟩ := vq_let h
        refine vq_top ei11.symm ?_
        refine lv_icmp_gt (tgt := 73) hx hb d_M_isKnown_66 (by decide) (fun hc12 => ?_) (fun hc12 => ?_)
        ·
          rw [if_pos hc12] at h
          refine lv_iconst (v := 0) hx hb d_M_isKnown_73 (by decide) ?_
          have h9 := Option.some.inj h
          rw [← h9]
          exact W.zret (v := 0) (ty := .boolean) hx hb hr (by decide) (fun t ht hW => ⟨⟨0, (), rfl, rfl, by rw [ht]; exact hP, va_K.moved hW.alike hK, hD⟩, hS.F ht⟩) hS.2.2 d_M_isKnown_74
        ·
          rw [if_neg hc12] at h
          refine lv_iconst (v := 1) hx hb d_M_isKnown_69 (by decide) ?_
          refine lv_goto (tgt := 74) hx hb d_M_isKnown_70 (by decide) ?_
          have h9 := Option.some.inj h
          rw [← h9]
          exact W.zret (v := 1) (ty := .boolean) hx hb hr (by decide) (fun t ht hW => ⟨⟨1, (), rfl, rfl, by rw [ht]; exact hP, va_K.moved hW.alike hK, hD⟩, hS.F ht⟩) hS.2.2 d_M_isKnown_74
      ·
        rw [if_neg hc7] at h
        refine lv_aload_n hx hb d_M_isKnown_27 rfl (lv_at hl 0 rfl) ?_
        refine lv_iload_n hx hb d_M_isKnown_28 rfl (lv_at hl 1 rfl) ?_
        refine lv_iload_n hx hb d_M_isKnown_29 rfl (lv_at hl 2 rfl) ?_
        obtain ⟨q13, h14, h⟩ := vq_bi h
        have hFc := vq_freeAll hD hS hA
        refine va_calli (va_runV (As := [.int a0, .int a1]) (rest := []) ⟨hx, hb, hml, hown, hts⟩ (c_M_visitOf l htr dC dI bd cb N q4.2 a0 a1 q13 h14 H.size) (vq_cV WSk hts 2 rfl rfl ⟨by decide, by decide⟩ k_438 k_367 k_441 k_442 k_443 (by decide +kernel)) ⟨vq_blind, va_recv hK hP (ci := 8) (q0 := 0) rfl rfl, vq_here hst hS hN hP hK hD⟩ rfl rfl hl.1 rfl (lv_room (Nat.le_of_ble_eq_true rfl)) d_M_isKnown_30 ⟨by decide, by decide⟩) hS (fun q _ h => hFc q h) hFc (fun r u t H1 locs ht hvm hw hB hz1 hk1 hS => ?_)
        obtain ⟨hP, -, hD1⟩ := hB
        rw [ht] at hP
        have hD := hD1.weaken (fun _ _ _ h => hFc _ h)
        have hw : r = q13.1 := hw
        subst hw
        generalize H1 = H at hP hS ⊢
        refine W.widen (k := 0) (n := 0) (by decide) (by decide) ?_
        refine lv_aload_n hx hb d_M_isKnown_33 rfl (lv_at hl 0 rfl) ?_
        refine g_M_visited dC dI bd cb q13.2 hx hb hts hown hK hP k_444 d_M_isKnown_34 ?_
        refine lv_iconst (v := 0) hx hb d_M_isKnown_37 (by decide) ?_
        obtain ⟨hi15, h⟩ := vq_bd h
        refine al_M16 dC dI bd cb q13.2 hx hb hts hown hK hP hi15 d_M_isKnown_38 ?_
        obtain ⟨i16, ei16, h⟩ := vq_let h
        refine vq_top ei16.symm ?_
        refine lv_iconst (v := 1) hx hb d_M_isKnown_39 (by decide) ?_
        refine lv_iadd hx hb d_M_isKnown_40 ?_
        refine lv_icmp_gt (tgt := 48) hx hb d_M_isKnown_41 (by decide) (fun hc17 => ?_) (fun hc17 => ?_)
        ·
          rw [if_pos hc17] at h
          refine lv_iconst (v := 0) hx hb d_M_isKnown_48 (by decide) ?_
          refine lv_goto (tgt := 74) hx hb d_M_isKnown_49 (by decide) ?_
          have h9 := Option.some.inj h
          rw [← h9]
          exact W.zret (v := 0) (ty := .boolean) hx hb hr (by decide) (fun t ht hW => ⟨⟨0, (), rfl, rfl, by rw [ht]; exact hP, va_K.moved hW.alike hK, hD⟩, hS.F ht⟩) hS.2.2 d_M_isKnown_74
        ·
          rw [if_neg hc17] at h
          refine lv_iconst (v := 1) hx hb d_M_isKnown_44 (by decide) ?_
          refine lv_goto (tgt := 74) hx hb d_M_isKnown_45 (by decide) ?_
          have h9 := Option.some.inj h
          rw [← h9]
          exact W.zret (v := 1) (ty := .boolean) hx hb hr (by decide) (fun t ht hW => ⟨⟨1, (), rfl, rfl, by rw [ht]; exact hP, va_K.moved hW.alike hK, hD⟩, hS.F ht⟩) hS.2.2 d_M_isKnown_74
    ·
      rw [if_neg hc6] at h
      refine lv_iconst (v := 0) hx hb d_M_isKnown_20 (by decide) ?_
      have h9 := Option.some.inj h
      rw [← h9]
      exact W.zret (v := 0) (ty := .boolean) hx hb hr (by decide) (fun t ht hW => ⟨⟨0, (), rfl, rfl, by rw [ht]; exact hP, va_K.moved hW.alike hK, hD⟩, hS.F ht⟩) hS.2.2 d_M_isKnown_21
  ·
    rw [if_neg hc3] at h
    refine lv_iconst (v := 1) hx hb d_M_isKnown_9 (by decide) ?_
    have h9 := Option.some.inj h
    rw [← h9]
    exact W.zret (v := 1) (ty := .boolean) hx hb hr (by decide) (fun t ht hW => ⟨⟨1, (), rfl, rfl, by rw [ht]; exact hP, va_K.moved hW.alike hK, hD⟩, hS.F ht⟩) hS.2.2 d_M_isKnown_10

set_option maxHeartbeats 4000000 in
set_option maxRecDepth 100000 in
theorem c_M_canSet (l : Launch) (htr : l.stackTraces = false) (dC : Nat → ClassId) (dI : Nat → Nat → Nat) (bd : Nat → Nat) (cb : Nat → ClassId) (N : Nat) (σ : vS) (a0 : Int32) (a1 : Int32) (v : Int32 × vS) (h : f_M_canSet N σ a0 a1 = some v) (sz : Nat) : Met l y_M_canSet WS ({ frames := 3, cells := 0, slots := 0, locals := 67 }) (va_Pc [.ref (bd 0), .int a0, .int a1] (vq_Pre (dC, dI) CL sz (Mw bd cb σ) (Mt cb))) (va_Qi (fun (r : Int32) (_ : Unit) => r = v.1) (fun _ t => vq_Post (dC, dI) CL (va_A (Mw bd cb σ) sz) (Mw bd cb v.2) (Mt cb) t) (va_A (Mw bd cb σ) sz)) 0 0 (va_A (Mw bd cb σ) sz) := by
  refine vq_ofW (cc := prog_10_method_26_code) (maxL := 5) (ret := (Option.some Jvm.ClassFile.FieldType.boolean)) pl_M (vq_his k_445) ?_
  intro p e s m args below meth c s₁ B hml hv
  obtain ⟨rfl, hst, hsz, hP, hK, hD0⟩ := hv
  have hx := B.exec
  have hb := B.bytes
  have hr := B.returns
  have hts := atoms_spec (ws := WS) B.pre
  have hown : s.vm.findClass R_M = some m.cls := findClass_of_methodNamed B.named
  have hlocks := B.notSynchronized
  have hno := vq_noH B (hts _ k_445)
  subst hsz
  have hN := vq_ns hP
  have hD := hD0.self (sz := s.heap.size)
  generalize hAe : va_A (Mw bd cb σ) s.heap.size = A at hD hN ⊢
  have hA : ∀ q : Nat, s.heap.size ≤ q → A q := fun q h => by rw [← hAe]; exact Or.inr h
  have hS : va_S A s.heap s.heap [] := va_S.rf
  have hl := lv_entry ([.ref (bd 0), .int a0, .int a1]) (n := 5) (Nat.le_of_ble_eq_true rfl)
  rw [lg_entry_eq]
  generalize (lg_sl ([.ref (bd 0), .int a0, .int a1]) ++ List.replicate (5 - (lg_sl ([.ref (bd 0), .int a0, .int a1])).length) Slot.unset).toArray = ls at hl ⊢
  have hl : lv_has ls 5 [(0, .ref (bd 0)), (1, .int a0), (2, .int a1)] := hl
  unfold f_M_canSet at h
  refine lv_aload_n hx hb d_M_canSet_0 rfl (lv_at hl 0 rfl) ?_
  refine lv_iload_n hx hb d_M_canSet_1 rfl (lv_at hl 1 rfl) ?_
  refine lv_iload_n hx hb d_M_canSet_2 rfl (lv_at hl 2 rfl) ?_
  obtain ⟨q1, h2, h⟩ := vq_bi h
  have hFc := vq_freeAll hD hS hA
  refine va_calli (va_runV (As := [.int a0, .int a1]) (rest := []) ⟨hx, hb, hml, hown, hts⟩ (c_M_isDefined l htr dC dI bd cb N σ a0 a1 q1 h2 s.heap.size) (vq_cV WSk hts 2 rfl rfl ⟨by decide, by decide⟩ k_388 k_367 k_396 k_397 k_398 (by decide +kernel)) ⟨vq_blind, va_recv hK hP (ci := 8) (q0 := 0) rfl rfl, vq_here hst hS hN hP hK hD⟩ rfl rfl hl.1 rfl (lv_room (Nat.le_of_ble_eq_true rfl)) d_M_canSet_3 ⟨by decide, by decide⟩) hS (fun q _ h => hFc q h) hFc (fun r u t H1 locs ht hvm hw hB hz1 hk1 hS => ?_)
  obtain ⟨hP, -, hD1⟩ := hB
  rw [ht] at hP
  have hD := hD1.weaken (fun _ _ _ h => hFc _ h)
  have hw : r = q1.1 := hw
  subst hw
  generalize H1 = H at hP hS ⊢
  refine W.widen (k := 0) (n := 0) (by decide) (by decide) ?_
  refine lv_if_eq (tgt := 18) hx hb d_M_canSet_6 (by decide) (fun hc3 => ?_) (fun hc3 => ?_)
  ·
    rw [if_pos hc3] at h
    refine lv_iconst (v := 0) hx hb d_M_canSet_18 (by decide) ?_
    have h9 := Option.some.inj h
    rw [← h9]
    exact W.zret (v := 0) (ty := .boolean) hx hb hr (by decide) (fun t ht hW => ⟨⟨0, (), rfl, rfl, by rw [ht]; exact hP, va_K.moved hW.alike hK, hD⟩, hS.F ht⟩) hS.2.2 d_M_canSet_19
  ·
    rw [if_neg hc3] at h
    refine lv_aload_n hx hb d_M_canSet_9 rfl (lv_at hl 0 rfl) ?_
    refine g_M_set dC dI bd cb q1.2 hx hb hts hown hK hP k_440 d_M_canSet_10 ?_
    refine lv_iload_n hx hb d_M_canSet_13 rfl (lv_at hl 2 rfl) ?_
    obtain ⟨hi4, h⟩ := vq_bd h
    refine al_M15 dC dI bd cb q1.2 hx hb hts hown hK hP hi4 d_M_canSet_14 ?_
    obtain ⟨i5, ei5, h⟩ := vq_let h
    refine vq_top ei5.symm ?_
    refine lv_if_eq (tgt := 20) hx hb d_M_canSet_15 (by decide) (fun hc6 => ?_) (fun hc6 => ?_)
    ·
      rw [if_pos hc6] at h
      refine lv_iconst (v := 1) hx hb d_M_canSet_20 (by decide) ?_
      refine lv_istore_n (lv' := [(3, .int 1), (0, .ref (bd 0)), (1, .int a0), (2, .int a1)]) hx hb d_M_canSet_21 rfl hl (by decide) rfl (fun ls hl => ?_)
      refine lv_iconst (v := 0) hx hb d_M_canSet_22 (by decide) ?_
      refine lv_istore (lv' := [(4, .int 0), (3, .int 1), (0, .ref (bd 0)), (1, .int a0), (2, .int a1)]) hx hb d_M_canSet_23 hl (by decide) rfl (fun ls hl => ?_)
      have L25 : ∀ n25 : Nat, ∀ (τ : vS) (x1 : Int32) (x2 : Int32) (x3 : Int32) (x4 : Int32) (H : Heap) (locs : List Loc) (ls : Array Slot), f_M_canSet_25 N n25 τ x1 x2 x3 x4 = some v → lv_has ls 5 [(0, .ref (bd 0)), (1, .int x1), (2, .int x2), (3, .int x3), (4, .int x4)] → va_P (dC, dI) CL (Mw bd cb τ) H → va_D A (Mw bd cb τ) → va_S A s.heap H locs → W p l e (headSpec WS ({ frames := 3, cells := 0, slots := 0, locals := 67 })).room s m ([.ref (bd 0), .int a0, .int a1] : List Value).toArray below meth c H locs 0 0 (MQ below (va_Qi (fun (r : Int32) (_ : Unit) => r = v.1) (fun _ t => vq_Post (dC, dI) CL A (Mw bd cb v.2) (Mt cb) t) A) ([.ref (bd 0), .int a0, .int a1] : List Value).toArray s 0 0 A) (F0 m 25 ls []) := by
        intro n25
        induction n25 with
        | zero =>
          intro τ x1 x2 x3 x4 H locs ls h hl hP hD hS
          rw [f_M_canSet_25] at h
          cases h
        | succ n25 ih25 =>
          intro τ x1 x2 x3 x4 H locs ls h hl hP hD hS
          rw [f_M_canSet_25] at h
          dsimp only at h
          refine lv_iload hx hb d_M_canSet_25 (lv_at hl 4 rfl) ?_
          refine lv_bipush (v := 16) hx hb d_M_canSet_27 (by decide) ?_
          refine lv_icmp_ge (tgt := 69) hx hb d_M_canSet_29 (by decide) (fun hc7 => ?_) (fun hc7 => ?_)
          ·
            rw [if_pos hc7] at h
            refine lv_iload_n hx hb d_M_canSet_69 rfl (lv_at hl 3 rfl) ?_
            have h9 := Option.some.inj h
            rw [← h9]
            exact vq_zret hx hb hr (fun t ht hW => ⟨⟨_, (), rfl, rfl, by rw [ht]; exact hP, va_K.moved hW.alike hK, hD⟩, hS.F ht⟩) hS.2.2 d_M_canSet_70
          ·
            rw [if_neg hc7] at h
            refine lv_iload_n hx hb d_M_canSet_32 rfl (lv_at hl 3 rfl) ?_
            have J62 : ∀ (τ : vS) (x1 : Int32) (x2 : Int32) (x4 : Int32) (y0 : Int32) (H : Heap) (locs : List Loc) (ls : Array Slot), f_M_canSet_62 N (f_M_canSet_25 N n25) τ x1 x2 x4 y0 = some v → lv_has ls 5 [(0, .ref (bd 0)), (1, .int x1), (2, .int x2), (4, .int x4)] → va_P (dC, dI) CL (Mw bd cb τ) H → va_D A (Mw bd cb τ) → va_S A s.heap H locs → W p l e (headSpec WS ({ frames := 3, cells := 0, slots := 0, locals := 67 })).room s m ([.ref (bd 0), .int a0, .int a1] : List Value).toArray below meth c H locs 0 0 (MQ below (va_Qi (fun (r : Int32) (_ : Unit) => r = v.1) (fun _ t => vq_Post (dC, dI) CL A (Mw bd cb v.2) (Mt cb) t) A) ([.ref (bd 0), .int a0, .int a1] : List Value).toArray s 0 0 A) (F0 m 62 ls [.int y0]) := by
              intro τ x1 x2 x4 y0 H locs ls h hl hP hD hS
              unfold f_M_canSet_62 at h
              refine lv_istore_n (lv' := [(3, .int y0), (0, .ref (bd 0)), (1, .int x1), (2, .int x2), (4, .int x4)]) hx hb d_M_canSet_62 rfl hl (by decide) rfl (fun ls hl => ?_)
              refine lv_iinc (k := 4) (v := (x4 + 1)) (lv' := [(4, .int (x4 + 1)), (3, .int y0), (0, .ref (bd 0)), (1, .int x1), (2, .int x2)]) hx hb d_M_canSet_63 hl rfl rfl (by decide) rfl (fun ls hl => ?_)
              refine lv_goto (tgt := 25) hx hb d_M_canSet_66 (by decide) ?_
              exact ih25 _ _ _ _ _ _ _ _ h (lv_sub hl [2, 3, 4, 1, 0] rfl) hP hD hS
            have J61 : ∀ (τ : vS) (x1 : Int32) (x2 : Int32) (x4 : Int32) (H : Heap) (locs : List Loc) (ls : Array Slot), f_M_canSet_61 N (f_M_canSet_25 N n25) τ x1 x2 x4 = some v → lv_has ls 5 [(0, .ref (bd 0)), (1, .int x1), (2, .int x2), (4, .int x4)] → va_P (dC, dI) CL (Mw bd cb τ) H → va_D A (Mw bd cb τ) → va_S A s.heap H locs → W p l e (headSpec WS ({ frames := 3, cells := 0, slots := 0, locals := 67 })).room s m ([.ref (bd 0), .int a0, .int a1] : List Value).toArray below meth c H locs 0 0 (MQ below (va_Qi (fun (r : Int32) (_ : Unit) => r = v.1) (fun _ t => vq_Post (dC, dI) CL A (Mw bd cb v.2) (Mt cb) t) A) ([.ref (bd 0), .int a0, .int a1] : List Value).toArray s 0 0 A) (F0 m 61 ls []) := by
              intro τ x1 x2 x4 H locs ls h hl hP hD hS
              unfold f_M_canSet_61 at h
              refine lv_iconst (v := 0) hx hb d_M_canSet_61 (by decide) ?_
              exact J62 _ _ _ _ _ _ _ _ h (lv_sub hl [0, 1, 2, 3] rfl) hP hD hS
            refine lv_if_eq (tgt := 61) hx hb d_M_canSet_33 (by decide) (fun hc8 => ?_) (fun hc8 => ?_)
            ·
              rw [if_pos hc8] at h
              exact J61 _ _ _ _ _ _ _ h (lv_sub hl [0, 1, 2, 4] rfl) hP hD hS
            ·
              rw [if_neg hc8] at h
              refine lv_aload_n hx hb d_M_canSet_36 rfl (lv_at hl 0 rfl) ?_
              refine lv_iload_n hx hb d_M_canSet_37 rfl (lv_at hl 1 rfl) ?_
              refine lv_iload hx hb d_M_canSet_38 (lv_at hl 4 rfl) ?_
              refine lv_iload_n hx hb d_M_canSet_40 rfl (lv_at hl 2 rfl) ?_
              obtain ⟨q9, h10, h⟩ := vq_bi h
              have hFc := vq_freeAll hD hS hA
              refine va_calli (va_runV (As := [.int x1, .int x4, .int x2]) (rest := []) ⟨hx, hb, hml, hown, hts⟩ (c_M_isUsed l htr dC dI bd cb N τ x1 x4 x2 q9 h10 H.size) (vq_cV WSk hts 3 rfl rfl ⟨by decide, by decide⟩ k_404 k_367 k_416 k_417 k_418 (by decide +kernel)) ⟨vq_blind, va_recv hK hP (ci := 8) (q0 := 0) rfl rfl, vq_here hst hS hN hP hK hD⟩ rfl rfl hl.1 rfl (lv_room (Nat.le_of_ble_eq_true rfl)) d_M_canSet_41 ⟨by decide, by decide⟩) hS (fun q _ h => hFc q h) hFc (fun r u t H1 locs ht hvm hw hB hz1 hk1 hS => ?_)
              obtain ⟨hP, -, hD1⟩ := hB
              rw [ht] at hP
              have hD := hD1.weaken (fun _ _ _ h => hFc _ h)
              have hw : r = q9.1 := hw
              subst hw
              generalize H1 = H at hP hS ⊢
              refine W.widen (k := 0) (n := 0) (by decide) (by decide) ?_
              have J57 : ∀ (τ : vS) (x1 : Int32) (x2 : Int32) (x4 : Int32) (H : Heap) (locs : List Loc) (ls : Array Slot), f_M_canSet_57 N (f_M_canSet_25 N n25) τ x1 x2 x4 = some v → lv_has ls 5 [(0, .ref (bd 0)), (1, .int x1), (2, .int x2), (4, .int x4)] → va_P (dC, dI) CL (Mw bd cb τ) H → va_D A (Mw bd cb τ) → va_S A s.heap H locs → W p l e (headSpec WS ({ frames := 3, cells := 0, slots := 0, locals := 67 })).room s m ([.ref (bd 0), .int a0, .int a1] : List Value).toArray below meth c H locs 0 0 (MQ below (va_Qi (fun (r : Int32) (_ : Unit) => r = v.1) (fun _ t => vq_Post (dC, dI) CL A (Mw bd cb v.2) (Mt cb) t) A) ([.ref (bd 0), .int a0, .int a1] : List Value).toArray s 0 0 A) (F0 m 57 ls []) := by
                intro τ x1 x2 x4 H locs ls h hl hP hD hS
                unfold f_M_canSet_57 at h
                refine lv_iconst (v := 1) hx hb d_M_canSet_57 (by decide) ?_
                refine lv_goto (tgt := 62) hx hb d_M_canSet_58 (by decide) ?_
                exact J62 _ _ _ _ _ _ _ _ h (lv_sub hl [0, 1, 2, 3] rfl) hP hD hS
              refine lv_if_eq (tgt := 57) hx hb d_M_canSet_44 (by decide) (fun hc11 => ?_) (fun hc11 => ?_)
              ·
                rw [if_pos hc11] at h
                exact J57 _ _ _ _ _ _ _ h (lv_sub hl [0, 1, 2, 4] rfl) hP hD hS
              ·
                rw [if_neg hc11] at h
                refine lv_aload_n hx hb d_M_canSet_47 rfl (lv_at hl 0 rfl) ?_
                refine lv_iload_n hx hb d_M_canSet_48 rfl (lv_at hl 1 rfl) ?_
                refine lv_iload hx hb d_M_canSet_49 (lv_at hl 4 rfl) ?_
                obtain ⟨q12, h13, h⟩ := vq_bi h
                have hFc := vq_freeAll hD hS hA
                refine va_calli (va_runV (As := [.int x1, .int x4]) (rest := []) ⟨hx, hb, hml, hown, hts⟩ (c_M_isKnown l htr dC dI bd cb N q9.2 x1 x4 q12 h13 H.size) (vq_cV WSk hts 2 rfl rfl ⟨by decide, by decide⟩ k_439 k_367 k_446 k_447 k_448 (by decide +kernel)) ⟨vq_blind, va_recv hK hP (ci := 8) (q0 := 0) rfl rfl, vq_here hst hS hN hP hK hD⟩ rfl rfl hl.1 rfl (lv_room (Nat.le_of_ble_eq_true rfl)) d_M_canSet_51 ⟨by decide, by decide⟩) hS (fun q _ h => hFc q h) hFc (fun r u t H1 locs ht hvm hw hB hz1 hk1 hS => ?_)
                obtain ⟨hP, -, hD1⟩ := hB
                rw [ht] at hP
                have hD := hD1.weaken (fun _ _ _ h => hFc _ h)
                have hw : r = q12.1 := hw
                subst hw
                generalize H1 = H at hP hS ⊢
                refine W.widen (k := 0) (n := 0) (by decide) (by decide) ?_
                refine lv_if_eq (tgt := 61) hx hb d_M_canSet_54 (by decide) (fun hc14 => ?_) (fun hc14 => ?_)
                ·
                  rw [if_pos hc14] at h
                  exact J61 _ _ _ _ _ _ _ h (lv_sub hl [0, 1, 2, 4] rfl) hP hD hS
                ·
                  rw [if_neg hc14] at h
                  exact J57 _ _ _ _ _ _ _ h (lv_sub hl [0, 1, 2, 4] rfl) hP hD hS
      exact L25 N _ _ _ _ _ _ _ _ h (lv_sub hl [2, 3, 4, 1, 0] rfl) hP hD hS
    ·
      rw [if_neg hc6] at h
      refine lv_iconst (v := 0) hx hb d_M_canSet_18 (by decide) ?_
      have h9 := Option.some.inj h
      rw [← h9]
      exact W.zret (v := 0) (ty := .boolean) hx hb hr (by decide) (fun t ht hW => ⟨⟨0, (), rfl, rfl, by rw [ht]; exact hP, va_K.moved hW.alike hK, hD⟩, hS.F ht⟩) hS.2.2 d_M_canSet_19

set_option maxHeartbeats 4000000 in
set_option maxRecDepth 100000 in
theorem c_M_isPrepared (l : Launch) (htr : l.stackTraces = false) (dC : Nat → ClassId) (dI : Nat → Nat → Nat) (bd : Nat → Nat) (cb : Nat → ClassId) (N : Nat) (σ : vS) (a0 : Int32) (a1 : Int32) (a2 : Int32) (v : Int32 × vS) (h : f_M_isPrepared N σ a0 a1 a2 = some v) (sz : Nat) : Met l y_M_isPrepared WS ({ frames := 2, cells := 0, slots := 0, locals := 45 }) (va_Pc [.ref (bd 0), .int a0, .int a1, .int a2] (vq_Pre (dC, dI) CL sz (Mw bd cb σ) (Mt cb))) (va_Qi (fun (r : Int32) (_ : Unit) => r = v.1) (fun _ t => vq_Post (dC, dI) CL (va_A (Mw bd cb σ) sz) (Mw bd cb v.2) (Mt cb) t) (va_A (Mw bd cb σ) sz)) 0 0 (va_A (Mw bd cb σ) sz) := by
  refine vq_ofW (cc := prog_10_method_27_code) (maxL := 6) (ret := (Option.some Jvm.ClassFile.FieldType.boolean)) pl_M (vq_his k_449) ?_
  intro p e s m args below meth c s₁ B hml hv
  obtain ⟨rfl, hst, hsz, hP, hK, hD0⟩ := hv
  have hx := B.exec
  have hb := B.bytes
  have hr := B.returns
  have hts := atoms_spec (ws := WS) B.pre
  have hown : s.vm.findClass R_M = some m.cls := findClass_of_methodNamed B.named
  have hlocks := B.notSynchronized
  have hno := vq_noH B (hts _ k_449)
  subst hsz
  have hN := vq_ns hP
  have hD := hD0.self (sz := s.heap.size)
  generalize hAe : va_A (Mw bd cb σ) s.heap.size = A at hD hN ⊢
  have hA : ∀ q : Nat, s.heap.size ≤ q → A q := fun q h => by rw [← hAe]; exact Or.inr h
  have hS : va_S A s.heap s.heap [] := va_S.rf
  have hl := lv_entry ([.ref (bd 0), .int a0, .int a1, .int a2]) (n := 6) (Nat.le_of_ble_eq_true rfl)
  rw [lg_entry_eq]
  generalize (lg_sl ([.ref (bd 0), .int a0, .int a1, .int a2]) ++ List.replicate (6 - (lg_sl ([.ref (bd 0), .int a0, .int a1, .int a2])).length) Slot.unset).toArray = ls at hl ⊢
  have hl : lv_has ls 6 [(0, .ref (bd 0)), (1, .int a0), (2, .int a1), (3, .int a2)] := hl
  unfold f_M_isPrepared at h
  refine lv_iconst (v := 1) hx hb d_M_isPrepared_0 (by decide) ?_
  refine lv_istore (lv' := [(4, .int 1), (0, .ref (bd 0)), (1, .int a0), (2, .int a1), (3, .int a2)]) hx hb d_M_isPrepared_1 hl (by decide) rfl (fun ls hl => ?_)
  refine lv_iconst (v := 4) hx hb d_M_isPrepared_3 (by decide) ?_
  refine lv_iload_n hx hb d_M_isPrepared_4 rfl (lv_at hl 3 rfl) ?_
  refine lv_imul hx hb d_M_isPrepared_5 ?_
  refine lv_istore (lv' := [(5, .int ((4 : Int32) * a1)), (4, .int 1), (0, .ref (bd 0)), (1, .int a0), (2, .int a1), (3, .int a2)]) hx hb d_M_isPrepared_6 hl (by decide) rfl (fun ls hl => ?_)
  have L8 : ∀ n8 : Nat, ∀ (τ : vS) (x1 : Int32) (x2 : Int32) (x3 : Int32) (x4 : Int32) (x5 : Int32) (H : Heap) (locs : List Loc) (ls : Array Slot), f_M_isPrepared_8 N n8 τ x1 x2 x3 x4 x5 = some v → lv_has ls 6 [(0, .ref (bd 0)), (1, .int x1), (2, .int x2), (3, .int x3), (4, .int x4), (5, .int x5)] → va_P (dC, dI) CL (Mw bd cb τ) H → va_D A (Mw bd cb τ) → va_S A s.heap H locs → W p l e (headSpec WS ({ frames := 2, cells := 0, slots := 0, locals := 45 })).room s m ([.ref (bd 0), .int a0, .int a1, .int a2] : List Value).toArray below meth c H locs 0 0 (MQ below (va_Qi (fun (r : Int32) (_ : Unit) => r = v.1) (fun _ t => vq_Post (dC, dI) CL A (Mw bd cb v.2) (Mt cb) t) A) ([.ref (bd 0), .int a0, .int a1, .int a2] : List Value).toArray s 0 0 A) (F0 m 8 ls []) := by
    intro n8
    induction n8 with
    | zero =>
      intro τ x1 x2 x3 x4 x5 H locs ls h hl hP hD hS
      rw [f_M_isPrepared_8] at h
      cases h
    | succ n8 ih8 =>
      intro τ x1 x2 x3 x4 x5 H locs ls h hl hP hD hS
      rw [f_M_isPrepared_8] at h
      dsimp only at h
      refine lv_iload hx hb d_M_isPrepared_8 (lv_at hl 5 rfl) ?_
      refine lv_iconst (v := 4) hx hb d_M_isPrepared_10 (by decide) ?_
      refine lv_iload_n hx hb d_M_isPrepared_11 rfl (lv_at hl 2 rfl) ?_
      refine lv_imul hx hb d_M_isPrepared_12 ?_
      refine lv_iconst (v := 4) hx hb d_M_isPrepared_13 (by decide) ?_
      refine lv_iadd hx hb d_M_isPrepared_14 ?_
      refine lv_icmp_ge (tgt := 67) hx hb d_M_isPrepared_15 (by decide) (fun hc1 => ?_) (fun hc1 => ?_)
      ·
        rw [if_pos hc1] at h
        refine lv_iload hx hb d_M_isPrepared_67 (lv_at hl 4 rfl) ?_
        have h9 := Option.some.inj h
        rw [← h9]
        exact vq_zret hx hb hr (fun t ht hW => ⟨⟨_, (), rfl, rfl, by rw [ht]; exact hP, va_K.moved hW.alike hK, hD⟩, hS.F ht⟩) hS.2.2 d_M_isPrepared_69
      ·
        rw [if_neg hc1] at h
        refine lv_iload hx hb d_M_isPrepared_18 (lv_at hl 4 rfl) ?_
        have J59 : ∀ (τ : vS) (x1 : Int32) (x2 : Int32) (x3 : Int32) (x5 : Int32) (y0 : Int32) (H : Heap) (locs : List Loc) (ls : Array Slot), f_M_isPrepared_59 N (f_M_isPrepared_8 N n8) τ x1 x2 x3 x5 y0 = some v → lv_has ls 6 [(0, .ref (bd 0)), (1, .int x1), (2, .int x2), (3, .int x3), (5, .int x5)] → va_P (dC, dI) CL (Mw bd cb τ) H → va_D A (Mw bd cb τ) → va_S A s.heap H locs → W p l e (headSpec WS ({ frames := 2, cells := 0, slots := 0, locals := 45 })).room s m ([.ref (bd 0), .int a0, .int a1, .int a2] : List Value).toArray below meth c H locs 0 0 (MQ below (va_Qi (fun (r : Int32) (_ : Unit) => r = v.1) (fun _ t => vq_Post (dC, dI) CL A (Mw bd cb v.2) (Mt cb) t) A) ([.ref (bd 0), .int a0, .int a1, .int a2] : List Value).toArray s 0 0 A) (F0 m 59 ls [.int y0]) := by
          intro τ x1 x2 x3 x5 y0 H locs ls h hl hP hD hS
          unfold f_M_isPrepared_59 at h
          refine lv_istore (lv' := [(4, .int y0), (0, .ref (bd 0)), (1, .int x1), (2, .int x2), (3, .int x3), (5, .int x5)]) hx hb d_M_isPrepared_59 hl (by decide) rfl (fun ls hl => ?_)
          refine lv_iinc (k := 5) (v := (x5 + 1)) (lv' := [(5, .int (x5 + 1)), (4, .int y0), (0, .ref (bd 0)), (1, .int x1), (2, .int x2), (3, .int x3)]) hx hb d_M_isPrepared_61 hl rfl rfl (by decide) rfl (fun ls hl => ?_)
          refine lv_goto (tgt := 8) hx hb d_M_isPrepared_64 (by decide) ?_
          exact ih8 _ _ _ _ _ _ _ _ _ h (lv_sub hl [2, 3, 4, 5, 1, 0] rfl) hP hD hS
        have J58 : ∀ (τ : vS) (x1 : Int32) (x2 : Int32) (x3 : Int32) (x5 : Int32) (H : Heap) (locs : List Loc) (ls : Array Slot), f_M_isPrepared_58 N (f_M_isPrepared_8 N n8) τ x1 x2 x3 x5 = some v → lv_has ls 6 [(0, .ref (bd 0)), (1, .int x1), (2, .int x2), (3, .int x3), (5, .int x5)] → va_P (dC, dI) CL (Mw bd cb τ) H → va_D A (Mw bd cb τ) → va_S A s.heap H locs → W p l e (headSpec WS ({ frames := 2, cells := 0, slots := 0, locals := 45 })).room s m ([.ref (bd 0), .int a0, .int a1, .int a2] : List Value).toArray below meth c H locs 0 0 (MQ below (va_Qi (fun (r : Int32) (_ : Unit) => r = v.1) (fun _ t => vq_Post (dC, dI) CL A (Mw bd cb v.2) (Mt cb) t) A) ([.ref (bd 0), .int a0, .int a1, .int a2] : List Value).toArray s 0 0 A) (F0 m 58 ls []) := by
          intro τ x1 x2 x3 x5 H locs ls h hl hP hD hS
          unfold f_M_isPrepared_58 at h
          refine lv_iconst (v := 0) hx hb d_M_isPrepared_58 (by decide) ?_
          exact J59 _ _ _ _ _ _ _ _ _ h (lv_sub hl [0, 1, 2, 3, 4] rfl) hP hD hS
        refine lv_if_eq (tgt := 58) hx hb d_M_isPrepared_20 (by decide) (fun hc2 => ?_) (fun hc2 => ?_)
        ·
          rw [if_pos hc2] at h
          exact J58 _ _ _ _ _ _ _ _ h (lv_sub hl [0, 1, 2, 3, 5] rfl) hP hD hS
        ·
          rw [if_neg hc2] at h
          refine lv_aload_n hx hb d_M_isPrepared_23 rfl (lv_at hl 0 rfl) ?_
          refine lv_iload_n hx hb d_M_isPrepared_24 rfl (lv_at hl 1 rfl) ?_
          refine lv_iload hx hb d_M_isPrepared_25 (lv_at hl 5 rfl) ?_
          obtain ⟨q3, h4, h⟩ := vq_bi h
          have hFc := vq_freeAll hD hS hA
          refine va_calli (va_runV (As := [.int x1, .int x5]) (rest := []) ⟨hx, hb, hml, hown, hts⟩ (c_M_isDefined l htr dC dI bd cb N τ x1 x5 q3 h4 H.size) (vq_cV WSk hts 2 rfl rfl ⟨by decide, by decide⟩ k_388 k_367 k_396 k_397 k_398 (by decide +kernel)) ⟨vq_blind, va_recv hK hP (ci := 8) (q0 := 0) rfl rfl, vq_here hst hS hN hP hK hD⟩ rfl rfl hl.1 rfl (lv_room (Nat.le_of_ble_eq_true rfl)) d_M_isPrepared_27 ⟨by decide, by decide⟩) hS (fun q _ h => hFc q h) hFc (fun r u t H1 locs ht hvm hw hB hz1 hk1 hS => ?_)
          obtain ⟨hP, -, hD1⟩ := hB
          rw [ht] at hP
          have hD := hD1.weaken (fun _ _ _ h => hFc _ h)
          have hw : r = q3.1 := hw
          subst hw
          generalize H1 = H at hP hS ⊢
          refine W.widen (k := 0) (n := 0) (by decide) (by decide) ?_
          have J54 : ∀ (τ : vS) (x1 : Int32) (x2 : Int32) (x3 : Int32) (x5 : Int32) (H : Heap) (locs : List Loc) (ls : Array Slot), f_M_isPrepared_54 N (f_M_isPrepared_8 N n8) τ x1 x2 x3 x5 = some v → lv_has ls 6 [(0, .ref (bd 0)), (1, .int x1), (2, .int x2), (3, .int x3), (5, .int x5)] → va_P (dC, dI) CL (Mw bd cb τ) H → va_D A (Mw bd cb τ) → va_S A s.heap H locs → W p l e (headSpec WS ({ frames := 2, cells := 0, slots := 0, locals := 45 })).room s m ([.ref (bd 0), .int a0, .int a1, .int a2] : List Value).toArray below meth c H locs 0 0 (MQ below (va_Qi (fun (r : Int32) (_ : Unit) => r = v.1) (fun _ t => vq_Post (dC, dI) CL A (Mw bd cb v.2) (Mt cb) t) A) ([.ref (bd 0), .int a0, .int a1, .int a2] : List Value).toArray s 0 0 A) (F0 m 54 ls []) := by
            intro τ x1 x2 x3 x5 H locs ls h hl hP hD hS
            unfold f_M_isPrepared_54 at h
            refine lv_iconst (v := 1) hx hb d_M_isPrepared_54 (by decide) ?_
            refine lv_goto (tgt := 59) hx hb d_M_isPrepared_55 (by decide) ?_
            exact J59 _ _ _ _ _ _ _ _ _ h (lv_sub hl [0, 1, 2, 3, 4] rfl) hP hD hS
          refine lv_if_eq (tgt := 54) hx hb d_M_isPrepared_30 (by decide) (fun hc5 => ?_) (fun hc5 => ?_)
          ·
            rw [if_pos hc5] at h
            exact J54 _ _ _ _ _ _ _ _ h (lv_sub hl [0, 1, 2, 3, 5] rfl) hP hD hS
          ·
            rw [if_neg hc5] at h
            refine lv_aload_n hx hb d_M_isPrepared_33 rfl (lv_at hl 0 rfl) ?_
            refine g_M_set dC dI bd cb q3.2 hx hb hts hown hK hP k_440 d_M_isPrepared_34 ?_
            refine lv_iload hx hb d_M_isPrepared_37 (lv_at hl 5 rfl) ?_
            obtain ⟨hi6, h⟩ := vq_bd h
            refine al_M15 dC dI bd cb q3.2 hx hb hts hown hK hP hi6 d_M_isPrepared_39 ?_
            obtain ⟨i7, ei7, h⟩ := vq_let h
            refine vq_top ei7.symm ?_
            refine lv_if_ne (tgt := 54) hx hb d_M_isPrepared_40 (by decide) (fun hc8 => ?_) (fun hc8 => ?_)
            ·
              rw [if_neg hc8] at h
              exact J54 _ _ _ _ _ _ _ _ h (lv_sub hl [0, 1, 2, 3, 5] rfl) hP hD hS
            ·
              rw [if_pos hc8] at h
              refine lv_aload_n hx hb d_M_isPrepared_43 rfl (lv_at hl 0 rfl) ?_
              refine lv_iload_n hx hb d_M_isPrepared_44 rfl (lv_at hl 1 rfl) ?_
              refine lv_iload hx hb d_M_isPrepared_45 (lv_at hl 5 rfl) ?_
              obtain ⟨q9, h10, h⟩ := vq_bi h
              have hFc := vq_freeAll hD hS hA
              refine va_calli (va_runV (As := [.int x1, .int x5]) (rest := []) ⟨hx, hb, hml, hown, hts⟩ (c_M_visitOf l htr dC dI bd cb N q3.2 x1 x5 q9 h10 H.size) (vq_cV WSk hts 2 rfl rfl ⟨by decide, by decide⟩ k_438 k_367 k_441 k_442 k_443 (by decide +kernel)) ⟨vq_blind, va_recv hK hP (ci := 8) (q0 := 0) rfl rfl, vq_here hst hS hN hP hK hD⟩ rfl rfl hl.1 rfl (lv_room (Nat.le_of_ble_eq_true rfl)) d_M_isPrepared_47 ⟨by decide, by decide⟩) hS (fun q _ h => hFc q h) hFc (fun r u t H1 locs ht hvm hw hB hz1 hk1 hS => ?_)
              obtain ⟨hP, -, hD1⟩ := hB
              rw [ht] at hP
              have hD := hD1.weaken (fun _ _ _ h => hFc _ h)
              have hw : r = q9.1 := hw
              subst hw
              generalize H1 = H at hP hS ⊢
              refine W.widen (k := 0) (n := 0) (by decide) (by decide) ?_
              refine lv_iload_n hx hb d_M_isPrepared_50 rfl (lv_at hl 3 rfl) ?_
              refine lv_icmp_eq (tgt := 58) hx hb d_M_isPrepared_51 (by decide) (fun hc11 => ?_) (fun hc11 => ?_)
              ·
                rw [if_pos hc11] at h
                exact J58 _ _ _ _ _ _ _ _ h (lv_sub hl [0, 1, 2, 3, 5] rfl) hP hD hS
              ·
                rw [if_neg hc11] at h
                exact J54 _ _ _ _ _ _ _ _ h (lv_sub hl [0, 1, 2, 3, 5] rfl) hP hD hS
  exact L8 N _ _ _ _ _ _ _ _ _ h (lv_sub hl [2, 3, 4, 5, 1, 0] rfl) hP hD hS

set_option maxHeartbeats 4000000 in
set_option maxRecDepth 100000 in
theorem c_M_canGo (l : Launch) (htr : l.stackTraces = false) (dC : Nat → ClassId) (dI : Nat → Nat → Nat) (bd : Nat → Nat) (cb : Nat → ClassId) (N : Nat) (σ : vS) (a0 : Int32) (a1 : Int32) (v : Int32 × vS) (h : f_M_canGo N σ a0 a1 = some v) (sz : Nat) : Met l y_M_canGo WS ({ frames := 3, cells := 0, slots := 0, locals := 70 }) (va_Pc [.ref (bd 0), .int a0, .int a1] (vq_Pre (dC, dI) CL sz (Mw bd cb σ) (Mt cb))) (va_Qi (fun (r : Int32) (_ : Unit) => r = v.1) (fun _ t => vq_Post (dC, dI) CL (va_A (Mw bd cb σ) sz) (Mw bd cb v.2) (Mt cb) t) (va_A (Mw bd cb σ) sz)) 0 0 (va_A (Mw bd cb σ) sz) := by
  refine vq_ofW (cc := prog_10_method_28_code) (maxL := 4) (ret := (Option.some Jvm.ClassFile.FieldType.boolean)) pl_M (vq_his k_450) ?_
  intro p e s m args below meth c s₁ B hml hv
  obtain ⟨rfl, hst, hsz, hP, hK, hD0⟩ := hv
  have hx := B.exec
  have hb := B.bytes
  have hr := B.returns
  have hts := atoms_spec (ws := WS) B.pre
  have hown : s.vm.findClass R_M = some m.cls := findClass_of_methodNamed B.named
  have hlocks := B.notSynchronized
  have hno := vq_noH B (hts _ k_450)
  subst hsz
  have hN := vq_ns hP
  have hD := hD0.self (sz := s.heap.size)
  generalize hAe : va_A (Mw bd cb σ) s.heap.size = A at hD hN ⊢
  have hA : ∀ q : Nat, s.heap.size ≤ q → A q := fun q h => by rw [← hAe]; exact Or.inr h
  have hS : va_S A s.heap s.heap [] := va_S.rf
  have hl := lv_entry ([.ref (bd 0), .int a0, .int a1]) (n := 4) (Nat.le_of_ble_eq_true rfl)
  rw [lg_entry_eq]
  generalize (lg_sl ([.ref (bd 0), .int a0, .int a1]) ++ List.replicate (4 - (lg_sl ([.ref (bd 0), .int a0, .int a1])).length) Slot.unset).toArray = ls at hl ⊢
  have hl : lv_has ls 4 [(0, .ref (bd 0)), (1, .int a0), (2, .int a1)] := hl
  unfold f_M_canGo at h
  refine lv_aload_n hx hb d_M_canGo_0 rfl (lv_at hl 0 rfl) ?_
  refine g_M_visited dC dI bd cb σ hx hb hts hown hK hP k_444 d_M_canGo_1 ?_
  refine lv_iload_n hx hb d_M_canGo_4 rfl (lv_at hl 2 rfl) ?_
  obtain ⟨hi1, h⟩ := vq_bd h
  refine al_M16 dC dI bd cb σ hx hb hts hown hK hP hi1 d_M_canGo_5 ?_
  obtain ⟨i2, ei2, h⟩ := vq_let h
  refine vq_top ei2.symm ?_
  refine lv_iconst (v := 1) hx hb d_M_canGo_6 (by decide) ?_
  refine lv_iadd hx hb d_M_canGo_7 ?_
  refine lv_istore_n (lv' := [(3, .int (i2 + 1)), (0, .ref (bd 0)), (1, .int a0), (2, .int a1)]) hx hb d_M_canGo_8 rfl hl (by decide) rfl (fun ls hl => ?_)
  refine lv_iload_n hx hb d_M_canGo_9 rfl (lv_at hl 0 rfl) ?_
  refine lv_aload_n hx hb d_M_canGo_10 rfl (lv_at hl 1 rfl) ?_
  refine g_M_visits dC dI bd cb σ hx hb hts hown hK hP k_427 d_M_canGo_11 ?_
  refine lv_aload_n hx hb d_M_canGo_14 rfl (lv_at hl 1 rfl) ?_
  refine g_M_symbolAt dC dI bd cb σ hx hb hts hown hK hP k_384 d_M_canGo_15 ?_
  refine lv_iconst (v := 4) hx hb d_M_canGo_18 (by decide) ?_
  refine lv_iload_n hx hb d_M_canGo_19 rfl (lv_at hl 2 rfl) ?_
  refine lv_imul hx hb d_M_canGo_20 ?_
  refine lv_iload_n hx hb d_M_canGo_21 rfl (lv_at hl 3 rfl) ?_
  refine lv_iadd hx hb d_M_canGo_22 ?_
  obtain ⟨hi3, h⟩ := vq_bd h
  refine al_M3 dC dI bd cb σ hx hb hts hown hK hP hi3 d_M_canGo_23 ?_
  obtain ⟨i4, ei4, h⟩ := vq_let h
  refine vq_top ei4.symm ?_
  obtain ⟨hi5, h⟩ := vq_bd h
  refine al_M12 dC dI bd cb σ hx hb hts hown hK hP hi5 d_M_canGo_24 ?_
  obtain ⟨i6, ei6, h⟩ := vq_let h
  refine vq_top ei6.symm ?_
  refine lv_icmp_gt (tgt := 42) hx hb d_M_canGo_25 (by decide) (fun hc7 => ?_) (fun hc7 => ?_)
  ·
    rw [if_pos hc7] at h
    refine lv_iconst (v := 0) hx hb d_M_canGo_42 (by decide) ?_
    have h9 := Option.some.inj h
    rw [← h9]
    exact W.zret (v := 0) (ty := .boolean) hx hb hr (by decide) (fun t ht hW => ⟨⟨0, (), rfl, rfl, by rw [ht]; exact hP, va_K.moved hW.alike hK, hD⟩, hS.F ht⟩) hS.2.2 d_M_canGo_43
  ·
    rw [if_neg hc7] at h
    refine lv_aload_n hx hb d_M_canGo_28 rfl (lv_at hl 1 rfl) ?_
    refine lv_iload_n hx hb d_M_canGo_29 rfl (lv_at hl 2 rfl) ?_
    refine lv_iload_n hx hb d_M_canGo_30 rfl (lv_at hl 3 rfl) ?_
    refine lv_iload_n hx hb d_M_canGo_31 rfl (lv_at hl 0 rfl) ?_
    obtain ⟨q8, h9, h⟩ := vq_bi h
    have hFc := vq_freeAll hD hS hA
    refine va_calli (va_runV (As := [.int a0, .int a1, .int (i2 + 1)]) (rest := []) ⟨hx, hb, hml, hown, hts⟩ (c_M_isPrepared l htr dC dI bd cb N σ a0 a1 (i2 + 1) q8 h9 s.heap.size) (vq_cV WSk hts 3 rfl rfl ⟨by decide, by decide⟩ k_449 k_367 k_451 k_452 k_453 (by decide +kernel)) ⟨vq_blind, va_recv hK hP (ci := 8) (q0 := 0) rfl rfl, vq_here hst hS hN hP hK hD⟩ rfl rfl hl.1 rfl (lv_room (Nat.le_of_ble_eq_true rfl)) d_M_canGo_32 ⟨by decide, by decide⟩) hS (fun q _ h => hFc q h) hFc (fun r u t H1 locs ht hvm hw hB hz1 hk1 hS => ?_)
    obtain ⟨hP, -, hD1⟩ := hB
    rw [ht] at hP
    have hD := hD1.weaken (fun _ _ _ h => hFc _ h)
    have hw : r = q8.1 := hw
    subst hw
    generalize H1 = H at hP hS ⊢
    refine W.widen (k := 0) (n := 0) (by decide) (by decide) ?_
    refine lv_if_eq (tgt := 42) hx hb d_M_canGo_35 (by decide) (fun hc10 => ?_) (fun hc10 => ?_)
    ·
      rw [if_pos hc10] at h
      refine lv_iconst (v := 0) hx hb d_M_canGo_42 (by decide) ?_
      have h9 := Option.some.inj h
      rw [← h9]
      exact W.zret (v := 0) (ty := .boolean) hx hb hr (by decide) (fun t ht hW => ⟨⟨0, (), rfl, rfl, by rw [ht]; exact hP, va_K.moved hW.alike hK, hD⟩, hS.F ht⟩) hS.2.2 d_M_canGo_43
    ·
      rw [if_neg hc10] at h
      refine lv_iconst (v := 1) hx hb d_M_canGo_38 (by decide) ?_
      refine lv_goto (tgt := 43) hx hb d_M_canGo_39 (by decide) ?_
      have h9 := Option.some.inj h
      rw [← h9]
      exact W.zret (v := 1) (ty := .boolean) hx hb hr (by decide) (fun t ht hW => ⟨⟨1, (), rfl, rfl, by rw [ht]; exact hP, va_K.moved hW.alike hK, hD⟩, hS.F ht⟩) hS.2.2 d_M_canGo_43

set_option maxHeartbeats 4000000 in
set_option maxRecDepth 100000 in
theorem c_M_plan (l : Launch) (htr : l.stackTraces = false) (dC : Nat → ClassId) (dI : Nat → Nat → Nat) (bd : Nat → Nat) (cb : Nat → ClassId) (N : Nat) (σ : vS) (a0 : Int32) (v : Int32 × vS) (h : f_M_plan N σ a0 = some v) (sz : Nat) : Met l y_M_plan WS ({ frames := 4, cells := 0, slots := 0, locals := 93 }) (va_Pc [.ref (bd 0), .int a0] (vq_Pre (dC, dI) CL sz (Mw bd cb σ) (Mt cb))) (va_Qv (fun _ : Unit => True) (fun _ t => vq_Post (dC, dI) CL (va_A (Mw bd cb σ) sz) (Mw bd cb v.2) (Mt cb) t) (va_A (Mw bd cb σ) sz)) 0 0 (va_A (Mw bd cb σ) sz) := by
  refine vq_ofW (cc := prog_10_method_29_code) (maxL := 4) (ret := (Option.none : Option Jvm.ClassFile.FieldType)) pl_M (vq_his k_454) ?_
  intro p e s m args below meth c s₁ B hml hv
  obtain ⟨rfl, hst, hsz, hP, hK, hD0⟩ := hv
  have hx := B.exec
  have hb := B.bytes
  have hr := B.returns
  have hts := atoms_spec (ws := WS) B.pre
  have hown : s.vm.findClass R_M = some m.cls := findClass_of_methodNamed B.named
  have hlocks := B.notSynchronized
  have hno := vq_noH B (hts _ k_454)
  subst hsz
  have hN := vq_ns hP
  have hD := hD0.self (sz := s.heap.size)
  generalize hAe : va_A (Mw bd cb σ) s.heap.size = A at hD hN ⊢
  have hA : ∀ q : Nat, s.heap.size ≤ q → A q := fun q h => by rw [← hAe]; exact Or.inr h
  have hS : va_S A s.heap s.heap [] := va_S.rf
  have hl := lv_entry ([.ref (bd 0), .int a0]) (n := 4) (Nat.le_of_ble_eq_true rfl)
  rw [lg_entry_eq]
  generalize (lg_sl ([.ref (bd 0), .int a0]) ++ List.replicate (4 - (lg_sl ([.ref (bd 0), .int a0])).length) Slot.unset).toArray = ls at hl ⊢
  have hl : lv_has ls 4 [(0, .ref (bd 0)), (1, .int a0)] := hl
  unfold f_M_plan at h
  refine lv_iconst (v := 0) hx hb d_M_plan_0 (by decide) ?_
  refine lv_istore_n (lv' := [(2, .int 0), (0, .ref (bd 0)), (1, .int a0)]) hx hb d_M_plan_1 rfl hl (by decide) rfl (fun ls hl => ?_)
  have L2 : ∀ n2 : Nat, ∀ (τ : vS) (x1 : Int32) (x2 : Int32) (H : Heap) (locs : List Loc) (ls : Array Slot), f_M_plan_2 N n2 τ x1 x2 = some v → lv_has ls 4 [(0, .ref (bd 0)), (1, .int x1), (2, .int x2)] → va_P (dC, dI) CL (Mw bd cb τ) H → va_D A (Mw bd cb τ) → va_S A s.heap H locs → W p l e (headSpec WS ({ frames := 4, cells := 0, slots := 0, locals := 93 })).room s m ([.ref (bd 0), .int a0] : List Value).toArray below meth c H locs 0 0 (MQ below (va_Qv (fun _ : Unit => True) (fun _ t => vq_Post (dC, dI) CL A (Mw bd cb v.2) (Mt cb) t) A) ([.ref (bd 0), .int a0] : List Value).toArray s 0 0 A) (F0 m 2 ls []) := by
    intro n2
    induction n2 with
    | zero =>
      intro τ x1 x2 H locs ls h hl hP hD hS
      rw [f_M_plan_2] at h
      cases h
    | succ n2 ih2 =>
      intro τ x1 x2 H locs ls h hl hP hD hS
      rw [f_M_plan_2] at h
      dsimp only at h
      refine lv_iload_n hx hb d_M_plan_2 rfl (lv_at hl 2 rfl) ?_
      refine lv_bipush (v := 16) hx hb d_M_plan_3 (by decide) ?_
      refine lv_icmp_ge (tgt := 21) hx hb d_M_plan_5 (by decide) (fun hc1 => ?_) (fun hc1 => ?_)
      ·
        rw [if_pos hc1] at h
        refine lv_iconst (v := 0) hx hb d_M_plan_21 (by decide) ?_
        refine lv_istore_n (lv' := [(2, .int 0), (0, .ref (bd 0)), (1, .int x1)]) hx hb d_M_plan_22 rfl hl (by decide) rfl (fun ls hl => ?_)
        have L23 : ∀ n23 : Nat, ∀ (τ : vS) (x1 : Int32) (x2 : Int32) (H : Heap) (locs : List Loc) (ls : Array Slot), f_M_plan_23 N n23 τ x1 x2 = some v → lv_has ls 4 [(0, .ref (bd 0)), (1, .int x1), (2, .int x2)] → va_P (dC, dI) CL (Mw bd cb τ) H → va_D A (Mw bd cb τ) → va_S A s.heap H locs → W p l e (headSpec WS ({ frames := 4, cells := 0, slots := 0, locals := 93 })).room s m ([.ref (bd 0), .int a0] : List Value).toArray below meth c H locs 0 0 (MQ below (va_Qv (fun _ : Unit => True) (fun _ t => vq_Post (dC, dI) CL A (Mw bd cb v.2) (Mt cb) t) A) ([.ref (bd 0), .int a0] : List Value).toArray s 0 0 A) (F0 m 23 ls []) := by
          intro n23
          induction n23 with
          | zero =>
            intro τ x1 x2 H locs ls h hl hP hD hS
            rw [f_M_plan_23] at h
            cases h
          | succ n23 ih23 =>
            intro τ x1 x2 H locs ls h hl hP hD hS
            rw [f_M_plan_23] at h
            dsimp only at h
            refine lv_iload_n hx hb d_M_plan_23 rfl (lv_at hl 2 rfl) ?_
            refine lv_iconst (v := 4) hx hb d_M_plan_24 (by decide) ?_
            refine lv_icmp_ge (tgt := 41) hx hb d_M_plan_25 (by decide) (fun hc2 => ?_) (fun hc2 => ?_)
            ·
              rw [if_pos hc2] at h
              refine lv_aload_n hx hb d_M_plan_41 rfl (lv_at hl 0 rfl) ?_
              refine g_M_length dC dI bd cb τ hx hb hts hown hK hP k_455 d_M_plan_42 ?_
              refine lv_iload_n hx hb d_M_plan_45 rfl (lv_at hl 1 rfl) ?_
              refine lv_iconst (v := 0) hx hb d_M_plan_46 (by decide) ?_
              obtain ⟨hi3, h⟩ := vq_bd h
              refine as_M13 dC dI bd cb τ hx hb hts hown hK hP hD hS hi3 d_M_plan_47 (fun H locs hP hD hS => ?_)
              obtain ⟨σ4, eσ4, h⟩ := vq_let h
              rw [← eσ4] at hP hD
              refine lv_iconst (v := 0) hx hb d_M_plan_48 (by decide) ?_
              refine lv_istore_n (lv' := [(2, .int 0), (0, .ref (bd 0)), (1, .int x1)]) hx hb d_M_plan_49 rfl hl (by decide) rfl (fun ls hl => ?_)
              have L50 : ∀ n50 : Nat, ∀ (τ : vS) (x1 : Int32) (x2 : Int32) (H : Heap) (locs : List Loc) (ls : Array Slot), f_M_plan_50 N n50 τ x1 x2 = some v → lv_has ls 4 [(0, .ref (bd 0)), (1, .int x1), (2, .int x2)] → va_P (dC, dI) CL (Mw bd cb τ) H → va_D A (Mw bd cb τ) → va_S A s.heap H locs → W p l e (headSpec WS ({ frames := 4, cells := 0, slots := 0, locals := 93 })).room s m ([.ref (bd 0), .int a0] : List Value).toArray below meth c H locs 0 0 (MQ below (va_Qv (fun _ : Unit => True) (fun _ t => vq_Post (dC, dI) CL A (Mw bd cb v.2) (Mt cb) t) A) ([.ref (bd 0), .int a0] : List Value).toArray s 0 0 A) (F0 m 50 ls []) := by
                intro n50
                induction n50 with
                | zero =>
                  intro τ x1 x2 H locs ls h hl hP hD hS
                  rw [f_M_plan_50] at h
                  cases h
                | succ n50 ih50 =>
                  intro τ x1 x2 H locs ls h hl hP hD hS
                  rw [f_M_plan_50] at h
                  dsimp only at h
                  refine lv_iload_n hx hb d_M_plan_50 rfl (lv_at hl 2 rfl) ?_
                  refine lv_iconst (v := (-1)) hx hb d_M_plan_51 (by decide) ?_
                  refine lv_icmp_eq (tgt := 240) hx hb d_M_plan_52 (by decide) (fun hc5 => ?_) (fun hc5 => ?_)
                  ·
                    rw [if_pos hc5] at h
                    have h9 := Option.some.inj h
                    rw [← h9]
                    exact W.vret hx hb hr (fun t ht hW => ⟨⟨(), rfl, trivial, by rw [ht]; exact hP, va_K.moved hW.alike hK, hD⟩, hS.F ht⟩) hS.2.2 d_M_plan_240
                  ·
                    rw [if_neg hc5] at h
                    refine lv_iconst (v := (-1)) hx hb d_M_plan_55 (by decide) ?_
                    refine lv_istore_n (lv' := [(2, .int (-1)), (0, .ref (bd 0)), (1, .int x1)]) hx hb d_M_plan_56 rfl hl (by decide) rfl (fun ls hl => ?_)
                    refine lv_bipush (v := 15) hx hb d_M_plan_57 (by decide) ?_
                    refine lv_istore_n (lv' := [(3, .int 15), (2, .int (-1)), (0, .ref (bd 0)), (1, .int x1)]) hx hb d_M_plan_59 rfl hl (by decide) rfl (fun ls hl => ?_)
                    have L60 : ∀ n60 : Nat, ∀ (τ : vS) (x1 : Int32) (x2 : Int32) (x3 : Int32) (H : Heap) (locs : List Loc) (ls : Array Slot), f_M_plan_60 N (f_M_plan_50 N n50) n60 τ x1 x2 x3 = some v → lv_has ls 4 [(0, .ref (bd 0)), (1, .int x1), (2, .int x2), (3, .int x3)] → va_P (dC, dI) CL (Mw bd cb τ) H → va_D A (Mw bd cb τ) → va_S A s.heap H locs → W p l e (headSpec WS ({ frames := 4, cells := 0, slots := 0, locals := 93 })).room s m ([.ref (bd 0), .int a0] : List Value).toArray below meth c H locs 0 0 (MQ below (va_Qv (fun _ : Unit => True) (fun _ t => vq_Post (dC, dI) CL A (Mw bd cb v.2) (Mt cb) t) A) ([.ref (bd 0), .int a0] : List Value).toArray s 0 0 A) (F0 m 60 ls []) := by
                      intro n60
                      induction n60 with
                      | zero =>
                        intro τ x1 x2 x3 H locs ls h hl hP hD hS
                        rw [f_M_plan_60] at h
                        cases h
                      | succ n60 ih60 =>
                        intro τ x1 x2 x3 H locs ls h hl hP hD hS
                        rw [f_M_plan_60] at h
                        dsimp only at h
                        refine lv_iload_n hx hb d_M_plan_60 rfl (lv_at hl 3 rfl) ?_
                        refine lv_if_lt (tgt := 85) hx hb d_M_plan_61 (by decide) (fun hc6 => ?_) (fun hc6 => ?_)
                        ·
                          rw [if_pos hc6] at h
                          refine lv_iconst (v := 1) hx hb d_M_plan_85 (by decide) ?_
                          refine lv_istore_n (lv' := [(3, .int 1), (0, .ref (bd 0)), (1, .int x1), (2, .int x2)]) hx hb d_M_plan_86 rfl hl (by decide) rfl (fun ls hl => ?_)
                          have L87 : ∀ n87 : Nat, ∀ (τ : vS) (x1 : Int32) (x2 : Int32) (x3 : Int32) (H : Heap) (locs : List Loc) (ls : Array Slot), f_M_plan_87 N (f_M_plan_50 N n50) n87 τ x1 x2 x3 = some v → lv_has ls 4 [(0, .ref (bd 0)), (1, .int x1), (2, .int x2), (3, .int x3)] → va_P (dC, dI) CL (Mw bd cb τ) H → va_D A (Mw bd cb τ) → va_S A s.heap H locs → W p l e (headSpec WS ({ frames := 4, cells := 0, slots := 0, locals := 93 })).room s m ([.ref (bd 0), .int a0] : List Value).toArray below meth c H locs 0 0 (MQ below (va_Qv (fun _ : Unit => True) (fun _ t => vq_Post (dC, dI) CL A (Mw bd cb v.2) (Mt cb) t) A) ([.ref (bd 0), .int a0] : List Value).toArray s 0 0 A) (F0 m 87 ls []) := by
                            intro n87
                            induction n87 with
                            | zero =>
                              intro τ x1 x2 x3 H locs ls h hl hP hD hS
                              rw [f_M_plan_87] at h
                              cases h
                            | succ n87 ih87 =>
                              intro τ x1 x2 x3 H locs ls h hl hP hD hS
                              rw [f_M_plan_87] at h
                              dsimp only at h
                              refine lv_iload_n hx hb d_M_plan_87 rfl (lv_at hl 3 rfl) ?_
                              refine lv_aload_n hx hb d_M_plan_88 rfl (lv_at hl 0 rfl) ?_
                              refine g_M_positions dC dI bd cb τ hx hb hts hown hK hP k_385 d_M_plan_89 ?_
                              refine lv_iload_n hx hb d_M_plan_92 rfl (lv_at hl 1 rfl) ?_
                              obtain ⟨hi7, h⟩ := vq_bd h
                              refine al_M2 dC dI bd cb τ hx hb hts hown hK hP hi7 d_M_plan_93 ?_
                              obtain ⟨i8, ei8, h⟩ := vq_let h
                              refine vq_top ei8.symm ?_
                              have J135 : ∀ (τ : vS) (x1 : Int32) (x2 : Int32) (H : Heap) (locs : List Loc) (ls : Array Slot), f_M_plan_135 N (f_M_plan_50 N n50) τ x1 x2 = some v → lv_has ls 4 [(0, .ref (bd 0)), (1, .int x1), (2, .int x2)] → va_P (dC, dI) CL (Mw bd cb τ) H → va_D A (Mw bd cb τ) → va_S A s.heap H locs → W p l e (headSpec WS ({ frames := 4, cells := 0, slots := 0, locals := 93 })).room s m ([.ref (bd 0), .int a0] : List Value).toArray below meth c H locs 0 0 (MQ below (va_Qv (fun _ : Unit => True) (fun _ t => vq_Post (dC, dI) CL A (Mw bd cb v.2) (Mt cb) t) A) ([.ref (bd 0), .int a0] : List Value).toArray s 0 0 A) (F0 m 135 ls []) := by
                                intro τ x1 x2 H locs ls h hl hP hD hS
                                unfold f_M_plan_135 at h
                                refine lv_iload_n hx hb d_M_plan_135 rfl (lv_at hl 2 rfl) ?_
                                refine lv_iconst (v := (-1)) hx hb d_M_plan_136 (by decide) ?_
                                have J162 : ∀ (τ : vS) (x1 : Int32) (x2 : Int32) (H : Heap) (locs : List Loc) (ls : Array Slot), f_M_plan_162 N (f_M_plan_50 N n50) τ x1 x2 = some v → lv_has ls 4 [(0, .ref (bd 0)), (1, .int x1), (2, .int x2)] → va_P (dC, dI) CL (Mw bd cb τ) H → va_D A (Mw bd cb τ) → va_S A s.heap H locs → W p l e (headSpec WS ({ frames := 4, cells := 0, slots := 0, locals := 93 })).room s m ([.ref (bd 0), .int a0] : List Value).toArray below meth c H locs 0 0 (MQ below (va_Qv (fun _ : Unit => True) (fun _ t => vq_Post (dC, dI) CL A (Mw bd cb v.2) (Mt cb) t) A) ([.ref (bd 0), .int a0] : List Value).toArray s 0 0 A) (F0 m 162 ls []) := by
                                  intro τ x1 x2 H locs ls h hl hP hD hS
                                  unfold f_M_plan_162 at h
                                  refine lv_iload_n hx hb d_M_plan_162 rfl (lv_at hl 2 rfl) ?_
                                  refine lv_iconst (v := (-1)) hx hb d_M_plan_163 (by decide) ?_
                                  refine lv_icmp_ne (tgt := 170) hx hb d_M_plan_164 (by decide) (fun hc9 => ?_) (fun hc9 => ?_)
                                  ·
                                    rw [if_neg hc9] at h
                                    refine lv_iload_n hx hb d_M_plan_170 rfl (lv_at hl 2 rfl) ?_
                                    refine lv_bipush (v := 100) hx hb d_M_plan_171 (by decide) ?_
                                    have J210 : ∀ (τ : vS) (x1 : Int32) (x2 : Int32) (H : Heap) (locs : List Loc) (ls : Array Slot), f_M_plan_210 N (f_M_plan_50 N n50) τ x1 x2 = some v → lv_has ls 4 [(0, .ref (bd 0)), (1, .int x1), (2, .int x2)] → va_P (dC, dI) CL (Mw bd cb τ) H → va_D A (Mw bd cb τ) → va_S A s.heap H locs → W p l e (headSpec WS ({ frames := 4, cells := 0, slots := 0, locals := 93 })).room s m ([.ref (bd 0), .int a0] : List Value).toArray below meth c H locs 0 0 (MQ below (va_Qv (fun _ : Unit => True) (fun _ t => vq_Post (dC, dI) CL A (Mw bd cb v.2) (Mt cb) t) A) ([.ref (bd 0), .int a0] : List Value).toArray s 0 0 A) (F0 m 210 ls []) := by
                                      intro τ x1 x2 H locs ls h hl hP hD hS
                                      unfold f_M_plan_210 at h
                                      refine lv_aload_n hx hb d_M_plan_210 rfl (lv_at hl 0 rfl) ?_
                                      refine g_M_sequence dC dI bd cb τ hx hb hts hown hK hP k_456 d_M_plan_211 ?_
                                      refine lv_bipush (v := 48) hx hb d_M_plan_214 (by decide) ?_
                                      refine lv_iload_n hx hb d_M_plan_216 rfl (lv_at hl 1 rfl) ?_
                                      refine lv_imul hx hb d_M_plan_217 ?_
                                      refine lv_aload_n hx hb d_M_plan_218 rfl (lv_at hl 0 rfl) ?_
                                      refine g_M_length dC dI bd cb τ hx hb hts hown hK hP k_455 d_M_plan_219 ?_
                                      refine lv_iload_n hx hb d_M_plan_222 rfl (lv_at hl 1 rfl) ?_
                                      obtain ⟨hi10, h⟩ := vq_bd h
                                      refine al_M13 dC dI bd cb τ hx hb hts hown hK hP hi10 d_M_plan_223 ?_
                                      obtain ⟨i11, ei11, h⟩ := vq_let h
                                      refine vq_top ei11.symm ?_
                                      refine lv_iadd hx hb d_M_plan_224 ?_
                                      refine lv_iload_n hx hb d_M_plan_225 rfl (lv_at hl 2 rfl) ?_
                                      obtain ⟨hi12, h⟩ := vq_bd h
                                      refine as_M14 dC dI bd cb τ hx hb hts hown hK hP hD hS hi12 d_M_plan_226 (fun H locs hP hD hS => ?_)
                                      obtain ⟨σ13, eσ13, h⟩ := vq_let h
                                      rw [← eσ13] at hP hD
                                      refine lv_aload_n hx hb d_M_plan_227 rfl (lv_at hl 0 rfl) ?_
                                      refine g_M_length dC dI bd cb σ13 hx hb hts hown hK hP k_455 d_M_plan_228 ?_
                                      refine lv_iload_n hx hb d_M_plan_231 rfl (lv_at hl 1 rfl) ?_
                                      refine lv_dup2_11 hx hb d_M_plan_232 rfl rfl ?_
                                      obtain ⟨hi14, h⟩ := vq_bd h
                                      refine al_M13 dC dI bd cb σ13 hx hb hts hown hK hP hi14 d_M_plan_233 ?_
                                      obtain ⟨i15, ei15, h⟩ := vq_let h
                                      refine vq_top ei15.symm ?_
                                      refine lv_iconst (v := 1) hx hb d_M_plan_234 (by decide) ?_
                                      refine lv_iadd hx hb d_M_plan_235 ?_
                                      obtain ⟨hi16, h⟩ := vq_bd h
                                      refine as_M13 dC dI bd cb σ13 hx hb hts hown hK hP hD hS hi16 d_M_plan_236 (fun H locs hP hD hS => ?_)
                                      obtain ⟨σ17, eσ17, h⟩ := vq_let h
                                      rw [← eσ17] at hP hD
                                      refine lv_goto (tgt := 50) hx hb d_M_plan_237 (by decide) ?_
                                      exact ih50 _ _ _ _ _ _ h (lv_sub hl [0, 1, 2] rfl) hP hD hS
                                    refine lv_icmp_ge (tgt := 186) hx hb d_M_plan_173 (by decide) (fun hc18 => ?_) (fun hc18 => ?_)
                                    ·
                                      rw [if_pos hc18] at h
                                      refine lv_aload_n hx hb d_M_plan_186 rfl (lv_at hl 0 rfl) ?_
                                      refine g_M_visited dC dI bd cb τ hx hb hts hown hK hP k_444 d_M_plan_187 ?_
                                      refine lv_iload_n hx hb d_M_plan_190 rfl (lv_at hl 2 rfl) ?_
                                      refine lv_sipush (v := 1000) hx hb d_M_plan_191 (by decide) ?_
                                      have J205 : ∀ (τ : vS) (x1 : Int32) (x2 : Int32) (y0 : Int32) (H : Heap) (locs : List Loc) (ls : Array Slot), f_M_plan_205 N (f_M_plan_50 N n50) τ x1 x2 y0 = some v → lv_has ls 4 [(0, .ref (bd 0)), (1, .int x1), (2, .int x2)] → va_P (dC, dI) CL (Mw bd cb τ) H → va_D A (Mw bd cb τ) → va_S A s.heap H locs → W p l e (headSpec WS ({ frames := 4, cells := 0, slots := 0, locals := 93 })).room s m ([.ref (bd 0), .int a0] : List Value).toArray below meth c H locs 0 0 (MQ below (va_Qv (fun _ : Unit => True) (fun _ t => vq_Post (dC, dI) CL A (Mw bd cb v.2) (Mt cb) t) A) ([.ref (bd 0), .int a0] : List Value).toArray s 0 0 A) (F0 m 205 ls [.int y0, .ref (bd 17)]) := by
                                        intro τ x1 x2 y0 H locs ls h hl hP hD hS
                                        unfold f_M_plan_205 at h
                                        refine lv_dup2_11 hx hb d_M_plan_205 rfl rfl ?_
                                        obtain ⟨hi19, h⟩ := vq_bd h
                                        refine al_M16 dC dI bd cb τ hx hb hts hown hK hP hi19 d_M_plan_206 ?_
                                        obtain ⟨i20, ei20, h⟩ := vq_let h
                                        refine vq_top ei20.symm ?_
                                        refine lv_iconst (v := 1) hx hb d_M_plan_207 (by decide) ?_
                                        refine lv_iadd hx hb d_M_plan_208 ?_
                                        obtain ⟨hi21, h⟩ := vq_bd h
                                        refine as_M16 dC dI bd cb τ hx hb hts hown hK hP hD hS hi21 d_M_plan_209 (fun H locs hP hD hS => ?_)
                                        obtain ⟨σ22, eσ22, h⟩ := vq_let h
                                        rw [← eσ22] at hP hD
                                        exact J210 _ _ _ _ _ _ h (lv_sub hl [0, 1, 2] rfl) hP hD hS
                                      refine lv_icmp_ge (tgt := 204) hx hb d_M_plan_194 (by decide) (fun hc23 => ?_) (fun hc23 => ?_)
                                      ·
                                        rw [if_pos hc23] at h
                                        refine lv_iconst (v := 0) hx hb d_M_plan_204 (by decide) ?_
                                        exact J205 _ _ _ _ _ _ _ h (lv_sub hl [0, 1, 2] rfl) hP hD hS
                                      ·
                                        rw [if_neg hc23] at h
                                        refine lv_iload_n hx hb d_M_plan_197 rfl (lv_at hl 2 rfl) ?_
                                        refine lv_bipush (v := 100) hx hb d_M_plan_198 (by decide) ?_
                                        refine lv_idiv hx hb d_M_plan_200 (by decide) ?_
                                        refine lv_goto (tgt := 205) hx hb d_M_plan_201 (by decide) ?_
                                        exact J205 _ _ _ _ _ _ _ h (lv_sub hl [0, 1, 2] rfl) hP hD hS
                                    ·
                                      rw [if_neg hc18] at h
                                      refine lv_aload_n hx hb d_M_plan_176 rfl (lv_at hl 0 rfl) ?_
                                      refine g_M_set dC dI bd cb τ hx hb hts hown hK hP k_440 d_M_plan_177 ?_
                                      refine lv_iload_n hx hb d_M_plan_180 rfl (lv_at hl 2 rfl) ?_
                                      refine lv_iconst (v := 1) hx hb d_M_plan_181 (by decide) ?_
                                      obtain ⟨hi24, h⟩ := vq_bd h
                                      refine as_M15 dC dI bd cb τ hx hb hts hown hK hP hD hS hi24 d_M_plan_182 (fun H locs hP hD hS => ?_)
                                      obtain ⟨σ25, eσ25, h⟩ := vq_let h
                                      rw [← eσ25] at hP hD
                                      refine lv_goto (tgt := 210) hx hb d_M_plan_183 (by decide) ?_
                                      exact J210 _ _ _ _ _ _ h (lv_sub hl [0, 1, 2] rfl) hP hD hS
                                  ·
                                    rw [if_pos hc9] at h
                                    refine lv_goto (tgt := 50) hx hb d_M_plan_167 (by decide) ?_
                                    exact ih50 _ _ _ _ _ _ h (lv_sub hl [0, 1, 2] rfl) hP hD hS
                                refine lv_icmp_ne (tgt := 162) hx hb d_M_plan_137 (by decide) (fun hc26 => ?_) (fun hc26 => ?_)
                                ·
                                  rw [if_neg hc26] at h
                                  exact J162 _ _ _ _ _ _ h (lv_sub hl [0, 1, 2] rfl) hP hD hS
                                ·
                                  rw [if_pos hc26] at h
                                  refine lv_aload_n hx hb d_M_plan_140 rfl (lv_at hl 0 rfl) ?_
                                  refine lv_iload_n hx hb d_M_plan_141 rfl (lv_at hl 1 rfl) ?_
                                  refine lv_iconst (v := 0) hx hb d_M_plan_142 (by decide) ?_
                                  obtain ⟨q27, h28, h⟩ := vq_bi h
                                  have hFc := vq_freeAll hD hS hA
                                  refine va_calli (va_runV (As := [.int x1, .int 0]) (rest := []) ⟨hx, hb, hml, hown, hts⟩ (c_M_canGo l htr dC dI bd cb N τ x1 0 q27 h28 H.size) (vq_cV WSk hts 2 rfl rfl ⟨by decide, by decide⟩ k_450 k_367 k_457 k_458 k_459 (by decide +kernel)) ⟨vq_blind, va_recv hK hP (ci := 8) (q0 := 0) rfl rfl, vq_here hst hS hN hP hK hD⟩ rfl rfl hl.1 rfl (lv_room (Nat.le_of_ble_eq_true rfl)) d_M_plan_143 ⟨by decide, by decide⟩) hS (fun q _ h => hFc q h) hFc (fun r u t H1 locs ht hvm hw hB hz1 hk1 hS => ?_)
                                  obtain ⟨hP, -, hD1⟩ := hB
                                  rw [ht] at hP
                                  have hD := hD1.weaken (fun _ _ _ h => hFc _ h)
                                  have hw : r = q27.1 := hw
                                  subst hw
                                  generalize H1 = H at hP hS ⊢
                                  refine W.widen (k := 0) (n := 0) (by decide) (by decide) ?_
                                  refine lv_if_eq (tgt := 162) hx hb d_M_plan_146 (by decide) (fun hc29 => ?_) (fun hc29 => ?_)
                                  ·
                                    rw [if_pos hc29] at h
                                    exact J162 _ _ _ _ _ _ h (lv_sub hl [0, 1, 2] rfl) hP hD hS
                                  ·
                                    rw [if_neg hc29] at h
                                    refine lv_sipush (v := 1000) hx hb d_M_plan_149 (by decide) ?_
                                    refine lv_aload_n hx hb d_M_plan_152 rfl (lv_at hl 0 rfl) ?_
                                    refine g_M_visited dC dI bd cb q27.2 hx hb hts hown hK hP k_444 d_M_plan_153 ?_
                                    refine lv_iconst (v := 0) hx hb d_M_plan_156 (by decide) ?_
                                    obtain ⟨hi30, h⟩ := vq_bd h
                                    refine al_M16 dC dI bd cb q27.2 hx hb hts hown hK hP hi30 d_M_plan_157 ?_
                                    obtain ⟨i31, ei31, h⟩ := vq_let h
                                    refine vq_top ei31.symm ?_
                                    refine lv_iadd hx hb d_M_plan_158 ?_
                                    refine lv_iconst (v := 1) hx hb d_M_plan_159 (by decide) ?_
                                    refine lv_iadd hx hb d_M_plan_160 ?_
                                    refine lv_istore_n (lv' := [(2, .int (((1000 : Int32) + i31) + 1)), (0, .ref (bd 0)), (1, .int x1)]) hx hb d_M_plan_161 rfl hl (by decide) rfl (fun ls hl => ?_)
                                    exact J162 _ _ _ _ _ _ h (lv_sub hl [1, 2, 0] rfl) hP hD hS
                              refine lv_icmp_ge (tgt := 135) hx hb d_M_plan_94 (by decide) (fun hc32 => ?_) (fun hc32 => ?_)
                              ·
                                rw [if_pos hc32] at h
                                exact J135 _ _ _ _ _ _ h (lv_sub hl [0, 1, 2] rfl) hP hD hS
                              ·
                                rw [if_neg hc32] at h
                                refine lv_iload_n hx hb d_M_plan_97 rfl (lv_at hl 2 rfl) ?_
                                refine lv_iconst (v := (-1)) hx hb d_M_plan_98 (by decide) ?_
                                refine lv_icmp_ne (tgt := 135) hx hb d_M_plan_99 (by decide) (fun hc33 => ?_) (fun hc33 => ?_)
                                ·
                                  rw [if_neg hc33] at h
                                  exact J135 _ _ _ _ _ _ h (lv_sub hl [0, 1, 2] rfl) hP hD hS
                                ·
                                  rw [if_pos hc33] at h
                                  refine lv_aload_n hx hb d_M_plan_102 rfl (lv_at hl 0 rfl) ?_
                                  refine lv_iload_n hx hb d_M_plan_103 rfl (lv_at hl 1 rfl) ?_
                                  refine lv_iload_n hx hb d_M_plan_104 rfl (lv_at hl 3 rfl) ?_
                                  obtain ⟨q34, h35, h⟩ := vq_bi h
                                  have hFc := vq_freeAll hD hS hA
                                  refine va_calli (va_runV (As := [.int x1, .int x3]) (rest := []) ⟨hx, hb, hml, hown, hts⟩ (c_M_canGo l htr dC dI bd cb N τ x1 x3 q34 h35 H.size) (vq_cV WSk hts 2 rfl rfl ⟨by decide, by decide⟩ k_450 k_367 k_457 k_458 k_459 (by decide +kernel)) ⟨vq_blind, va_recv hK hP (ci := 8) (q0 := 0) rfl rfl, vq_here hst hS hN hP hK hD⟩ rfl rfl hl.1 rfl (lv_room (Nat.le_of_ble_eq_true rfl)) d_M_plan_105 ⟨by decide, by decide⟩) hS (fun q _ h => hFc q h) hFc (fun r u t H1 locs ht hvm hw hB hz1 hk1 hS => ?_)
                                  obtain ⟨hP, -, hD1⟩ := hB
                                  rw [ht] at hP
                                  have hD := hD1.weaken (fun _ _ _ h => hFc _ h)
                                  have hw : r = q34.1 := hw
                                  subst hw
                                  generalize H1 = H at hP hS ⊢
                                  refine W.widen (k := 0) (n := 0) (by decide) (by decide) ?_
                                  have J128 : ∀ (τ : vS) (x1 : Int32) (x3 : Int32) (y0 : Int32) (H : Heap) (locs : List Loc) (ls : Array Slot), f_M_plan_128 N (f_M_plan_50 N n50) (f_M_plan_87 N (f_M_plan_50 N n50) n87) τ x1 x3 y0 = some v → lv_has ls 4 [(0, .ref (bd 0)), (1, .int x1), (3, .int x3)] → va_P (dC, dI) CL (Mw bd cb τ) H → va_D A (Mw bd cb τ) → va_S A s.heap H locs → W p l e (headSpec WS ({ frames := 4, cells := 0, slots := 0, locals := 93 })).room s m ([.ref (bd 0), .int a0] : List Value).toArray below meth c H locs 0 0 (MQ below (va_Qv (fun _ : Unit => True) (fun _ t => vq_Post (dC, dI) CL A (Mw bd cb v.2) (Mt cb) t) A) ([.ref (bd 0), .int a0] : List Value).toArray s 0 0 A) (F0 m 128 ls [.int y0]) := by
                                    intro τ x1 x3 y0 H locs ls h hl hP hD hS
                                    unfold f_M_plan_128 at h
                                    refine lv_istore_n (lv' := [(2, .int y0), (0, .ref (bd 0)), (1, .int x1), (3, .int x3)]) hx hb d_M_plan_128 rfl hl (by decide) rfl (fun ls hl => ?_)
                                    refine lv_iinc (k := 3) (v := (x3 + 1)) (lv' := [(3, .int (x3 + 1)), (2, .int y0), (0, .ref (bd 0)), (1, .int x1)]) hx hb d_M_plan_129 hl rfl rfl (by decide) rfl (fun ls hl => ?_)
                                    refine lv_goto (tgt := 87) hx hb d_M_plan_132 (by decide) ?_
                                    exact ih87 _ _ _ _ _ _ _ h (lv_sub hl [2, 3, 1, 0] rfl) hP hD hS
                                  refine lv_if_eq (tgt := 127) hx hb d_M_plan_108 (by decide) (fun hc36 => ?_) (fun hc36 => ?_)
                                  ·
                                    rw [if_pos hc36] at h
                                    refine lv_iload_n hx hb d_M_plan_127 rfl (lv_at hl 2 rfl) ?_
                                    exact J128 _ _ _ _ _ _ _ h (lv_sub hl [0, 1, 3] rfl) hP hD hS
                                  ·
                                    rw [if_neg hc36] at h
                                    refine lv_bipush (v := 100) hx hb d_M_plan_111 (by decide) ?_
                                    refine lv_iload_n hx hb d_M_plan_113 rfl (lv_at hl 3 rfl) ?_
                                    refine lv_imul hx hb d_M_plan_114 ?_
                                    refine lv_aload_n hx hb d_M_plan_115 rfl (lv_at hl 0 rfl) ?_
                                    refine g_M_visited dC dI bd cb q34.2 hx hb hts hown hK hP k_444 d_M_plan_116 ?_
                                    refine lv_iload_n hx hb d_M_plan_119 rfl (lv_at hl 3 rfl) ?_
                                    obtain ⟨hi37, h⟩ := vq_bd h
                                    refine al_M16 dC dI bd cb q34.2 hx hb hts hown hK hP hi37 d_M_plan_120 ?_
                                    obtain ⟨i38, ei38, h⟩ := vq_let h
                                    refine vq_top ei38.symm ?_
                                    refine lv_iadd hx hb d_M_plan_121 ?_
                                    refine lv_iconst (v := 1) hx hb d_M_plan_122 (by decide) ?_
                                    refine lv_iadd hx hb d_M_plan_123 ?_
                                    obtain ⟨i39, ei39, h⟩ := vq_let h
                                    refine vq_top ei39.symm ?_
                                    refine lv_goto (tgt := 128) hx hb d_M_plan_124 (by decide) ?_
                                    exact J128 _ _ _ _ _ _ _ h (lv_sub hl [0, 1, 3] rfl) hP hD hS
                          exact L87 N _ _ _ _ _ _ _ h (lv_sub hl [1, 2, 3, 0] rfl) hP hD hS
                        ·
                          rw [if_neg hc6] at h
                          refine lv_aload_n hx hb d_M_plan_64 rfl (lv_at hl 0 rfl) ?_
                          refine lv_iload_n hx hb d_M_plan_65 rfl (lv_at hl 1 rfl) ?_
                          refine lv_iload_n hx hb d_M_plan_66 rfl (lv_at hl 3 rfl) ?_
                          obtain ⟨q40, h41, h⟩ := vq_bi h
                          have hFc := vq_freeAll hD hS hA
                          refine va_calli (va_runV (As := [.int x1, .int x3]) (rest := []) ⟨hx, hb, hml, hown, hts⟩ (c_M_canSet l htr dC dI bd cb N τ x1 x3 q40 h41 H.size) (vq_cV WSk hts 2 rfl rfl ⟨by decide, by decide⟩ k_445 k_367 k_460 k_461 k_462 (by decide +kernel)) ⟨vq_blind, va_recv hK hP (ci := 8) (q0 := 0) rfl rfl, vq_here hst hS hN hP hK hD⟩ rfl rfl hl.1 rfl (lv_room (Nat.le_of_ble_eq_true rfl)) d_M_plan_67 ⟨by decide, by decide⟩) hS (fun q _ h => hFc q h) hFc (fun r u t H1 locs ht hvm hw hB hz1 hk1 hS => ?_)
                          obtain ⟨hP, -, hD1⟩ := hB
                          rw [ht] at hP
                          have hD := hD1.weaken (fun _ _ _ h => hFc _ h)
                          have hw : r = q40.1 := hw
                          subst hw
                          generalize H1 = H at hP hS ⊢
                          refine W.widen (k := 0) (n := 0) (by decide) (by decide) ?_
                          have J78 : ∀ (τ : vS) (x1 : Int32) (x3 : Int32) (y0 : Int32) (H : Heap) (locs : List Loc) (ls : Array Slot), f_M_plan_78 N (f_M_plan_50 N n50) (f_M_plan_60 N (f_M_plan_50 N n50) n60) τ x1 x3 y0 = some v → lv_has ls 4 [(0, .ref (bd 0)), (1, .int x1), (3, .int x3)] → va_P (dC, dI) CL (Mw bd cb τ) H → va_D A (Mw bd cb τ) → va_S A s.heap H locs → W p l e (headSpec WS ({ frames := 4, cells := 0, slots := 0, locals := 93 })).room s m ([.ref (bd 0), .int a0] : List Value).toArray below meth c H locs 0 0 (MQ below (va_Qv (fun _ : Unit => True) (fun _ t => vq_Post (dC, dI) CL A (Mw bd cb v.2) (Mt cb) t) A) ([.ref (bd 0), .int a0] : List Value).toArray s 0 0 A) (F0 m 78 ls [.int y0]) := by
                            intro τ x1 x3 y0 H locs ls h hl hP hD hS
                            unfold f_M_plan_78 at h
                            refine lv_istore_n (lv' := [(2, .int y0), (0, .ref (bd 0)), (1, .int x1), (3, .int x3)]) hx hb d_M_plan_78 rfl hl (by decide) rfl (fun ls hl => ?_)
                            refine lv_iinc (k := 3) (v := (x3 + (-1))) (lv' := [(3, .int (x3 + (-1))), (2, .int y0), (0, .ref (bd 0)), (1, .int x1)]) hx hb d_M_plan_79 hl rfl rfl (by decide) rfl (fun ls hl => ?_)
                            refine lv_goto (tgt := 60) hx hb d_M_plan_82 (by decide) ?_
                            exact ih60 _ _ _ _ _ _ _ h (lv_sub hl [2, 3, 1, 0] rfl) hP hD hS
                          refine lv_if_eq (tgt := 77) hx hb d_M_plan_70 (by decide) (fun hc42 => ?_) (fun hc42 => ?_)
                          ·
                            rw [if_pos hc42] at h
                            refine lv_iload_n hx hb d_M_plan_77 rfl (lv_at hl 2 rfl) ?_
                            exact J78 _ _ _ _ _ _ _ h (lv_sub hl [0, 1, 3] rfl) hP hD hS
                          ·
                            rw [if_neg hc42] at h
                            refine lv_iload_n hx hb d_M_plan_73 rfl (lv_at hl 3 rfl) ?_
                            refine lv_goto (tgt := 78) hx hb d_M_plan_74 (by decide) ?_
                            exact J78 _ _ _ _ _ _ _ h (lv_sub hl [0, 1, 3] rfl) hP hD hS
                    exact L60 N _ _ _ _ _ _ _ h (lv_sub hl [2, 3, 1, 0] rfl) hP hD hS
              exact L50 N _ _ _ _ _ _ h (lv_sub hl [1, 2, 0] rfl) hP hD hS
            ·
              rw [if_neg hc2] at h
              refine lv_aload_n hx hb d_M_plan_28 rfl (lv_at hl 0 rfl) ?_
              refine g_M_visited dC dI bd cb τ hx hb hts hown hK hP k_444 d_M_plan_29 ?_
              refine lv_iload_n hx hb d_M_plan_32 rfl (lv_at hl 2 rfl) ?_
              refine lv_iconst (v := 0) hx hb d_M_plan_33 (by decide) ?_
              obtain ⟨hi43, h⟩ := vq_bd h
              refine as_M16 dC dI bd cb τ hx hb hts hown hK hP hD hS hi43 d_M_plan_34 (fun H locs hP hD hS => ?_)
              obtain ⟨σ44, eσ44, h⟩ := vq_let h
              rw [← eσ44] at hP hD
              refine lv_iinc (k := 2) (v := (x2 + 1)) (lv' := [(2, .int (x2 + 1)), (0, .ref (bd 0)), (1, .int x1)]) hx hb d_M_plan_35 hl rfl rfl (by decide) rfl (fun ls hl => ?_)
              refine lv_goto (tgt := 23) hx hb d_M_plan_38 (by decide) ?_
              exact ih23 _ _ _ _ _ _ h (lv_sub hl [1, 2, 0] rfl) hP hD hS
        exact L23 N _ _ _ _ _ _ h (lv_sub hl [1, 2, 0] rfl) hP hD hS
      ·
        rw [if_neg hc1] at h
        refine lv_aload_n hx hb d_M_plan_8 rfl (lv_at hl 0 rfl) ?_
        refine g_M_set dC dI bd cb τ hx hb hts hown hK hP k_440 d_M_plan_9 ?_
        refine lv_iload_n hx hb d_M_plan_12 rfl (lv_at hl 2 rfl) ?_
        refine lv_iconst (v := 0) hx hb d_M_plan_13 (by decide) ?_
        obtain ⟨hi45, h⟩ := vq_bd h
        refine as_M15 dC dI bd cb τ hx hb hts hown hK hP hD hS hi45 d_M_plan_14 (fun H locs hP hD hS => ?_)
        obtain ⟨σ46, eσ46, h⟩ := vq_let h
        rw [← eσ46] at hP hD
        refine lv_iinc (k := 2) (v := (x2 + 1)) (lv' := [(2, .int (x2 + 1)), (0, .ref (bd 0)), (1, .int x1)]) hx hb d_M_plan_15 hl rfl rfl (by decide) rfl (fun ls hl => ?_)
        refine lv_goto (tgt := 2) hx hb d_M_plan_18 (by decide) ?_
        exact ih2 _ _ _ _ _ _ h (lv_sub hl [1, 2, 0] rfl) hP hD hS
  exact L2 N _ _ _ _ _ _ h (lv_sub hl [1, 2, 0] rfl) hP hD hS

set_option maxHeartbeats 4000000 in
set_option maxRecDepth 100000 in
theorem c_M_analyse (l : Launch) (htr : l.stackTraces = false) (dC : Nat → ClassId) (dI : Nat → Nat → Nat) (bd : Nat → Nat) (cb : Nat → ClassId) (N : Nat) (σ : vS) (v : Int32 × vS) (h : f_M_analyse N σ = some v) (sz : Nat) : Met l y_M_analyse WS ({ frames := 5, cells := 0, slots := 0, locals := 116 }) (va_Pc [.ref (bd 0)] (vq_Pre (dC, dI) CL sz (Mw bd cb σ) (Mt cb))) (va_Qi (fun (r : Int32) (_ : Unit) => r = v.1) (fun _ t => vq_Post (dC, dI) CL (va_A (Mw bd cb σ) sz) (Mw bd cb v.2) (Mt cb) t) (va_A (Mw bd cb σ) sz)) 0 0 (va_A (Mw bd cb σ) sz) := by
  refine vq_ofW (cc := prog_10_method_30_code) (maxL := 3) (ret := (Option.some Jvm.ClassFile.FieldType.int)) pl_M (vq_his k_463) ?_
  intro p e s m args below meth c s₁ B hml hv
  obtain ⟨rfl, hst, hsz, hP, hK, hD0⟩ := hv
  have hx := B.exec
  have hb := B.bytes
  have hr := B.returns
  have hts := atoms_spec (ws := WS) B.pre
  have hown : s.vm.findClass R_M = some m.cls := findClass_of_methodNamed B.named
  have hlocks := B.notSynchronized
  have hno := vq_noH B (hts _ k_463)
  subst hsz
  have hN := vq_ns hP
  have hD := hD0.self (sz := s.heap.size)
  generalize hAe : va_A (Mw bd cb σ) s.heap.size = A at hD hN ⊢
  have hA : ∀ q : Nat, s.heap.size ≤ q → A q := fun q h => by rw [← hAe]; exact Or.inr h
  have hS : va_S A s.heap s.heap [] := va_S.rf
  have hl := lv_entry ([.ref (bd 0)]) (n := 3) (Nat.le_of_ble_eq_true rfl)
  rw [lg_entry_eq]
  generalize (lg_sl ([.ref (bd 0)]) ++ List.replicate (3 - (lg_sl ([.ref (bd 0)])).length) Slot.unset).toArray = ls at hl ⊢
  have hl : lv_has ls 3 [(0, .ref (bd 0))] := hl
  unfold f_M_analyse at h
  refine lv_aload_n hx hb d_M_analyse_0 rfl (lv_at hl 0 rfl) ?_
  refine lv_iconst (v := 0) hx hb d_M_analyse_1 (by decide) ?_
  refine p_M_code dC dI bd cb σ hx hb hts hown hK hP hD hS k_359 d_M_analyse_2 (fun H locs hP hD hS => ?_)
  obtain ⟨σ1, eσ1, h⟩ := vq_let h
  rw [← eσ1] at hP hD
  refine lv_aload_n hx hb d_M_analyse_5 rfl (lv_at hl 0 rfl) ?_
  obtain ⟨q2, h3, h⟩ := vq_bi h
  have hFc := vq_freeAll hD hS hA
  refine va_callv (va_runV (As := []) (rest := []) ⟨hx, hb, hml, hown, hts⟩ (c_M_forget l htr dC dI bd cb N σ1 q2 h3 H.size) (vq_cV WSk hts 0 rfl rfl ⟨by decide, by decide⟩ k_365 k_367 k_374 k_375 k_376 (by decide +kernel)) ⟨vq_blind, va_recv hK hP (ci := 8) (q0 := 0) rfl rfl, vq_here hst hS hN hP hK hD⟩ rfl rfl hl.1 rfl (lv_room (Nat.le_of_ble_eq_true rfl)) d_M_analyse_6 ⟨by decide, by decide⟩) hS (fun q _ h => hFc q h) hFc (fun u t H1 locs ht hvm hw hB hz1 hk1 hS => ?_)
  obtain ⟨hP, -, hD1⟩ := hB
  rw [ht] at hP
  have hD := hD1.weaken (fun _ _ _ h => hFc _ h)
  generalize H1 = H at hP hS ⊢
  refine W.widen (k := 0) (n := 0) (by decide) (by decide) ?_
  refine lv_aload_n hx hb d_M_analyse_9 rfl (lv_at hl 0 rfl) ?_
  refine lv_iconst (v := 0) hx hb d_M_analyse_10 (by decide) ?_
  refine lv_iconst (v := (-1)) hx hb d_M_analyse_11 (by decide) ?_
  refine lv_iconst (v := (-1)) hx hb d_M_analyse_12 (by decide) ?_
  obtain ⟨q4, h5, h⟩ := vq_bi h
  have hFc := vq_freeAll hD hS hA
  refine va_calli (va_runV (As := [.int 0, .int (-1), .int (-1)]) (rest := []) ⟨hx, hb, hml, hown, hts⟩ (c_M_blame l htr dC dI bd cb N q2.2 0 (-1) (-1) q4 h5 H.size) (vq_cV WSk hts 3 rfl rfl ⟨by decide, by decide⟩ k_405 k_367 k_410 k_411 k_412 (by decide +kernel)) ⟨vq_blind, va_recv hK hP (ci := 8) (q0 := 0) rfl rfl, vq_here hst hS hN hP hK hD⟩ rfl rfl hl.1 rfl (lv_room (Nat.le_of_ble_eq_true rfl)) d_M_analyse_13 ⟨by decide, by decide⟩) hS (fun q _ h => hFc q h) hFc (fun r u t H1 locs ht hvm hw hB hz1 hk1 hS => ?_)
  obtain ⟨hP, -, hD1⟩ := hB
  rw [ht] at hP
  have hD := hD1.weaken (fun _ _ _ h => hFc _ h)
  have hw : r = q4.1 := hw
  subst hw
  generalize H1 = H at hP hS ⊢
  refine W.widen (k := 0) (n := 0) (by decide) (by decide) ?_
  refine lv_pop hx hb d_M_analyse_16 rfl ?_
  refine lv_aload_n hx hb d_M_analyse_17 rfl (lv_at hl 0 rfl) ?_
  obtain ⟨q6, h7, h⟩ := vq_bi h
  have hFc := vq_freeAll hD hS hA
  refine va_calli (va_runV (As := []) (rest := []) ⟨hx, hb, hml, hown, hts⟩ (c_M_lacks l htr dC dI bd cb N q4.2 q6 h7 H.size) (vq_cV WSk hts 0 rfl rfl ⟨by decide, by decide⟩ k_409 k_367 k_464 k_465 k_466 (by decide +kernel)) ⟨vq_blind, va_recv hK hP (ci := 8) (q0 := 0) rfl rfl, vq_here hst hS hN hP hK hD⟩ rfl rfl hl.1 rfl (lv_room (Nat.le_of_ble_eq_true rfl)) d_M_analyse_18 ⟨by decide, by decide⟩) hS (fun q _ h => hFc q h) hFc (fun r u t H1 locs ht hvm hw hB hz1 hk1 hS => ?_)
  obtain ⟨hP, -, hD1⟩ := hB
  rw [ht] at hP
  have hD := hD1.weaken (fun _ _ _ h => hFc _ h)
  have hw : r = q6.1 := hw
  subst hw
  generalize H1 = H at hP hS ⊢
  refine W.widen (k := 0) (n := 0) (by decide) (by decide) ?_
  have J31 : ∀ (τ : vS) (H : Heap) (locs : List Loc) (ls : Array Slot), f_M_analyse_31 N τ = some v → lv_has ls 3 [(0, .ref (bd 0))] → va_P (dC, dI) CL (Mw bd cb τ) H → va_D A (Mw bd cb τ) → va_S A s.heap H locs → W p l e (headSpec WS ({ frames := 5, cells := 0, slots := 0, locals := 116 })).room s m ([.ref (bd 0)] : List Value).toArray below meth c H locs 0 0 (MQ below (va_Qi (fun (r : Int32) (_ : Unit) => r = v.1) (fun _ t => vq_Post (dC, dI) CL A (Mw bd cb v.2) (Mt cb) t) A) ([.ref (bd 0)] : List Value).toArray s 0 0 A) (F0 m 31 ls []) := by
    intro τ H locs ls h hl hP hD hS
    unfold f_M_analyse_31 at h
    refine lv_aload_n hx hb d_M_analyse_31 rfl (lv_at hl 0 rfl) ?_
    refine lv_iconst (v := 1) hx hb d_M_analyse_32 (by decide) ?_
    obtain ⟨q8, h9, h⟩ := vq_bi h
    have hFc := vq_freeAll hD hS hA
    refine va_calli (va_runV (As := [.int 1]) (rest := []) ⟨hx, hb, hml, hown, hts⟩ (c_M_fail l htr dC dI bd cb N τ 1 q8 h9 H.size) (vq_cV WSk hts 1 rfl rfl ⟨by decide, by decide⟩ k_360 k_367 k_467 k_468 k_469 (by decide +kernel)) ⟨vq_blind, va_recv hK hP (ci := 8) (q0 := 0) rfl rfl, vq_here hst hS hN hP hK hD⟩ rfl rfl hl.1 rfl (lv_room (Nat.le_of_ble_eq_true rfl)) d_M_analyse_33 ⟨by decide, by decide⟩) hS (fun q _ h => hFc q h) hFc (fun r u t H1 locs ht hvm hw hB hz1 hk1 hS => ?_)
    obtain ⟨hP, -, hD1⟩ := hB
    rw [ht] at hP
    have hD := hD1.weaken (fun _ _ _ h => hFc _ h)
    have hw : r = q8.1 := hw
    subst hw
    generalize H1 = H at hP hS ⊢
    refine W.widen (k := 0) (n := 0) (by decide) (by decide) ?_
    have h9 := Option.some.inj h
    rw [← h9]
    exact W.iret (v := (q8.1)) hx hb hr (fun t ht hW => ⟨⟨(q8.1), (), rfl, rfl, by rw [ht]; exact hP, va_K.moved hW.alike hK, hD⟩, hS.F ht⟩) hS.2.2 d_M_analyse_36
  refine lv_if_ne (tgt := 31) hx hb d_M_analyse_21 (by decide) (fun hc10 => ?_) (fun hc10 => ?_)
  ·
    rw [if_neg hc10] at h
    exact J31 _ _ _ _ h (lv_sub hl [0] rfl) hP hD hS
  ·
    rw [if_pos hc10] at h
    refine lv_aload_n hx hb d_M_analyse_24 rfl (lv_at hl 0 rfl) ?_
    refine g_M_productions dC dI bd cb q6.2 hx hb hts hown hK hP k_383 d_M_analyse_25 ?_
    refine lv_if_ne (tgt := 37) hx hb d_M_analyse_28 (by decide) (fun hc11 => ?_) (fun hc11 => ?_)
    ·
      rw [if_neg hc11] at h
      refine lv_aload_n hx hb d_M_analyse_37 rfl (lv_at hl 0 rfl) ?_
      obtain ⟨q12, h13, h⟩ := vq_bi h
      have hFc := vq_freeAll hD hS hA
      refine va_callv (va_runV (As := []) (rest := []) ⟨hx, hb, hml, hown, hts⟩ (c_M_begin l htr dC dI bd cb N q6.2 q12 h13 H.size) (vq_cV WSk hts 0 rfl rfl ⟨by decide, by decide⟩ k_413 k_367 k_470 k_471 k_472 (by decide +kernel)) ⟨vq_blind, va_recv hK hP (ci := 8) (q0 := 0) rfl rfl, vq_here hst hS hN hP hK hD⟩ rfl rfl hl.1 rfl (lv_room (Nat.le_of_ble_eq_true rfl)) d_M_analyse_38 ⟨by decide, by decide⟩) hS (fun q _ h => hFc q h) hFc (fun u t H1 locs ht hvm hw hB hz1 hk1 hS => ?_)
      obtain ⟨hP, -, hD1⟩ := hB
      rw [ht] at hP
      have hD := hD1.weaken (fun _ _ _ h => hFc _ h)
      generalize H1 = H at hP hS ⊢
      refine W.widen (k := 0) (n := 0) (by decide) (by decide) ?_
      refine lv_aload_n hx hb d_M_analyse_41 rfl (lv_at hl 0 rfl) ?_
      obtain ⟨q14, h15, h⟩ := vq_bi h
      have hFc := vq_freeAll hD hS hA
      refine va_calli (va_runV (As := []) (rest := []) ⟨hx, hb, hml, hown, hts⟩ (c_M_circles l htr dC dI bd cb N q12.2 q14 h15 H.size) (vq_cV WSk hts 0 rfl rfl ⟨by decide, by decide⟩ k_421 k_367 k_473 k_474 k_475 (by decide +kernel)) ⟨vq_blind, va_recv hK hP (ci := 8) (q0 := 0) rfl rfl, vq_here hst hS hN hP hK hD⟩ rfl rfl hl.1 rfl (lv_room (Nat.le_of_ble_eq_true rfl)) d_M_analyse_42 ⟨by decide, by decide⟩) hS (fun q _ h => hFc q h) hFc (fun r u t H1 locs ht hvm hw hB hz1 hk1 hS => ?_)
      obtain ⟨hP, -, hD1⟩ := hB
      rw [ht] at hP
      have hD := hD1.weaken (fun _ _ _ h => hFc _ h)
      have hw : r = q14.1 := hw
      subst hw
      generalize H1 = H at hP hS ⊢
      refine W.widen (k := 0) (n := 0) (by decide) (by decide) ?_
      refine lv_if_eq (tgt := 54) hx hb d_M_analyse_45 (by decide) (fun hc16 => ?_) (fun hc16 => ?_)
      ·
        rw [if_pos hc16] at h
        refine lv_iconst (v := 0) hx hb d_M_analyse_54 (by decide) ?_
        refine lv_istore_n (lv' := [(1, .int 0), (0, .ref (bd 0))]) hx hb d_M_analyse_55 rfl hl (by decide) rfl (fun ls hl => ?_)
        have L56 : ∀ n56 : Nat, ∀ (τ : vS) (x1 : Int32) (H : Heap) (locs : List Loc) (ls : Array Slot), f_M_analyse_56 N n56 τ x1 = some v → lv_has ls 3 [(0, .ref (bd 0)), (1, .int x1)] → va_P (dC, dI) CL (Mw bd cb τ) H → va_D A (Mw bd cb τ) → va_S A s.heap H locs → W p l e (headSpec WS ({ frames := 5, cells := 0, slots := 0, locals := 116 })).room s m ([.ref (bd 0)] : List Value).toArray below meth c H locs 0 0 (MQ below (va_Qi (fun (r : Int32) (_ : Unit) => r = v.1) (fun _ t => vq_Post (dC, dI) CL A (Mw bd cb v.2) (Mt cb) t) A) ([.ref (bd 0)] : List Value).toArray s 0 0 A) (F0 m 56 ls []) := by
          intro n56
          induction n56 with
          | zero =>
            intro τ x1 H locs ls h hl hP hD hS
            rw [f_M_analyse_56] at h
            cases h
          | succ n56 ih56 =>
            intro τ x1 H locs ls h hl hP hD hS
            rw [f_M_analyse_56] at h
            dsimp only at h
            refine lv_iload_n hx hb d_M_analyse_56 rfl (lv_at hl 1 rfl) ?_
            refine lv_aload_n hx hb d_M_analyse_57 rfl (lv_at hl 0 rfl) ?_
            refine g_M_symbols dC dI bd cb τ hx hb hts hown hK hP k_373 d_M_analyse_58 ?_
            refine lv_icmp_ge (tgt := 75) hx hb d_M_analyse_61 (by decide) (fun hc17 => ?_) (fun hc17 => ?_)
            ·
              rw [if_pos hc17] at h
              refine lv_aload_n hx hb d_M_analyse_75 rfl (lv_at hl 0 rfl) ?_
              obtain ⟨q18, h19, h⟩ := vq_bi h
              have hFc := vq_freeAll hD hS hA
              refine va_calli (va_runV (As := []) (rest := []) ⟨hx, hb, hml, hown, hts⟩ (c_M_mixes l htr dC dI bd cb N τ q18 h19 H.size) (vq_cV WSk hts 0 rfl rfl ⟨by decide, by decide⟩ k_433 k_367 k_476 k_477 k_478 (by decide +kernel)) ⟨vq_blind, va_recv hK hP (ci := 8) (q0 := 0) rfl rfl, vq_here hst hS hN hP hK hD⟩ rfl rfl hl.1 rfl (lv_room (Nat.le_of_ble_eq_true rfl)) d_M_analyse_76 ⟨by decide, by decide⟩) hS (fun q _ h => hFc q h) hFc (fun r u t H1 locs ht hvm hw hB hz1 hk1 hS => ?_)
              obtain ⟨hP, -, hD1⟩ := hB
              rw [ht] at hP
              have hD := hD1.weaken (fun _ _ _ h => hFc _ h)
              have hw : r = q18.1 := hw
              subst hw
              generalize H1 = H at hP hS ⊢
              refine W.widen (k := 0) (n := 0) (by decide) (by decide) ?_
              refine lv_if_eq (tgt := 88) hx hb d_M_analyse_79 (by decide) (fun hc20 => ?_) (fun hc20 => ?_)
              ·
                rw [if_pos hc20] at h
                refine lv_iconst (v := 0) hx hb d_M_analyse_88 (by decide) ?_
                refine lv_istore_n (lv' := [(1, .int 0), (0, .ref (bd 0))]) hx hb d_M_analyse_89 rfl hl (by decide) rfl (fun ls hl => ?_)
                refine lv_iconst (v := 0) hx hb d_M_analyse_90 (by decide) ?_
                refine lv_istore_n (lv' := [(2, .int 0), (1, .int 0), (0, .ref (bd 0))]) hx hb d_M_analyse_91 rfl hl (by decide) rfl (fun ls hl => ?_)
                have L92 : ∀ n92 : Nat, ∀ (τ : vS) (x1 : Int32) (x2 : Int32) (H : Heap) (locs : List Loc) (ls : Array Slot), f_M_analyse_92 N n92 τ x1 x2 = some v → lv_has ls 3 [(0, .ref (bd 0)), (1, .int x1), (2, .int x2)] → va_P (dC, dI) CL (Mw bd cb τ) H → va_D A (Mw bd cb τ) → va_S A s.heap H locs → W p l e (headSpec WS ({ frames := 5, cells := 0, slots := 0, locals := 116 })).room s m ([.ref (bd 0)] : List Value).toArray below meth c H locs 0 0 (MQ below (va_Qi (fun (r : Int32) (_ : Unit) => r = v.1) (fun _ t => vq_Post (dC, dI) CL A (Mw bd cb v.2) (Mt cb) t) A) ([.ref (bd 0)] : List Value).toArray s 0 0 A) (F0 m 92 ls []) := by
                  intro n92
                  induction n92 with
                  | zero =>
                    intro τ x1 x2 H locs ls h hl hP hD hS
                    rw [f_M_analyse_92] at h
                    cases h
                  | succ n92 ih92 =>
                    intro τ x1 x2 H locs ls h hl hP hD hS
                    rw [f_M_analyse_92] at h
                    dsimp only at h
                    refine lv_iload_n hx hb d_M_analyse_92 rfl (lv_at hl 2 rfl) ?_
                    refine lv_aload_n hx hb d_M_analyse_93 rfl (lv_at hl 0 rfl) ?_
                    refine g_M_productions dC dI bd cb τ hx hb hts hown hK hP k_383 d_M_analyse_94 ?_
                    refine lv_icmp_ge (tgt := 120) hx hb d_M_analyse_97 (by decide) (fun hc21 => ?_) (fun hc21 => ?_)
                    ·
                      rw [if_pos hc21] at h
                      refine lv_aload_n hx hb d_M_analyse_120 rfl (lv_at hl 0 rfl) ?_
                      refine lv_iconst (v := 1) hx hb d_M_analyse_121 (by decide) ?_
                      refine p_M_analysed dC dI bd cb τ hx hb hts hown hK hP hD hS k_366 (by decide) d_M_analyse_122 (fun H locs hP hD hS => ?_)
                      obtain ⟨σ22, eσ22, h⟩ := vq_let h
                      rw [← eσ22] at hP hD
                      refine lv_iload_n hx hb d_M_analyse_125 rfl (lv_at hl 1 rfl) ?_
                      have h9 := Option.some.inj h
                      rw [← h9]
                      exact W.iret (v := x1) hx hb hr (fun t ht hW => ⟨⟨x1, (), rfl, rfl, by rw [ht]; exact hP, va_K.moved hW.alike hK, hD⟩, hS.F ht⟩) hS.2.2 d_M_analyse_126
                    ·
                      rw [if_neg hc21] at h
                      refine lv_aload_n hx hb d_M_analyse_100 rfl (lv_at hl 0 rfl) ?_
                      refine lv_iload_n hx hb d_M_analyse_101 rfl (lv_at hl 2 rfl) ?_
                      obtain ⟨q23, h24, h⟩ := vq_bi h
                      have hFc := vq_freeAll hD hS hA
                      refine va_callv (va_runV (As := [.int x2]) (rest := []) ⟨hx, hb, hml, hown, hts⟩ (c_M_plan l htr dC dI bd cb N τ x2 q23 h24 H.size) (vq_cV WSk hts 1 rfl rfl ⟨by decide, by decide⟩ k_454 k_367 k_479 k_480 k_481 (by decide +kernel)) ⟨vq_blind, va_recv hK hP (ci := 8) (q0 := 0) rfl rfl, vq_here hst hS hN hP hK hD⟩ rfl rfl hl.1 rfl (lv_room (Nat.le_of_ble_eq_true rfl)) d_M_analyse_102 ⟨by decide, by decide⟩) hS (fun q _ h => hFc q h) hFc (fun u t H1 locs ht hvm hw hB hz1 hk1 hS => ?_)
                      obtain ⟨hP, -, hD1⟩ := hB
                      rw [ht] at hP
                      have hD := hD1.weaken (fun _ _ _ h => hFc _ h)
                      generalize H1 = H at hP hS ⊢
                      refine W.widen (k := 0) (n := 0) (by decide) (by decide) ?_
                      refine lv_iload_n hx hb d_M_analyse_105 rfl (lv_at hl 1 rfl) ?_
                      refine lv_aload_n hx hb d_M_analyse_106 rfl (lv_at hl 0 rfl) ?_
                      refine g_M_length dC dI bd cb q23.2 hx hb hts hown hK hP k_455 d_M_analyse_107 ?_
                      refine lv_iload_n hx hb d_M_analyse_110 rfl (lv_at hl 2 rfl) ?_
                      obtain ⟨hi25, h⟩ := vq_bd h
                      refine al_M13 dC dI bd cb q23.2 hx hb hts hown hK hP hi25 d_M_analyse_111 ?_
                      obtain ⟨i26, ei26, h⟩ := vq_let h
                      refine vq_top ei26.symm ?_
                      refine lv_iadd hx hb d_M_analyse_112 ?_
                      refine lv_istore_n (lv' := [(1, .int (x1 + i26)), (0, .ref (bd 0)), (2, .int x2)]) hx hb d_M_analyse_113 rfl hl (by decide) rfl (fun ls hl => ?_)
                      refine lv_iinc (k := 2) (v := (x2 + 1)) (lv' := [(2, .int (x2 + 1)), (1, .int (x1 + i26)), (0, .ref (bd 0))]) hx hb d_M_analyse_114 hl rfl rfl (by decide) rfl (fun ls hl => ?_)
                      refine lv_goto (tgt := 92) hx hb d_M_analyse_117 (by decide) ?_
                      exact ih92 _ _ _ _ _ _ h (lv_sub hl [2, 1, 0] rfl) hP hD hS
                exact L92 N _ _ _ _ _ _ h (lv_sub hl [2, 1, 0] rfl) hP hD hS
              ·
                rw [if_neg hc20] at h
                refine lv_aload_n hx hb d_M_analyse_82 rfl (lv_at hl 0 rfl) ?_
                refine lv_iconst (v := 2) hx hb d_M_analyse_83 (by decide) ?_
                obtain ⟨q27, h28, h⟩ := vq_bi h
                have hFc := vq_freeAll hD hS hA
                refine va_calli (va_runV (As := [.int 2]) (rest := []) ⟨hx, hb, hml, hown, hts⟩ (c_M_fail l htr dC dI bd cb N q18.2 2 q27 h28 H.size) (vq_cV WSk hts 1 rfl rfl ⟨by decide, by decide⟩ k_360 k_367 k_467 k_468 k_469 (by decide +kernel)) ⟨vq_blind, va_recv hK hP (ci := 8) (q0 := 0) rfl rfl, vq_here hst hS hN hP hK hD⟩ rfl rfl hl.1 rfl (lv_room (Nat.le_of_ble_eq_true rfl)) d_M_analyse_84 ⟨by decide, by decide⟩) hS (fun q _ h => hFc q h) hFc (fun r u t H1 locs ht hvm hw hB hz1 hk1 hS => ?_)
                obtain ⟨hP, -, hD1⟩ := hB
                rw [ht] at hP
                have hD := hD1.weaken (fun _ _ _ h => hFc _ h)
                have hw : r = q27.1 := hw
                subst hw
                generalize H1 = H at hP hS ⊢
                refine W.widen (k := 0) (n := 0) (by decide) (by decide) ?_
                have h9 := Option.some.inj h
                rw [← h9]
                exact W.iret (v := (q27.1)) hx hb hr (fun t ht hW => ⟨⟨(q27.1), (), rfl, rfl, by rw [ht]; exact hP, va_K.moved hW.alike hK, hD⟩, hS.F ht⟩) hS.2.2 d_M_analyse_87
            ·
              rw [if_neg hc17] at h
              refine lv_aload_n hx hb d_M_analyse_64 rfl (lv_at hl 0 rfl) ?_
              refine lv_iload_n hx hb d_M_analyse_65 rfl (lv_at hl 1 rfl) ?_
              obtain ⟨q29, h30, h⟩ := vq_bi h
              have hFc := vq_freeAll hD hS hA
              refine va_callv (va_runV (As := [.int x1]) (rest := []) ⟨hx, hb, hml, hown, hts⟩ (c_M_rankAll l htr dC dI bd cb N τ x1 q29 h30 H.size) (vq_cV WSk hts 1 rfl rfl ⟨by decide, by decide⟩ k_426 k_367 k_482 k_483 k_484 (by decide +kernel)) ⟨vq_blind, va_recv hK hP (ci := 8) (q0 := 0) rfl rfl, vq_here hst hS hN hP hK hD⟩ rfl rfl hl.1 rfl (lv_room (Nat.le_of_ble_eq_true rfl)) d_M_analyse_66 ⟨by decide, by decide⟩) hS (fun q _ h => hFc q h) hFc (fun u t H1 locs ht hvm hw hB hz1 hk1 hS => ?_)
              obtain ⟨hP, -, hD1⟩ := hB
              rw [ht] at hP
              have hD := hD1.weaken (fun _ _ _ h => hFc _ h)
              generalize H1 = H at hP hS ⊢
              refine W.widen (k := 0) (n := 0) (by decide) (by decide) ?_
              refine lv_iinc (k := 1) (v := (x1 + 1)) (lv' := [(1, .int (x1 + 1)), (0, .ref (bd 0))]) hx hb d_M_analyse_69 hl rfl rfl (by decide) rfl (fun ls hl => ?_)
              refine lv_goto (tgt := 56) hx hb d_M_analyse_72 (by decide) ?_
              exact ih56 _ _ _ _ _ h (lv_sub hl [1, 0] rfl) hP hD hS
        exact L56 N _ _ _ _ _ h (lv_sub hl [1, 0] rfl) hP hD hS
      ·
        rw [if_neg hc16] at h
        refine lv_aload_n hx hb d_M_analyse_48 rfl (lv_at hl 0 rfl) ?_
        refine lv_iconst (v := 2) hx hb d_M_analyse_49 (by decide) ?_
        obtain ⟨q31, h32, h⟩ := vq_bi h
        have hFc := vq_freeAll hD hS hA
        refine va_calli (va_runV (As := [.int 2]) (rest := []) ⟨hx, hb, hml, hown, hts⟩ (c_M_fail l htr dC dI bd cb N q14.2 2 q31 h32 H.size) (vq_cV WSk hts 1 rfl rfl ⟨by decide, by decide⟩ k_360 k_367 k_467 k_468 k_469 (by decide +kernel)) ⟨vq_blind, va_recv hK hP (ci := 8) (q0 := 0) rfl rfl, vq_here hst hS hN hP hK hD⟩ rfl rfl hl.1 rfl (lv_room (Nat.le_of_ble_eq_true rfl)) d_M_analyse_50 ⟨by decide, by decide⟩) hS (fun q _ h => hFc q h) hFc (fun r u t H1 locs ht hvm hw hB hz1 hk1 hS => ?_)
        obtain ⟨hP, -, hD1⟩ := hB
        rw [ht] at hP
        have hD := hD1.weaken (fun _ _ _ h => hFc _ h)
        have hw : r = q31.1 := hw
        subst hw
        generalize H1 = H at hP hS ⊢
        refine W.widen (k := 0) (n := 0) (by decide) (by decide) ?_
        have h9 := Option.some.inj h
        rw [← h9]
        exact W.iret (v := (q31.1)) hx hb hr (fun t ht hW => ⟨⟨(q31.1), (), rfl, rfl, by rw [ht]; exact hP, va_K.moved hW.alike hK, hD⟩, hS.F ht⟩) hS.2.2 d_M_analyse_53
    ·
      rw [if_pos hc11] at h
      exact J31 _ _ _ _ h (lv_sub hl [0] rfl) hP hD hS

set_option maxHeartbeats 4000000 in
set_option maxRecDepth 100000 in
theorem c_M_fault (l : Launch) (htr : l.stackTraces = false) (dC : Nat → ClassId) (dI : Nat → Nat → Nat) (bd : Nat → Nat) (cb : Nat → ClassId) (N : Nat) (σ : vS) (a0 : Int32) (v : Int32 × vS) (h : f_M_fault N σ a0 = some v) (sz : Nat) : Met l y_M_fault WS ({ frames := 0, cells := 0, slots := 0, locals := 0 }) (va_Pc [.ref (bd 0), .int a0] (vq_Pre (dC, dI) CL sz (Mw bd cb σ) (Mt cb))) (va_Qi (fun (r : Int32) (_ : Unit) => r = v.1) (fun _ t => vq_Post (dC, dI) CL (va_A (Mw bd cb σ) sz) (Mw bd cb v.2) (Mt cb) t) (va_A (Mw bd cb σ) sz)) 0 0 (va_A (Mw bd cb σ) sz) := by
  refine vq_ofW (cc := prog_10_method_31_code) (maxL := 2) (ret := (Option.some Jvm.ClassFile.FieldType.int)) pl_M (vq_his k_485) ?_
  intro p e s m args below meth c s₁ B hml hv
  obtain ⟨rfl, hst, hsz, hP, hK, hD0⟩ := hv
  have hx := B.exec
  have hb := B.bytes
  have hr := B.returns
  have hts := atoms_spec (ws := WS) B.pre
  have hown : s.vm.findClass R_M = some m.cls := findClass_of_methodNamed B.named
  have hlocks := B.notSynchronized
  have hno := vq_noH B (hts _ k_485)
  subst hsz
  have hN := vq_ns hP
  have hD := hD0.self (sz := s.heap.size)
  generalize hAe : va_A (Mw bd cb σ) s.heap.size = A at hD hN ⊢
  have hA : ∀ q : Nat, s.heap.size ≤ q → A q := fun q h => by rw [← hAe]; exact Or.inr h
  have hS : va_S A s.heap s.heap [] := va_S.rf
  have hl := lv_entry ([.ref (bd 0), .int a0]) (n := 2) (Nat.le_of_ble_eq_true rfl)
  rw [lg_entry_eq]
  generalize (lg_sl ([.ref (bd 0), .int a0]) ++ List.replicate (2 - (lg_sl ([.ref (bd 0), .int a0])).length) Slot.unset).toArray = ls at hl ⊢
  have hl : lv_has ls 2 [(0, .ref (bd 0)), (1, .int a0)] := hl
  unfold f_M_fault at h
  refine lv_aload_n hx hb d_M_fault_0 rfl (lv_at hl 0 rfl) ?_
  refine lv_iconst (v := 0) hx hb d_M_fault_1 (by decide) ?_
  refine p_M_code dC dI bd cb σ hx hb hts hown hK hP hD hS k_359 d_M_fault_2 (fun H locs hP hD hS => ?_)
  obtain ⟨σ1, eσ1, h⟩ := vq_let h
  rw [← eσ1] at hP hD
  refine lv_iload_n hx hb d_M_fault_5 rfl (lv_at hl 1 rfl) ?_
  refine lv_if_ne (tgt := 16) hx hb d_M_fault_6 (by decide) (fun hc2 => ?_) (fun hc2 => ?_)
  ·
    rw [if_neg hc2] at h
    refine lv_iload_n hx hb d_M_fault_16 rfl (lv_at hl 1 rfl) ?_
    refine lv_iconst (v := 1) hx hb d_M_fault_17 (by decide) ?_
    refine lv_icmp_ne (tgt := 28) hx hb d_M_fault_18 (by decide) (fun hc3 => ?_) (fun hc3 => ?_)
    ·
      rw [if_neg hc3] at h
      refine lv_iload_n hx hb d_M_fault_28 rfl (lv_at hl 1 rfl) ?_
      refine lv_iconst (v := 2) hx hb d_M_fault_29 (by decide) ?_
      refine lv_icmp_ne (tgt := 40) hx hb d_M_fault_30 (by decide) (fun hc4 => ?_) (fun hc4 => ?_)
      ·
        rw [if_neg hc4] at h
        refine lv_iconst (v := (-1)) hx hb d_M_fault_40 (by decide) ?_
        have h9 := Option.some.inj h
        rw [← h9]
        exact W.iret (v := ((-1) : Int32)) hx hb hr (fun t ht hW => ⟨⟨((-1) : Int32), (), rfl, rfl, by rw [ht]; exact hP, va_K.moved hW.alike hK, hD⟩, hS.F ht⟩) hS.2.2 d_M_fault_41
      ·
        rw [if_pos hc4] at h
        refine lv_aload_n hx hb d_M_fault_33 rfl (lv_at hl 0 rfl) ?_
        refine g_M_faultOccurrence dC dI bd cb σ1 hx hb hts hown hK hP k_408 d_M_fault_34 ?_
        refine lv_goto (tgt := 41) hx hb d_M_fault_37 (by decide) ?_
        have h9 := Option.some.inj h
        rw [← h9]
        exact W.iret (v := (σ1.1 6)) hx hb hr (fun t ht hW => ⟨⟨(σ1.1 6), (), rfl, rfl, by rw [ht]; exact hP, va_K.moved hW.alike hK, hD⟩, hS.F ht⟩) hS.2.2 d_M_fault_41
    ·
      rw [if_pos hc3] at h
      refine lv_aload_n hx hb d_M_fault_21 rfl (lv_at hl 0 rfl) ?_
      refine g_M_faultProduction dC dI bd cb σ1 hx hb hts hown hK hP k_407 d_M_fault_22 ?_
      refine lv_goto (tgt := 41) hx hb d_M_fault_25 (by decide) ?_
      have h9 := Option.some.inj h
      rw [← h9]
      exact W.iret (v := (σ1.1 5)) hx hb hr (fun t ht hW => ⟨⟨(σ1.1 5), (), rfl, rfl, by rw [ht]; exact hP, va_K.moved hW.alike hK, hD⟩, hS.F ht⟩) hS.2.2 d_M_fault_41
  ·
    rw [if_pos hc2] at h
    refine lv_aload_n hx hb d_M_fault_9 rfl (lv_at hl 0 rfl) ?_
    refine g_M_faultKind dC dI bd cb σ1 hx hb hts hown hK hP k_406 d_M_fault_10 ?_
    refine lv_goto (tgt := 41) hx hb d_M_fault_13 (by decide) ?_
    have h9 := Option.some.inj h
    rw [← h9]
    exact W.iret (v := (σ1.1 4)) hx hb hr (fun t ht hW => ⟨⟨(σ1.1 4), (), rfl, rfl, by rw [ht]; exact hP, va_K.moved hW.alike hK, hD⟩, hS.F ht⟩) hS.2.2 d_M_fault_41

set_option maxHeartbeats 4000000 in
set_option maxRecDepth 100000 in
theorem c_M_visits (l : Launch) (htr : l.stackTraces = false) (dC : Nat → ClassId) (dI : Nat → Nat → Nat) (bd : Nat → Nat) (cb : Nat → ClassId) (N : Nat) (σ : vS) (a0 : Int32) (v : Int32 × vS) (h : f_M_visits N σ a0 = some v) (sz : Nat) : Met l y_M_visits WS ({ frames := 1, cells := 0, slots := 0, locals := 21 }) (va_Pc [.ref (bd 0), .int a0] (vq_Pre (dC, dI) CL sz (Mw bd cb σ) (Mt cb))) (va_Qi (fun (r : Int32) (_ : Unit) => r = v.1) (fun _ t => vq_Post (dC, dI) CL (va_A (Mw bd cb σ) sz) (Mw bd cb v.2) (Mt cb) t) (va_A (Mw bd cb σ) sz)) 0 0 (va_A (Mw bd cb σ) sz) := by
  refine vq_ofW (cc := prog_10_method_32_code) (maxL := 2) (ret := (Option.some Jvm.ClassFile.FieldType.int)) pl_M (vq_his k_486) ?_
  intro p e s m args below meth c s₁ B hml hv
  obtain ⟨rfl, hst, hsz, hP, hK, hD0⟩ := hv
  have hx := B.exec
  have hb := B.bytes
  have hr := B.returns
  have hts := atoms_spec (ws := WS) B.pre
  have hown : s.vm.findClass R_M = some m.cls := findClass_of_methodNamed B.named
  have hlocks := B.notSynchronized
  have hno := vq_noH B (hts _ k_486)
  subst hsz
  have hN := vq_ns hP
  have hD := hD0.self (sz := s.heap.size)
  generalize hAe : va_A (Mw bd cb σ) s.heap.size = A at hD hN ⊢
  have hA : ∀ q : Nat, s.heap.size ≤ q → A q := fun q h => by rw [← hAe]; exact Or.inr h
  have hS : va_S A s.heap s.heap [] := va_S.rf
  have hl := lv_entry ([.ref (bd 0), .int a0]) (n := 2) (Nat.le_of_ble_eq_true rfl)
  rw [lg_entry_eq]
  generalize (lg_sl ([.ref (bd 0), .int a0]) ++ List.replicate (2 - (lg_sl ([.ref (bd 0), .int a0])).length) Slot.unset).toArray = ls at hl ⊢
  have hl : lv_has ls 2 [(0, .ref (bd 0)), (1, .int a0)] := hl
  unfold f_M_visits at h
  refine lv_aload_n hx hb d_M_visits_0 rfl (lv_at hl 0 rfl) ?_
  refine lv_aload_n hx hb d_M_visits_1 rfl (lv_at hl 0 rfl) ?_
  refine g_M_analysed dC dI bd cb σ hx hb hts hown hK hP k_366 d_M_visits_2 ?_
  have J25 : ∀ (τ : vS) (x1 : Int32) (y0 : Int32) (H : Heap) (locs : List Loc) (ls : Array Slot), f_M_visits_25 N τ x1 y0 = some v → lv_has ls 2 [(0, .ref (bd 0)), (1, .int x1)] → va_P (dC, dI) CL (Mw bd cb τ) H → va_D A (Mw bd cb τ) → va_S A s.heap H locs → W p l e (headSpec WS ({ frames := 1, cells := 0, slots := 0, locals := 21 })).room s m ([.ref (bd 0), .int a0] : List Value).toArray below meth c H locs 0 0 (MQ below (va_Qi (fun (r : Int32) (_ : Unit) => r = v.1) (fun _ t => vq_Post (dC, dI) CL A (Mw bd cb v.2) (Mt cb) t) A) ([.ref (bd 0), .int a0] : List Value).toArray s 0 0 A) (F0 m 25 ls [.int y0, .ref (bd 0)]) := by
    intro τ x1 y0 H locs ls h hl hP hD hS
    unfold f_M_visits_25 at h
    refine p_M_code dC dI bd cb τ hx hb hts hown hK hP hD hS k_359 d_M_visits_25 (fun H locs hP hD hS => ?_)
    obtain ⟨σ1, eσ1, h⟩ := vq_let h
    rw [← eσ1] at hP hD
    refine lv_aload_n hx hb d_M_visits_28 rfl (lv_at hl 0 rfl) ?_
    refine g_M_code dC dI bd cb σ1 hx hb hts hown hK hP k_359 d_M_visits_29 ?_
    refine lv_if_le (tgt := 39) hx hb d_M_visits_32 (by decide) (fun hc2 => ?_) (fun hc2 => ?_)
    ·
      rw [if_pos hc2] at h
      refine lv_aload_n hx hb d_M_visits_39 rfl (lv_at hl 0 rfl) ?_
      refine g_M_visits dC dI bd cb σ1 hx hb hts hown hK hP k_427 d_M_visits_40 ?_
      refine lv_iload_n hx hb d_M_visits_43 rfl (lv_at hl 1 rfl) ?_
      obtain ⟨hi3, h⟩ := vq_bd h
      refine al_M12 dC dI bd cb σ1 hx hb hts hown hK hP hi3 d_M_visits_44 ?_
      obtain ⟨i4, ei4, h⟩ := vq_let h
      refine vq_top ei4.symm ?_
      have h9 := Option.some.inj h
      rw [← h9]
      exact W.iret (v := i4) hx hb hr (fun t ht hW => ⟨⟨i4, (), rfl, rfl, by rw [ht]; exact hP, va_K.moved hW.alike hK, hD⟩, hS.F ht⟩) hS.2.2 d_M_visits_45
    ·
      rw [if_neg hc2] at h
      refine lv_iconst (v := 0) hx hb d_M_visits_35 (by decide) ?_
      refine lv_goto (tgt := 45) hx hb d_M_visits_36 (by decide) ?_
      have h9 := Option.some.inj h
      rw [← h9]
      exact W.iret (v := (0 : Int32)) hx hb hr (fun t ht hW => ⟨⟨(0 : Int32), (), rfl, rfl, by rw [ht]; exact hP, va_K.moved hW.alike hK, hD⟩, hS.F ht⟩) hS.2.2 d_M_visits_45
  refine lv_if_ne (tgt := 12) hx hb d_M_visits_5 (by decide) (fun hc5 => ?_) (fun hc5 => ?_)
  ·
    rw [if_neg hc5] at h
    refine lv_aload_n hx hb d_M_visits_12 rfl (lv_at hl 0 rfl) ?_
    refine lv_iload_n hx hb d_M_visits_13 rfl (lv_at hl 1 rfl) ?_
    obtain ⟨q6, h7, h⟩ := vq_bi h
    have hFc := vq_freeAll hD hS hA
    refine va_calli (va_runV (As := [.int a0]) (rest := [.ref (bd 0)]) ⟨hx, hb, hml, hown, hts⟩ (c_M_isSymbol l htr dC dI bd cb N σ a0 q6 h7 s.heap.size) (vq_cV WSk hts 1 rfl rfl ⟨by decide, by decide⟩ k_378 k_367 k_380 k_381 k_382 (by decide +kernel)) ⟨vq_blind, va_recv hK hP (ci := 8) (q0 := 0) rfl rfl, vq_here hst hS hN hP hK hD⟩ rfl rfl hl.1 rfl (lv_room (Nat.le_of_ble_eq_true rfl)) d_M_visits_14 ⟨by decide, by decide⟩) hS (fun q _ h => hFc q h) hFc (fun r u t H1 locs ht hvm hw hB hz1 hk1 hS => ?_)
    obtain ⟨hP, -, hD1⟩ := hB
    rw [ht] at hP
    have hD := hD1.weaken (fun _ _ _ h => hFc _ h)
    have hw : r = q6.1 := hw
    subst hw
    generalize H1 = H at hP hS ⊢
    refine W.widen (k := 0) (n := 0) (by decide) (by decide) ?_
    refine lv_if_eq (tgt := 24) hx hb d_M_visits_17 (by decide) (fun hc8 => ?_) (fun hc8 => ?_)
    ·
      rw [if_pos hc8] at h
      refine lv_iconst (v := 2) hx hb d_M_visits_24 (by decide) ?_
      exact J25 _ _ _ _ _ _ h (lv_sub hl [0, 1] rfl) hP hD hS
    ·
      rw [if_neg hc8] at h
      refine lv_iconst (v := 0) hx hb d_M_visits_20 (by decide) ?_
      refine lv_goto (tgt := 25) hx hb d_M_visits_21 (by decide) ?_
      exact J25 _ _ _ _ _ _ h (lv_sub hl [0, 1] rfl) hP hD hS
  ·
    rw [if_pos hc5] at h
    refine lv_iconst (v := 1) hx hb d_M_visits_8 (by decide) ?_
    refine lv_goto (tgt := 25) hx hb d_M_visits_9 (by decide) ?_
    exact J25 _ _ _ _ _ _ h (lv_sub hl [0, 1] rfl) hP hD hS

set_option maxHeartbeats 4000000 in
set_option maxRecDepth 100000 in
theorem c_M_rank (l : Launch) (htr : l.stackTraces = false) (dC : Nat → ClassId) (dI : Nat → Nat → Nat) (bd : Nat → Nat) (cb : Nat → ClassId) (N : Nat) (σ : vS) (a0 : Int32) (a1 : Int32) (v : Int32 × vS) (h : f_M_rank N σ a0 a1 = some v) (sz : Nat) : Met l y_M_rank WS ({ frames := 1, cells := 0, slots := 0, locals := 21 }) (va_Pc [.ref (bd 0), .int a0, .int a1] (vq_Pre (dC, dI) CL sz (Mw bd cb σ) (Mt cb))) (va_Qi (fun (r : Int32) (_ : Unit) => r = v.1) (fun _ t => vq_Post (dC, dI) CL (va_A (Mw bd cb σ) sz) (Mw bd cb v.2) (Mt cb) t) (va_A (Mw bd cb σ) sz)) 0 0 (va_A (Mw bd cb σ) sz) := by
  refine vq_ofW (cc := prog_10_method_33_code) (maxL := 3) (ret := (Option.some Jvm.ClassFile.FieldType.int)) pl_M (vq_his k_487) ?_
  intro p e s m args below meth c s₁ B hml hv
  obtain ⟨rfl, hst, hsz, hP, hK, hD0⟩ := hv
  have hx := B.exec
  have hb := B.bytes
  have hr := B.returns
  have hts := atoms_spec (ws := WS) B.pre
  have hown : s.vm.findClass R_M = some m.cls := findClass_of_methodNamed B.named
  have hlocks := B.notSynchronized
  have hno := vq_noH B (hts _ k_487)
  subst hsz
  have hN := vq_ns hP
  have hD := hD0.self (sz := s.heap.size)
  generalize hAe : va_A (Mw bd cb σ) s.heap.size = A at hD hN ⊢
  have hA : ∀ q : Nat, s.heap.size ≤ q → A q := fun q h => by rw [← hAe]; exact Or.inr h
  have hS : va_S A s.heap s.heap [] := va_S.rf
  have hl := lv_entry ([.ref (bd 0), .int a0, .int a1]) (n := 3) (Nat.le_of_ble_eq_true rfl)
  rw [lg_entry_eq]
  generalize (lg_sl ([.ref (bd 0), .int a0, .int a1]) ++ List.replicate (3 - (lg_sl ([.ref (bd 0), .int a0, .int a1])).length) Slot.unset).toArray = ls at hl ⊢
  have hl : lv_has ls 3 [(0, .ref (bd 0)), (1, .int a0), (2, .int a1)] := hl
  unfold f_M_rank at h
  refine lv_aload_n hx hb d_M_rank_0 rfl (lv_at hl 0 rfl) ?_
  refine lv_aload_n hx hb d_M_rank_1 rfl (lv_at hl 0 rfl) ?_
  refine g_M_analysed dC dI bd cb σ hx hb hts hown hK hP k_366 d_M_rank_2 ?_
  have J39 : ∀ (τ : vS) (x1 : Int32) (x2 : Int32) (y0 : Int32) (H : Heap) (locs : List Loc) (ls : Array Slot), f_M_rank_39 N τ x1 x2 y0 = some v → lv_has ls 3 [(0, .ref (bd 0)), (1, .int x1), (2, .int x2)] → va_P (dC, dI) CL (Mw bd cb τ) H → va_D A (Mw bd cb τ) → va_S A s.heap H locs → W p l e (headSpec WS ({ frames := 1, cells := 0, slots := 0, locals := 21 })).room s m ([.ref (bd 0), .int a0, .int a1] : List Value).toArray below meth c H locs 0 0 (MQ below (va_Qi (fun (r : Int32) (_ : Unit) => r = v.1) (fun _ t => vq_Post (dC, dI) CL A (Mw bd cb v.2) (Mt cb) t) A) ([.ref (bd 0), .int a0, .int a1] : List Value).toArray s 0 0 A) (F0 m 39 ls [.int y0, .ref (bd 0)]) := by
    intro τ x1 x2 y0 H locs ls h hl hP hD hS
    unfold f_M_rank_39 at h
    refine p_M_code dC dI bd cb τ hx hb hts hown hK hP hD hS k_359 d_M_rank_39 (fun H locs hP hD hS => ?_)
    obtain ⟨σ1, eσ1, h⟩ := vq_let h
    rw [← eσ1] at hP hD
    refine lv_aload_n hx hb d_M_rank_42 rfl (lv_at hl 0 rfl) ?_
    refine g_M_code dC dI bd cb σ1 hx hb hts hown hK hP k_359 d_M_rank_43 ?_
    refine lv_if_le (tgt := 53) hx hb d_M_rank_46 (by decide) (fun hc2 => ?_) (fun hc2 => ?_)
    ·
      rw [if_pos hc2] at h
      refine lv_aload_n hx hb d_M_rank_53 rfl (lv_at hl 0 rfl) ?_
      refine g_M_rank dC dI bd cb σ1 hx hb hts hown hK hP k_431 d_M_rank_54 ?_
      refine lv_iconst (v := 4) hx hb d_M_rank_57 (by decide) ?_
      refine lv_iload_n hx hb d_M_rank_58 rfl (lv_at hl 1 rfl) ?_
      refine lv_imul hx hb d_M_rank_59 ?_
      refine lv_iload_n hx hb d_M_rank_60 rfl (lv_at hl 2 rfl) ?_
      refine lv_iadd hx hb d_M_rank_61 ?_
      obtain ⟨hi3, h⟩ := vq_bd h
      refine al_M11 dC dI bd cb σ1 hx hb hts hown hK hP hi3 d_M_rank_62 ?_
      obtain ⟨i4, ei4, h⟩ := vq_let h
      refine vq_top ei4.symm ?_
      have h9 := Option.some.inj h
      rw [← h9]
      exact W.iret (v := i4) hx hb hr (fun t ht hW => ⟨⟨i4, (), rfl, rfl, by rw [ht]; exact hP, va_K.moved hW.alike hK, hD⟩, hS.F ht⟩) hS.2.2 d_M_rank_63
    ·
      rw [if_neg hc2] at h
      refine lv_iconst (v := 0) hx hb d_M_rank_49 (by decide) ?_
      refine lv_goto (tgt := 63) hx hb d_M_rank_50 (by decide) ?_
      have h9 := Option.some.inj h
      rw [← h9]
      exact W.iret (v := (0 : Int32)) hx hb hr (fun t ht hW => ⟨⟨(0 : Int32), (), rfl, rfl, by rw [ht]; exact hP, va_K.moved hW.alike hK, hD⟩, hS.F ht⟩) hS.2.2 d_M_rank_63
  refine lv_if_ne (tgt := 12) hx hb d_M_rank_5 (by decide) (fun hc5 => ?_) (fun hc5 => ?_)
  ·
    rw [if_neg hc5] at h
    refine lv_aload_n hx hb d_M_rank_12 rfl (lv_at hl 0 rfl) ?_
    refine lv_iload_n hx hb d_M_rank_13 rfl (lv_at hl 1 rfl) ?_
    obtain ⟨q6, h7, h⟩ := vq_bi h
    have hFc := vq_freeAll hD hS hA
    refine va_calli (va_runV (As := [.int a0]) (rest := [.ref (bd 0)]) ⟨hx, hb, hml, hown, hts⟩ (c_M_isSymbol l htr dC dI bd cb N σ a0 q6 h7 s.heap.size) (vq_cV WSk hts 1 rfl rfl ⟨by decide, by decide⟩ k_378 k_367 k_380 k_381 k_382 (by decide +kernel)) ⟨vq_blind, va_recv hK hP (ci := 8) (q0 := 0) rfl rfl, vq_here hst hS hN hP hK hD⟩ rfl rfl hl.1 rfl (lv_room (Nat.le_of_ble_eq_true rfl)) d_M_rank_14 ⟨by decide, by decide⟩) hS (fun q _ h => hFc q h) hFc (fun r u t H1 locs ht hvm hw hB hz1 hk1 hS => ?_)
    obtain ⟨hP, -, hD1⟩ := hB
    rw [ht] at hP
    have hD := hD1.weaken (fun _ _ _ h => hFc _ h)
    have hw : r = q6.1 := hw
    subst hw
    generalize H1 = H at hP hS ⊢
    refine W.widen (k := 0) (n := 0) (by decide) (by decide) ?_
    have J38 : ∀ (τ : vS) (x1 : Int32) (x2 : Int32) (H : Heap) (locs : List Loc) (ls : Array Slot), f_M_rank_38 N τ x1 x2 = some v → lv_has ls 3 [(0, .ref (bd 0)), (1, .int x1), (2, .int x2)] → va_P (dC, dI) CL (Mw bd cb τ) H → va_D A (Mw bd cb τ) → va_S A s.heap H locs → W p l e (headSpec WS ({ frames := 1, cells := 0, slots := 0, locals := 21 })).room s m ([.ref (bd 0), .int a0, .int a1] : List Value).toArray below meth c H locs 0 0 (MQ below (va_Qi (fun (r : Int32) (_ : Unit) => r = v.1) (fun _ t => vq_Post (dC, dI) CL A (Mw bd cb v.2) (Mt cb) t) A) ([.ref (bd 0), .int a0, .int a1] : List Value).toArray s 0 0 A) (F0 m 38 ls [.ref (bd 0)]) := by
      intro τ x1 x2 H locs ls h hl hP hD hS
      unfold f_M_rank_38 at h
      refine lv_iconst (v := 2) hx hb d_M_rank_38 (by decide) ?_
      exact J39 _ _ _ _ _ _ _ h (lv_sub hl [0, 1, 2] rfl) hP hD hS
    refine lv_if_eq (tgt := 38) hx hb d_M_rank_17 (by decide) (fun hc8 => ?_) (fun hc8 => ?_)
    ·
      rw [if_pos hc8] at h
      exact J38 _ _ _ _ _ _ h (lv_sub hl [0, 1, 2] rfl) hP hD hS
    ·
      rw [if_neg hc8] at h
      refine lv_iload_n hx hb d_M_rank_20 rfl (lv_at hl 2 rfl) ?_
      refine lv_if_lt (tgt := 38) hx hb d_M_rank_21 (by decide) (fun hc9 => ?_) (fun hc9 => ?_)
      ·
        rw [if_pos hc9] at h
        exact J38 _ _ _ _ _ _ h (lv_sub hl [0, 1, 2] rfl) hP hD hS
      ·
        rw [if_neg hc9] at h
        refine lv_iload_n hx hb d_M_rank_24 rfl (lv_at hl 2 rfl) ?_
        refine lv_aload_n hx hb d_M_rank_25 rfl (lv_at hl 0 rfl) ?_
        refine g_M_attributes dC dI bd cb q6.2 hx hb hts hown hK hP k_372 d_M_rank_26 ?_
        refine lv_iload_n hx hb d_M_rank_29 rfl (lv_at hl 1 rfl) ?_
        obtain ⟨hi10, h⟩ := vq_bd h
        refine al_M0 dC dI bd cb q6.2 hx hb hts hown hK hP hi10 d_M_rank_30 ?_
        obtain ⟨i11, ei11, h⟩ := vq_let h
        refine vq_top ei11.symm ?_
        refine lv_icmp_ge (tgt := 38) hx hb d_M_rank_31 (by decide) (fun hc12 => ?_) (fun hc12 => ?_)
        ·
          rw [if_pos hc12] at h
          exact J38 _ _ _ _ _ _ h (lv_sub hl [0, 1, 2] rfl) hP hD hS
        ·
          rw [if_neg hc12] at h
          refine lv_iconst (v := 0) hx hb d_M_rank_34 (by decide) ?_
          refine lv_goto (tgt := 39) hx hb d_M_rank_35 (by decide) ?_
          exact J39 _ _ _ _ _ _ _ h (lv_sub hl [0, 1, 2] rfl) hP hD hS
  ·
    rw [if_pos hc5] at h
    refine lv_iconst (v := 1) hx hb d_M_rank_8 (by decide) ?_
    refine lv_goto (tgt := 39) hx hb d_M_rank_9 (by decide) ?_
    exact J39 _ _ _ _ _ _ _ h (lv_sub hl [0, 1, 2] rfl) hP hD hS

set_option maxHeartbeats 4000000 in
set_option maxRecDepth 100000 in
theorem c_M_instruction (l : Launch) (htr : l.stackTraces = false) (dC : Nat → ClassId) (dI : Nat → Nat → Nat) (bd : Nat → Nat) (cb : Nat → ClassId) (N : Nat) (σ : vS) (a0 : Int32) (a1 : Int32) (v : Int32 × vS) (h : f_M_instruction N σ a0 a1 = some v) (sz : Nat) : Met l y_M_instruction WS ({ frames := 0, cells := 0, slots := 0, locals := 0 }) (va_Pc [.ref (bd 0), .int a0, .int a1] (vq_Pre (dC, dI) CL sz (Mw bd cb σ) (Mt cb))) (va_Qi (fun (r : Int32) (_ : Unit) => r = v.1) (fun _ t => vq_Post (dC, dI) CL (va_A (Mw bd cb σ) sz) (Mw bd cb v.2) (Mt cb) t) (va_A (Mw bd cb σ) sz)) 0 0 (va_A (Mw bd cb σ) sz) := by
  refine vq_ofW (cc := prog_10_method_34_code) (maxL := 3) (ret := (Option.some Jvm.ClassFile.FieldType.int)) pl_M (vq_his k_488) ?_
  intro p e s m args below meth c s₁ B hml hv
  obtain ⟨rfl, hst, hsz, hP, hK, hD0⟩ := hv
  have hx := B.exec
  have hb := B.bytes
  have hr := B.returns
  have hts := atoms_spec (ws := WS) B.pre
  have hown : s.vm.findClass R_M = some m.cls := findClass_of_methodNamed B.named
  have hlocks := B.notSynchronized
  have hno := vq_noH B (hts _ k_488)
  subst hsz
  have hN := vq_ns hP
  have hD := hD0.self (sz := s.heap.size)
  generalize hAe : va_A (Mw bd cb σ) s.heap.size = A at hD hN ⊢
  have hA : ∀ q : Nat, s.heap.size ≤ q → A q := fun q h => by rw [← hAe]; exact Or.inr h
  have hS : va_S A s.heap s.heap [] := va_S.rf
  have hl := lv_entry ([.ref (bd 0), .int a0, .int a1]) (n := 3) (Nat.le_of_ble_eq_true rfl)
  rw [lg_entry_eq]
  generalize (lg_sl ([.ref (bd 0), .int a0, .int a1]) ++ List.replicate (3 - (lg_sl ([.ref (bd 0), .int a0, .int a1])).length) Slot.unset).toArray = ls at hl ⊢
  have hl : lv_has ls 3 [(0, .ref (bd 0)), (1, .int a0), (2, .int a1)] := hl
  unfold f_M_instruction at h
  refine lv_aload_n hx hb d_M_instruction_0 rfl (lv_at hl 0 rfl) ?_
  refine lv_aload_n hx hb d_M_instruction_1 rfl (lv_at hl 0 rfl) ?_
  refine g_M_analysed dC dI bd cb σ hx hb hts hown hK hP k_366 d_M_instruction_2 ?_
  have J33 : ∀ (τ : vS) (x1 : Int32) (x2 : Int32) (y0 : Int32) (H : Heap) (locs : List Loc) (ls : Array Slot), f_M_instruction_33 N τ x1 x2 y0 = some v → lv_has ls 3 [(0, .ref (bd 0)), (1, .int x1), (2, .int x2)] → va_P (dC, dI) CL (Mw bd cb τ) H → va_D A (Mw bd cb τ) → va_S A s.heap H locs → W p l e (headSpec WS ({ frames := 0, cells := 0, slots := 0, locals := 0 })).room s m ([.ref (bd 0), .int a0, .int a1] : List Value).toArray below meth c H locs 0 0 (MQ below (va_Qi (fun (r : Int32) (_ : Unit) => r = v.1) (fun _ t => vq_Post (dC, dI) CL A (Mw bd cb v.2) (Mt cb) t) A) ([.ref (bd 0), .int a0, .int a1] : List Value).toArray s 0 0 A) (F0 m 33 ls [.int y0, .ref (bd 0)]) := by
    intro τ x1 x2 y0 H locs ls h hl hP hD hS
    unfold f_M_instruction_33 at h
    refine p_M_code dC dI bd cb τ hx hb hts hown hK hP hD hS k_359 d_M_instruction_33 (fun H locs hP hD hS => ?_)
    obtain ⟨σ1, eσ1, h⟩ := vq_let h
    rw [← eσ1] at hP hD
    refine lv_aload_n hx hb d_M_instruction_36 rfl (lv_at hl 0 rfl) ?_
    refine g_M_code dC dI bd cb σ1 hx hb hts hown hK hP k_359 d_M_instruction_37 ?_
    refine lv_if_le (tgt := 45) hx hb d_M_instruction_40 (by decide) (fun hc2 => ?_) (fun hc2 => ?_)
    ·
      rw [if_pos hc2] at h
      refine lv_iload_n hx hb d_M_instruction_45 rfl (lv_at hl 2 rfl) ?_
      refine lv_aload_n hx hb d_M_instruction_46 rfl (lv_at hl 0 rfl) ?_
      refine g_M_length dC dI bd cb σ1 hx hb hts hown hK hP k_455 d_M_instruction_47 ?_
      refine lv_iload_n hx hb d_M_instruction_50 rfl (lv_at hl 1 rfl) ?_
      obtain ⟨hi3, h⟩ := vq_bd h
      refine al_M13 dC dI bd cb σ1 hx hb hts hown hK hP hi3 d_M_instruction_51 ?_
      obtain ⟨i4, ei4, h⟩ := vq_let h
      refine vq_top ei4.symm ?_
      refine lv_icmp_ge (tgt := 69) hx hb d_M_instruction_52 (by decide) (fun hc5 => ?_) (fun hc5 => ?_)
      ·
        rw [if_pos hc5] at h
        refine lv_iconst (v := (-1)) hx hb d_M_instruction_69 (by decide) ?_
        have h9 := Option.some.inj h
        rw [← h9]
        exact W.iret (v := ((-1) : Int32)) hx hb hr (fun t ht hW => ⟨⟨((-1) : Int32), (), rfl, rfl, by rw [ht]; exact hP, va_K.moved hW.alike hK, hD⟩, hS.F ht⟩) hS.2.2 d_M_instruction_70
      ·
        rw [if_neg hc5] at h
        refine lv_aload_n hx hb d_M_instruction_55 rfl (lv_at hl 0 rfl) ?_
        refine g_M_sequence dC dI bd cb σ1 hx hb hts hown hK hP k_456 d_M_instruction_56 ?_
        refine lv_bipush (v := 48) hx hb d_M_instruction_59 (by decide) ?_
        refine lv_iload_n hx hb d_M_instruction_61 rfl (lv_at hl 1 rfl) ?_
        refine lv_imul hx hb d_M_instruction_62 ?_
        refine lv_iload_n hx hb d_M_instruction_63 rfl (lv_at hl 2 rfl) ?_
        refine lv_iadd hx hb d_M_instruction_64 ?_
        obtain ⟨hi6, h⟩ := vq_bd h
        refine al_M14 dC dI bd cb σ1 hx hb hts hown hK hP hi6 d_M_instruction_65 ?_
        obtain ⟨i7, ei7, h⟩ := vq_let h
        refine vq_top ei7.symm ?_
        refine lv_goto (tgt := 70) hx hb d_M_instruction_66 (by decide) ?_
        have h9 := Option.some.inj h
        rw [← h9]
        exact W.iret (v := i7) hx hb hr (fun t ht hW => ⟨⟨i7, (), rfl, rfl, by rw [ht]; exact hP, va_K.moved hW.alike hK, hD⟩, hS.F ht⟩) hS.2.2 d_M_instruction_70
    ·
      rw [if_neg hc2] at h
      refine lv_iconst (v := 0) hx hb d_M_instruction_43 (by decide) ?_
      have h9 := Option.some.inj h
      rw [← h9]
      exact W.iret (v := (0 : Int32)) hx hb hr (fun t ht hW => ⟨⟨(0 : Int32), (), rfl, rfl, by rw [ht]; exact hP, va_K.moved hW.alike hK, hD⟩, hS.F ht⟩) hS.2.2 d_M_instruction_44
  refine lv_if_ne (tgt := 12) hx hb d_M_instruction_5 (by decide) (fun hc8 => ?_) (fun hc8 => ?_)
  ·
    rw [if_neg hc8] at h
    refine lv_iload_n hx hb d_M_instruction_12 rfl (lv_at hl 1 rfl) ?_
    have J28 : ∀ (τ : vS) (x1 : Int32) (x2 : Int32) (H : Heap) (locs : List Loc) (ls : Array Slot), f_M_instruction_28 N τ x1 x2 = some v → lv_has ls 3 [(0, .ref (bd 0)), (1, .int x1), (2, .int x2)] → va_P (dC, dI) CL (Mw bd cb τ) H → va_D A (Mw bd cb τ) → va_S A s.heap H locs → W p l e (headSpec WS ({ frames := 0, cells := 0, slots := 0, locals := 0 })).room s m ([.ref (bd 0), .int a0, .int a1] : List Value).toArray below meth c H locs 0 0 (MQ below (va_Qi (fun (r : Int32) (_ : Unit) => r = v.1) (fun _ t => vq_Post (dC, dI) CL A (Mw bd cb v.2) (Mt cb) t) A) ([.ref (bd 0), .int a0, .int a1] : List Value).toArray s 0 0 A) (F0 m 28 ls [.ref (bd 0)]) := by
      intro τ x1 x2 H locs ls h hl hP hD hS
      unfold f_M_instruction_28 at h
      refine lv_iconst (v := 2) hx hb d_M_instruction_28 (by decide) ?_
      refine lv_goto (tgt := 33) hx hb d_M_instruction_29 (by decide) ?_
      exact J33 _ _ _ _ _ _ _ h (lv_sub hl [0, 1, 2] rfl) hP hD hS
    refine lv_if_lt (tgt := 28) hx hb d_M_instruction_13 (by decide) (fun hc9 => ?_) (fun hc9 => ?_)
    ·
      rw [if_pos hc9] at h
      exact J28 _ _ _ _ _ _ h (lv_sub hl [0, 1, 2] rfl) hP hD hS
    ·
      rw [if_neg hc9] at h
      refine lv_iload_n hx hb d_M_instruction_16 rfl (lv_at hl 1 rfl) ?_
      refine lv_aload_n hx hb d_M_instruction_17 rfl (lv_at hl 0 rfl) ?_
      refine g_M_productions dC dI bd cb σ hx hb hts hown hK hP k_383 d_M_instruction_18 ?_
      refine lv_icmp_ge (tgt := 28) hx hb d_M_instruction_21 (by decide) (fun hc10 => ?_) (fun hc10 => ?_)
      ·
        rw [if_pos hc10] at h
        exact J28 _ _ _ _ _ _ h (lv_sub hl [0, 1, 2] rfl) hP hD hS
      ·
        rw [if_neg hc10] at h
        refine lv_iload_n hx hb d_M_instruction_24 rfl (lv_at hl 2 rfl) ?_
        refine lv_if_ge (tgt := 32) hx hb d_M_instruction_25 (by decide) (fun hc11 => ?_) (fun hc11 => ?_)
        ·
          rw [if_pos hc11] at h
          refine lv_iconst (v := 0) hx hb d_M_instruction_32 (by decide) ?_
          exact J33 _ _ _ _ _ _ _ h (lv_sub hl [0, 1, 2] rfl) hP hD hS
        ·
          rw [if_neg hc11] at h
          exact J28 _ _ _ _ _ _ h (lv_sub hl [0, 1, 2] rfl) hP hD hS
  ·
    rw [if_pos hc8] at h
    refine lv_iconst (v := 1) hx hb d_M_instruction_8 (by decide) ?_
    refine lv_goto (tgt := 33) hx hb d_M_instruction_9 (by decide) ?_
    exact J33 _ _ _ _ _ _ _ h (lv_sub hl [0, 1, 2] rfl) hP hD hS
