set_option maxHeartbeats 4000000 in
set_option maxRecDepth 100000 in
theorem c_M_fits (l : Launch) (htr : l.stackTraces = false) (dC : Nat → ClassId) (dI : Nat → Nat → Nat) (bd : Nat → Nat) (cb : Nat → ClassId) (N : Nat) (σ : vS) (a0 : Int32) (a1 : Int32) (a2 : Int32) (v : Int32 × vS) (h : f_M_fits N σ a0 a1 a2 = some v) (sz : Nat) : Met l y_M_fits WS ({ frames := 0, cells := 0, slots := 0, locals := 0 }) (va_Pc [.ref (bd 0), .int a0, .int a1, .int a2] (vq_Pre (dC, dI) CL sz (Mw bd cb σ) (Mt cb))) (va_Qi (fun (r : Int32) (_ : Unit) => r = v.1) (fun _ t => vq_Post (dC, dI) CL (va_A (Mw bd cb σ) sz) (Mw bd cb v.2) (Mt cb) t) (va_A (Mw bd cb σ) sz)) 0 0 (va_A (Mw bd cb σ) sz) := by
  refine vq_ofW (cc := prog_10_method_35_code) (maxL := 4) (ret := (Option.some Jvm.ClassFile.FieldType.boolean)) pl_M (vq_his k_489) ?_
  intro p e s m args below meth c s₁ B hml hv
  obtain ⟨rfl, hst, hsz, hP, hK, hD0⟩ := hv
  have hx := B.exec
  have hb := B.bytes
  have hr := B.returns
  have hts := atoms_spec (ws := WS) B.pre
  have hown : s.vm.findClass R_M = some m.cls := findClass_of_methodNamed B.named
  have hlocks := B.notSynchronized
  have hno := vq_noH B (hts _ k_489)
  subst hsz
  have hN := vq_ns hP
  have hD := hD0.self (sz := s.heap.size)
  generalize hAe : va_A (Mw bd cb σ) s.heap.size = A at hD hN ⊢
  have hA : ∀ q : Nat, s.heap.size ≤ q → A q := fun q h => by rw [← hAe]; exact Or.inr h
  have hS : va_S A s.heap s.heap [] := va_S.rf
  have hl := lv_entry ([.ref (bd 0), .int a0, .int a1, .int a2]) (n := 4) (Nat.le_of_ble_eq_true rfl)
  rw [lg_entry_eq]
  generalize (lg_sl ([.ref (bd 0), .int a0, .int a1, .int a2]) ++ List.replicate (4 - (lg_sl ([.ref (bd 0), .int a0, .int a1, .int a2])).length) Slot.unset).toArray = ls at hl ⊢
  have hl : lv_has ls 4 [(0, .ref (bd 0)), (1, .int a0), (2, .int a1), (3, .int a2)] := hl
  unfold f_M_fits at h
  refine lv_iload_n hx hb d_M_fits_0 rfl (lv_at hl 2 rfl) ?_
  refine lv_aload_n hx hb d_M_fits_1 rfl (lv_at hl 0 rfl) ?_
  refine g_M_positions dC dI bd cb σ hx hb hts hown hK hP k_385 d_M_fits_2 ?_
  refine lv_iload_n hx hb d_M_fits_5 rfl (lv_at hl 1 rfl) ?_
  obtain ⟨hi1, h⟩ := vq_bd h
  refine al_M2 dC dI bd cb σ hx hb hts hown hK hP hi1 d_M_fits_6 ?_
  obtain ⟨i2, ei2, h⟩ := vq_let h
  refine vq_top ei2.symm ?_
  refine lv_icmp_lt (tgt := 21) hx hb d_M_fits_7 (by decide) (fun hc3 => ?_) (fun hc3 => ?_)
  ·
    rw [if_pos hc3] at h
    refine lv_iload_n hx hb d_M_fits_21 rfl (lv_at hl 3 rfl) ?_
    refine lv_if_lt (tgt := 73) hx hb d_M_fits_22 (by decide) (fun hc4 => ?_) (fun hc4 => ?_)
    ·
      rw [if_pos hc4] at h
      refine lv_iconst (v := 0) hx hb d_M_fits_73 (by decide) ?_
      have h9 := Option.some.inj h
      rw [← h9]
      exact W.zret (v := 0) (ty := .boolean) hx hb hr (by decide) (fun t ht hW => ⟨⟨0, (), rfl, rfl, by rw [ht]; exact hP, va_K.moved hW.alike hK, hD⟩, hS.F ht⟩) hS.2.2 d_M_fits_74
    ·
      rw [if_neg hc4] at h
      refine lv_iload_n hx hb d_M_fits_25 rfl (lv_at hl 3 rfl) ?_
      refine lv_aload_n hx hb d_M_fits_26 rfl (lv_at hl 0 rfl) ?_
      refine g_M_nodes dC dI bd cb σ hx hb hts hown hK hP k_490 d_M_fits_27 ?_
      refine lv_icmp_ge (tgt := 73) hx hb d_M_fits_30 (by decide) (fun hc5 => ?_) (fun hc5 => ?_)
      ·
        rw [if_pos hc5] at h
        refine lv_iconst (v := 0) hx hb d_M_fits_73 (by decide) ?_
        have h9 := Option.some.inj h
        rw [← h9]
        exact W.zret (v := 0) (ty := .boolean) hx hb hr (by decide) (fun t ht hW => ⟨⟨0, (), rfl, rfl, by rw [ht]; exact hP, va_K.moved hW.alike hK, hD⟩, hS.F ht⟩) hS.2.2 d_M_fits_74
      ·
        rw [if_neg hc5] at h
        refine lv_aload_n hx hb d_M_fits_33 rfl (lv_at hl 0 rfl) ?_
        refine g_M_parent dC dI bd cb σ hx hb hts hown hK hP k_491 d_M_fits_34 ?_
        refine lv_iload_n hx hb d_M_fits_37 rfl (lv_at hl 3 rfl) ?_
        obtain ⟨hi6, h⟩ := vq_bd h
        refine al_M20 dC dI bd cb σ hx hb hts hown hK hP hi6 d_M_fits_38 ?_
        obtain ⟨i7, ei7, h⟩ := vq_let h
        refine vq_top ei7.symm ?_
        refine lv_iconst (v := (-1)) hx hb d_M_fits_39 (by decide) ?_
        refine lv_icmp_ne (tgt := 73) hx hb d_M_fits_40 (by decide) (fun hc8 => ?_) (fun hc8 => ?_)
        ·
          rw [if_neg hc8] at h
          refine lv_iconst (v := 0) hx hb d_M_fits_73 (by decide) ?_
          have h9 := Option.some.inj h
          rw [← h9]
          exact W.zret (v := 0) (ty := .boolean) hx hb hr (by decide) (fun t ht hW => ⟨⟨0, (), rfl, rfl, by rw [ht]; exact hP, va_K.moved hW.alike hK, hD⟩, hS.F ht⟩) hS.2.2 d_M_fits_74
        ·
          rw [if_pos hc8] at h
          refine lv_aload_n hx hb d_M_fits_43 rfl (lv_at hl 0 rfl) ?_
          refine g_M_symbolAt dC dI bd cb σ hx hb hts hown hK hP k_384 d_M_fits_44 ?_
          refine lv_iconst (v := 4) hx hb d_M_fits_47 (by decide) ?_
          refine lv_aload_n hx hb d_M_fits_48 rfl (lv_at hl 0 rfl) ?_
          refine g_M_production dC dI bd cb σ hx hb hts hown hK hP k_492 d_M_fits_49 ?_
          refine lv_iload_n hx hb d_M_fits_52 rfl (lv_at hl 3 rfl) ?_
          obtain ⟨hi9, h⟩ := vq_bd h
          refine al_M17 dC dI bd cb σ hx hb hts hown hK hP hi9 d_M_fits_53 ?_
          obtain ⟨i10, ei10, h⟩ := vq_let h
          refine vq_top ei10.symm ?_
          refine lv_imul hx hb d_M_fits_54 ?_
          obtain ⟨hi11, h⟩ := vq_bd h
          refine al_M3 dC dI bd cb σ hx hb hts hown hK hP hi11 d_M_fits_55 ?_
          obtain ⟨i12, ei12, h⟩ := vq_let h
          refine vq_top ei12.symm ?_
          refine lv_aload_n hx hb d_M_fits_56 rfl (lv_at hl 0 rfl) ?_
          refine g_M_symbolAt dC dI bd cb σ hx hb hts hown hK hP k_384 d_M_fits_57 ?_
          refine lv_iconst (v := 4) hx hb d_M_fits_60 (by decide) ?_
          refine lv_iload_n hx hb d_M_fits_61 rfl (lv_at hl 1 rfl) ?_
          refine lv_imul hx hb d_M_fits_62 ?_
          refine lv_iload_n hx hb d_M_fits_63 rfl (lv_at hl 2 rfl) ?_
          refine lv_iadd hx hb d_M_fits_64 ?_
          obtain ⟨hi13, h⟩ := vq_bd h
          refine al_M3 dC dI bd cb σ hx hb hts hown hK hP hi13 d_M_fits_65 ?_
          obtain ⟨i14, ei14, h⟩ := vq_let h
          refine vq_top ei14.symm ?_
          refine lv_icmp_ne (tgt := 73) hx hb d_M_fits_66 (by decide) (fun hc15 => ?_) (fun hc15 => ?_)
          ·
            rw [if_neg hc15] at h
            refine lv_iconst (v := 0) hx hb d_M_fits_73 (by decide) ?_
            have h9 := Option.some.inj h
            rw [← h9]
            exact W.zret (v := 0) (ty := .boolean) hx hb hr (by decide) (fun t ht hW => ⟨⟨0, (), rfl, rfl, by rw [ht]; exact hP, va_K.moved hW.alike hK, hD⟩, hS.F ht⟩) hS.2.2 d_M_fits_74
          ·
            rw [if_pos hc15] at h
            refine lv_iconst (v := 1) hx hb d_M_fits_69 (by decide) ?_
            refine lv_goto (tgt := 74) hx hb d_M_fits_70 (by decide) ?_
            have h9 := Option.some.inj h
            rw [← h9]
            exact W.zret (v := 1) (ty := .boolean) hx hb hr (by decide) (fun t ht hW => ⟨⟨1, (), rfl, rfl, by rw [ht]; exact hP, va_K.moved hW.alike hK, hD⟩, hS.F ht⟩) hS.2.2 d_M_fits_74
  ·
    rw [if_neg hc3] at h
    refine lv_iload_n hx hb d_M_fits_10 rfl (lv_at hl 3 rfl) ?_
    refine lv_iconst (v := (-1)) hx hb d_M_fits_11 (by decide) ?_
    refine lv_icmp_ne (tgt := 19) hx hb d_M_fits_12 (by decide) (fun hc16 => ?_) (fun hc16 => ?_)
    ·
      rw [if_neg hc16] at h
      refine lv_iconst (v := 0) hx hb d_M_fits_19 (by decide) ?_
      have h9 := Option.some.inj h
      rw [← h9]
      exact W.zret (v := 0) (ty := .boolean) hx hb hr (by decide) (fun t ht hW => ⟨⟨0, (), rfl, rfl, by rw [ht]; exact hP, va_K.moved hW.alike hK, hD⟩, hS.F ht⟩) hS.2.2 d_M_fits_20
    ·
      rw [if_pos hc16] at h
      refine lv_iconst (v := 1) hx hb d_M_fits_15 (by decide) ?_
      refine lv_goto (tgt := 20) hx hb d_M_fits_16 (by decide) ?_
      have h9 := Option.some.inj h
      rw [← h9]
      exact W.zret (v := 1) (ty := .boolean) hx hb hr (by decide) (fun t ht hW => ⟨⟨1, (), rfl, rfl, by rw [ht]; exact hP, va_K.moved hW.alike hK, hD⟩, hS.F ht⟩) hS.2.2 d_M_fits_20

set_option maxHeartbeats 4000000 in
set_option maxRecDepth 100000 in
theorem c_M_node (l : Launch) (htr : l.stackTraces = false) (dC : Nat → ClassId) (dI : Nat → Nat → Nat) (bd : Nat → Nat) (cb : Nat → ClassId) (N : Nat) (σ : vS) (a0 : Int32) (a1 : Int32) (a2 : Int32) (a3 : Int32) (a4 : Int32) (v : Int32 × vS) (h : f_M_node N σ a0 a1 a2 a3 a4 = some v) (sz : Nat) : Met l y_M_node WS ({ frames := 1, cells := 0, slots := 0, locals := 23 }) (va_Pc [.ref (bd 0), .int a0, .int a1, .int a2, .int a3, .int a4] (vq_Pre (dC, dI) CL sz (Mw bd cb σ) (Mt cb))) (va_Qi (fun (r : Int32) (_ : Unit) => r = v.1) (fun _ t => vq_Post (dC, dI) CL (va_A (Mw bd cb σ) sz) (Mw bd cb v.2) (Mt cb) t) (va_A (Mw bd cb σ) sz)) 0 0 (va_A (Mw bd cb σ) sz) := by
  refine vq_ofW (cc := prog_10_method_36_code) (maxL := 9) (ret := (Option.some Jvm.ClassFile.FieldType.int)) pl_M (vq_his k_493) ?_
  intro p e s m args below meth c s₁ B hml hv
  obtain ⟨rfl, hst, hsz, hP, hK, hD0⟩ := hv
  have hx := B.exec
  have hb := B.bytes
  have hr := B.returns
  have hts := atoms_spec (ws := WS) B.pre
  have hown : s.vm.findClass R_M = some m.cls := findClass_of_methodNamed B.named
  have hlocks := B.notSynchronized
  have hno := vq_noH B (hts _ k_493)
  subst hsz
  have hN := vq_ns hP
  have hD := hD0.self (sz := s.heap.size)
  generalize hAe : va_A (Mw bd cb σ) s.heap.size = A at hD hN ⊢
  have hA : ∀ q : Nat, s.heap.size ≤ q → A q := fun q h => by rw [← hAe]; exact Or.inr h
  have hS : va_S A s.heap s.heap [] := va_S.rf
  have hl := lv_entry ([.ref (bd 0), .int a0, .int a1, .int a2, .int a3, .int a4]) (n := 9) (Nat.le_of_ble_eq_true rfl)
  rw [lg_entry_eq]
  generalize (lg_sl ([.ref (bd 0), .int a0, .int a1, .int a2, .int a3, .int a4]) ++ List.replicate (9 - (lg_sl ([.ref (bd 0), .int a0, .int a1, .int a2, .int a3, .int a4])).length) Slot.unset).toArray = ls at hl ⊢
  have hl : lv_has ls 9 [(0, .ref (bd 0)), (1, .int a0), (2, .int a1), (3, .int a2), (4, .int a3), (5, .int a4)] := hl
  unfold f_M_node at h
  refine lv_iload_n hx hb d_M_node_0 rfl (lv_at hl 1 rfl) ?_
  have J49 : ∀ (τ : vS) (x1 : Int32) (x2 : Int32) (x3 : Int32) (x4 : Int32) (x5 : Int32) (y0 : Int32) (H : Heap) (locs : List Loc) (ls : Array Slot), f_M_node_49 N τ x1 x2 x3 x4 x5 y0 = some v → lv_has ls 9 [(0, .ref (bd 0)), (1, .int x1), (2, .int x2), (3, .int x3), (4, .int x4), (5, .int x5)] → va_P (dC, dI) CL (Mw bd cb τ) H → va_D A (Mw bd cb τ) → va_S A s.heap H locs → W p l e (headSpec WS ({ frames := 1, cells := 0, slots := 0, locals := 23 })).room s m ([.ref (bd 0), .int a0, .int a1, .int a2, .int a3, .int a4] : List Value).toArray below meth c H locs 0 0 (MQ below (va_Qi (fun (r : Int32) (_ : Unit) => r = v.1) (fun _ t => vq_Post (dC, dI) CL A (Mw bd cb v.2) (Mt cb) t) A) ([.ref (bd 0), .int a0, .int a1, .int a2, .int a3, .int a4] : List Value).toArray s 0 0 A) (F0 m 49 ls [.int y0]) := by
    intro τ x1 x2 x3 x4 x5 y0 H locs ls h hl hP hD hS
    unfold f_M_node_49 at h
    refine lv_istore (lv' := [(6, .int y0), (0, .ref (bd 0)), (1, .int x1), (2, .int x2), (3, .int x3), (4, .int x4), (5, .int x5)]) hx hb d_M_node_49 hl (by decide) rfl (fun ls hl => ?_)
    refine lv_iload hx hb d_M_node_51 (lv_at hl 0 rfl) ?_
    have J91 : ∀ (τ : vS) (x1 : Int32) (x2 : Int32) (x3 : Int32) (x4 : Int32) (x5 : Int32) (y0 : Int32) (H : Heap) (locs : List Loc) (ls : Array Slot), f_M_node_91 N τ x1 x2 x3 x4 x5 y0 = some v → lv_has ls 9 [(0, .ref (bd 0)), (1, .int x1), (2, .int x2), (3, .int x3), (4, .int x4), (5, .int x5)] → va_P (dC, dI) CL (Mw bd cb τ) H → va_D A (Mw bd cb τ) → va_S A s.heap H locs → W p l e (headSpec WS ({ frames := 1, cells := 0, slots := 0, locals := 23 })).room s m ([.ref (bd 0), .int a0, .int a1, .int a2, .int a3, .int a4] : List Value).toArray below meth c H locs 0 0 (MQ below (va_Qi (fun (r : Int32) (_ : Unit) => r = v.1) (fun _ t => vq_Post (dC, dI) CL A (Mw bd cb v.2) (Mt cb) t) A) ([.ref (bd 0), .int a0, .int a1, .int a2, .int a3, .int a4] : List Value).toArray s 0 0 A) (F0 m 91 ls [.int y0]) := by
      intro τ x1 x2 x3 x4 x5 y0 H locs ls h hl hP hD hS
      unfold f_M_node_91 at h
      refine lv_istore (lv' := [(6, .int y0), (0, .ref (bd 0)), (1, .int x1), (2, .int x2), (3, .int x3), (4, .int x4), (5, .int x5)]) hx hb d_M_node_91 hl (by decide) rfl (fun ls hl => ?_)
      refine lv_aload_n hx hb d_M_node_93 rfl (lv_at hl 1 rfl) ?_
      refine lv_iload hx hb d_M_node_94 (lv_at hl 0 rfl) ?_
      have J117 : ∀ (τ : vS) (x1 : Int32) (x2 : Int32) (x3 : Int32) (x4 : Int32) (x5 : Int32) (y0 : Int32) (H : Heap) (locs : List Loc) (ls : Array Slot), f_M_node_117 N τ x1 x2 x3 x4 x5 y0 = some v → lv_has ls 9 [(0, .ref (bd 0)), (1, .int x1), (2, .int x2), (3, .int x3), (4, .int x4), (5, .int x5)] → va_P (dC, dI) CL (Mw bd cb τ) H → va_D A (Mw bd cb τ) → va_S A s.heap H locs → W p l e (headSpec WS ({ frames := 1, cells := 0, slots := 0, locals := 23 })).room s m ([.ref (bd 0), .int a0, .int a1, .int a2, .int a3, .int a4] : List Value).toArray below meth c H locs 0 0 (MQ below (va_Qi (fun (r : Int32) (_ : Unit) => r = v.1) (fun _ t => vq_Post (dC, dI) CL A (Mw bd cb v.2) (Mt cb) t) A) ([.ref (bd 0), .int a0, .int a1, .int a2, .int a3, .int a4] : List Value).toArray s 0 0 A) (F0 m 117 ls [.int y0, .ref (bd 0)]) := by
        intro τ x1 x2 x3 x4 x5 y0 H locs ls h hl hP hD hS
        unfold f_M_node_117 at h
        refine p_M_code dC dI bd cb τ hx hb hts hown hK hP hD hS k_359 d_M_node_117 (fun H locs hP hD hS => ?_)
        obtain ⟨σ1, eσ1, h⟩ := vq_let h
        rw [← eσ1] at hP hD
        refine lv_aload_n hx hb d_M_node_120 rfl (lv_at hl 0 rfl) ?_
        refine g_M_code dC dI bd cb σ1 hx hb hts hown hK hP k_359 d_M_node_121 ?_
        refine lv_if_le (tgt := 129) hx hb d_M_node_124 (by decide) (fun hc2 => ?_) (fun hc2 => ?_)
        ·
          rw [if_pos hc2] at h
          refine lv_aload_n hx hb d_M_node_129 rfl (lv_at hl 0 rfl) ?_
          refine g_M_nodes dC dI bd cb σ1 hx hb hts hown hK hP k_490 d_M_node_130 ?_
          refine lv_istore (lv' := [(7, .int (σ1.1 7)), (0, .ref (bd 0)), (1, .int x1), (2, .int x2), (3, .int x3), (4, .int x4), (5, .int x5)]) hx hb d_M_node_133 hl (by decide) rfl (fun ls hl => ?_)
          refine lv_aload_n hx hb d_M_node_135 rfl (lv_at hl 1 rfl) ?_
          refine g_M_production dC dI bd cb σ1 hx hb hts hown hK hP k_492 d_M_node_136 ?_
          refine lv_iload hx hb d_M_node_139 (lv_at hl 0 rfl) ?_
          refine lv_iload_n hx hb d_M_node_141 rfl (lv_at hl 2 rfl) ?_
          obtain ⟨hi3, h⟩ := vq_bd h
          refine as_M17 dC dI bd cb σ1 hx hb hts hown hK hP hD hS hi3 d_M_node_142 (fun H locs hP hD hS => ?_)
          obtain ⟨σ4, eσ4, h⟩ := vq_let h
          rw [← eσ4] at hP hD
          refine lv_aload_n hx hb d_M_node_143 rfl (lv_at hl 1 rfl) ?_
          refine g_M_token dC dI bd cb σ4 hx hb hts hown hK hP k_494 d_M_node_144 ?_
          refine lv_iload hx hb d_M_node_147 (lv_at hl 0 rfl) ?_
          refine lv_iload_n hx hb d_M_node_149 rfl (lv_at hl 3 rfl) ?_
          obtain ⟨hi5, h⟩ := vq_bd h
          refine as_M18 dC dI bd cb σ4 hx hb hts hown hK hP hD hS hi5 d_M_node_150 (fun H locs hP hD hS => ?_)
          obtain ⟨σ6, eσ6, h⟩ := vq_let h
          rw [← eσ6] at hP hD
          refine lv_aload_n hx hb d_M_node_151 rfl (lv_at hl 1 rfl) ?_
          refine g_M_parent dC dI bd cb σ6 hx hb hts hown hK hP k_491 d_M_node_152 ?_
          refine lv_iload hx hb d_M_node_155 (lv_at hl 0 rfl) ?_
          refine lv_iconst (v := (-1)) hx hb d_M_node_157 (by decide) ?_
          obtain ⟨hi7, h⟩ := vq_bd h
          refine as_M20 dC dI bd cb σ6 hx hb hts hown hK hP hD hS hi7 d_M_node_158 (fun H locs hP hD hS => ?_)
          obtain ⟨σ8, eσ8, h⟩ := vq_let h
          rw [← eσ8] at hP hD
          refine lv_aload_n hx hb d_M_node_159 rfl (lv_at hl 1 rfl) ?_
          refine g_M_child dC dI bd cb σ8 hx hb hts hown hK hP k_495 d_M_node_160 ?_
          refine lv_iconst (v := 3) hx hb d_M_node_163 (by decide) ?_
          refine lv_iload hx hb d_M_node_164 (lv_at hl 0 rfl) ?_
          refine lv_imul hx hb d_M_node_166 ?_
          refine lv_iload_n hx hb d_M_node_167 rfl (lv_at hl 4 rfl) ?_
          obtain ⟨hi9, h⟩ := vq_bd h
          refine as_M19 dC dI bd cb σ8 hx hb hts hown hK hP hD hS hi9 d_M_node_168 (fun H locs hP hD hS => ?_)
          obtain ⟨σ10, eσ10, h⟩ := vq_let h
          rw [← eσ10] at hP hD
          refine lv_aload_n hx hb d_M_node_169 rfl (lv_at hl 1 rfl) ?_
          refine g_M_child dC dI bd cb σ10 hx hb hts hown hK hP k_495 d_M_node_170 ?_
          refine lv_iconst (v := 3) hx hb d_M_node_173 (by decide) ?_
          refine lv_iload hx hb d_M_node_174 (lv_at hl 0 rfl) ?_
          refine lv_imul hx hb d_M_node_176 ?_
          refine lv_iconst (v := 1) hx hb d_M_node_177 (by decide) ?_
          refine lv_iadd hx hb d_M_node_178 ?_
          refine lv_iload hx hb d_M_node_179 (lv_at hl 5 rfl) ?_
          obtain ⟨hi11, h⟩ := vq_bd h
          refine as_M19 dC dI bd cb σ10 hx hb hts hown hK hP hD hS hi11 d_M_node_181 (fun H locs hP hD hS => ?_)
          obtain ⟨σ12, eσ12, h⟩ := vq_let h
          rw [← eσ12] at hP hD
          refine lv_aload_n hx hb d_M_node_182 rfl (lv_at hl 1 rfl) ?_
          refine g_M_child dC dI bd cb σ12 hx hb hts hown hK hP k_495 d_M_node_183 ?_
          refine lv_iconst (v := 3) hx hb d_M_node_186 (by decide) ?_
          refine lv_iload hx hb d_M_node_187 (lv_at hl 0 rfl) ?_
          refine lv_imul hx hb d_M_node_189 ?_
          refine lv_iconst (v := 2) hx hb d_M_node_190 (by decide) ?_
          refine lv_iadd hx hb d_M_node_191 ?_
          refine lv_iload hx hb d_M_node_192 (lv_at hl 6 rfl) ?_
          obtain ⟨hi13, h⟩ := vq_bd h
          refine as_M19 dC dI bd cb σ12 hx hb hts hown hK hP hD hS hi13 d_M_node_194 (fun H locs hP hD hS => ?_)
          obtain ⟨σ14, eσ14, h⟩ := vq_let h
          rw [← eσ14] at hP hD
          refine lv_iconst (v := 0) hx hb d_M_node_195 (by decide) ?_
          refine lv_istore (lv' := [(8, .int 0), (7, .int (σ1.1 7)), (0, .ref (bd 0)), (1, .int x1), (2, .int x2), (3, .int x3), (4, .int x4), (5, .int x5)]) hx hb d_M_node_196 hl (by decide) rfl (fun ls hl => ?_)
          have L198 : ∀ n198 : Nat, ∀ (τ : vS) (x7 : Int32) (x8 : Int32) (H : Heap) (locs : List Loc) (ls : Array Slot), f_M_node_198 N n198 τ x7 x8 = some v → lv_has ls 9 [(0, .ref (bd 0)), (7, .int x7), (8, .int x8)] → va_P (dC, dI) CL (Mw bd cb τ) H → va_D A (Mw bd cb τ) → va_S A s.heap H locs → W p l e (headSpec WS ({ frames := 1, cells := 0, slots := 0, locals := 23 })).room s m ([.ref (bd 0), .int a0, .int a1, .int a2, .int a3, .int a4] : List Value).toArray below meth c H locs 0 0 (MQ below (va_Qi (fun (r : Int32) (_ : Unit) => r = v.1) (fun _ t => vq_Post (dC, dI) CL A (Mw bd cb v.2) (Mt cb) t) A) ([.ref (bd 0), .int a0, .int a1, .int a2, .int a3, .int a4] : List Value).toArray s 0 0 A) (F0 m 198 ls []) := by
            intro n198
            induction n198 with
            | zero =>
              intro τ x7 x8 H locs ls h hl hP hD hS
              rw [f_M_node_198] at h
              cases h
            | succ n198 ih198 =>
              intro τ x7 x8 H locs ls h hl hP hD hS
              rw [f_M_node_198] at h
              dsimp only at h
              refine lv_iload hx hb d_M_node_198 (lv_at hl 2 rfl) ?_
              refine lv_iconst (v := 3) hx hb d_M_node_200 (by decide) ?_
              refine lv_icmp_ge (tgt := 245) hx hb d_M_node_201 (by decide) (fun hc15 => ?_) (fun hc15 => ?_)
              ·
                rw [if_pos hc15] at h
                refine lv_iconst (v := 0) hx hb d_M_node_245 (by decide) ?_
                refine lv_istore (lv' := [(8, .int 0), (0, .ref (bd 0)), (7, .int x7)]) hx hb d_M_node_246 hl (by decide) rfl (fun ls hl => ?_)
                have L248 : ∀ n248 : Nat, ∀ (τ : vS) (x7 : Int32) (x8 : Int32) (H : Heap) (locs : List Loc) (ls : Array Slot), f_M_node_248 N n248 τ x7 x8 = some v → lv_has ls 9 [(0, .ref (bd 0)), (7, .int x7), (8, .int x8)] → va_P (dC, dI) CL (Mw bd cb τ) H → va_D A (Mw bd cb τ) → va_S A s.heap H locs → W p l e (headSpec WS ({ frames := 1, cells := 0, slots := 0, locals := 23 })).room s m ([.ref (bd 0), .int a0, .int a1, .int a2, .int a3, .int a4] : List Value).toArray below meth c H locs 0 0 (MQ below (va_Qi (fun (r : Int32) (_ : Unit) => r = v.1) (fun _ t => vq_Post (dC, dI) CL A (Mw bd cb v.2) (Mt cb) t) A) ([.ref (bd 0), .int a0, .int a1, .int a2, .int a3, .int a4] : List Value).toArray s 0 0 A) (F0 m 248 ls []) := by
                  intro n248
                  induction n248 with
                  | zero =>
                    intro τ x7 x8 H locs ls h hl hP hD hS
                    rw [f_M_node_248] at h
                    cases h
                  | succ n248 ih248 =>
                    intro τ x7 x8 H locs ls h hl hP hD hS
                    rw [f_M_node_248] at h
                    dsimp only at h
                    refine lv_iload hx hb d_M_node_248 (lv_at hl 2 rfl) ?_
                    refine lv_iconst (v := 4) hx hb d_M_node_250 (by decide) ?_
                    refine lv_icmp_ge (tgt := 273) hx hb d_M_node_251 (by decide) (fun hc16 => ?_) (fun hc16 => ?_)
                    ·
                      rw [if_pos hc16] at h
                      refine lv_aload_n hx hb d_M_node_273 rfl (lv_at hl 0 rfl) ?_
                      refine lv_dup hx hb d_M_node_274 rfl ?_
                      refine g_M_nodes dC dI bd cb τ hx hb hts hown hK hP k_490 d_M_node_275 ?_
                      refine lv_iconst (v := 1) hx hb d_M_node_278 (by decide) ?_
                      refine lv_iadd hx hb d_M_node_279 ?_
                      refine p_M_nodes dC dI bd cb τ hx hb hts hown hK hP hD hS k_490 d_M_node_280 (fun H locs hP hD hS => ?_)
                      obtain ⟨σ17, eσ17, h⟩ := vq_let h
                      rw [← eσ17] at hP hD
                      refine lv_iload hx hb d_M_node_283 (lv_at hl 1 rfl) ?_
                      have h9 := Option.some.inj h
                      rw [← h9]
                      exact W.iret (v := x7) hx hb hr (fun t ht hW => ⟨⟨x7, (), rfl, rfl, by rw [ht]; exact hP, va_K.moved hW.alike hK, hD⟩, hS.F ht⟩) hS.2.2 d_M_node_285
                    ·
                      rw [if_neg hc16] at h
                      refine lv_aload_n hx hb d_M_node_254 rfl (lv_at hl 0 rfl) ?_
                      refine g_M_known dC dI bd cb τ hx hb hts hown hK hP k_364 d_M_node_255 ?_
                      refine lv_iconst (v := 4) hx hb d_M_node_258 (by decide) ?_
                      refine lv_iload hx hb d_M_node_259 (lv_at hl 1 rfl) ?_
                      refine lv_imul hx hb d_M_node_261 ?_
                      refine lv_iload hx hb d_M_node_262 (lv_at hl 2 rfl) ?_
                      refine lv_iadd hx hb d_M_node_264 ?_
                      refine lv_iconst (v := 0) hx hb d_M_node_265 (by decide) ?_
                      obtain ⟨hi18, h⟩ := vq_bd h
                      refine as_M22 dC dI bd cb τ hx hb hts hown hK hP hD hS hi18 d_M_node_266 (fun H locs hP hD hS => ?_)
                      obtain ⟨σ19, eσ19, h⟩ := vq_let h
                      rw [← eσ19] at hP hD
                      refine lv_iinc (k := 2) (v := (x8 + 1)) (lv' := [(8, .int (x8 + 1)), (0, .ref (bd 0)), (7, .int x7)]) hx hb d_M_node_267 hl rfl rfl (by decide) rfl (fun ls hl => ?_)
                      refine lv_goto (tgt := 248) hx hb d_M_node_270 (by decide) ?_
                      exact ih248 _ _ _ _ _ _ h (lv_sub hl [1, 2, 0] rfl) hP hD hS
                exact L248 N _ _ _ _ _ _ h (lv_sub hl [1, 2, 0] rfl) hP hD hS
              ·
                rw [if_neg hc15] at h
                refine lv_aload_n hx hb d_M_node_204 rfl (lv_at hl 0 rfl) ?_
                refine g_M_child dC dI bd cb τ hx hb hts hown hK hP k_495 d_M_node_205 ?_
                refine lv_iconst (v := 3) hx hb d_M_node_208 (by decide) ?_
                refine lv_iload hx hb d_M_node_209 (lv_at hl 1 rfl) ?_
                refine lv_imul hx hb d_M_node_211 ?_
                refine lv_iload hx hb d_M_node_212 (lv_at hl 2 rfl) ?_
                refine lv_iadd hx hb d_M_node_214 ?_
                obtain ⟨hi20, h⟩ := vq_bd h
                refine al_M19 dC dI bd cb τ hx hb hts hown hK hP hi20 d_M_node_215 ?_
                obtain ⟨i21, ei21, h⟩ := vq_let h
                refine vq_top ei21.symm ?_
                refine lv_iconst (v := (-1)) hx hb d_M_node_216 (by decide) ?_
                have J239 : ∀ (τ : vS) (x7 : Int32) (x8 : Int32) (H : Heap) (locs : List Loc) (ls : Array Slot), f_M_node_239 N (f_M_node_198 N n198) τ x7 x8 = some v → lv_has ls 9 [(0, .ref (bd 0)), (7, .int x7), (8, .int x8)] → va_P (dC, dI) CL (Mw bd cb τ) H → va_D A (Mw bd cb τ) → va_S A s.heap H locs → W p l e (headSpec WS ({ frames := 1, cells := 0, slots := 0, locals := 23 })).room s m ([.ref (bd 0), .int a0, .int a1, .int a2, .int a3, .int a4] : List Value).toArray below meth c H locs 0 0 (MQ below (va_Qi (fun (r : Int32) (_ : Unit) => r = v.1) (fun _ t => vq_Post (dC, dI) CL A (Mw bd cb v.2) (Mt cb) t) A) ([.ref (bd 0), .int a0, .int a1, .int a2, .int a3, .int a4] : List Value).toArray s 0 0 A) (F0 m 239 ls []) := by
                  intro τ x7 x8 H locs ls h hl hP hD hS
                  unfold f_M_node_239 at h
                  refine lv_iinc (k := 2) (v := (x8 + 1)) (lv' := [(8, .int (x8 + 1)), (0, .ref (bd 0)), (7, .int x7)]) hx hb d_M_node_239 hl rfl rfl (by decide) rfl (fun ls hl => ?_)
                  refine lv_goto (tgt := 198) hx hb d_M_node_242 (by decide) ?_
                  exact ih198 _ _ _ _ _ _ h (lv_sub hl [1, 2, 0] rfl) hP hD hS
                refine lv_icmp_eq (tgt := 239) hx hb d_M_node_217 (by decide) (fun hc22 => ?_) (fun hc22 => ?_)
                ·
                  rw [if_pos hc22] at h
                  exact J239 _ _ _ _ _ _ h (lv_sub hl [0, 1, 2] rfl) hP hD hS
                ·
                  rw [if_neg hc22] at h
                  refine lv_aload_n hx hb d_M_node_220 rfl (lv_at hl 0 rfl) ?_
                  refine g_M_parent dC dI bd cb τ hx hb hts hown hK hP k_491 d_M_node_221 ?_
                  refine lv_aload_n hx hb d_M_node_224 rfl (lv_at hl 0 rfl) ?_
                  refine g_M_child dC dI bd cb τ hx hb hts hown hK hP k_495 d_M_node_225 ?_
                  refine lv_iconst (v := 3) hx hb d_M_node_228 (by decide) ?_
                  refine lv_iload hx hb d_M_node_229 (lv_at hl 1 rfl) ?_
                  refine lv_imul hx hb d_M_node_231 ?_
                  refine lv_iload hx hb d_M_node_232 (lv_at hl 2 rfl) ?_
                  refine lv_iadd hx hb d_M_node_234 ?_
                  obtain ⟨hi23, h⟩ := vq_bd h
                  refine al_M19 dC dI bd cb τ hx hb hts hown hK hP hi23 d_M_node_235 ?_
                  obtain ⟨i24, ei24, h⟩ := vq_let h
                  refine vq_top ei24.symm ?_
                  refine lv_iload hx hb d_M_node_236 (lv_at hl 1 rfl) ?_
                  obtain ⟨hi25, h⟩ := vq_bd h
                  refine as_M20 dC dI bd cb τ hx hb hts hown hK hP hD hS hi25 d_M_node_238 (fun H locs hP hD hS => ?_)
                  obtain ⟨σ26, eσ26, h⟩ := vq_let h
                  rw [← eσ26] at hP hD
                  exact J239 _ _ _ _ _ _ h (lv_sub hl [0, 1, 2] rfl) hP hD hS
          exact L198 N _ _ _ _ _ _ h (lv_sub hl [2, 1, 0] rfl) hP hD hS
        ·
          rw [if_neg hc2] at h
          refine lv_iconst (v := 0) hx hb d_M_node_127 (by decide) ?_
          have h9 := Option.some.inj h
          rw [← h9]
          exact W.iret (v := (0 : Int32)) hx hb hr (fun t ht hW => ⟨⟨(0 : Int32), (), rfl, rfl, by rw [ht]; exact hP, va_K.moved hW.alike hK, hD⟩, hS.F ht⟩) hS.2.2 d_M_node_128
      refine lv_if_ne (tgt := 103) hx hb d_M_node_96 (by decide) (fun hc27 => ?_) (fun hc27 => ?_)
      ·
        rw [if_neg hc27] at h
        refine lv_aload_n hx hb d_M_node_103 rfl (lv_at hl 1 rfl) ?_
        refine g_M_nodes dC dI bd cb τ hx hb hts hown hK hP k_490 d_M_node_104 ?_
        refine lv_bipush (v := 40) hx hb d_M_node_107 (by decide) ?_
        refine lv_icmp_ne (tgt := 116) hx hb d_M_node_109 (by decide) (fun hc28 => ?_) (fun hc28 => ?_)
        ·
          rw [if_neg hc28] at h
          refine lv_iconst (v := 0) hx hb d_M_node_116 (by decide) ?_
          exact J117 _ _ _ _ _ _ _ _ _ _ h (lv_sub hl [1, 2, 3, 4, 5, 6] rfl) hP hD hS
        ·
          rw [if_pos hc28] at h
          refine lv_iconst (v := 2) hx hb d_M_node_112 (by decide) ?_
          refine lv_goto (tgt := 117) hx hb d_M_node_113 (by decide) ?_
          exact J117 _ _ _ _ _ _ _ _ _ _ h (lv_sub hl [1, 2, 3, 4, 5, 6] rfl) hP hD hS
      ·
        rw [if_pos hc27] at h
        refine lv_iconst (v := 1) hx hb d_M_node_99 (by decide) ?_
        refine lv_goto (tgt := 117) hx hb d_M_node_100 (by decide) ?_
        exact J117 _ _ _ _ _ _ _ _ _ _ h (lv_sub hl [1, 2, 3, 4, 5, 6] rfl) hP hD hS
    have J90 : ∀ (τ : vS) (x1 : Int32) (x2 : Int32) (x3 : Int32) (x4 : Int32) (x5 : Int32) (H : Heap) (locs : List Loc) (ls : Array Slot), f_M_node_90 N τ x1 x2 x3 x4 x5 = some v → lv_has ls 9 [(0, .ref (bd 0)), (1, .int x1), (2, .int x2), (3, .int x3), (4, .int x4), (5, .int x5)] → va_P (dC, dI) CL (Mw bd cb τ) H → va_D A (Mw bd cb τ) → va_S A s.heap H locs → W p l e (headSpec WS ({ frames := 1, cells := 0, slots := 0, locals := 23 })).room s m ([.ref (bd 0), .int a0, .int a1, .int a2, .int a3, .int a4] : List Value).toArray below meth c H locs 0 0 (MQ below (va_Qi (fun (r : Int32) (_ : Unit) => r = v.1) (fun _ t => vq_Post (dC, dI) CL A (Mw bd cb v.2) (Mt cb) t) A) ([.ref (bd 0), .int a0, .int a1, .int a2, .int a3, .int a4] : List Value).toArray s 0 0 A) (F0 m 90 ls []) := by
      intro τ x1 x2 x3 x4 x5 H locs ls h hl hP hD hS
      unfold f_M_node_90 at h
      refine lv_iconst (v := 0) hx hb d_M_node_90 (by decide) ?_
      exact J91 _ _ _ _ _ _ _ _ _ _ h (lv_sub hl [0, 1, 2, 3, 4, 5] rfl) hP hD hS
    refine lv_if_eq (tgt := 90) hx hb d_M_node_53 (by decide) (fun hc29 => ?_) (fun hc29 => ?_)
    ·
      rw [if_pos hc29] at h
      exact J90 _ _ _ _ _ _ _ _ _ h (lv_sub hl [1, 2, 3, 4, 5, 6] rfl) hP hD hS
    ·
      rw [if_neg hc29] at h
      refine lv_iload_n hx hb d_M_node_56 rfl (lv_at hl 4 rfl) ?_
      refine lv_iconst (v := (-1)) hx hb d_M_node_57 (by decide) ?_
      have J73 : ∀ (τ : vS) (x1 : Int32) (x2 : Int32) (x3 : Int32) (x4 : Int32) (x5 : Int32) (H : Heap) (locs : List Loc) (ls : Array Slot), f_M_node_73 N τ x1 x2 x3 x4 x5 = some v → lv_has ls 9 [(0, .ref (bd 0)), (1, .int x1), (2, .int x2), (3, .int x3), (4, .int x4), (5, .int x5)] → va_P (dC, dI) CL (Mw bd cb τ) H → va_D A (Mw bd cb τ) → va_S A s.heap H locs → W p l e (headSpec WS ({ frames := 1, cells := 0, slots := 0, locals := 23 })).room s m ([.ref (bd 0), .int a0, .int a1, .int a2, .int a3, .int a4] : List Value).toArray below meth c H locs 0 0 (MQ below (va_Qi (fun (r : Int32) (_ : Unit) => r = v.1) (fun _ t => vq_Post (dC, dI) CL A (Mw bd cb v.2) (Mt cb) t) A) ([.ref (bd 0), .int a0, .int a1, .int a2, .int a3, .int a4] : List Value).toArray s 0 0 A) (F0 m 73 ls []) := by
        intro τ x1 x2 x3 x4 x5 H locs ls h hl hP hD hS
        unfold f_M_node_73 at h
        refine lv_iload hx hb d_M_node_73 (lv_at hl 4 rfl) ?_
        refine lv_iconst (v := (-1)) hx hb d_M_node_75 (by decide) ?_
        have J86 : ∀ (τ : vS) (x1 : Int32) (x2 : Int32) (x3 : Int32) (x4 : Int32) (x5 : Int32) (H : Heap) (locs : List Loc) (ls : Array Slot), f_M_node_86 N τ x1 x2 x3 x4 x5 = some v → lv_has ls 9 [(0, .ref (bd 0)), (1, .int x1), (2, .int x2), (3, .int x3), (4, .int x4), (5, .int x5)] → va_P (dC, dI) CL (Mw bd cb τ) H → va_D A (Mw bd cb τ) → va_S A s.heap H locs → W p l e (headSpec WS ({ frames := 1, cells := 0, slots := 0, locals := 23 })).room s m ([.ref (bd 0), .int a0, .int a1, .int a2, .int a3, .int a4] : List Value).toArray below meth c H locs 0 0 (MQ below (va_Qi (fun (r : Int32) (_ : Unit) => r = v.1) (fun _ t => vq_Post (dC, dI) CL A (Mw bd cb v.2) (Mt cb) t) A) ([.ref (bd 0), .int a0, .int a1, .int a2, .int a3, .int a4] : List Value).toArray s 0 0 A) (F0 m 86 ls []) := by
          intro τ x1 x2 x3 x4 x5 H locs ls h hl hP hD hS
          unfold f_M_node_86 at h
          refine lv_iconst (v := 1) hx hb d_M_node_86 (by decide) ?_
          refine lv_goto (tgt := 91) hx hb d_M_node_87 (by decide) ?_
          exact J91 _ _ _ _ _ _ _ _ _ _ h (lv_sub hl [0, 1, 2, 3, 4, 5] rfl) hP hD hS
        refine lv_icmp_eq (tgt := 86) hx hb d_M_node_76 (by decide) (fun hc30 => ?_) (fun hc30 => ?_)
        ·
          rw [if_pos hc30] at h
          exact J86 _ _ _ _ _ _ _ _ _ h (lv_sub hl [0, 1, 2, 3, 4, 5] rfl) hP hD hS
        ·
          rw [if_neg hc30] at h
          refine lv_iload hx hb d_M_node_79 (lv_at hl 4 rfl) ?_
          refine lv_iload hx hb d_M_node_81 (lv_at hl 5 rfl) ?_
          refine lv_icmp_eq (tgt := 90) hx hb d_M_node_83 (by decide) (fun hc31 => ?_) (fun hc31 => ?_)
          ·
            rw [if_pos hc31] at h
            exact J90 _ _ _ _ _ _ _ _ _ h (lv_sub hl [0, 1, 2, 3, 4, 5] rfl) hP hD hS
          ·
            rw [if_neg hc31] at h
            exact J86 _ _ _ _ _ _ _ _ _ h (lv_sub hl [0, 1, 2, 3, 4, 5] rfl) hP hD hS
      refine lv_icmp_eq (tgt := 73) hx hb d_M_node_58 (by decide) (fun hc32 => ?_) (fun hc32 => ?_)
      ·
        rw [if_pos hc32] at h
        exact J73 _ _ _ _ _ _ _ _ _ h (lv_sub hl [1, 2, 3, 4, 5, 6] rfl) hP hD hS
      ·
        rw [if_neg hc32] at h
        refine lv_iload_n hx hb d_M_node_61 rfl (lv_at hl 4 rfl) ?_
        refine lv_iload hx hb d_M_node_62 (lv_at hl 5 rfl) ?_
        refine lv_icmp_eq (tgt := 90) hx hb d_M_node_64 (by decide) (fun hc33 => ?_) (fun hc33 => ?_)
        ·
          rw [if_pos hc33] at h
          exact J90 _ _ _ _ _ _ _ _ _ h (lv_sub hl [1, 2, 3, 4, 5, 6] rfl) hP hD hS
        ·
          rw [if_neg hc33] at h
          refine lv_iload_n hx hb d_M_node_67 rfl (lv_at hl 4 rfl) ?_
          refine lv_iload hx hb d_M_node_68 (lv_at hl 6 rfl) ?_
          refine lv_icmp_eq (tgt := 90) hx hb d_M_node_70 (by decide) (fun hc34 => ?_) (fun hc34 => ?_)
          ·
            rw [if_pos hc34] at h
            exact J90 _ _ _ _ _ _ _ _ _ h (lv_sub hl [1, 2, 3, 4, 5, 6] rfl) hP hD hS
          ·
            rw [if_neg hc34] at h
            exact J73 _ _ _ _ _ _ _ _ _ h (lv_sub hl [1, 2, 3, 4, 5, 6] rfl) hP hD hS
  have J48 : ∀ (τ : vS) (x1 : Int32) (x2 : Int32) (x3 : Int32) (x4 : Int32) (x5 : Int32) (H : Heap) (locs : List Loc) (ls : Array Slot), f_M_node_48 N τ x1 x2 x3 x4 x5 = some v → lv_has ls 9 [(0, .ref (bd 0)), (1, .int x1), (2, .int x2), (3, .int x3), (4, .int x4), (5, .int x5)] → va_P (dC, dI) CL (Mw bd cb τ) H → va_D A (Mw bd cb τ) → va_S A s.heap H locs → W p l e (headSpec WS ({ frames := 1, cells := 0, slots := 0, locals := 23 })).room s m ([.ref (bd 0), .int a0, .int a1, .int a2, .int a3, .int a4] : List Value).toArray below meth c H locs 0 0 (MQ below (va_Qi (fun (r : Int32) (_ : Unit) => r = v.1) (fun _ t => vq_Post (dC, dI) CL A (Mw bd cb v.2) (Mt cb) t) A) ([.ref (bd 0), .int a0, .int a1, .int a2, .int a3, .int a4] : List Value).toArray s 0 0 A) (F0 m 48 ls []) := by
    intro τ x1 x2 x3 x4 x5 H locs ls h hl hP hD hS
    unfold f_M_node_48 at h
    refine lv_iconst (v := 0) hx hb d_M_node_48 (by decide) ?_
    exact J49 _ _ _ _ _ _ _ _ _ _ h (lv_sub hl [0, 1, 2, 3, 4, 5] rfl) hP hD hS
  refine lv_if_lt (tgt := 48) hx hb d_M_node_1 (by decide) (fun hc35 => ?_) (fun hc35 => ?_)
  ·
    rw [if_pos hc35] at h
    exact J48 _ _ _ _ _ _ _ _ _ h (lv_sub hl [0, 1, 2, 3, 4, 5] rfl) hP hD hS
  ·
    rw [if_neg hc35] at h
    refine lv_iload_n hx hb d_M_node_4 rfl (lv_at hl 1 rfl) ?_
    refine lv_aload_n hx hb d_M_node_5 rfl (lv_at hl 0 rfl) ?_
    refine g_M_productions dC dI bd cb σ hx hb hts hown hK hP k_383 d_M_node_6 ?_
    refine lv_icmp_ge (tgt := 48) hx hb d_M_node_9 (by decide) (fun hc36 => ?_) (fun hc36 => ?_)
    ·
      rw [if_pos hc36] at h
      exact J48 _ _ _ _ _ _ _ _ _ h (lv_sub hl [0, 1, 2, 3, 4, 5] rfl) hP hD hS
    ·
      rw [if_neg hc36] at h
      refine lv_aload_n hx hb d_M_node_12 rfl (lv_at hl 0 rfl) ?_
      refine lv_iload_n hx hb d_M_node_13 rfl (lv_at hl 1 rfl) ?_
      refine lv_iconst (v := 1) hx hb d_M_node_14 (by decide) ?_
      refine lv_iload_n hx hb d_M_node_15 rfl (lv_at hl 3 rfl) ?_
      obtain ⟨q37, h38, h⟩ := vq_bi h
      have hFc := vq_freeAll hD hS hA
      refine va_calli (va_runV (As := [.int a0, .int 1, .int a2]) (rest := []) ⟨hx, hb, hml, hown, hts⟩ (c_M_fits l htr dC dI bd cb N σ a0 1 a2 q37 h38 s.heap.size) (vq_cV WSk hts 3 rfl rfl ⟨by decide, by decide⟩ k_489 k_367 k_496 k_497 k_498 (by decide +kernel)) ⟨vq_blind, va_recv hK hP (ci := 8) (q0 := 0) rfl rfl, vq_here hst hS hN hP hK hD⟩ rfl rfl hl.1 rfl (lv_room (Nat.le_of_ble_eq_true rfl)) d_M_node_16 ⟨by decide, by decide⟩) hS (fun q _ h => hFc q h) hFc (fun r u t H1 locs ht hvm hw hB hz1 hk1 hS => ?_)
      obtain ⟨hP, -, hD1⟩ := hB
      rw [ht] at hP
      have hD := hD1.weaken (fun _ _ _ h => hFc _ h)
      have hw : r = q37.1 := hw
      subst hw
      generalize H1 = H at hP hS ⊢
      refine W.widen (k := 0) (n := 0) (by decide) (by decide) ?_
      refine lv_if_eq (tgt := 48) hx hb d_M_node_19 (by decide) (fun hc39 => ?_) (fun hc39 => ?_)
      ·
        rw [if_pos hc39] at h
        exact J48 _ _ _ _ _ _ _ _ _ h (lv_sub hl [0, 1, 2, 3, 4, 5] rfl) hP hD hS
      ·
        rw [if_neg hc39] at h
        refine lv_aload_n hx hb d_M_node_22 rfl (lv_at hl 0 rfl) ?_
        refine lv_iload_n hx hb d_M_node_23 rfl (lv_at hl 1 rfl) ?_
        refine lv_iconst (v := 2) hx hb d_M_node_24 (by decide) ?_
        refine lv_iload hx hb d_M_node_25 (lv_at hl 4 rfl) ?_
        obtain ⟨q40, h41, h⟩ := vq_bi h
        have hFc := vq_freeAll hD hS hA
        refine va_calli (va_runV (As := [.int a0, .int 2, .int a3]) (rest := []) ⟨hx, hb, hml, hown, hts⟩ (c_M_fits l htr dC dI bd cb N q37.2 a0 2 a3 q40 h41 H.size) (vq_cV WSk hts 3 rfl rfl ⟨by decide, by decide⟩ k_489 k_367 k_496 k_497 k_498 (by decide +kernel)) ⟨vq_blind, va_recv hK hP (ci := 8) (q0 := 0) rfl rfl, vq_here hst hS hN hP hK hD⟩ rfl rfl hl.1 rfl (lv_room (Nat.le_of_ble_eq_true rfl)) d_M_node_27 ⟨by decide, by decide⟩) hS (fun q _ h => hFc q h) hFc (fun r u t H1 locs ht hvm hw hB hz1 hk1 hS => ?_)
        obtain ⟨hP, -, hD1⟩ := hB
        rw [ht] at hP
        have hD := hD1.weaken (fun _ _ _ h => hFc _ h)
        have hw : r = q40.1 := hw
        subst hw
        generalize H1 = H at hP hS ⊢
        refine W.widen (k := 0) (n := 0) (by decide) (by decide) ?_
        refine lv_if_eq (tgt := 48) hx hb d_M_node_30 (by decide) (fun hc42 => ?_) (fun hc42 => ?_)
        ·
          rw [if_pos hc42] at h
          exact J48 _ _ _ _ _ _ _ _ _ h (lv_sub hl [0, 1, 2, 3, 4, 5] rfl) hP hD hS
        ·
          rw [if_neg hc42] at h
          refine lv_aload_n hx hb d_M_node_33 rfl (lv_at hl 0 rfl) ?_
          refine lv_iload_n hx hb d_M_node_34 rfl (lv_at hl 1 rfl) ?_
          refine lv_iconst (v := 3) hx hb d_M_node_35 (by decide) ?_
          refine lv_iload hx hb d_M_node_36 (lv_at hl 5 rfl) ?_
          obtain ⟨q43, h44, h⟩ := vq_bi h
          have hFc := vq_freeAll hD hS hA
          refine va_calli (va_runV (As := [.int a0, .int 3, .int a4]) (rest := []) ⟨hx, hb, hml, hown, hts⟩ (c_M_fits l htr dC dI bd cb N q40.2 a0 3 a4 q43 h44 H.size) (vq_cV WSk hts 3 rfl rfl ⟨by decide, by decide⟩ k_489 k_367 k_496 k_497 k_498 (by decide +kernel)) ⟨vq_blind, va_recv hK hP (ci := 8) (q0 := 0) rfl rfl, vq_here hst hS hN hP hK hD⟩ rfl rfl hl.1 rfl (lv_room (Nat.le_of_ble_eq_true rfl)) d_M_node_38 ⟨by decide, by decide⟩) hS (fun q _ h => hFc q h) hFc (fun r u t H1 locs ht hvm hw hB hz1 hk1 hS => ?_)
          obtain ⟨hP, -, hD1⟩ := hB
          rw [ht] at hP
          have hD := hD1.weaken (fun _ _ _ h => hFc _ h)
          have hw : r = q43.1 := hw
          subst hw
          generalize H1 = H at hP hS ⊢
          refine W.widen (k := 0) (n := 0) (by decide) (by decide) ?_
          refine lv_if_eq (tgt := 48) hx hb d_M_node_41 (by decide) (fun hc45 => ?_) (fun hc45 => ?_)
          ·
            rw [if_pos hc45] at h
            exact J48 _ _ _ _ _ _ _ _ _ h (lv_sub hl [0, 1, 2, 3, 4, 5] rfl) hP hD hS
          ·
            rw [if_neg hc45] at h
            refine lv_iconst (v := 1) hx hb d_M_node_44 (by decide) ?_
            refine lv_goto (tgt := 49) hx hb d_M_node_45 (by decide) ?_
            exact J49 _ _ _ _ _ _ _ _ _ _ h (lv_sub hl [0, 1, 2, 3, 4, 5] rfl) hP hD hS

set_option maxHeartbeats 4000000 in
set_option maxRecDepth 100000 in
theorem c_M_fell (l : Launch) (htr : l.stackTraces = false) (dC : Nat → ClassId) (dI : Nat → Nat → Nat) (bd : Nat → Nat) (cb : Nat → ClassId) (N : Nat) (σ : vS) (v : Int32 × vS) (h : f_M_fell N σ = some v) (sz : Nat) : Met l y_M_fell WS ({ frames := 1, cells := 0, slots := 0, locals := 21 }) (va_Pc [.ref (bd 0)] (vq_Pre (dC, dI) CL sz (Mw bd cb σ) (Mt cb))) (va_Qv (fun _ : Unit => True) (fun _ t => vq_Post (dC, dI) CL (va_A (Mw bd cb σ) sz) (Mw bd cb v.2) (Mt cb) t) (va_A (Mw bd cb σ) sz)) 0 0 (va_A (Mw bd cb σ) sz) := by
  refine vq_ofW (cc := prog_10_method_37_code) (maxL := 1) (ret := (Option.none : Option Jvm.ClassFile.FieldType)) pl_M (vq_his k_499) ?_
  intro p e s m args below meth c s₁ B hml hv
  obtain ⟨rfl, hst, hsz, hP, hK, hD0⟩ := hv
  have hx := B.exec
  have hb := B.bytes
  have hr := B.returns
  have hts := atoms_spec (ws := WS) B.pre
  have hown : s.vm.findClass R_M = some m.cls := findClass_of_methodNamed B.named
  have hlocks := B.notSynchronized
  have hno := vq_noH B (hts _ k_499)
  subst hsz
  have hN := vq_ns hP
  have hD := hD0.self (sz := s.heap.size)
  generalize hAe : va_A (Mw bd cb σ) s.heap.size = A at hD hN ⊢
  have hA : ∀ q : Nat, s.heap.size ≤ q → A q := fun q h => by rw [← hAe]; exact Or.inr h
  have hS : va_S A s.heap s.heap [] := va_S.rf
  have hl := lv_entry ([.ref (bd 0)]) (n := 1) (Nat.le_of_ble_eq_true rfl)
  rw [lg_entry_eq]
  generalize (lg_sl ([.ref (bd 0)]) ++ List.replicate (1 - (lg_sl ([.ref (bd 0)])).length) Slot.unset).toArray = ls at hl ⊢
  have hl : lv_has ls 1 [(0, .ref (bd 0))] := hl
  unfold f_M_fell at h
  refine lv_aload_n hx hb d_M_fell_0 rfl (lv_at hl 0 rfl) ?_
  refine lv_iconst (v := 0) hx hb d_M_fell_1 (by decide) ?_
  refine p_M_code dC dI bd cb σ hx hb hts hown hK hP hD hS k_359 d_M_fell_2 (fun H locs hP hD hS => ?_)
  obtain ⟨σ1, eσ1, h⟩ := vq_let h
  rw [← eσ1] at hP hD
  refine lv_aload_n hx hb d_M_fell_5 rfl (lv_at hl 0 rfl) ?_
  obtain ⟨q2, h3, h⟩ := vq_bi h
  have hFc := vq_freeAll hD hS hA
  refine va_callv (va_runV (As := []) (rest := []) ⟨hx, hb, hml, hown, hts⟩ (c_M_endRun l htr dC dI bd cb N σ1 q2 h3 H.size) (vq_cV WSk hts 0 rfl rfl ⟨by decide, by decide⟩ k_361 k_367 k_368 k_369 k_370 (by decide +kernel)) ⟨vq_blind, va_recv hK hP (ci := 8) (q0 := 0) rfl rfl, vq_here hst hS hN hP hK hD⟩ rfl rfl hl.1 rfl (lv_room (Nat.le_of_ble_eq_true rfl)) d_M_fell_6 ⟨by decide, by decide⟩) hS (fun q _ h => hFc q h) hFc (fun u t H1 locs ht hvm hw hB hz1 hk1 hS => ?_)
  obtain ⟨hP, -, hD1⟩ := hB
  rw [ht] at hP
  have hD := hD1.weaken (fun _ _ _ h => hFc _ h)
  generalize H1 = H at hP hS ⊢
  refine W.widen (k := 0) (n := 0) (by decide) (by decide) ?_
  refine lv_aload_n hx hb d_M_fell_9 rfl (lv_at hl 0 rfl) ?_
  refine lv_iconst (v := 0) hx hb d_M_fell_10 (by decide) ?_
  refine p_M_nodes dC dI bd cb q2.2 hx hb hts hown hK hP hD hS k_490 d_M_fell_11 (fun H locs hP hD hS => ?_)
  obtain ⟨σ4, eσ4, h⟩ := vq_let h
  rw [← eσ4] at hP hD
  have h9 := Option.some.inj h
  rw [← h9]
  exact W.vret hx hb hr (fun t ht hW => ⟨⟨(), rfl, trivial, by rw [ht]; exact hP, va_K.moved hW.alike hK, hD⟩, hS.F ht⟩) hS.2.2 d_M_fell_14

set_option maxHeartbeats 4000000 in
set_option maxRecDepth 100000 in
theorem c_M_give (l : Launch) (htr : l.stackTraces = false) (dC : Nat → ClassId) (dI : Nat → Nat → Nat) (bd : Nat → Nat) (cb : Nat → ClassId) (N : Nat) (σ : vS) (a0 : Int32) (a1 : Int32) (v : Int32 × vS) (h : f_M_give N σ a0 a1 = some v) (sz : Nat) : Met l y_M_give WS ({ frames := 0, cells := 0, slots := 0, locals := 0 }) (va_Pc [.ref (bd 0), .int a0, .int a1] (vq_Pre (dC, dI) CL sz (Mw bd cb σ) (Mt cb))) (va_Qv (fun _ : Unit => True) (fun _ t => vq_Post (dC, dI) CL (va_A (Mw bd cb σ) sz) (Mw bd cb v.2) (Mt cb) t) (va_A (Mw bd cb σ) sz)) 0 0 (va_A (Mw bd cb σ) sz) := by
  refine vq_ofW (cc := prog_10_method_38_code) (maxL := 3) (ret := (Option.none : Option Jvm.ClassFile.FieldType)) pl_M (vq_his k_500) ?_
  intro p e s m args below meth c s₁ B hml hv
  obtain ⟨rfl, hst, hsz, hP, hK, hD0⟩ := hv
  have hx := B.exec
  have hb := B.bytes
  have hr := B.returns
  have hts := atoms_spec (ws := WS) B.pre
  have hown : s.vm.findClass R_M = some m.cls := findClass_of_methodNamed B.named
  have hlocks := B.notSynchronized
  have hno := vq_noH B (hts _ k_500)
  subst hsz
  have hN := vq_ns hP
  have hD := hD0.self (sz := s.heap.size)
  generalize hAe : va_A (Mw bd cb σ) s.heap.size = A at hD hN ⊢
  have hA : ∀ q : Nat, s.heap.size ≤ q → A q := fun q h => by rw [← hAe]; exact Or.inr h
  have hS : va_S A s.heap s.heap [] := va_S.rf
  have hl := lv_entry ([.ref (bd 0), .int a0, .int a1]) (n := 3) (Nat.le_of_ble_eq_true rfl)
  rw [lg_entry_eq]
  generalize (lg_sl ([.ref (bd 0), .int a0, .int a1]) ++ List.replicate (3 - (lg_sl ([.ref (bd 0), .int a0, .int a1])).length) Slot.unset).toArray = ls at hl ⊢
  have hl : lv_has ls 3 [(0, .ref (bd 0)), (1, .int a0), (2, .int a1)] := hl
  unfold f_M_give at h
  refine lv_aload_n hx hb d_M_give_0 rfl (lv_at hl 0 rfl) ?_
  refine lv_iload_n hx hb d_M_give_1 rfl (lv_at hl 1 rfl) ?_
  have J15 : ∀ (τ : vS) (x1 : Int32) (x2 : Int32) (y0 : Int32) (H : Heap) (locs : List Loc) (ls : Array Slot), f_M_give_15 N τ x1 x2 y0 = some v → lv_has ls 3 [(0, .ref (bd 0)), (1, .int x1), (2, .int x2)] → va_P (dC, dI) CL (Mw bd cb τ) H → va_D A (Mw bd cb τ) → va_S A s.heap H locs → W p l e (headSpec WS ({ frames := 0, cells := 0, slots := 0, locals := 0 })).room s m ([.ref (bd 0), .int a0, .int a1] : List Value).toArray below meth c H locs 0 0 (MQ below (va_Qv (fun _ : Unit => True) (fun _ t => vq_Post (dC, dI) CL A (Mw bd cb v.2) (Mt cb) t) A) ([.ref (bd 0), .int a0, .int a1] : List Value).toArray s 0 0 A) (F0 m 15 ls [.int y0, .ref (bd 0)]) := by
    intro τ x1 x2 y0 H locs ls h hl hP hD hS
    unfold f_M_give_15 at h
    refine p_M_code dC dI bd cb τ hx hb hts hown hK hP hD hS k_359 d_M_give_15 (fun H locs hP hD hS => ?_)
    obtain ⟨σ1, eσ1, h⟩ := vq_let h
    rw [← eσ1] at hP hD
    refine lv_aload_n hx hb d_M_give_18 rfl (lv_at hl 0 rfl) ?_
    refine g_M_code dC dI bd cb σ1 hx hb hts hown hK hP k_359 d_M_give_19 ?_
    refine lv_if_ne (tgt := 32) hx hb d_M_give_22 (by decide) (fun hc2 => ?_) (fun hc2 => ?_)
    ·
      rw [if_neg hc2] at h
      have h9 := Option.some.inj h
      rw [← h9]
      exact W.vret hx hb hr (fun t ht hW => ⟨⟨(), rfl, trivial, by rw [ht]; exact hP, va_K.moved hW.alike hK, hD⟩, hS.F ht⟩) hS.2.2 d_M_give_32
    ·
      rw [if_pos hc2] at h
      refine lv_aload_n hx hb d_M_give_25 rfl (lv_at hl 0 rfl) ?_
      refine g_M_given dC dI bd cb σ1 hx hb hts hown hK hP k_501 d_M_give_26 ?_
      refine lv_iload_n hx hb d_M_give_29 rfl (lv_at hl 1 rfl) ?_
      refine lv_iload_n hx hb d_M_give_30 rfl (lv_at hl 2 rfl) ?_
      obtain ⟨hi3, h⟩ := vq_bd h
      refine as_M24 dC dI bd cb σ1 hx hb hts hown hK hP hD hS hi3 d_M_give_31 (fun H locs hP hD hS => ?_)
      obtain ⟨σ4, eσ4, h⟩ := vq_let h
      rw [← eσ4] at hP hD
      have h9 := Option.some.inj h
      rw [← h9]
      exact W.vret hx hb hr (fun t ht hW => ⟨⟨(), rfl, trivial, by rw [ht]; exact hP, va_K.moved hW.alike hK, hD⟩, hS.F ht⟩) hS.2.2 d_M_give_32
  have J10 : ∀ (τ : vS) (x1 : Int32) (x2 : Int32) (H : Heap) (locs : List Loc) (ls : Array Slot), f_M_give_10 N τ x1 x2 = some v → lv_has ls 3 [(0, .ref (bd 0)), (1, .int x1), (2, .int x2)] → va_P (dC, dI) CL (Mw bd cb τ) H → va_D A (Mw bd cb τ) → va_S A s.heap H locs → W p l e (headSpec WS ({ frames := 0, cells := 0, slots := 0, locals := 0 })).room s m ([.ref (bd 0), .int a0, .int a1] : List Value).toArray below meth c H locs 0 0 (MQ below (va_Qv (fun _ : Unit => True) (fun _ t => vq_Post (dC, dI) CL A (Mw bd cb v.2) (Mt cb) t) A) ([.ref (bd 0), .int a0, .int a1] : List Value).toArray s 0 0 A) (F0 m 10 ls [.ref (bd 0)]) := by
    intro τ x1 x2 H locs ls h hl hP hD hS
    unfold f_M_give_10 at h
    refine lv_iconst (v := 1) hx hb d_M_give_10 (by decide) ?_
    refine lv_goto (tgt := 15) hx hb d_M_give_11 (by decide) ?_
    exact J15 _ _ _ _ _ _ _ h (lv_sub hl [0, 1, 2] rfl) hP hD hS
  refine lv_if_lt (tgt := 10) hx hb d_M_give_2 (by decide) (fun hc5 => ?_) (fun hc5 => ?_)
  ·
    rw [if_pos hc5] at h
    exact J10 _ _ _ _ _ _ h (lv_sub hl [0, 1, 2] rfl) hP hD hS
  ·
    rw [if_neg hc5] at h
    refine lv_iload_n hx hb d_M_give_5 rfl (lv_at hl 1 rfl) ?_
    refine lv_iconst (v := 3) hx hb d_M_give_6 (by decide) ?_
    refine lv_icmp_le (tgt := 14) hx hb d_M_give_7 (by decide) (fun hc6 => ?_) (fun hc6 => ?_)
    ·
      rw [if_pos hc6] at h
      refine lv_iconst (v := 0) hx hb d_M_give_14 (by decide) ?_
      exact J15 _ _ _ _ _ _ _ h (lv_sub hl [0, 1, 2] rfl) hP hD hS
    ·
      rw [if_neg hc6] at h
      exact J10 _ _ _ _ _ _ h (lv_sub hl [0, 1, 2] rfl) hP hD hS

set_option maxHeartbeats 4000000 in
set_option maxRecDepth 100000 in
theorem c_M_isNode (l : Launch) (htr : l.stackTraces = false) (dC : Nat → ClassId) (dI : Nat → Nat → Nat) (bd : Nat → Nat) (cb : Nat → ClassId) (N : Nat) (σ : vS) (a0 : Int32) (v : Int32 × vS) (h : f_M_isNode N σ a0 = some v) (sz : Nat) : Met l y_M_isNode WS ({ frames := 0, cells := 0, slots := 0, locals := 0 }) (va_Pc [.ref (bd 0), .int a0] (vq_Pre (dC, dI) CL sz (Mw bd cb σ) (Mt cb))) (va_Qi (fun (r : Int32) (_ : Unit) => r = v.1) (fun _ t => vq_Post (dC, dI) CL (va_A (Mw bd cb σ) sz) (Mw bd cb v.2) (Mt cb) t) (va_A (Mw bd cb σ) sz)) 0 0 (va_A (Mw bd cb σ) sz) := by
  refine vq_ofW (cc := prog_10_method_39_code) (maxL := 2) (ret := (Option.some Jvm.ClassFile.FieldType.boolean)) pl_M (vq_his k_502) ?_
  intro p e s m args below meth c s₁ B hml hv
  obtain ⟨rfl, hst, hsz, hP, hK, hD0⟩ := hv
  have hx := B.exec
  have hb := B.bytes
  have hr := B.returns
  have hts := atoms_spec (ws := WS) B.pre
  have hown : s.vm.findClass R_M = some m.cls := findClass_of_methodNamed B.named
  have hlocks := B.notSynchronized
  have hno := vq_noH B (hts _ k_502)
  subst hsz
  have hN := vq_ns hP
  have hD := hD0.self (sz := s.heap.size)
  generalize hAe : va_A (Mw bd cb σ) s.heap.size = A at hD hN ⊢
  have hA : ∀ q : Nat, s.heap.size ≤ q → A q := fun q h => by rw [← hAe]; exact Or.inr h
  have hS : va_S A s.heap s.heap [] := va_S.rf
  have hl := lv_entry ([.ref (bd 0), .int a0]) (n := 2) (Nat.le_of_ble_eq_true rfl)
  rw [lg_entry_eq]
  generalize (lg_sl ([.ref (bd 0), .int a0]) ++ List.replicate (2 - (lg_sl ([.ref (bd 0), .int a0])).length) Slot.unset).toArray = ls at hl ⊢
  have hl : lv_has ls 2 [(0, .ref (bd 0)), (1, .int a0)] := hl
  unfold f_M_isNode at h
  refine lv_iload_n hx hb d_M_isNode_0 rfl (lv_at hl 1 rfl) ?_
  refine lv_if_lt (tgt := 16) hx hb d_M_isNode_1 (by decide) (fun hc1 => ?_) (fun hc1 => ?_)
  ·
    rw [if_pos hc1] at h
    refine lv_iconst (v := 0) hx hb d_M_isNode_16 (by decide) ?_
    have h9 := Option.some.inj h
    rw [← h9]
    exact W.zret (v := 0) (ty := .boolean) hx hb hr (by decide) (fun t ht hW => ⟨⟨0, (), rfl, rfl, by rw [ht]; exact hP, va_K.moved hW.alike hK, hD⟩, hS.F ht⟩) hS.2.2 d_M_isNode_17
  ·
    rw [if_neg hc1] at h
    refine lv_iload_n hx hb d_M_isNode_4 rfl (lv_at hl 1 rfl) ?_
    refine lv_aload_n hx hb d_M_isNode_5 rfl (lv_at hl 0 rfl) ?_
    refine g_M_nodes dC dI bd cb σ hx hb hts hown hK hP k_490 d_M_isNode_6 ?_
    refine lv_icmp_ge (tgt := 16) hx hb d_M_isNode_9 (by decide) (fun hc2 => ?_) (fun hc2 => ?_)
    ·
      rw [if_pos hc2] at h
      refine lv_iconst (v := 0) hx hb d_M_isNode_16 (by decide) ?_
      have h9 := Option.some.inj h
      rw [← h9]
      exact W.zret (v := 0) (ty := .boolean) hx hb hr (by decide) (fun t ht hW => ⟨⟨0, (), rfl, rfl, by rw [ht]; exact hP, va_K.moved hW.alike hK, hD⟩, hS.F ht⟩) hS.2.2 d_M_isNode_17
    ·
      rw [if_neg hc2] at h
      refine lv_iconst (v := 1) hx hb d_M_isNode_12 (by decide) ?_
      refine lv_goto (tgt := 17) hx hb d_M_isNode_13 (by decide) ?_
      have h9 := Option.some.inj h
      rw [← h9]
      exact W.zret (v := 1) (ty := .boolean) hx hb hr (by decide) (fun t ht hW => ⟨⟨1, (), rfl, rfl, by rw [ht]; exact hP, va_K.moved hW.alike hK, hD⟩, hS.F ht⟩) hS.2.2 d_M_isNode_17

set_option maxHeartbeats 4000000 in
set_option maxRecDepth 100000 in
theorem c_M_start (l : Launch) (htr : l.stackTraces = false) (dC : Nat → ClassId) (dI : Nat → Nat → Nat) (bd : Nat → Nat) (cb : Nat → ClassId) (N : Nat) (σ : vS) (a0 : Int32) (v : Int32 × vS) (h : f_M_start N σ a0 = some v) (sz : Nat) : Met l y_M_start WS ({ frames := 1, cells := 0, slots := 0, locals := 21 }) (va_Pc [.ref (bd 0), .int a0] (vq_Pre (dC, dI) CL sz (Mw bd cb σ) (Mt cb))) (va_Qv (fun _ : Unit => True) (fun _ t => vq_Post (dC, dI) CL (va_A (Mw bd cb σ) sz) (Mw bd cb v.2) (Mt cb) t) (va_A (Mw bd cb σ) sz)) 0 0 (va_A (Mw bd cb σ) sz) := by
  refine vq_ofW (cc := prog_10_method_40_code) (maxL := 4) (ret := (Option.none : Option Jvm.ClassFile.FieldType)) pl_M (vq_his k_503) ?_
  intro p e s m args below meth c s₁ B hml hv
  obtain ⟨rfl, hst, hsz, hP, hK, hD0⟩ := hv
  have hx := B.exec
  have hb := B.bytes
  have hr := B.returns
  have hts := atoms_spec (ws := WS) B.pre
  have hown : s.vm.findClass R_M = some m.cls := findClass_of_methodNamed B.named
  have hlocks := B.notSynchronized
  have hno := vq_noH B (hts _ k_503)
  subst hsz
  have hN := vq_ns hP
  have hD := hD0.self (sz := s.heap.size)
  generalize hAe : va_A (Mw bd cb σ) s.heap.size = A at hD hN ⊢
  have hA : ∀ q : Nat, s.heap.size ≤ q → A q := fun q h => by rw [← hAe]; exact Or.inr h
  have hS : va_S A s.heap s.heap [] := va_S.rf
  have hl := lv_entry ([.ref (bd 0), .int a0]) (n := 4) (Nat.le_of_ble_eq_true rfl)
  rw [lg_entry_eq]
  generalize (lg_sl ([.ref (bd 0), .int a0]) ++ List.replicate (4 - (lg_sl ([.ref (bd 0), .int a0])).length) Slot.unset).toArray = ls at hl ⊢
  have hl : lv_has ls 4 [(0, .ref (bd 0)), (1, .int a0)] := hl
  unfold f_M_start at h
  refine lv_aload_n hx hb d_M_start_0 rfl (lv_at hl 0 rfl) ?_
  refine lv_aload_n hx hb d_M_start_1 rfl (lv_at hl 0 rfl) ?_
  refine g_M_analysed dC dI bd cb σ hx hb hts hown hK hP k_366 d_M_start_2 ?_
  have J25 : ∀ (τ : vS) (x1 : Int32) (y0 : Int32) (H : Heap) (locs : List Loc) (ls : Array Slot), f_M_start_25 N τ x1 y0 = some v → lv_has ls 4 [(0, .ref (bd 0)), (1, .int x1)] → va_P (dC, dI) CL (Mw bd cb τ) H → va_D A (Mw bd cb τ) → va_S A s.heap H locs → W p l e (headSpec WS ({ frames := 1, cells := 0, slots := 0, locals := 21 })).room s m ([.ref (bd 0), .int a0] : List Value).toArray below meth c H locs 0 0 (MQ below (va_Qv (fun _ : Unit => True) (fun _ t => vq_Post (dC, dI) CL A (Mw bd cb v.2) (Mt cb) t) A) ([.ref (bd 0), .int a0] : List Value).toArray s 0 0 A) (F0 m 25 ls [.int y0, .ref (bd 0)]) := by
    intro τ x1 y0 H locs ls h hl hP hD hS
    unfold f_M_start_25 at h
    refine p_M_code dC dI bd cb τ hx hb hts hown hK hP hD hS k_359 d_M_start_25 (fun H locs hP hD hS => ?_)
    obtain ⟨σ1, eσ1, h⟩ := vq_let h
    rw [← eσ1] at hP hD
    refine lv_aload_n hx hb d_M_start_28 rfl (lv_at hl 0 rfl) ?_
    refine g_M_code dC dI bd cb σ1 hx hb hts hown hK hP k_359 d_M_start_29 ?_
    refine lv_if_le (tgt := 36) hx hb d_M_start_32 (by decide) (fun hc2 => ?_) (fun hc2 => ?_)
    ·
      rw [if_pos hc2] at h
      refine lv_aload_n hx hb d_M_start_36 rfl (lv_at hl 0 rfl) ?_
      obtain ⟨q3, h4, h⟩ := vq_bi h
      have hFc := vq_freeAll hD hS hA
      refine va_callv (va_runV (As := []) (rest := []) ⟨hx, hb, hml, hown, hts⟩ (c_M_endRun l htr dC dI bd cb N σ1 q3 h4 H.size) (vq_cV WSk hts 0 rfl rfl ⟨by decide, by decide⟩ k_361 k_367 k_368 k_369 k_370 (by decide +kernel)) ⟨vq_blind, va_recv hK hP (ci := 8) (q0 := 0) rfl rfl, vq_here hst hS hN hP hK hD⟩ rfl rfl hl.1 rfl (lv_room (Nat.le_of_ble_eq_true rfl)) d_M_start_37 ⟨by decide, by decide⟩) hS (fun q _ h => hFc q h) hFc (fun u t H1 locs ht hvm hw hB hz1 hk1 hS => ?_)
      obtain ⟨hP, -, hD1⟩ := hB
      rw [ht] at hP
      have hD := hD1.weaken (fun _ _ _ h => hFc _ h)
      generalize H1 = H at hP hS ⊢
      refine W.widen (k := 0) (n := 0) (by decide) (by decide) ?_
      refine lv_iconst (v := 0) hx hb d_M_start_40 (by decide) ?_
      refine lv_istore_n (lv' := [(2, .int 0), (0, .ref (bd 0)), (1, .int x1)]) hx hb d_M_start_41 rfl hl (by decide) rfl (fun ls hl => ?_)
      have L42 : ∀ n42 : Nat, ∀ (τ : vS) (x1 : Int32) (x2 : Int32) (H : Heap) (locs : List Loc) (ls : Array Slot), f_M_start_42 N n42 τ x1 x2 = some v → lv_has ls 4 [(0, .ref (bd 0)), (1, .int x1), (2, .int x2)] → va_P (dC, dI) CL (Mw bd cb τ) H → va_D A (Mw bd cb τ) → va_S A s.heap H locs → W p l e (headSpec WS ({ frames := 1, cells := 0, slots := 0, locals := 21 })).room s m ([.ref (bd 0), .int a0] : List Value).toArray below meth c H locs 0 0 (MQ below (va_Qv (fun _ : Unit => True) (fun _ t => vq_Post (dC, dI) CL A (Mw bd cb v.2) (Mt cb) t) A) ([.ref (bd 0), .int a0] : List Value).toArray s 0 0 A) (F0 m 42 ls []) := by
        intro n42
        induction n42 with
        | zero =>
          intro τ x1 x2 H locs ls h hl hP hD hS
          rw [f_M_start_42] at h
          cases h
        | succ n42 ih42 =>
          intro τ x1 x2 H locs ls h hl hP hD hS
          rw [f_M_start_42] at h
          dsimp only at h
          refine lv_iload_n hx hb d_M_start_42 rfl (lv_at hl 2 rfl) ?_
          refine lv_aload_n hx hb d_M_start_43 rfl (lv_at hl 0 rfl) ?_
          refine g_M_nodes dC dI bd cb τ hx hb hts hown hK hP k_490 d_M_start_44 ?_
          refine lv_icmp_ge (tgt := 63) hx hb d_M_start_47 (by decide) (fun hc5 => ?_) (fun hc5 => ?_)
          ·
            rw [if_pos hc5] at h
            refine lv_aload_n hx hb d_M_start_63 rfl (lv_at hl 0 rfl) ?_
            refine g_M_symbolAt dC dI bd cb τ hx hb hts hown hK hP k_384 d_M_start_64 ?_
            refine lv_iconst (v := 4) hx hb d_M_start_67 (by decide) ?_
            refine lv_aload_n hx hb d_M_start_68 rfl (lv_at hl 0 rfl) ?_
            refine g_M_production dC dI bd cb τ hx hb hts hown hK hP k_492 d_M_start_69 ?_
            refine lv_iload_n hx hb d_M_start_72 rfl (lv_at hl 1 rfl) ?_
            obtain ⟨hi6, h⟩ := vq_bd h
            refine al_M17 dC dI bd cb τ hx hb hts hown hK hP hi6 d_M_start_73 ?_
            obtain ⟨i7, ei7, h⟩ := vq_let h
            refine vq_top ei7.symm ?_
            refine lv_imul hx hb d_M_start_74 ?_
            obtain ⟨hi8, h⟩ := vq_bd h
            refine al_M3 dC dI bd cb τ hx hb hts hown hK hP hi8 d_M_start_75 ?_
            obtain ⟨i9, ei9, h⟩ := vq_let h
            refine vq_top ei9.symm ?_
            refine lv_istore_n (lv' := [(2, .int i9), (0, .ref (bd 0)), (1, .int x1)]) hx hb d_M_start_76 rfl hl (by decide) rfl (fun ls hl => ?_)
            refine lv_iconst (v := 0) hx hb d_M_start_77 (by decide) ?_
            refine lv_istore_n (lv' := [(3, .int 0), (2, .int i9), (0, .ref (bd 0)), (1, .int x1)]) hx hb d_M_start_78 rfl hl (by decide) rfl (fun ls hl => ?_)
            have L79 : ∀ n79 : Nat, ∀ (τ : vS) (x1 : Int32) (x2 : Int32) (x3 : Int32) (H : Heap) (locs : List Loc) (ls : Array Slot), f_M_start_79 N n79 τ x1 x2 x3 = some v → lv_has ls 4 [(0, .ref (bd 0)), (1, .int x1), (2, .int x2), (3, .int x3)] → va_P (dC, dI) CL (Mw bd cb τ) H → va_D A (Mw bd cb τ) → va_S A s.heap H locs → W p l e (headSpec WS ({ frames := 1, cells := 0, slots := 0, locals := 21 })).room s m ([.ref (bd 0), .int a0] : List Value).toArray below meth c H locs 0 0 (MQ below (va_Qv (fun _ : Unit => True) (fun _ t => vq_Post (dC, dI) CL A (Mw bd cb v.2) (Mt cb) t) A) ([.ref (bd 0), .int a0] : List Value).toArray s 0 0 A) (F0 m 79 ls []) := by
              intro n79
              induction n79 with
              | zero =>
                intro τ x1 x2 x3 H locs ls h hl hP hD hS
                rw [f_M_start_79] at h
                cases h
              | succ n79 ih79 =>
                intro τ x1 x2 x3 H locs ls h hl hP hD hS
                rw [f_M_start_79] at h
                dsimp only at h
                refine lv_iload_n hx hb d_M_start_79 rfl (lv_at hl 3 rfl) ?_
                refine lv_iconst (v := 4) hx hb d_M_start_80 (by decide) ?_
                refine lv_icmp_ge (tgt := 126) hx hb d_M_start_81 (by decide) (fun hc10 => ?_) (fun hc10 => ?_)
                ·
                  rw [if_pos hc10] at h
                  refine lv_aload_n hx hb d_M_start_126 rfl (lv_at hl 0 rfl) ?_
                  refine lv_iload_n hx hb d_M_start_127 rfl (lv_at hl 1 rfl) ?_
                  refine p_M_root dC dI bd cb τ hx hb hts hown hK hP hD hS k_362 d_M_start_128 (fun H locs hP hD hS => ?_)
                  obtain ⟨σ11, eσ11, h⟩ := vq_let h
                  rw [← eσ11] at hP hD
                  refine lv_aload_n hx hb d_M_start_131 rfl (lv_at hl 0 rfl) ?_
                  refine lv_iload_n hx hb d_M_start_132 rfl (lv_at hl 1 rfl) ?_
                  refine p_M_hand dC dI bd cb σ11 hx hb hts hown hK hP hD hS k_363 d_M_start_133 (fun H locs hP hD hS => ?_)
                  obtain ⟨σ12, eσ12, h⟩ := vq_let h
                  rw [← eσ12] at hP hD
                  have h9 := Option.some.inj h
                  rw [← h9]
                  exact W.vret hx hb hr (fun t ht hW => ⟨⟨(), rfl, trivial, by rw [ht]; exact hP, va_K.moved hW.alike hK, hD⟩, hS.F ht⟩) hS.2.2 d_M_start_136
                ·
                  rw [if_neg hc10] at h
                  refine lv_aload_n hx hb d_M_start_84 rfl (lv_at hl 0 rfl) ?_
                  refine g_M_known dC dI bd cb τ hx hb hts hown hK hP k_364 d_M_start_85 ?_
                  refine lv_iconst (v := 4) hx hb d_M_start_88 (by decide) ?_
                  refine lv_iload_n hx hb d_M_start_89 rfl (lv_at hl 1 rfl) ?_
                  refine lv_imul hx hb d_M_start_90 ?_
                  refine lv_iload_n hx hb d_M_start_91 rfl (lv_at hl 3 rfl) ?_
                  refine lv_iadd hx hb d_M_start_92 ?_
                  refine lv_aload_n hx hb d_M_start_93 rfl (lv_at hl 0 rfl) ?_
                  refine g_M_inherits dC dI bd cb τ hx hb hts hown hK hP k_377 d_M_start_94 ?_
                  refine lv_iconst (v := 4) hx hb d_M_start_97 (by decide) ?_
                  refine lv_iload_n hx hb d_M_start_98 rfl (lv_at hl 2 rfl) ?_
                  refine lv_imul hx hb d_M_start_99 ?_
                  refine lv_iload_n hx hb d_M_start_100 rfl (lv_at hl 3 rfl) ?_
                  refine lv_iadd hx hb d_M_start_101 ?_
                  obtain ⟨hi13, h⟩ := vq_bd h
                  refine al_M1 dC dI bd cb τ hx hb hts hown hK hP hi13 d_M_start_102 ?_
                  obtain ⟨i14, ei14, h⟩ := vq_let h
                  refine vq_top ei14.symm ?_
                  obtain ⟨hi15, h⟩ := vq_bd h
                  refine as_M22 dC dI bd cb τ hx hb hts hown hK hP hD hS hi15 d_M_start_103 (fun H locs hP hD hS => ?_)
                  obtain ⟨σ16, eσ16, h⟩ := vq_let h
                  rw [← eσ16] at hP hD
                  refine lv_aload_n hx hb d_M_start_104 rfl (lv_at hl 0 rfl) ?_
                  refine g_M_value dC dI bd cb σ16 hx hb hts hown hK hP k_504 d_M_start_105 ?_
                  refine lv_iconst (v := 4) hx hb d_M_start_108 (by decide) ?_
                  refine lv_iload_n hx hb d_M_start_109 rfl (lv_at hl 1 rfl) ?_
                  refine lv_imul hx hb d_M_start_110 ?_
                  refine lv_iload_n hx hb d_M_start_111 rfl (lv_at hl 3 rfl) ?_
                  refine lv_iadd hx hb d_M_start_112 ?_
                  refine lv_aload_n hx hb d_M_start_113 rfl (lv_at hl 0 rfl) ?_
                  refine g_M_given dC dI bd cb σ16 hx hb hts hown hK hP k_501 d_M_start_114 ?_
                  refine lv_iload_n hx hb d_M_start_117 rfl (lv_at hl 3 rfl) ?_
                  obtain ⟨hi17, h⟩ := vq_bd h
                  refine al_M24 dC dI bd cb σ16 hx hb hts hown hK hP hi17 d_M_start_118 ?_
                  obtain ⟨i18, ei18, h⟩ := vq_let h
                  refine vq_top ei18.symm ?_
                  obtain ⟨hi19, h⟩ := vq_bd h
                  refine as_M23 dC dI bd cb σ16 hx hb hts hown hK hP hD hS hi19 d_M_start_119 (fun H locs hP hD hS => ?_)
                  obtain ⟨σ20, eσ20, h⟩ := vq_let h
                  rw [← eσ20] at hP hD
                  refine lv_iinc (k := 3) (v := (x3 + 1)) (lv' := [(3, .int (x3 + 1)), (0, .ref (bd 0)), (1, .int x1), (2, .int x2)]) hx hb d_M_start_120 hl rfl rfl (by decide) rfl (fun ls hl => ?_)
                  refine lv_goto (tgt := 79) hx hb d_M_start_123 (by decide) ?_
                  exact ih79 _ _ _ _ _ _ _ h (lv_sub hl [1, 2, 3, 0] rfl) hP hD hS
            exact L79 N _ _ _ _ _ _ _ h (lv_sub hl [2, 3, 1, 0] rfl) hP hD hS
          ·
            rw [if_neg hc5] at h
            refine lv_aload_n hx hb d_M_start_50 rfl (lv_at hl 0 rfl) ?_
            refine g_M_next dC dI bd cb τ hx hb hts hown hK hP k_505 d_M_start_51 ?_
            refine lv_iload_n hx hb d_M_start_54 rfl (lv_at hl 2 rfl) ?_
            refine lv_iconst (v := 0) hx hb d_M_start_55 (by decide) ?_
            obtain ⟨hi21, h⟩ := vq_bd h
            refine as_M21 dC dI bd cb τ hx hb hts hown hK hP hD hS hi21 d_M_start_56 (fun H locs hP hD hS => ?_)
            obtain ⟨σ22, eσ22, h⟩ := vq_let h
            rw [← eσ22] at hP hD
            refine lv_iinc (k := 2) (v := (x2 + 1)) (lv' := [(2, .int (x2 + 1)), (0, .ref (bd 0)), (1, .int x1)]) hx hb d_M_start_57 hl rfl rfl (by decide) rfl (fun ls hl => ?_)
            refine lv_goto (tgt := 42) hx hb d_M_start_60 (by decide) ?_
            exact ih42 _ _ _ _ _ _ h (lv_sub hl [1, 2, 0] rfl) hP hD hS
      exact L42 N _ _ _ _ _ _ h (lv_sub hl [1, 2, 0] rfl) hP hD hS
    ·
      rw [if_neg hc2] at h
      have h9 := Option.some.inj h
      rw [← h9]
      exact W.vret hx hb hr (fun t ht hW => ⟨⟨(), rfl, trivial, by rw [ht]; exact hP, va_K.moved hW.alike hK, hD⟩, hS.F ht⟩) hS.2.2 d_M_start_35
  refine lv_if_ne (tgt := 12) hx hb d_M_start_5 (by decide) (fun hc23 => ?_) (fun hc23 => ?_)
  ·
    rw [if_neg hc23] at h
    refine lv_aload_n hx hb d_M_start_12 rfl (lv_at hl 0 rfl) ?_
    refine lv_iload_n hx hb d_M_start_13 rfl (lv_at hl 1 rfl) ?_
    obtain ⟨q24, h25, h⟩ := vq_bi h
    have hFc := vq_freeAll hD hS hA
    refine va_calli (va_runV (As := [.int a0]) (rest := [.ref (bd 0)]) ⟨hx, hb, hml, hown, hts⟩ (c_M_isNode l htr dC dI bd cb N σ a0 q24 h25 s.heap.size) (vq_cV WSk hts 1 rfl rfl ⟨by decide, by decide⟩ k_502 k_367 k_506 k_507 k_508 (by decide +kernel)) ⟨vq_blind, va_recv hK hP (ci := 8) (q0 := 0) rfl rfl, vq_here hst hS hN hP hK hD⟩ rfl rfl hl.1 rfl (lv_room (Nat.le_of_ble_eq_true rfl)) d_M_start_14 ⟨by decide, by decide⟩) hS (fun q _ h => hFc q h) hFc (fun r u t H1 locs ht hvm hw hB hz1 hk1 hS => ?_)
    obtain ⟨hP, -, hD1⟩ := hB
    rw [ht] at hP
    have hD := hD1.weaken (fun _ _ _ h => hFc _ h)
    have hw : r = q24.1 := hw
    subst hw
    generalize H1 = H at hP hS ⊢
    refine W.widen (k := 0) (n := 0) (by decide) (by decide) ?_
    refine lv_if_eq (tgt := 24) hx hb d_M_start_17 (by decide) (fun hc26 => ?_) (fun hc26 => ?_)
    ·
      rw [if_pos hc26] at h
      refine lv_iconst (v := 2) hx hb d_M_start_24 (by decide) ?_
      exact J25 _ _ _ _ _ _ h (lv_sub hl [0, 1] rfl) hP hD hS
    ·
      rw [if_neg hc26] at h
      refine lv_iconst (v := 0) hx hb d_M_start_20 (by decide) ?_
      refine lv_goto (tgt := 25) hx hb d_M_start_21 (by decide) ?_
      exact J25 _ _ _ _ _ _ h (lv_sub hl [0, 1] rfl) hP hD hS
  ·
    rw [if_pos hc23] at h
    refine lv_iconst (v := 1) hx hb d_M_start_8 (by decide) ?_
    refine lv_goto (tgt := 25) hx hb d_M_start_9 (by decide) ?_
    exact J25 _ _ _ _ _ _ h (lv_sub hl [0, 1] rfl) hP hD hS

set_option maxHeartbeats 4000000 in
set_option maxRecDepth 100000 in
theorem c_M_cell (l : Launch) (htr : l.stackTraces = false) (dC : Nat → ClassId) (dI : Nat → Nat → Nat) (bd : Nat → Nat) (cb : Nat → ClassId) (N : Nat) (σ : vS) (a0 : Int32) (a1 : Int32) (v : Int32 × vS) (h : f_M_cell N σ a0 a1 = some v) (sz : Nat) : Met l y_M_cell WS ({ frames := 0, cells := 0, slots := 0, locals := 0 }) (va_Pc [.ref (bd 0), .int a0, .int a1] (vq_Pre (dC, dI) CL sz (Mw bd cb σ) (Mt cb))) (va_Qi (fun (r : Int32) (_ : Unit) => r = v.1) (fun _ t => vq_Post (dC, dI) CL (va_A (Mw bd cb σ) sz) (Mw bd cb v.2) (Mt cb) t) (va_A (Mw bd cb σ) sz)) 0 0 (va_A (Mw bd cb σ) sz) := by
  refine vq_ofW (cc := prog_10_method_41_code) (maxL := 3) (ret := (Option.some Jvm.ClassFile.FieldType.int)) pl_M (vq_his k_509) ?_
  intro p e s m args below meth c s₁ B hml hv
  obtain ⟨rfl, hst, hsz, hP, hK, hD0⟩ := hv
  have hx := B.exec
  have hb := B.bytes
  have hr := B.returns
  have hts := atoms_spec (ws := WS) B.pre
  have hown : s.vm.findClass R_M = some m.cls := findClass_of_methodNamed B.named
  have hlocks := B.notSynchronized
  have hno := vq_noH B (hts _ k_509)
  subst hsz
  have hN := vq_ns hP
  have hD := hD0.self (sz := s.heap.size)
  generalize hAe : va_A (Mw bd cb σ) s.heap.size = A at hD hN ⊢
  have hA : ∀ q : Nat, s.heap.size ≤ q → A q := fun q h => by rw [← hAe]; exact Or.inr h
  have hS : va_S A s.heap s.heap [] := va_S.rf
  have hl := lv_entry ([.ref (bd 0), .int a0, .int a1]) (n := 3) (Nat.le_of_ble_eq_true rfl)
  rw [lg_entry_eq]
  generalize (lg_sl ([.ref (bd 0), .int a0, .int a1]) ++ List.replicate (3 - (lg_sl ([.ref (bd 0), .int a0, .int a1])).length) Slot.unset).toArray = ls at hl ⊢
  have hl : lv_has ls 3 [(0, .ref (bd 0)), (1, .int a0), (2, .int a1)] := hl
  unfold f_M_cell at h
  refine lv_iconst (v := 4) hx hb d_M_cell_0 (by decide) ?_
  refine lv_iload_n hx hb d_M_cell_1 rfl (lv_at hl 2 rfl) ?_
  refine lv_iconst (v := 4) hx hb d_M_cell_2 (by decide) ?_
  have J24 : ∀ (τ : vS) (x2 : Int32) (y0 : Int32) (y1 : Int32) (H : Heap) (locs : List Loc) (ls : Array Slot), f_M_cell_24 N τ x2 y0 y1 = some v → lv_has ls 3 [(2, .int x2)] → va_P (dC, dI) CL (Mw bd cb τ) H → va_D A (Mw bd cb τ) → va_S A s.heap H locs → W p l e (headSpec WS ({ frames := 0, cells := 0, slots := 0, locals := 0 })).room s m ([.ref (bd 0), .int a0, .int a1] : List Value).toArray below meth c H locs 0 0 (MQ below (va_Qi (fun (r : Int32) (_ : Unit) => r = v.1) (fun _ t => vq_Post (dC, dI) CL A (Mw bd cb v.2) (Mt cb) t) A) ([.ref (bd 0), .int a0, .int a1] : List Value).toArray s 0 0 A) (F0 m 24 ls [.int y0, .int y1]) := by
    intro τ x2 y0 y1 H locs ls h hl hP hD hS
    unfold f_M_cell_24 at h
    refine lv_imul hx hb d_M_cell_24 ?_
    refine lv_iload_n hx hb d_M_cell_25 rfl (lv_at hl 0 rfl) ?_
    refine lv_iconst (v := 4) hx hb d_M_cell_26 (by decide) ?_
    refine lv_irem hx hb d_M_cell_27 (by decide) ?_
    refine lv_iadd hx hb d_M_cell_28 ?_
    have h9 := Option.some.inj h
    rw [← h9]
    exact W.iret (v := ((y1 * y0) + (x2 - x2 / 4 * 4))) hx hb hr (fun t ht hW => ⟨⟨((y1 * y0) + (x2 - x2 / 4 * 4)), (), rfl, rfl, by rw [ht]; exact hP, va_K.moved hW.alike hK, hD⟩, hS.F ht⟩) hS.2.2 d_M_cell_29
  refine lv_icmp_ge (tgt := 10) hx hb d_M_cell_3 (by decide) (fun hc1 => ?_) (fun hc1 => ?_)
  ·
    rw [if_pos hc1] at h
    refine lv_aload_n hx hb d_M_cell_10 rfl (lv_at hl 0 rfl) ?_
    refine g_M_child dC dI bd cb σ hx hb hts hown hK hP k_495 d_M_cell_11 ?_
    refine lv_iconst (v := 3) hx hb d_M_cell_14 (by decide) ?_
    refine lv_iload_n hx hb d_M_cell_15 rfl (lv_at hl 1 rfl) ?_
    refine lv_imul hx hb d_M_cell_16 ?_
    refine lv_iload_n hx hb d_M_cell_17 rfl (lv_at hl 2 rfl) ?_
    refine lv_iconst (v := 4) hx hb d_M_cell_18 (by decide) ?_
    refine lv_idiv hx hb d_M_cell_19 (by decide) ?_
    refine lv_iadd hx hb d_M_cell_20 ?_
    refine lv_iconst (v := 1) hx hb d_M_cell_21 (by decide) ?_
    refine lv_isub hx hb d_M_cell_22 ?_
    obtain ⟨i2, ei2, h⟩ := vq_let h
    refine vq_top ei2.symm ?_
    obtain ⟨hi3, h⟩ := vq_bd h
    refine al_M19 dC dI bd cb σ hx hb hts hown hK hP hi3 d_M_cell_23 ?_
    obtain ⟨i4, ei4, h⟩ := vq_let h
    refine vq_top ei4.symm ?_
    exact J24 _ _ _ _ _ _ _ h (lv_sub hl [2] rfl) hP hD hS
  ·
    rw [if_neg hc1] at h
    refine lv_iload_n hx hb d_M_cell_6 rfl (lv_at hl 1 rfl) ?_
    refine lv_goto (tgt := 24) hx hb d_M_cell_7 (by decide) ?_
    exact J24 _ _ _ _ _ _ _ h (lv_sub hl [2] rfl) hP hD hS

set_option maxHeartbeats 4000000 in
set_option maxRecDepth 100000 in
theorem c_M_worth (l : Launch) (htr : l.stackTraces = false) (dC : Nat → ClassId) (dI : Nat → Nat → Nat) (bd : Nat → Nat) (cb : Nat → ClassId) (N : Nat) (σ : vS) (a0 : Int32) (a1 : Int32) (v : Int32 × vS) (h : f_M_worth N σ a0 a1 = some v) (sz : Nat) : Met l y_M_worth WS ({ frames := 1, cells := 0, slots := 0, locals := 22 }) (va_Pc [.ref (bd 0), .int a0, .int a1] (vq_Pre (dC, dI) CL sz (Mw bd cb σ) (Mt cb))) (va_Qi (fun (r : Int32) (_ : Unit) => r = v.1) (fun _ t => vq_Post (dC, dI) CL (va_A (Mw bd cb σ) sz) (Mw bd cb v.2) (Mt cb) t) (va_A (Mw bd cb σ) sz)) 0 0 (va_A (Mw bd cb σ) sz) := by
  refine vq_ofW (cc := prog_10_method_42_code) (maxL := 7) (ret := (Option.some Jvm.ClassFile.FieldType.int)) pl_M (vq_his k_510) ?_
  intro p e s m args below meth c s₁ B hml hv
  obtain ⟨rfl, hst, hsz, hP, hK, hD0⟩ := hv
  have hx := B.exec
  have hb := B.bytes
  have hr := B.returns
  have hts := atoms_spec (ws := WS) B.pre
  have hown : s.vm.findClass R_M = some m.cls := findClass_of_methodNamed B.named
  have hlocks := B.notSynchronized
  have hno := vq_noH B (hts _ k_510)
  subst hsz
  have hN := vq_ns hP
  have hD := hD0.self (sz := s.heap.size)
  generalize hAe : va_A (Mw bd cb σ) s.heap.size = A at hD hN ⊢
  have hA : ∀ q : Nat, s.heap.size ≤ q → A q := fun q h => by rw [← hAe]; exact Or.inr h
  have hS : va_S A s.heap s.heap [] := va_S.rf
  have hl := lv_entry ([.ref (bd 0), .int a0, .int a1]) (n := 7) (Nat.le_of_ble_eq_true rfl)
  rw [lg_entry_eq]
  generalize (lg_sl ([.ref (bd 0), .int a0, .int a1]) ++ List.replicate (7 - (lg_sl ([.ref (bd 0), .int a0, .int a1])).length) Slot.unset).toArray = ls at hl ⊢
  have hl : lv_has ls 7 [(0, .ref (bd 0)), (1, .int a0), (2, .int a1)] := hl
  unfold f_M_worth at h
  refine lv_bipush (v := 16) hx hb d_M_worth_0 (by decide) ?_
  refine lv_aload_n hx hb d_M_worth_2 rfl (lv_at hl 0 rfl) ?_
  refine g_M_production dC dI bd cb σ hx hb hts hown hK hP k_492 d_M_worth_3 ?_
  refine lv_iload_n hx hb d_M_worth_6 rfl (lv_at hl 1 rfl) ?_
  obtain ⟨hi1, h⟩ := vq_bd h
  refine al_M17 dC dI bd cb σ hx hb hts hown hK hP hi1 d_M_worth_7 ?_
  obtain ⟨i2, ei2, h⟩ := vq_let h
  refine vq_top ei2.symm ?_
  refine lv_imul hx hb d_M_worth_8 ?_
  refine lv_iload_n hx hb d_M_worth_9 rfl (lv_at hl 2 rfl) ?_
  refine lv_iadd hx hb d_M_worth_10 ?_
  refine lv_istore_n (lv' := [(3, .int (((16 : Int32) * i2) + a1)), (0, .ref (bd 0)), (1, .int a0), (2, .int a1)]) hx hb d_M_worth_11 rfl hl (by decide) rfl (fun ls hl => ?_)
  refine lv_aload_n hx hb d_M_worth_12 rfl (lv_at hl 1 rfl) ?_
  refine g_M_form dC dI bd cb σ hx hb hts hown hK hP k_399 d_M_worth_13 ?_
  refine lv_iload_n hx hb d_M_worth_16 rfl (lv_at hl 0 rfl) ?_
  obtain ⟨hi3, h⟩ := vq_bd h
  refine al_M4 dC dI bd cb σ hx hb hts hown hK hP hi3 d_M_worth_17 ?_
  obtain ⟨i4, ei4, h⟩ := vq_let h
  refine vq_top ei4.symm ?_
  refine lv_istore (lv' := [(4, .int i4), (3, .int (((16 : Int32) * i2) + a1)), (0, .ref (bd 0)), (1, .int a0), (2, .int a1)]) hx hb d_M_worth_18 hl (by decide) rfl (fun ls hl => ?_)
  refine lv_iload hx hb d_M_worth_20 (lv_at hl 0 rfl) ?_
  obtain ⟨q5, h6, h⟩ := vq_bi h
  have hKe := hK.sub (tys' := []) [] rfl
  refine va_calli (va_runS (As := [.int i4]) (rest := []) ⟨hx, hb, hml, hown, hts⟩ (c_M_needs l htr dC dI N i4 q5 h6 s.heap.size) (vq_cS WSk hts 1 rfl rfl ⟨by decide, by decide⟩ k_5 k_367 k_402 k_403 (by decide +kernel)) ⟨vq_blind, vq_here hst hS hN vq_P0 hKe vq_D0⟩ rfl rfl hl.1 rfl (lv_room (Nat.le_of_ble_eq_true rfl)) d_M_worth_22 ⟨by decide, by decide⟩) hS (fun q _ h => vq_keepA h (fun hz => hA q (Nat.le_trans hS.1 hz))) (fun q h => vq_keepA h (fun hz => hA q (Nat.le_trans hS.1 hz))) (fun r u t H1 locs ht hvm hw hB hz1 hk1 hS => ?_)
  have hw : r = q5 := hw
  rw [hw]
  have hP := vq_keepP hP hk1
  generalize H1 = H at hP hS ⊢
  refine W.widen (k := 0) (n := 0) (by decide) (by decide) ?_
  have J48 : ∀ (τ : vS) (x1 : Int32) (x3 : Int32) (x4 : Int32) (y0 : Int32) (H : Heap) (locs : List Loc) (ls : Array Slot), f_M_worth_48 N τ x1 x3 x4 y0 = some v → lv_has ls 7 [(0, .ref (bd 0)), (1, .int x1), (3, .int x3), (4, .int x4)] → va_P (dC, dI) CL (Mw bd cb τ) H → va_D A (Mw bd cb τ) → va_S A s.heap H locs → W p l e (headSpec WS ({ frames := 1, cells := 0, slots := 0, locals := 22 })).room s m ([.ref (bd 0), .int a0, .int a1] : List Value).toArray below meth c H locs 0 0 (MQ below (va_Qi (fun (r : Int32) (_ : Unit) => r = v.1) (fun _ t => vq_Post (dC, dI) CL A (Mw bd cb v.2) (Mt cb) t) A) ([.ref (bd 0), .int a0, .int a1] : List Value).toArray s 0 0 A) (F0 m 48 ls [.int y0]) := by
    intro τ x1 x3 x4 y0 H locs ls h hl hP hD hS
    unfold f_M_worth_48 at h
    refine lv_istore (lv' := [(5, .int y0), (0, .ref (bd 0)), (1, .int x1), (3, .int x3), (4, .int x4)]) hx hb d_M_worth_48 hl (by decide) rfl (fun ls hl => ?_)
    refine lv_iload hx hb d_M_worth_50 (lv_at hl 4 rfl) ?_
    obtain ⟨q7, h8, h⟩ := vq_bi h
    have hKe := hK.sub (tys' := []) [] rfl
    refine va_calli (va_runS (As := [.int x4]) (rest := []) ⟨hx, hb, hml, hown, hts⟩ (c_M_needs l htr dC dI N x4 q7 h8 H.size) (vq_cS WSk hts 1 rfl rfl ⟨by decide, by decide⟩ k_5 k_367 k_402 k_403 (by decide +kernel)) ⟨vq_blind, vq_here hst hS hN vq_P0 hKe vq_D0⟩ rfl rfl hl.1 rfl (lv_room (Nat.le_of_ble_eq_true rfl)) d_M_worth_52 ⟨by decide, by decide⟩) hS (fun q _ h => vq_keepA h (fun hz => hA q (Nat.le_trans hS.1 hz))) (fun q h => vq_keepA h (fun hz => hA q (Nat.le_trans hS.1 hz))) (fun r u t H1 locs ht hvm hw hB hz1 hk1 hS => ?_)
    have hw : r = q7 := hw
    rw [hw]
    have hP := vq_keepP hP hk1
    generalize H1 = H at hP hS ⊢
    refine W.widen (k := 0) (n := 0) (by decide) (by decide) ?_
    refine lv_iconst (v := 1) hx hb d_M_worth_55 (by decide) ?_
    have J79 : ∀ (τ : vS) (x1 : Int32) (x3 : Int32) (x4 : Int32) (x5 : Int32) (y0 : Int32) (H : Heap) (locs : List Loc) (ls : Array Slot), f_M_worth_79 N τ x1 x3 x4 x5 y0 = some v → lv_has ls 7 [(0, .ref (bd 0)), (1, .int x1), (3, .int x3), (4, .int x4), (5, .int x5)] → va_P (dC, dI) CL (Mw bd cb τ) H → va_D A (Mw bd cb τ) → va_S A s.heap H locs → W p l e (headSpec WS ({ frames := 1, cells := 0, slots := 0, locals := 22 })).room s m ([.ref (bd 0), .int a0, .int a1] : List Value).toArray below meth c H locs 0 0 (MQ below (va_Qi (fun (r : Int32) (_ : Unit) => r = v.1) (fun _ t => vq_Post (dC, dI) CL A (Mw bd cb v.2) (Mt cb) t) A) ([.ref (bd 0), .int a0, .int a1] : List Value).toArray s 0 0 A) (F0 m 79 ls [.int y0]) := by
      intro τ x1 x3 x4 x5 y0 H locs ls h hl hP hD hS
      unfold f_M_worth_79 at h
      refine lv_istore (lv' := [(6, .int y0), (0, .ref (bd 0)), (1, .int x1), (3, .int x3), (4, .int x4), (5, .int x5)]) hx hb d_M_worth_79 hl (by decide) rfl (fun ls hl => ?_)
      refine lv_iload hx hb d_M_worth_81 (lv_at hl 4 rfl) ?_
      by_cases hc9 : x4 = 0
      ·
        rw [if_pos hc9] at h
        refine vq_top (y := 0) hc9 ?_
        refine lv_tableIn (x := 0) (off := 41) (tgt := 124) hx hb d_M_worth_83 (by decide) (by decide) (by decide) (by decide) ?_
        refine lv_aload_n hx hb d_M_worth_124 rfl (lv_at hl 1 rfl) ?_
        refine g_M_ruleX dC dI bd cb τ hx hb hts hown hK hP k_400 d_M_worth_125 ?_
        refine lv_iload_n hx hb d_M_worth_128 rfl (lv_at hl 3 rfl) ?_
        obtain ⟨hi10, h⟩ := vq_bd h
        refine al_M5 dC dI bd cb τ hx hb hts hown hK hP hi10 d_M_worth_129 ?_
        obtain ⟨i11, ei11, h⟩ := vq_let h
        refine vq_top ei11.symm ?_
        have h9 := Option.some.inj h
        rw [← h9]
        exact W.iret (v := i11) hx hb hr (fun t ht hW => ⟨⟨i11, (), rfl, rfl, by rw [ht]; exact hP, va_K.moved hW.alike hK, hD⟩, hS.F ht⟩) hS.2.2 d_M_worth_130
      rw [if_neg hc9] at h
      by_cases hc12 : x4 = 1
      ·
        rw [if_pos hc12] at h
        refine vq_top (y := 1) hc12 ?_
        refine lv_tableIn (x := 1) (off := 48) (tgt := 131) hx hb d_M_worth_83 (by decide) (by decide) (by decide) (by decide) ?_
        refine lv_aload_n hx hb d_M_worth_131 rfl (lv_at hl 1 rfl) ?_
        refine g_M_token dC dI bd cb τ hx hb hts hown hK hP k_494 d_M_worth_132 ?_
        refine lv_iload_n hx hb d_M_worth_135 rfl (lv_at hl 2 rfl) ?_
        obtain ⟨hi13, h⟩ := vq_bd h
        refine al_M18 dC dI bd cb τ hx hb hts hown hK hP hi13 d_M_worth_136 ?_
        obtain ⟨i14, ei14, h⟩ := vq_let h
        refine vq_top ei14.symm ?_
        have h9 := Option.some.inj h
        rw [← h9]
        exact W.iret (v := i14) hx hb hr (fun t ht hW => ⟨⟨i14, (), rfl, rfl, by rw [ht]; exact hP, va_K.moved hW.alike hK, hD⟩, hS.F ht⟩) hS.2.2 d_M_worth_137
      rw [if_neg hc12] at h
      by_cases hc15 : x4 = 2
      ·
        rw [if_pos hc15] at h
        refine vq_top (y := 2) hc15 ?_
        refine lv_tableIn (x := 2) (off := 55) (tgt := 138) hx hb d_M_worth_83 (by decide) (by decide) (by decide) (by decide) ?_
        refine lv_iload hx hb d_M_worth_138 (lv_at hl 5 rfl) ?_
        have h9 := Option.some.inj h
        rw [← h9]
        exact W.iret (v := x5) hx hb hr (fun t ht hW => ⟨⟨x5, (), rfl, rfl, by rw [ht]; exact hP, va_K.moved hW.alike hK, hD⟩, hS.F ht⟩) hS.2.2 d_M_worth_140
      rw [if_neg hc15] at h
      by_cases hc16 : x4 = 3
      ·
        rw [if_pos hc16] at h
        refine vq_top (y := 3) hc16 ?_
        refine lv_tableIn (x := 3) (off := 58) (tgt := 141) hx hb d_M_worth_83 (by decide) (by decide) (by decide) (by decide) ?_
        refine lv_iload hx hb d_M_worth_141 (lv_at hl 5 rfl) ?_
        refine lv_iload hx hb d_M_worth_143 (lv_at hl 0 rfl) ?_
        refine lv_iadd hx hb d_M_worth_145 ?_
        have h9 := Option.some.inj h
        rw [← h9]
        exact W.iret (v := (x5 + y0)) hx hb hr (fun t ht hW => ⟨⟨(x5 + y0), (), rfl, rfl, by rw [ht]; exact hP, va_K.moved hW.alike hK, hD⟩, hS.F ht⟩) hS.2.2 d_M_worth_146
      rw [if_neg hc16] at h
      by_cases hc17 : x4 = 4
      ·
        rw [if_pos hc17] at h
        refine vq_top (y := 4) hc17 ?_
        refine lv_tableIn (x := 4) (off := 64) (tgt := 147) hx hb d_M_worth_83 (by decide) (by decide) (by decide) (by decide) ?_
        refine lv_iload hx hb d_M_worth_147 (lv_at hl 5 rfl) ?_
        refine lv_iload hx hb d_M_worth_149 (lv_at hl 0 rfl) ?_
        refine lv_isub hx hb d_M_worth_151 ?_
        have h9 := Option.some.inj h
        rw [← h9]
        exact W.iret (v := (x5 - y0)) hx hb hr (fun t ht hW => ⟨⟨(x5 - y0), (), rfl, rfl, by rw [ht]; exact hP, va_K.moved hW.alike hK, hD⟩, hS.F ht⟩) hS.2.2 d_M_worth_152
      rw [if_neg hc17] at h
      by_cases hc18 : x4 = 5
      ·
        rw [if_pos hc18] at h
        refine vq_top (y := 5) hc18 ?_
        refine lv_tableIn (x := 5) (off := 70) (tgt := 153) hx hb d_M_worth_83 (by decide) (by decide) (by decide) (by decide) ?_
        refine lv_iload hx hb d_M_worth_153 (lv_at hl 5 rfl) ?_
        refine lv_iload hx hb d_M_worth_155 (lv_at hl 0 rfl) ?_
        refine lv_imul hx hb d_M_worth_157 ?_
        have h9 := Option.some.inj h
        rw [← h9]
        exact W.iret (v := (x5 * y0)) hx hb hr (fun t ht hW => ⟨⟨(x5 * y0), (), rfl, rfl, by rw [ht]; exact hP, va_K.moved hW.alike hK, hD⟩, hS.F ht⟩) hS.2.2 d_M_worth_158
      rw [if_neg hc18] at h
      by_cases hc19 : x4 = 6
      ·
        rw [if_pos hc19] at h
        refine vq_top (y := 6) hc19 ?_
        refine lv_tableIn (x := 6) (off := 76) (tgt := 159) hx hb d_M_worth_83 (by decide) (by decide) (by decide) (by decide) ?_
        refine lv_iload hx hb d_M_worth_159 (lv_at hl 5 rfl) ?_
        refine lv_iload hx hb d_M_worth_161 (lv_at hl 0 rfl) ?_
        refine lv_icmp_ge (tgt := 171) hx hb d_M_worth_163 (by decide) (fun hc20 => ?_) (fun hc20 => ?_)
        ·
          rw [if_pos hc20] at h
          refine lv_iload hx hb d_M_worth_171 (lv_at hl 5 rfl) ?_
          have h9 := Option.some.inj h
          rw [← h9]
          exact W.iret (v := x5) hx hb hr (fun t ht hW => ⟨⟨x5, (), rfl, rfl, by rw [ht]; exact hP, va_K.moved hW.alike hK, hD⟩, hS.F ht⟩) hS.2.2 d_M_worth_173
        ·
          rw [if_neg hc20] at h
          refine lv_iload hx hb d_M_worth_166 (lv_at hl 0 rfl) ?_
          refine lv_goto (tgt := 173) hx hb d_M_worth_168 (by decide) ?_
          have h9 := Option.some.inj h
          rw [← h9]
          exact W.iret (v := y0) hx hb hr (fun t ht hW => ⟨⟨y0, (), rfl, rfl, by rw [ht]; exact hP, va_K.moved hW.alike hK, hD⟩, hS.F ht⟩) hS.2.2 d_M_worth_173
      rw [if_neg hc19] at h
      refine lv_tableOut (tgt := 174) hx hb d_M_worth_83 (vq_out7 hc9 hc12 hc15 hc16 hc17 hc18 hc19) (by decide) ?_
      refine lv_aload_n hx hb d_M_worth_174 rfl (lv_at hl 1 rfl) ?_
      refine g_M_token dC dI bd cb τ hx hb hts hown hK hP k_494 d_M_worth_175 ?_
      refine lv_iload_n hx hb d_M_worth_178 rfl (lv_at hl 2 rfl) ?_
      obtain ⟨hi21, h⟩ := vq_bd h
      refine al_M18 dC dI bd cb τ hx hb hts hown hK hP hi21 d_M_worth_179 ?_
      obtain ⟨i22, ei22, h⟩ := vq_let h
      refine vq_top ei22.symm ?_
      refine lv_iload hx hb d_M_worth_180 (lv_at hl 5 rfl) ?_
      refine lv_iadd hx hb d_M_worth_182 ?_
      have h9 := Option.some.inj h
      rw [← h9]
      exact W.iret (v := (i22 + x5)) hx hb hr (fun t ht hW => ⟨⟨(i22 + x5), (), rfl, rfl, by rw [ht]; exact hP, va_K.moved hW.alike hK, hD⟩, hS.F ht⟩) hS.2.2 d_M_worth_183
    refine lv_icmp_le (tgt := 78) hx hb d_M_worth_56 (by decide) (fun hc23 => ?_) (fun hc23 => ?_)
    ·
      rw [if_pos hc23] at h
      refine lv_iconst (v := 0) hx hb d_M_worth_78 (by decide) ?_
      exact J79 _ _ _ _ _ _ _ _ _ h (lv_sub hl [1, 2, 3, 4, 0] rfl) hP hD hS
    ·
      rw [if_neg hc23] at h
      refine lv_aload_n hx hb d_M_worth_59 rfl (lv_at hl 1 rfl) ?_
      refine g_M_value dC dI bd cb τ hx hb hts hown hK hP k_504 d_M_worth_60 ?_
      refine lv_aload_n hx hb d_M_worth_63 rfl (lv_at hl 1 rfl) ?_
      refine lv_iload_n hx hb d_M_worth_64 rfl (lv_at hl 2 rfl) ?_
      refine lv_aload_n hx hb d_M_worth_65 rfl (lv_at hl 1 rfl) ?_
      refine g_M_ruleY dC dI bd cb τ hx hb hts hown hK hP k_401 d_M_worth_66 ?_
      refine lv_iload_n hx hb d_M_worth_69 rfl (lv_at hl 3 rfl) ?_
      obtain ⟨hi24, h⟩ := vq_bd h
      refine al_M6 dC dI bd cb τ hx hb hts hown hK hP hi24 d_M_worth_70 ?_
      obtain ⟨i25, ei25, h⟩ := vq_let h
      refine vq_top ei25.symm ?_
      obtain ⟨q26, h27, h⟩ := vq_bi h
      have hFc := vq_freeAll hD hS hA
      refine va_calli (va_runV (As := [.int x1, .int i25]) (rest := [.ref (bd 24)]) ⟨hx, hb, hml, hown, hts⟩ (c_M_cell l htr dC dI bd cb N τ x1 i25 q26 h27 H.size) (vq_cV WSk hts 2 rfl rfl ⟨by decide, by decide⟩ k_509 k_367 k_511 k_512 k_513 (by decide +kernel)) ⟨vq_blind, va_recv hK hP (ci := 8) (q0 := 0) rfl rfl, vq_here hst hS hN hP hK hD⟩ rfl rfl hl.1 rfl (lv_room (Nat.le_of_ble_eq_true rfl)) d_M_worth_71 ⟨by decide, by decide⟩) hS (fun q _ h => hFc q h) hFc (fun r u t H1 locs ht hvm hw hB hz1 hk1 hS => ?_)
      obtain ⟨hP, -, hD1⟩ := hB
      rw [ht] at hP
      have hD := hD1.weaken (fun _ _ _ h => hFc _ h)
      have hw : r = q26.1 := hw
      subst hw
      generalize H1 = H at hP hS ⊢
      refine W.widen (k := 0) (n := 0) (by decide) (by decide) ?_
      obtain ⟨hi28, h⟩ := vq_bd h
      refine al_M23 dC dI bd cb q26.2 hx hb hts hown hK hP hi28 d_M_worth_74 ?_
      obtain ⟨i29, ei29, h⟩ := vq_let h
      refine vq_top ei29.symm ?_
      refine lv_goto (tgt := 79) hx hb d_M_worth_75 (by decide) ?_
      exact J79 _ _ _ _ _ _ _ _ _ h (lv_sub hl [1, 2, 3, 4, 0] rfl) hP hD hS
  refine lv_if_le (tgt := 47) hx hb d_M_worth_25 (by decide) (fun hc30 => ?_) (fun hc30 => ?_)
  ·
    rw [if_pos hc30] at h
    refine lv_iconst (v := 0) hx hb d_M_worth_47 (by decide) ?_
    exact J48 _ _ _ _ _ _ _ _ h (lv_sub hl [2, 3, 1, 0] rfl) hP hD hS
  ·
    rw [if_neg hc30] at h
    refine lv_aload_n hx hb d_M_worth_28 rfl (lv_at hl 2 rfl) ?_
    refine g_M_value dC dI bd cb σ hx hb hts hown hK hP k_504 d_M_worth_29 ?_
    refine lv_aload_n hx hb d_M_worth_32 rfl (lv_at hl 2 rfl) ?_
    refine lv_iload_n hx hb d_M_worth_33 rfl (lv_at hl 3 rfl) ?_
    refine lv_aload_n hx hb d_M_worth_34 rfl (lv_at hl 2 rfl) ?_
    refine g_M_ruleX dC dI bd cb σ hx hb hts hown hK hP k_400 d_M_worth_35 ?_
    refine lv_iload_n hx hb d_M_worth_38 rfl (lv_at hl 1 rfl) ?_
    obtain ⟨hi31, h⟩ := vq_bd h
    refine al_M5 dC dI bd cb σ hx hb hts hown hK hP hi31 d_M_worth_39 ?_
    obtain ⟨i32, ei32, h⟩ := vq_let h
    refine vq_top ei32.symm ?_
    obtain ⟨q33, h34, h⟩ := vq_bi h
    have hFc := vq_freeAll hD hS hA
    refine va_calli (va_runV (As := [.int a0, .int i32]) (rest := [.ref (bd 24)]) ⟨hx, hb, hml, hown, hts⟩ (c_M_cell l htr dC dI bd cb N σ a0 i32 q33 h34 H.size) (vq_cV WSk hts 2 rfl rfl ⟨by decide, by decide⟩ k_509 k_367 k_511 k_512 k_513 (by decide +kernel)) ⟨vq_blind, va_recv hK hP (ci := 8) (q0 := 0) rfl rfl, vq_here hst hS hN hP hK hD⟩ rfl rfl hl.1 rfl (lv_room (Nat.le_of_ble_eq_true rfl)) d_M_worth_40 ⟨by decide, by decide⟩) hS (fun q _ h => hFc q h) hFc (fun r u t H1 locs ht hvm hw hB hz1 hk1 hS => ?_)
    obtain ⟨hP, -, hD1⟩ := hB
    rw [ht] at hP
    have hD := hD1.weaken (fun _ _ _ h => hFc _ h)
    have hw : r = q33.1 := hw
    subst hw
    generalize H1 = H at hP hS ⊢
    refine W.widen (k := 0) (n := 0) (by decide) (by decide) ?_
    obtain ⟨hi35, h⟩ := vq_bd h
    refine al_M23 dC dI bd cb q33.2 hx hb hts hown hK hP hi35 d_M_worth_43 ?_
    obtain ⟨i36, ei36, h⟩ := vq_let h
    refine vq_top ei36.symm ?_
    refine lv_goto (tgt := 48) hx hb d_M_worth_44 (by decide) ?_
    exact J48 _ _ _ _ _ _ _ _ h (lv_sub hl [2, 3, 1, 0] rfl) hP hD hS

set_option maxHeartbeats 4000000 in
set_option maxRecDepth 100000 in
theorem c_M_step (l : Launch) (htr : l.stackTraces = false) (dC : Nat → ClassId) (dI : Nat → Nat → Nat) (bd : Nat → Nat) (cb : Nat → ClassId) (N : Nat) (σ : vS) (v : Int32 × vS) (h : f_M_step N σ = some v) (sz : Nat) : Met l y_M_step WS ({ frames := 2, cells := 0, slots := 0, locals := 48 }) (va_Pc [.ref (bd 0)] (vq_Pre (dC, dI) CL sz (Mw bd cb σ) (Mt cb))) (va_Qv (fun _ : Unit => True) (fun _ t => vq_Post (dC, dI) CL (va_A (Mw bd cb σ) sz) (Mw bd cb v.2) (Mt cb) t) (va_A (Mw bd cb σ) sz)) 0 0 (va_A (Mw bd cb σ) sz) := by
  refine vq_ofW (cc := prog_10_method_43_code) (maxL := 4) (ret := (Option.none : Option Jvm.ClassFile.FieldType)) pl_M (vq_his k_514) ?_
  intro p e s m args below meth c s₁ B hml hv
  obtain ⟨rfl, hst, hsz, hP, hK, hD0⟩ := hv
  have hx := B.exec
  have hb := B.bytes
  have hr := B.returns
  have hts := atoms_spec (ws := WS) B.pre
  have hown : s.vm.findClass R_M = some m.cls := findClass_of_methodNamed B.named
  have hlocks := B.notSynchronized
  have hno := vq_noH B (hts _ k_514)
  subst hsz
  have hN := vq_ns hP
  have hD := hD0.self (sz := s.heap.size)
  generalize hAe : va_A (Mw bd cb σ) s.heap.size = A at hD hN ⊢
  have hA : ∀ q : Nat, s.heap.size ≤ q → A q := fun q h => by rw [← hAe]; exact Or.inr h
  have hS : va_S A s.heap s.heap [] := va_S.rf
  have hl := lv_entry ([.ref (bd 0)]) (n := 4) (Nat.le_of_ble_eq_true rfl)
  rw [lg_entry_eq]
  generalize (lg_sl ([.ref (bd 0)]) ++ List.replicate (4 - (lg_sl ([.ref (bd 0)])).length) Slot.unset).toArray = ls at hl ⊢
  have hl : lv_has ls 4 [(0, .ref (bd 0))] := hl
  unfold f_M_step at h
  refine lv_aload_n hx hb d_M_step_0 rfl (lv_at hl 0 rfl) ?_
  refine g_M_hand dC dI bd cb σ hx hb hts hown hK hP k_363 d_M_step_1 ?_
  refine lv_istore_n (lv' := [(1, .int (σ.1 9)), (0, .ref (bd 0))]) hx hb d_M_step_4 rfl hl (by decide) rfl (fun ls hl => ?_)
  refine lv_aload_n hx hb d_M_step_5 rfl (lv_at hl 1 rfl) ?_
  refine g_M_production dC dI bd cb σ hx hb hts hown hK hP k_492 d_M_step_6 ?_
  refine lv_iload_n hx hb d_M_step_9 rfl (lv_at hl 0 rfl) ?_
  obtain ⟨hi1, h⟩ := vq_bd h
  refine al_M17 dC dI bd cb σ hx hb hts hown hK hP hi1 d_M_step_10 ?_
  obtain ⟨i2, ei2, h⟩ := vq_let h
  refine vq_top ei2.symm ?_
  refine lv_istore_n (lv' := [(2, .int i2), (1, .int (σ.1 9)), (0, .ref (bd 0))]) hx hb d_M_step_11 rfl hl (by decide) rfl (fun ls hl => ?_)
  refine lv_aload_n hx hb d_M_step_12 rfl (lv_at hl 2 rfl) ?_
  refine g_M_sequence dC dI bd cb σ hx hb hts hown hK hP k_456 d_M_step_13 ?_
  refine lv_bipush (v := 48) hx hb d_M_step_16 (by decide) ?_
  refine lv_iload_n hx hb d_M_step_18 rfl (lv_at hl 0 rfl) ?_
  refine lv_imul hx hb d_M_step_19 ?_
  refine lv_aload_n hx hb d_M_step_20 rfl (lv_at hl 2 rfl) ?_
  refine g_M_next dC dI bd cb σ hx hb hts hown hK hP k_505 d_M_step_21 ?_
  refine lv_iload_n hx hb d_M_step_24 rfl (lv_at hl 1 rfl) ?_
  obtain ⟨hi3, h⟩ := vq_bd h
  refine al_M21 dC dI bd cb σ hx hb hts hown hK hP hi3 d_M_step_25 ?_
  obtain ⟨i4, ei4, h⟩ := vq_let h
  refine vq_top ei4.symm ?_
  refine lv_iadd hx hb d_M_step_26 ?_
  obtain ⟨hi5, h⟩ := vq_bd h
  refine al_M14 dC dI bd cb σ hx hb hts hown hK hP hi5 d_M_step_27 ?_
  obtain ⟨i6, ei6, h⟩ := vq_let h
  refine vq_top ei6.symm ?_
  refine lv_istore_n (lv' := [(3, .int i6), (2, .int i2), (1, .int (σ.1 9)), (0, .ref (bd 0))]) hx hb d_M_step_28 rfl hl (by decide) rfl (fun ls hl => ?_)
  refine lv_aload_n hx hb d_M_step_29 rfl (lv_at hl 3 rfl) ?_
  refine g_M_next dC dI bd cb σ hx hb hts hown hK hP k_505 d_M_step_30 ?_
  refine lv_iload_n hx hb d_M_step_33 rfl (lv_at hl 2 rfl) ?_
  refine lv_dup2_11 hx hb d_M_step_34 rfl rfl ?_
  obtain ⟨hi7, h⟩ := vq_bd h
  refine al_M21 dC dI bd cb σ hx hb hts hown hK hP hi7 d_M_step_35 ?_
  obtain ⟨i8, ei8, h⟩ := vq_let h
  refine vq_top ei8.symm ?_
  refine lv_iconst (v := 1) hx hb d_M_step_36 (by decide) ?_
  refine lv_iadd hx hb d_M_step_37 ?_
  obtain ⟨hi9, h⟩ := vq_bd h
  refine as_M21 dC dI bd cb σ hx hb hts hown hK hP hD hS hi9 d_M_step_38 (fun H locs hP hD hS => ?_)
  obtain ⟨σ10, eσ10, h⟩ := vq_let h
  rw [← eσ10] at hP hD
  refine lv_iload_n hx hb d_M_step_39 rfl (lv_at hl 0 rfl) ?_
  refine lv_bipush (v := 100) hx hb d_M_step_40 (by decide) ?_
  refine lv_icmp_ge (tgt := 77) hx hb d_M_step_42 (by decide) (fun hc11 => ?_) (fun hc11 => ?_)
  ·
    rw [if_pos hc11] at h
    refine lv_iload_n hx hb d_M_step_77 rfl (lv_at hl 0 rfl) ?_
    refine lv_sipush (v := 1000) hx hb d_M_step_78 (by decide) ?_
    refine lv_icmp_ge (tgt := 106) hx hb d_M_step_81 (by decide) (fun hc12 => ?_) (fun hc12 => ?_)
    ·
      rw [if_pos hc12] at h
      refine lv_aload_n hx hb d_M_step_106 rfl (lv_at hl 3 rfl) ?_
      refine lv_iload_n hx hb d_M_step_107 rfl (lv_at hl 2 rfl) ?_
      refine lv_aload_n hx hb d_M_step_108 rfl (lv_at hl 3 rfl) ?_
      refine g_M_root dC dI bd cb σ10 hx hb hts hown hK hP k_362 d_M_step_109 ?_
      refine lv_icmp_eq (tgt := 124) hx hb d_M_step_112 (by decide) (fun hc13 => ?_) (fun hc13 => ?_)
      ·
        rw [if_pos hc13] at h
        refine lv_aload_n hx hb d_M_step_124 rfl (lv_at hl 3 rfl) ?_
        refine g_M_next dC dI bd cb σ10 hx hb hts hown hK hP k_505 d_M_step_125 ?_
        refine lv_iload_n hx hb d_M_step_128 rfl (lv_at hl 2 rfl) ?_
        obtain ⟨hi14, h⟩ := vq_bd h
        refine al_M21 dC dI bd cb σ10 hx hb hts hown hK hP hi14 d_M_step_129 ?_
        obtain ⟨i15, ei15, h⟩ := vq_let h
        refine vq_top ei15.symm ?_
        refine lv_aload_n hx hb d_M_step_130 rfl (lv_at hl 3 rfl) ?_
        refine g_M_length dC dI bd cb σ10 hx hb hts hown hK hP k_455 d_M_step_131 ?_
        refine lv_iload_n hx hb d_M_step_134 rfl (lv_at hl 1 rfl) ?_
        obtain ⟨hi16, h⟩ := vq_bd h
        refine al_M13 dC dI bd cb σ10 hx hb hts hown hK hP hi16 d_M_step_135 ?_
        obtain ⟨i17, ei17, h⟩ := vq_let h
        refine vq_top ei17.symm ?_
        refine lv_icmp_ne (tgt := 143) hx hb d_M_step_136 (by decide) (fun hc18 => ?_) (fun hc18 => ?_)
        ·
          rw [if_neg hc18] at h
          refine lv_iload_n hx hb d_M_step_143 rfl (lv_at hl 2 rfl) ?_
          refine p_M_hand dC dI bd cb σ10 hx hb hts hown hK hP hD hS k_363 d_M_step_144 (fun H locs hP hD hS => ?_)
          obtain ⟨σ19, eσ19, h⟩ := vq_let h
          rw [← eσ19] at hP hD
          have h9 := Option.some.inj h
          rw [← h9]
          exact W.vret hx hb hr (fun t ht hW => ⟨⟨(), rfl, trivial, by rw [ht]; exact hP, va_K.moved hW.alike hK, hD⟩, hS.F ht⟩) hS.2.2 d_M_step_147
        ·
          rw [if_pos hc18] at h
          refine lv_iconst (v := (-1)) hx hb d_M_step_139 (by decide) ?_
          refine lv_goto (tgt := 144) hx hb d_M_step_140 (by decide) ?_
          refine p_M_hand dC dI bd cb σ10 hx hb hts hown hK hP hD hS k_363 d_M_step_144 (fun H locs hP hD hS => ?_)
          obtain ⟨σ20, eσ20, h⟩ := vq_let h
          rw [← eσ20] at hP hD
          have h9 := Option.some.inj h
          rw [← h9]
          exact W.vret hx hb hr (fun t ht hW => ⟨⟨(), rfl, trivial, by rw [ht]; exact hP, va_K.moved hW.alike hK, hD⟩, hS.F ht⟩) hS.2.2 d_M_step_147
      ·
        rw [if_neg hc13] at h
        refine lv_aload_n hx hb d_M_step_115 rfl (lv_at hl 3 rfl) ?_
        refine g_M_parent dC dI bd cb σ10 hx hb hts hown hK hP k_491 d_M_step_116 ?_
        refine lv_iload_n hx hb d_M_step_119 rfl (lv_at hl 2 rfl) ?_
        obtain ⟨hi21, h⟩ := vq_bd h
        refine al_M20 dC dI bd cb σ10 hx hb hts hown hK hP hi21 d_M_step_120 ?_
        obtain ⟨i22, ei22, h⟩ := vq_let h
        refine vq_top ei22.symm ?_
        refine lv_goto (tgt := 144) hx hb d_M_step_121 (by decide) ?_
        refine p_M_hand dC dI bd cb σ10 hx hb hts hown hK hP hD hS k_363 d_M_step_144 (fun H locs hP hD hS => ?_)
        obtain ⟨σ23, eσ23, h⟩ := vq_let h
        rw [← eσ23] at hP hD
        have h9 := Option.some.inj h
        rw [← h9]
        exact W.vret hx hb hr (fun t ht hW => ⟨⟨(), rfl, trivial, by rw [ht]; exact hP, va_K.moved hW.alike hK, hD⟩, hS.F ht⟩) hS.2.2 d_M_step_147
    ·
      rw [if_neg hc12] at h
      refine lv_aload_n hx hb d_M_step_84 rfl (lv_at hl 3 rfl) ?_
      refine lv_aload_n hx hb d_M_step_85 rfl (lv_at hl 3 rfl) ?_
      refine g_M_child dC dI bd cb σ10 hx hb hts hown hK hP k_495 d_M_step_86 ?_
      refine lv_iconst (v := 3) hx hb d_M_step_89 (by decide) ?_
      refine lv_iload_n hx hb d_M_step_90 rfl (lv_at hl 2 rfl) ?_
      refine lv_imul hx hb d_M_step_91 ?_
      refine lv_iload_n hx hb d_M_step_92 rfl (lv_at hl 0 rfl) ?_
      refine lv_bipush (v := 100) hx hb d_M_step_93 (by decide) ?_
      refine lv_idiv hx hb d_M_step_95 (by decide) ?_
      refine lv_iadd hx hb d_M_step_96 ?_
      obtain ⟨i24, ei24, h⟩ := vq_let h
      refine vq_top ei24.symm ?_
      refine lv_iconst (v := 1) hx hb d_M_step_97 (by decide) ?_
      refine lv_isub hx hb d_M_step_98 ?_
      obtain ⟨hi25, h⟩ := vq_bd h
      refine al_M19 dC dI bd cb σ10 hx hb hts hown hK hP hi25 d_M_step_99 ?_
      obtain ⟨i26, ei26, h⟩ := vq_let h
      refine vq_top ei26.symm ?_
      refine p_M_hand dC dI bd cb σ10 hx hb hts hown hK hP hD hS k_363 d_M_step_100 (fun H locs hP hD hS => ?_)
      obtain ⟨σ27, eσ27, h⟩ := vq_let h
      rw [← eσ27] at hP hD
      refine lv_goto (tgt := 147) hx hb d_M_step_103 (by decide) ?_
      have h9 := Option.some.inj h
      rw [← h9]
      exact W.vret hx hb hr (fun t ht hW => ⟨⟨(), rfl, trivial, by rw [ht]; exact hP, va_K.moved hW.alike hK, hD⟩, hS.F ht⟩) hS.2.2 d_M_step_147
  ·
    rw [if_neg hc11] at h
    refine lv_aload_n hx hb d_M_step_45 rfl (lv_at hl 3 rfl) ?_
    refine g_M_value dC dI bd cb σ10 hx hb hts hown hK hP k_504 d_M_step_46 ?_
    refine lv_aload_n hx hb d_M_step_49 rfl (lv_at hl 3 rfl) ?_
    refine lv_iload_n hx hb d_M_step_50 rfl (lv_at hl 2 rfl) ?_
    refine lv_iload_n hx hb d_M_step_51 rfl (lv_at hl 0 rfl) ?_
    obtain ⟨q28, h29, h⟩ := vq_bi h
    have hFc := vq_freeAll hD hS hA
    refine va_calli (va_runV (As := [.int (σ.1 9), .int i6]) (rest := [.ref (bd 24)]) ⟨hx, hb, hml, hown, hts⟩ (c_M_cell l htr dC dI bd cb N σ10 (σ.1 9) i6 q28 h29 H.size) (vq_cV WSk hts 2 rfl rfl ⟨by decide, by decide⟩ k_509 k_367 k_511 k_512 k_513 (by decide +kernel)) ⟨vq_blind, va_recv hK hP (ci := 8) (q0 := 0) rfl rfl, vq_here hst hS hN hP hK hD⟩ rfl rfl hl.1 rfl (lv_room (Nat.le_of_ble_eq_true rfl)) d_M_step_52 ⟨by decide, by decide⟩) hS (fun q _ h => hFc q h) hFc (fun r u t H1 locs ht hvm hw hB hz1 hk1 hS => ?_)
    obtain ⟨hP, -, hD1⟩ := hB
    rw [ht] at hP
    have hD := hD1.weaken (fun _ _ _ h => hFc _ h)
    have hw : r = q28.1 := hw
    subst hw
    generalize H1 = H at hP hS ⊢
    refine W.widen (k := 0) (n := 0) (by decide) (by decide) ?_
    refine lv_aload_n hx hb d_M_step_55 rfl (lv_at hl 3 rfl) ?_
    refine lv_iload_n hx hb d_M_step_56 rfl (lv_at hl 2 rfl) ?_
    refine lv_iload_n hx hb d_M_step_57 rfl (lv_at hl 0 rfl) ?_
    obtain ⟨q30, h31, h⟩ := vq_bi h
    have hFc := vq_freeAll hD hS hA
    refine va_calli (va_runV (As := [.int (σ.1 9), .int i6]) (rest := [.int (q28.1), .ref (bd 24)]) ⟨hx, hb, hml, hown, hts⟩ (c_M_worth l htr dC dI bd cb N q28.2 (σ.1 9) i6 q30 h31 H.size) (vq_cV WSk hts 2 rfl rfl ⟨by decide, by decide⟩ k_510 k_367 k_515 k_516 k_517 (by decide +kernel)) ⟨vq_blind, va_recv hK hP (ci := 8) (q0 := 0) rfl rfl, vq_here hst hS hN hP hK hD⟩ rfl rfl hl.1 rfl (lv_room (Nat.le_of_ble_eq_true rfl)) d_M_step_58 ⟨by decide, by decide⟩) hS (fun q _ h => hFc q h) hFc (fun r u t H1 locs ht hvm hw hB hz1 hk1 hS => ?_)
    obtain ⟨hP, -, hD1⟩ := hB
    rw [ht] at hP
    have hD := hD1.weaken (fun _ _ _ h => hFc _ h)
    have hw : r = q30.1 := hw
    subst hw
    generalize H1 = H at hP hS ⊢
    refine W.widen (k := 0) (n := 0) (by decide) (by decide) ?_
    obtain ⟨hi32, h⟩ := vq_bd h
    refine as_M23 dC dI bd cb q30.2 hx hb hts hown hK hP hD hS hi32 d_M_step_61 (fun H locs hP hD hS => ?_)
    obtain ⟨σ33, eσ33, h⟩ := vq_let h
    rw [← eσ33] at hP hD
    refine lv_aload_n hx hb d_M_step_62 rfl (lv_at hl 3 rfl) ?_
    refine g_M_known dC dI bd cb σ33 hx hb hts hown hK hP k_364 d_M_step_63 ?_
    refine lv_aload_n hx hb d_M_step_66 rfl (lv_at hl 3 rfl) ?_
    refine lv_iload_n hx hb d_M_step_67 rfl (lv_at hl 2 rfl) ?_
    refine lv_iload_n hx hb d_M_step_68 rfl (lv_at hl 0 rfl) ?_
    obtain ⟨q34, h35, h⟩ := vq_bi h
    have hFc := vq_freeAll hD hS hA
    refine va_calli (va_runV (As := [.int (σ.1 9), .int i6]) (rest := [.ref (bd 23)]) ⟨hx, hb, hml, hown, hts⟩ (c_M_cell l htr dC dI bd cb N σ33 (σ.1 9) i6 q34 h35 H.size) (vq_cV WSk hts 2 rfl rfl ⟨by decide, by decide⟩ k_509 k_367 k_511 k_512 k_513 (by decide +kernel)) ⟨vq_blind, va_recv hK hP (ci := 8) (q0 := 0) rfl rfl, vq_here hst hS hN hP hK hD⟩ rfl rfl hl.1 rfl (lv_room (Nat.le_of_ble_eq_true rfl)) d_M_step_69 ⟨by decide, by decide⟩) hS (fun q _ h => hFc q h) hFc (fun r u t H1 locs ht hvm hw hB hz1 hk1 hS => ?_)
    obtain ⟨hP, -, hD1⟩ := hB
    rw [ht] at hP
    have hD := hD1.weaken (fun _ _ _ h => hFc _ h)
    have hw : r = q34.1 := hw
    subst hw
    generalize H1 = H at hP hS ⊢
    refine W.widen (k := 0) (n := 0) (by decide) (by decide) ?_
    refine lv_iconst (v := 1) hx hb d_M_step_72 (by decide) ?_
    obtain ⟨hi36, h⟩ := vq_bd h
    refine as_M22 dC dI bd cb q34.2 hx hb hts hown hK hP hD hS hi36 d_M_step_73 (fun H locs hP hD hS => ?_)
    obtain ⟨σ37, eσ37, h⟩ := vq_let h
    rw [← eσ37] at hP hD
    refine lv_goto (tgt := 147) hx hb d_M_step_74 (by decide) ?_
    have h9 := Option.some.inj h
    rw [← h9]
    exact W.vret hx hb hr (fun t ht hW => ⟨⟨(), rfl, trivial, by rw [ht]; exact hP, va_K.moved hW.alike hK, hD⟩, hS.F ht⟩) hS.2.2 d_M_step_147

set_option maxHeartbeats 4000000 in
set_option maxRecDepth 100000 in
theorem c_M_run (l : Launch) (htr : l.stackTraces = false) (dC : Nat → ClassId) (dI : Nat → Nat → Nat) (bd : Nat → Nat) (cb : Nat → ClassId) (N : Nat) (σ : vS) (a0 : Int32) (v : Int32 × vS) (h : f_M_run N σ a0 = some v) (sz : Nat) : Met l y_M_run WS ({ frames := 3, cells := 0, slots := 0, locals := 71 }) (va_Pc [.ref (bd 0), .int a0] (vq_Pre (dC, dI) CL sz (Mw bd cb σ) (Mt cb))) (va_Qi (fun (r : Int32) (_ : Unit) => r = v.1) (fun _ t => vq_Post (dC, dI) CL (va_A (Mw bd cb σ) sz) (Mw bd cb v.2) (Mt cb) t) (va_A (Mw bd cb σ) sz)) 0 0 (va_A (Mw bd cb σ) sz) := by
  refine vq_ofW (cc := prog_10_method_44_code) (maxL := 3) (ret := (Option.some Jvm.ClassFile.FieldType.int)) pl_M (vq_his k_518) ?_
  intro p e s m args below meth c s₁ B hml hv
  obtain ⟨rfl, hst, hsz, hP, hK, hD0⟩ := hv
  have hx := B.exec
  have hb := B.bytes
  have hr := B.returns
  have hts := atoms_spec (ws := WS) B.pre
  have hown : s.vm.findClass R_M = some m.cls := findClass_of_methodNamed B.named
  have hlocks := B.notSynchronized
  have hno := vq_noH B (hts _ k_518)
  subst hsz
  have hN := vq_ns hP
  have hD := hD0.self (sz := s.heap.size)
  generalize hAe : va_A (Mw bd cb σ) s.heap.size = A at hD hN ⊢
  have hA : ∀ q : Nat, s.heap.size ≤ q → A q := fun q h => by rw [← hAe]; exact Or.inr h
  have hS : va_S A s.heap s.heap [] := va_S.rf
  have hl := lv_entry ([.ref (bd 0), .int a0]) (n := 3) (Nat.le_of_ble_eq_true rfl)
  rw [lg_entry_eq]
  generalize (lg_sl ([.ref (bd 0), .int a0]) ++ List.replicate (3 - (lg_sl ([.ref (bd 0), .int a0])).length) Slot.unset).toArray = ls at hl ⊢
  have hl : lv_has ls 3 [(0, .ref (bd 0)), (1, .int a0)] := hl
  unfold f_M_run at h
  refine lv_aload_n hx hb d_M_run_0 rfl (lv_at hl 0 rfl) ?_
  refine lv_iload_n hx hb d_M_run_1 rfl (lv_at hl 1 rfl) ?_
  have J29 : ∀ (τ : vS) (x1 : Int32) (y0 : Int32) (H : Heap) (locs : List Loc) (ls : Array Slot), f_M_run_29 N τ x1 y0 = some v → lv_has ls 3 [(0, .ref (bd 0)), (1, .int x1)] → va_P (dC, dI) CL (Mw bd cb τ) H → va_D A (Mw bd cb τ) → va_S A s.heap H locs → W p l e (headSpec WS ({ frames := 3, cells := 0, slots := 0, locals := 71 })).room s m ([.ref (bd 0), .int a0] : List Value).toArray below meth c H locs 0 0 (MQ below (va_Qi (fun (r : Int32) (_ : Unit) => r = v.1) (fun _ t => vq_Post (dC, dI) CL A (Mw bd cb v.2) (Mt cb) t) A) ([.ref (bd 0), .int a0] : List Value).toArray s 0 0 A) (F0 m 29 ls [.int y0, .ref (bd 0)]) := by
    intro τ x1 y0 H locs ls h hl hP hD hS
    unfold f_M_run_29 at h
    refine p_M_code dC dI bd cb τ hx hb hts hown hK hP hD hS k_359 d_M_run_29 (fun H locs hP hD hS => ?_)
    obtain ⟨σ1, eσ1, h⟩ := vq_let h
    rw [← eσ1] at hP hD
    refine lv_aload_n hx hb d_M_run_32 rfl (lv_at hl 0 rfl) ?_
    refine g_M_code dC dI bd cb σ1 hx hb hts hown hK hP k_359 d_M_run_33 ?_
    refine lv_if_le (tgt := 41) hx hb d_M_run_36 (by decide) (fun hc2 => ?_) (fun hc2 => ?_)
    ·
      rw [if_pos hc2] at h
      refine lv_iconst (v := 0) hx hb d_M_run_41 (by decide) ?_
      refine lv_istore_n (lv' := [(2, .int 0), (0, .ref (bd 0)), (1, .int x1)]) hx hb d_M_run_42 rfl hl (by decide) rfl (fun ls hl => ?_)
      have L43 : ∀ n43 : Nat, ∀ (τ : vS) (x1 : Int32) (x2 : Int32) (H : Heap) (locs : List Loc) (ls : Array Slot), f_M_run_43 N n43 τ x1 x2 = some v → lv_has ls 3 [(0, .ref (bd 0)), (1, .int x1), (2, .int x2)] → va_P (dC, dI) CL (Mw bd cb τ) H → va_D A (Mw bd cb τ) → va_S A s.heap H locs → W p l e (headSpec WS ({ frames := 3, cells := 0, slots := 0, locals := 71 })).room s m ([.ref (bd 0), .int a0] : List Value).toArray below meth c H locs 0 0 (MQ below (va_Qi (fun (r : Int32) (_ : Unit) => r = v.1) (fun _ t => vq_Post (dC, dI) CL A (Mw bd cb v.2) (Mt cb) t) A) ([.ref (bd 0), .int a0] : List Value).toArray s 0 0 A) (F0 m 43 ls []) := by
        intro n43
        induction n43 with
        | zero =>
          intro τ x1 x2 H locs ls h hl hP hD hS
          rw [f_M_run_43] at h
          cases h
        | succ n43 ih43 =>
          intro τ x1 x2 H locs ls h hl hP hD hS
          rw [f_M_run_43] at h
          dsimp only at h
          refine lv_iload_n hx hb d_M_run_43 rfl (lv_at hl 2 rfl) ?_
          refine lv_iload_n hx hb d_M_run_44 rfl (lv_at hl 1 rfl) ?_
          refine lv_icmp_ge (tgt := 66) hx hb d_M_run_45 (by decide) (fun hc3 => ?_) (fun hc3 => ?_)
          ·
            rw [if_pos hc3] at h
            refine lv_iload_n hx hb d_M_run_66 rfl (lv_at hl 2 rfl) ?_
            have h9 := Option.some.inj h
            rw [← h9]
            exact W.iret (v := x2) hx hb hr (fun t ht hW => ⟨⟨x2, (), rfl, rfl, by rw [ht]; exact hP, va_K.moved hW.alike hK, hD⟩, hS.F ht⟩) hS.2.2 d_M_run_67
          ·
            rw [if_neg hc3] at h
            refine lv_aload_n hx hb d_M_run_48 rfl (lv_at hl 0 rfl) ?_
            refine g_M_hand dC dI bd cb τ hx hb hts hown hK hP k_363 d_M_run_49 ?_
            refine lv_iconst (v := (-1)) hx hb d_M_run_52 (by decide) ?_
            refine lv_icmp_eq (tgt := 66) hx hb d_M_run_53 (by decide) (fun hc4 => ?_) (fun hc4 => ?_)
            ·
              rw [if_pos hc4] at h
              refine lv_iload_n hx hb d_M_run_66 rfl (lv_at hl 2 rfl) ?_
              have h9 := Option.some.inj h
              rw [← h9]
              exact W.iret (v := x2) hx hb hr (fun t ht hW => ⟨⟨x2, (), rfl, rfl, by rw [ht]; exact hP, va_K.moved hW.alike hK, hD⟩, hS.F ht⟩) hS.2.2 d_M_run_67
            ·
              rw [if_neg hc4] at h
              refine lv_aload_n hx hb d_M_run_56 rfl (lv_at hl 0 rfl) ?_
              obtain ⟨q5, h6, h⟩ := vq_bi h
              have hFc := vq_freeAll hD hS hA
              refine va_callv (va_runV (As := []) (rest := []) ⟨hx, hb, hml, hown, hts⟩ (c_M_step l htr dC dI bd cb N τ q5 h6 H.size) (vq_cV WSk hts 0 rfl rfl ⟨by decide, by decide⟩ k_514 k_367 k_519 k_520 k_521 (by decide +kernel)) ⟨vq_blind, va_recv hK hP (ci := 8) (q0 := 0) rfl rfl, vq_here hst hS hN hP hK hD⟩ rfl rfl hl.1 rfl (lv_room (Nat.le_of_ble_eq_true rfl)) d_M_run_57 ⟨by decide, by decide⟩) hS (fun q _ h => hFc q h) hFc (fun u t H1 locs ht hvm hw hB hz1 hk1 hS => ?_)
              obtain ⟨hP, -, hD1⟩ := hB
              rw [ht] at hP
              have hD := hD1.weaken (fun _ _ _ h => hFc _ h)
              generalize H1 = H at hP hS ⊢
              refine W.widen (k := 0) (n := 0) (by decide) (by decide) ?_
              refine lv_iinc (k := 2) (v := (x2 + 1)) (lv' := [(2, .int (x2 + 1)), (0, .ref (bd 0)), (1, .int x1)]) hx hb d_M_run_60 hl rfl rfl (by decide) rfl (fun ls hl => ?_)
              refine lv_goto (tgt := 43) hx hb d_M_run_63 (by decide) ?_
              exact ih43 _ _ _ _ _ _ h (lv_sub hl [1, 2, 0] rfl) hP hD hS
      exact L43 N _ _ _ _ _ _ h (lv_sub hl [1, 2, 0] rfl) hP hD hS
    ·
      rw [if_neg hc2] at h
      refine lv_iconst (v := 0) hx hb d_M_run_39 (by decide) ?_
      have h9 := Option.some.inj h
      rw [← h9]
      exact W.iret (v := (0 : Int32)) hx hb hr (fun t ht hW => ⟨⟨(0 : Int32), (), rfl, rfl, by rw [ht]; exact hP, va_K.moved hW.alike hK, hD⟩, hS.F ht⟩) hS.2.2 d_M_run_40
  have J12 : ∀ (τ : vS) (x1 : Int32) (H : Heap) (locs : List Loc) (ls : Array Slot), f_M_run_12 N τ x1 = some v → lv_has ls 3 [(0, .ref (bd 0)), (1, .int x1)] → va_P (dC, dI) CL (Mw bd cb τ) H → va_D A (Mw bd cb τ) → va_S A s.heap H locs → W p l e (headSpec WS ({ frames := 3, cells := 0, slots := 0, locals := 71 })).room s m ([.ref (bd 0), .int a0] : List Value).toArray below meth c H locs 0 0 (MQ below (va_Qi (fun (r : Int32) (_ : Unit) => r = v.1) (fun _ t => vq_Post (dC, dI) CL A (Mw bd cb v.2) (Mt cb) t) A) ([.ref (bd 0), .int a0] : List Value).toArray s 0 0 A) (F0 m 12 ls [.ref (bd 0)]) := by
    intro τ x1 H locs ls h hl hP hD hS
    unfold f_M_run_12 at h
    refine lv_iconst (v := 1) hx hb d_M_run_12 (by decide) ?_
    refine lv_goto (tgt := 29) hx hb d_M_run_13 (by decide) ?_
    exact J29 _ _ _ _ _ _ h (lv_sub hl [0, 1] rfl) hP hD hS
  refine lv_if_lt (tgt := 12) hx hb d_M_run_2 (by decide) (fun hc7 => ?_) (fun hc7 => ?_)
  ·
    rw [if_pos hc7] at h
    exact J12 _ _ _ _ _ h (lv_sub hl [0, 1] rfl) hP hD hS
  ·
    rw [if_neg hc7] at h
    refine lv_iload_n hx hb d_M_run_5 rfl (lv_at hl 1 rfl) ?_
    refine lv_sipush (v := 500) hx hb d_M_run_6 (by decide) ?_
    refine lv_icmp_le (tgt := 16) hx hb d_M_run_9 (by decide) (fun hc8 => ?_) (fun hc8 => ?_)
    ·
      rw [if_pos hc8] at h
      refine lv_aload_n hx hb d_M_run_16 rfl (lv_at hl 0 rfl) ?_
      refine g_M_root dC dI bd cb σ hx hb hts hown hK hP k_362 d_M_run_17 ?_
      refine lv_iconst (v := (-1)) hx hb d_M_run_20 (by decide) ?_
      refine lv_icmp_ne (tgt := 28) hx hb d_M_run_21 (by decide) (fun hc9 => ?_) (fun hc9 => ?_)
      ·
        rw [if_neg hc9] at h
        refine lv_iconst (v := 0) hx hb d_M_run_28 (by decide) ?_
        exact J29 _ _ _ _ _ _ h (lv_sub hl [0, 1] rfl) hP hD hS
      ·
        rw [if_pos hc9] at h
        refine lv_iconst (v := 2) hx hb d_M_run_24 (by decide) ?_
        refine lv_goto (tgt := 29) hx hb d_M_run_25 (by decide) ?_
        exact J29 _ _ _ _ _ _ h (lv_sub hl [0, 1] rfl) hP hD hS
    ·
      rw [if_neg hc8] at h
      exact J12 _ _ _ _ _ h (lv_sub hl [0, 1] rfl) hP hD hS

set_option maxHeartbeats 4000000 in
set_option maxRecDepth 100000 in
theorem c_M_status (l : Launch) (htr : l.stackTraces = false) (dC : Nat → ClassId) (dI : Nat → Nat → Nat) (bd : Nat → Nat) (cb : Nat → ClassId) (N : Nat) (σ : vS) (v : Int32 × vS) (h : f_M_status N σ = some v) (sz : Nat) : Met l y_M_status WS ({ frames := 0, cells := 0, slots := 0, locals := 0 }) (va_Pc [.ref (bd 0)] (vq_Pre (dC, dI) CL sz (Mw bd cb σ) (Mt cb))) (va_Qi (fun (r : Int32) (_ : Unit) => r = v.1) (fun _ t => vq_Post (dC, dI) CL (va_A (Mw bd cb σ) sz) (Mw bd cb v.2) (Mt cb) t) (va_A (Mw bd cb σ) sz)) 0 0 (va_A (Mw bd cb σ) sz) := by
  refine vq_ofW (cc := prog_10_method_45_code) (maxL := 1) (ret := (Option.some Jvm.ClassFile.FieldType.int)) pl_M (vq_his k_522) ?_
  intro p e s m args below meth c s₁ B hml hv
  obtain ⟨rfl, hst, hsz, hP, hK, hD0⟩ := hv
  have hx := B.exec
  have hb := B.bytes
  have hr := B.returns
  have hts := atoms_spec (ws := WS) B.pre
  have hown : s.vm.findClass R_M = some m.cls := findClass_of_methodNamed B.named
  have hlocks := B.notSynchronized
  have hno := vq_noH B (hts _ k_522)
  subst hsz
  have hN := vq_ns hP
  have hD := hD0.self (sz := s.heap.size)
  generalize hAe : va_A (Mw bd cb σ) s.heap.size = A at hD hN ⊢
  have hA : ∀ q : Nat, s.heap.size ≤ q → A q := fun q h => by rw [← hAe]; exact Or.inr h
  have hS : va_S A s.heap s.heap [] := va_S.rf
  have hl := lv_entry ([.ref (bd 0)]) (n := 1) (Nat.le_of_ble_eq_true rfl)
  rw [lg_entry_eq]
  generalize (lg_sl ([.ref (bd 0)]) ++ List.replicate (1 - (lg_sl ([.ref (bd 0)])).length) Slot.unset).toArray = ls at hl ⊢
  have hl : lv_has ls 1 [(0, .ref (bd 0))] := hl
  unfold f_M_status at h
  refine lv_aload_n hx hb d_M_status_0 rfl (lv_at hl 0 rfl) ?_
  refine lv_iconst (v := 0) hx hb d_M_status_1 (by decide) ?_
  refine p_M_code dC dI bd cb σ hx hb hts hown hK hP hD hS k_359 d_M_status_2 (fun H locs hP hD hS => ?_)
  obtain ⟨σ1, eσ1, h⟩ := vq_let h
  rw [← eσ1] at hP hD
  refine lv_aload_n hx hb d_M_status_5 rfl (lv_at hl 0 rfl) ?_
  refine g_M_root dC dI bd cb σ1 hx hb hts hown hK hP k_362 d_M_status_6 ?_
  refine lv_iconst (v := (-1)) hx hb d_M_status_9 (by decide) ?_
  refine lv_icmp_ne (tgt := 17) hx hb d_M_status_10 (by decide) (fun hc2 => ?_) (fun hc2 => ?_)
  ·
    rw [if_neg hc2] at h
    refine lv_aload_n hx hb d_M_status_17 rfl (lv_at hl 0 rfl) ?_
    refine g_M_hand dC dI bd cb σ1 hx hb hts hown hK hP k_363 d_M_status_18 ?_
    refine lv_iconst (v := (-1)) hx hb d_M_status_21 (by decide) ?_
    refine lv_icmp_ne (tgt := 29) hx hb d_M_status_22 (by decide) (fun hc3 => ?_) (fun hc3 => ?_)
    ·
      rw [if_neg hc3] at h
      refine lv_iconst (v := 1) hx hb d_M_status_29 (by decide) ?_
      have h9 := Option.some.inj h
      rw [← h9]
      exact W.iret (v := (1 : Int32)) hx hb hr (fun t ht hW => ⟨⟨(1 : Int32), (), rfl, rfl, by rw [ht]; exact hP, va_K.moved hW.alike hK, hD⟩, hS.F ht⟩) hS.2.2 d_M_status_30
    ·
      rw [if_pos hc3] at h
      refine lv_iconst (v := 2) hx hb d_M_status_25 (by decide) ?_
      refine lv_goto (tgt := 30) hx hb d_M_status_26 (by decide) ?_
      have h9 := Option.some.inj h
      rw [← h9]
      exact W.iret (v := (2 : Int32)) hx hb hr (fun t ht hW => ⟨⟨(2 : Int32), (), rfl, rfl, by rw [ht]; exact hP, va_K.moved hW.alike hK, hD⟩, hS.F ht⟩) hS.2.2 d_M_status_30
  ·
    rw [if_pos hc2] at h
    refine lv_iconst (v := 0) hx hb d_M_status_13 (by decide) ?_
    refine lv_goto (tgt := 30) hx hb d_M_status_14 (by decide) ?_
    have h9 := Option.some.inj h
    rw [← h9]
    exact W.iret (v := (0 : Int32)) hx hb hr (fun t ht hW => ⟨⟨(0 : Int32), (), rfl, rfl, by rw [ht]; exact hP, va_K.moved hW.alike hK, hD⟩, hS.F ht⟩) hS.2.2 d_M_status_30

set_option maxHeartbeats 4000000 in
set_option maxRecDepth 100000 in
theorem c_M_atHand (l : Launch) (htr : l.stackTraces = false) (dC : Nat → ClassId) (dI : Nat → Nat → Nat) (bd : Nat → Nat) (cb : Nat → ClassId) (N : Nat) (σ : vS) (v : Int32 × vS) (h : f_M_atHand N σ = some v) (sz : Nat) : Met l y_M_atHand WS ({ frames := 0, cells := 0, slots := 0, locals := 0 }) (va_Pc [.ref (bd 0)] (vq_Pre (dC, dI) CL sz (Mw bd cb σ) (Mt cb))) (va_Qi (fun (r : Int32) (_ : Unit) => r = v.1) (fun _ t => vq_Post (dC, dI) CL (va_A (Mw bd cb σ) sz) (Mw bd cb v.2) (Mt cb) t) (va_A (Mw bd cb σ) sz)) 0 0 (va_A (Mw bd cb σ) sz) := by
  refine vq_ofW (cc := prog_10_method_46_code) (maxL := 1) (ret := (Option.some Jvm.ClassFile.FieldType.int)) pl_M (vq_his k_523) ?_
  intro p e s m args below meth c s₁ B hml hv
  obtain ⟨rfl, hst, hsz, hP, hK, hD0⟩ := hv
  have hx := B.exec
  have hb := B.bytes
  have hr := B.returns
  have hts := atoms_spec (ws := WS) B.pre
  have hown : s.vm.findClass R_M = some m.cls := findClass_of_methodNamed B.named
  have hlocks := B.notSynchronized
  have hno := vq_noH B (hts _ k_523)
  subst hsz
  have hN := vq_ns hP
  have hD := hD0.self (sz := s.heap.size)
  generalize hAe : va_A (Mw bd cb σ) s.heap.size = A at hD hN ⊢
  have hA : ∀ q : Nat, s.heap.size ≤ q → A q := fun q h => by rw [← hAe]; exact Or.inr h
  have hS : va_S A s.heap s.heap [] := va_S.rf
  have hl := lv_entry ([.ref (bd 0)]) (n := 1) (Nat.le_of_ble_eq_true rfl)
  rw [lg_entry_eq]
  generalize (lg_sl ([.ref (bd 0)]) ++ List.replicate (1 - (lg_sl ([.ref (bd 0)])).length) Slot.unset).toArray = ls at hl ⊢
  have hl : lv_has ls 1 [(0, .ref (bd 0))] := hl
  unfold f_M_atHand at h
  refine lv_aload_n hx hb d_M_atHand_0 rfl (lv_at hl 0 rfl) ?_
  refine lv_iconst (v := 0) hx hb d_M_atHand_1 (by decide) ?_
  refine p_M_code dC dI bd cb σ hx hb hts hown hK hP hD hS k_359 d_M_atHand_2 (fun H locs hP hD hS => ?_)
  obtain ⟨σ1, eσ1, h⟩ := vq_let h
  rw [← eσ1] at hP hD
  refine lv_aload_n hx hb d_M_atHand_5 rfl (lv_at hl 0 rfl) ?_
  refine g_M_hand dC dI bd cb σ1 hx hb hts hown hK hP k_363 d_M_atHand_6 ?_
  have h9 := Option.some.inj h
  rw [← h9]
  exact W.iret (v := (σ1.1 9)) hx hb hr (fun t ht hW => ⟨⟨(σ1.1 9), (), rfl, rfl, by rw [ht]; exact hP, va_K.moved hW.alike hK, hD⟩, hS.F ht⟩) hS.2.2 d_M_atHand_9

set_option maxHeartbeats 4000000 in
set_option maxRecDepth 100000 in
theorem c_M_isAttribute (l : Launch) (htr : l.stackTraces = false) (dC : Nat → ClassId) (dI : Nat → Nat → Nat) (bd : Nat → Nat) (cb : Nat → ClassId) (N : Nat) (σ : vS) (a0 : Int32) (a1 : Int32) (v : Int32 × vS) (h : f_M_isAttribute N σ a0 a1 = some v) (sz : Nat) : Met l y_M_isAttribute WS ({ frames := 1, cells := 0, slots := 0, locals := 21 }) (va_Pc [.ref (bd 0), .int a0, .int a1] (vq_Pre (dC, dI) CL sz (Mw bd cb σ) (Mt cb))) (va_Qi (fun (r : Int32) (_ : Unit) => r = v.1) (fun _ t => vq_Post (dC, dI) CL (va_A (Mw bd cb σ) sz) (Mw bd cb v.2) (Mt cb) t) (va_A (Mw bd cb σ) sz)) 0 0 (va_A (Mw bd cb σ) sz) := by
  refine vq_ofW (cc := prog_10_method_47_code) (maxL := 3) (ret := (Option.some Jvm.ClassFile.FieldType.boolean)) pl_M (vq_his k_524) ?_
  intro p e s m args below meth c s₁ B hml hv
  obtain ⟨rfl, hst, hsz, hP, hK, hD0⟩ := hv
  have hx := B.exec
  have hb := B.bytes
  have hr := B.returns
  have hts := atoms_spec (ws := WS) B.pre
  have hown : s.vm.findClass R_M = some m.cls := findClass_of_methodNamed B.named
  have hlocks := B.notSynchronized
  have hno := vq_noH B (hts _ k_524)
  subst hsz
  have hN := vq_ns hP
  have hD := hD0.self (sz := s.heap.size)
  generalize hAe : va_A (Mw bd cb σ) s.heap.size = A at hD hN ⊢
  have hA : ∀ q : Nat, s.heap.size ≤ q → A q := fun q h => by rw [← hAe]; exact Or.inr h
  have hS : va_S A s.heap s.heap [] := va_S.rf
  have hl := lv_entry ([.ref (bd 0), .int a0, .int a1]) (n := 3) (Nat.le_of_ble_eq_true rfl)
  rw [lg_entry_eq]
  generalize (lg_sl ([.ref (bd 0), .int a0, .int a1]) ++ List.replicate (3 - (lg_sl ([.ref (bd 0), .int a0, .int a1])).length) Slot.unset).toArray = ls at hl ⊢
  have hl : lv_has ls 3 [(0, .ref (bd 0)), (1, .int a0), (2, .int a1)] := hl
  unfold f_M_isAttribute at h
  refine lv_aload_n hx hb d_M_isAttribute_0 rfl (lv_at hl 0 rfl) ?_
  refine lv_iload_n hx hb d_M_isAttribute_1 rfl (lv_at hl 1 rfl) ?_
  obtain ⟨q1, h2, h⟩ := vq_bi h
  have hFc := vq_freeAll hD hS hA
  refine va_calli (va_runV (As := [.int a0]) (rest := []) ⟨hx, hb, hml, hown, hts⟩ (c_M_isNode l htr dC dI bd cb N σ a0 q1 h2 s.heap.size) (vq_cV WSk hts 1 rfl rfl ⟨by decide, by decide⟩ k_502 k_367 k_506 k_507 k_508 (by decide +kernel)) ⟨vq_blind, va_recv hK hP (ci := 8) (q0 := 0) rfl rfl, vq_here hst hS hN hP hK hD⟩ rfl rfl hl.1 rfl (lv_room (Nat.le_of_ble_eq_true rfl)) d_M_isAttribute_2 ⟨by decide, by decide⟩) hS (fun q _ h => hFc q h) hFc (fun r u t H1 locs ht hvm hw hB hz1 hk1 hS => ?_)
  obtain ⟨hP, -, hD1⟩ := hB
  rw [ht] at hP
  have hD := hD1.weaken (fun _ _ _ h => hFc _ h)
  have hw : r = q1.1 := hw
  subst hw
  generalize H1 = H at hP hS ⊢
  refine W.widen (k := 0) (n := 0) (by decide) (by decide) ?_
  refine lv_if_eq (tgt := 38) hx hb d_M_isAttribute_5 (by decide) (fun hc3 => ?_) (fun hc3 => ?_)
  ·
    rw [if_pos hc3] at h
    refine lv_iconst (v := 0) hx hb d_M_isAttribute_38 (by decide) ?_
    have h9 := Option.some.inj h
    rw [← h9]
    exact W.zret (v := 0) (ty := .boolean) hx hb hr (by decide) (fun t ht hW => ⟨⟨0, (), rfl, rfl, by rw [ht]; exact hP, va_K.moved hW.alike hK, hD⟩, hS.F ht⟩) hS.2.2 d_M_isAttribute_39
  ·
    rw [if_neg hc3] at h
    refine lv_iload_n hx hb d_M_isAttribute_8 rfl (lv_at hl 2 rfl) ?_
    refine lv_if_lt (tgt := 38) hx hb d_M_isAttribute_9 (by decide) (fun hc4 => ?_) (fun hc4 => ?_)
    ·
      rw [if_pos hc4] at h
      refine lv_iconst (v := 0) hx hb d_M_isAttribute_38 (by decide) ?_
      have h9 := Option.some.inj h
      rw [← h9]
      exact W.zret (v := 0) (ty := .boolean) hx hb hr (by decide) (fun t ht hW => ⟨⟨0, (), rfl, rfl, by rw [ht]; exact hP, va_K.moved hW.alike hK, hD⟩, hS.F ht⟩) hS.2.2 d_M_isAttribute_39
    ·
      rw [if_neg hc4] at h
      refine lv_iload_n hx hb d_M_isAttribute_12 rfl (lv_at hl 2 rfl) ?_
      refine lv_aload_n hx hb d_M_isAttribute_13 rfl (lv_at hl 0 rfl) ?_
      refine g_M_attributes dC dI bd cb q1.2 hx hb hts hown hK hP k_372 d_M_isAttribute_14 ?_
      refine lv_aload_n hx hb d_M_isAttribute_17 rfl (lv_at hl 0 rfl) ?_
      refine g_M_symbolAt dC dI bd cb q1.2 hx hb hts hown hK hP k_384 d_M_isAttribute_18 ?_
      refine lv_iconst (v := 4) hx hb d_M_isAttribute_21 (by decide) ?_
      refine lv_aload_n hx hb d_M_isAttribute_22 rfl (lv_at hl 0 rfl) ?_
      refine g_M_production dC dI bd cb q1.2 hx hb hts hown hK hP k_492 d_M_isAttribute_23 ?_
      refine lv_iload_n hx hb d_M_isAttribute_26 rfl (lv_at hl 1 rfl) ?_
      obtain ⟨hi5, h⟩ := vq_bd h
      refine al_M17 dC dI bd cb q1.2 hx hb hts hown hK hP hi5 d_M_isAttribute_27 ?_
      obtain ⟨i6, ei6, h⟩ := vq_let h
      refine vq_top ei6.symm ?_
      refine lv_imul hx hb d_M_isAttribute_28 ?_
      obtain ⟨hi7, h⟩ := vq_bd h
      refine al_M3 dC dI bd cb q1.2 hx hb hts hown hK hP hi7 d_M_isAttribute_29 ?_
      obtain ⟨i8, ei8, h⟩ := vq_let h
      refine vq_top ei8.symm ?_
      obtain ⟨hi9, h⟩ := vq_bd h
      refine al_M0 dC dI bd cb q1.2 hx hb hts hown hK hP hi9 d_M_isAttribute_30 ?_
      obtain ⟨i10, ei10, h⟩ := vq_let h
      refine vq_top ei10.symm ?_
      refine lv_icmp_ge (tgt := 38) hx hb d_M_isAttribute_31 (by decide) (fun hc11 => ?_) (fun hc11 => ?_)
      ·
        rw [if_pos hc11] at h
        refine lv_iconst (v := 0) hx hb d_M_isAttribute_38 (by decide) ?_
        have h9 := Option.some.inj h
        rw [← h9]
        exact W.zret (v := 0) (ty := .boolean) hx hb hr (by decide) (fun t ht hW => ⟨⟨0, (), rfl, rfl, by rw [ht]; exact hP, va_K.moved hW.alike hK, hD⟩, hS.F ht⟩) hS.2.2 d_M_isAttribute_39
      ·
        rw [if_neg hc11] at h
        refine lv_iconst (v := 1) hx hb d_M_isAttribute_34 (by decide) ?_
        refine lv_goto (tgt := 39) hx hb d_M_isAttribute_35 (by decide) ?_
        have h9 := Option.some.inj h
        rw [← h9]
        exact W.zret (v := 1) (ty := .boolean) hx hb hr (by decide) (fun t ht hW => ⟨⟨1, (), rfl, rfl, by rw [ht]; exact hP, va_K.moved hW.alike hK, hD⟩, hS.F ht⟩) hS.2.2 d_M_isAttribute_39

set_option maxHeartbeats 4000000 in
set_option maxRecDepth 100000 in
theorem c_M_knows (l : Launch) (htr : l.stackTraces = false) (dC : Nat → ClassId) (dI : Nat → Nat → Nat) (bd : Nat → Nat) (cb : Nat → ClassId) (N : Nat) (σ : vS) (a0 : Int32) (a1 : Int32) (v : Int32 × vS) (h : f_M_knows N σ a0 a1 = some v) (sz : Nat) : Met l y_M_knows WS ({ frames := 2, cells := 0, slots := 0, locals := 43 }) (va_Pc [.ref (bd 0), .int a0, .int a1] (vq_Pre (dC, dI) CL sz (Mw bd cb σ) (Mt cb))) (va_Qi (fun (r : Int32) (_ : Unit) => r = v.1) (fun _ t => vq_Post (dC, dI) CL (va_A (Mw bd cb σ) sz) (Mw bd cb v.2) (Mt cb) t) (va_A (Mw bd cb σ) sz)) 0 0 (va_A (Mw bd cb σ) sz) := by
  refine vq_ofW (cc := prog_10_method_48_code) (maxL := 3) (ret := (Option.some Jvm.ClassFile.FieldType.boolean)) pl_M (vq_his k_525) ?_
  intro p e s m args below meth c s₁ B hml hv
  obtain ⟨rfl, hst, hsz, hP, hK, hD0⟩ := hv
  have hx := B.exec
  have hb := B.bytes
  have hr := B.returns
  have hts := atoms_spec (ws := WS) B.pre
  have hown : s.vm.findClass R_M = some m.cls := findClass_of_methodNamed B.named
  have hlocks := B.notSynchronized
  have hno := vq_noH B (hts _ k_525)
  subst hsz
  have hN := vq_ns hP
  have hD := hD0.self (sz := s.heap.size)
  generalize hAe : va_A (Mw bd cb σ) s.heap.size = A at hD hN ⊢
  have hA : ∀ q : Nat, s.heap.size ≤ q → A q := fun q h => by rw [← hAe]; exact Or.inr h
  have hS : va_S A s.heap s.heap [] := va_S.rf
  have hl := lv_entry ([.ref (bd 0), .int a0, .int a1]) (n := 3) (Nat.le_of_ble_eq_true rfl)
  rw [lg_entry_eq]
  generalize (lg_sl ([.ref (bd 0), .int a0, .int a1]) ++ List.replicate (3 - (lg_sl ([.ref (bd 0), .int a0, .int a1])).length) Slot.unset).toArray = ls at hl ⊢
  have hl : lv_has ls 3 [(0, .ref (bd 0)), (1, .int a0), (2, .int a1)] := hl
  unfold f_M_knows at h
  refine lv_aload_n hx hb d_M_knows_0 rfl (lv_at hl 0 rfl) ?_
  refine lv_aload_n hx hb d_M_knows_1 rfl (lv_at hl 0 rfl) ?_
  refine lv_iload_n hx hb d_M_knows_2 rfl (lv_at hl 1 rfl) ?_
  refine lv_iload_n hx hb d_M_knows_3 rfl (lv_at hl 2 rfl) ?_
  obtain ⟨q1, h2, h⟩ := vq_bi h
  have hFc := vq_freeAll hD hS hA
  refine va_calli (va_runV (As := [.int a0, .int a1]) (rest := [.ref (bd 0)]) ⟨hx, hb, hml, hown, hts⟩ (c_M_isAttribute l htr dC dI bd cb N σ a0 a1 q1 h2 s.heap.size) (vq_cV WSk hts 2 rfl rfl ⟨by decide, by decide⟩ k_524 k_367 k_526 k_527 k_528 (by decide +kernel)) ⟨vq_blind, va_recv hK hP (ci := 8) (q0 := 0) rfl rfl, vq_here hst hS hN hP hK hD⟩ rfl rfl hl.1 rfl (lv_room (Nat.le_of_ble_eq_true rfl)) d_M_knows_4 ⟨by decide, by decide⟩) hS (fun q _ h => hFc q h) hFc (fun r u t H1 locs ht hvm hw hB hz1 hk1 hS => ?_)
  obtain ⟨hP, -, hD1⟩ := hB
  rw [ht] at hP
  have hD := hD1.weaken (fun _ _ _ h => hFc _ h)
  have hw : r = q1.1 := hw
  subst hw
  generalize H1 = H at hP hS ⊢
  refine W.widen (k := 0) (n := 0) (by decide) (by decide) ?_
  have J15 : ∀ (τ : vS) (x1 : Int32) (x2 : Int32) (y0 : Int32) (H : Heap) (locs : List Loc) (ls : Array Slot), f_M_knows_15 N τ x1 x2 y0 = some v → lv_has ls 3 [(0, .ref (bd 0)), (1, .int x1), (2, .int x2)] → va_P (dC, dI) CL (Mw bd cb τ) H → va_D A (Mw bd cb τ) → va_S A s.heap H locs → W p l e (headSpec WS ({ frames := 2, cells := 0, slots := 0, locals := 43 })).room s m ([.ref (bd 0), .int a0, .int a1] : List Value).toArray below meth c H locs 0 0 (MQ below (va_Qi (fun (r : Int32) (_ : Unit) => r = v.1) (fun _ t => vq_Post (dC, dI) CL A (Mw bd cb v.2) (Mt cb) t) A) ([.ref (bd 0), .int a0, .int a1] : List Value).toArray s 0 0 A) (F0 m 15 ls [.int y0, .ref (bd 0)]) := by
    intro τ x1 x2 y0 H locs ls h hl hP hD hS
    unfold f_M_knows_15 at h
    refine p_M_code dC dI bd cb τ hx hb hts hown hK hP hD hS k_359 d_M_knows_15 (fun H locs hP hD hS => ?_)
    obtain ⟨σ3, eσ3, h⟩ := vq_let h
    rw [← eσ3] at hP hD
    refine lv_aload_n hx hb d_M_knows_18 rfl (lv_at hl 0 rfl) ?_
    refine g_M_code dC dI bd cb σ3 hx hb hts hown hK hP k_359 d_M_knows_19 ?_
    refine lv_if_ne (tgt := 42) hx hb d_M_knows_22 (by decide) (fun hc4 => ?_) (fun hc4 => ?_)
    ·
      rw [if_neg hc4] at h
      refine lv_iconst (v := 0) hx hb d_M_knows_42 (by decide) ?_
      have h9 := Option.some.inj h
      rw [← h9]
      exact W.zret (v := 0) (ty := .boolean) hx hb hr (by decide) (fun t ht hW => ⟨⟨0, (), rfl, rfl, by rw [ht]; exact hP, va_K.moved hW.alike hK, hD⟩, hS.F ht⟩) hS.2.2 d_M_knows_43
    ·
      rw [if_pos hc4] at h
      refine lv_aload_n hx hb d_M_knows_25 rfl (lv_at hl 0 rfl) ?_
      refine g_M_known dC dI bd cb σ3 hx hb hts hown hK hP k_364 d_M_knows_26 ?_
      refine lv_iconst (v := 4) hx hb d_M_knows_29 (by decide) ?_
      refine lv_iload_n hx hb d_M_knows_30 rfl (lv_at hl 1 rfl) ?_
      refine lv_imul hx hb d_M_knows_31 ?_
      refine lv_iload_n hx hb d_M_knows_32 rfl (lv_at hl 2 rfl) ?_
      refine lv_iadd hx hb d_M_knows_33 ?_
      obtain ⟨hi5, h⟩ := vq_bd h
      refine al_M22 dC dI bd cb σ3 hx hb hts hown hK hP hi5 d_M_knows_34 ?_
      obtain ⟨i6, ei6, h⟩ := vq_let h
      refine vq_top ei6.symm ?_
      refine lv_if_eq (tgt := 42) hx hb d_M_knows_35 (by decide) (fun hc7 => ?_) (fun hc7 => ?_)
      ·
        rw [if_pos hc7] at h
        refine lv_iconst (v := 0) hx hb d_M_knows_42 (by decide) ?_
        have h9 := Option.some.inj h
        rw [← h9]
        exact W.zret (v := 0) (ty := .boolean) hx hb hr (by decide) (fun t ht hW => ⟨⟨0, (), rfl, rfl, by rw [ht]; exact hP, va_K.moved hW.alike hK, hD⟩, hS.F ht⟩) hS.2.2 d_M_knows_43
      ·
        rw [if_neg hc7] at h
        refine lv_iconst (v := 1) hx hb d_M_knows_38 (by decide) ?_
        refine lv_goto (tgt := 43) hx hb d_M_knows_39 (by decide) ?_
        have h9 := Option.some.inj h
        rw [← h9]
        exact W.zret (v := 1) (ty := .boolean) hx hb hr (by decide) (fun t ht hW => ⟨⟨1, (), rfl, rfl, by rw [ht]; exact hP, va_K.moved hW.alike hK, hD⟩, hS.F ht⟩) hS.2.2 d_M_knows_43
  refine lv_if_eq (tgt := 14) hx hb d_M_knows_7 (by decide) (fun hc8 => ?_) (fun hc8 => ?_)
  ·
    rw [if_pos hc8] at h
    refine lv_iconst (v := 1) hx hb d_M_knows_14 (by decide) ?_
    exact J15 _ _ _ _ _ _ _ h (lv_sub hl [0, 1, 2] rfl) hP hD hS
  ·
    rw [if_neg hc8] at h
    refine lv_iconst (v := 0) hx hb d_M_knows_10 (by decide) ?_
    refine lv_goto (tgt := 15) hx hb d_M_knows_11 (by decide) ?_
    exact J15 _ _ _ _ _ _ _ h (lv_sub hl [0, 1, 2] rfl) hP hD hS

set_option maxHeartbeats 4000000 in
set_option maxRecDepth 100000 in
theorem c_M_value (l : Launch) (htr : l.stackTraces = false) (dC : Nat → ClassId) (dI : Nat → Nat → Nat) (bd : Nat → Nat) (cb : Nat → ClassId) (N : Nat) (σ : vS) (a0 : Int32) (a1 : Int32) (v : Int32 × vS) (h : f_M_value N σ a0 a1 = some v) (sz : Nat) : Met l y_M_value WS ({ frames := 2, cells := 0, slots := 0, locals := 43 }) (va_Pc [.ref (bd 0), .int a0, .int a1] (vq_Pre (dC, dI) CL sz (Mw bd cb σ) (Mt cb))) (va_Qi (fun (r : Int32) (_ : Unit) => r = v.1) (fun _ t => vq_Post (dC, dI) CL (va_A (Mw bd cb σ) sz) (Mw bd cb v.2) (Mt cb) t) (va_A (Mw bd cb σ) sz)) 0 0 (va_A (Mw bd cb σ) sz) := by
  refine vq_ofW (cc := prog_10_method_49_code) (maxL := 3) (ret := (Option.some Jvm.ClassFile.FieldType.int)) pl_M (vq_his k_529) ?_
  intro p e s m args below meth c s₁ B hml hv
  obtain ⟨rfl, hst, hsz, hP, hK, hD0⟩ := hv
  have hx := B.exec
  have hb := B.bytes
  have hr := B.returns
  have hts := atoms_spec (ws := WS) B.pre
  have hown : s.vm.findClass R_M = some m.cls := findClass_of_methodNamed B.named
  have hlocks := B.notSynchronized
  have hno := vq_noH B (hts _ k_529)
  subst hsz
  have hN := vq_ns hP
  have hD := hD0.self (sz := s.heap.size)
  generalize hAe : va_A (Mw bd cb σ) s.heap.size = A at hD hN ⊢
  have hA : ∀ q : Nat, s.heap.size ≤ q → A q := fun q h => by rw [← hAe]; exact Or.inr h
  have hS : va_S A s.heap s.heap [] := va_S.rf
  have hl := lv_entry ([.ref (bd 0), .int a0, .int a1]) (n := 3) (Nat.le_of_ble_eq_true rfl)
  rw [lg_entry_eq]
  generalize (lg_sl ([.ref (bd 0), .int a0, .int a1]) ++ List.replicate (3 - (lg_sl ([.ref (bd 0), .int a0, .int a1])).length) Slot.unset).toArray = ls at hl ⊢
  have hl : lv_has ls 3 [(0, .ref (bd 0)), (1, .int a0), (2, .int a1)] := hl
  unfold f_M_value at h
  refine lv_aload_n hx hb d_M_value_0 rfl (lv_at hl 0 rfl) ?_
  refine lv_aload_n hx hb d_M_value_1 rfl (lv_at hl 0 rfl) ?_
  refine lv_iload_n hx hb d_M_value_2 rfl (lv_at hl 1 rfl) ?_
  refine lv_iload_n hx hb d_M_value_3 rfl (lv_at hl 2 rfl) ?_
  obtain ⟨q1, h2, h⟩ := vq_bi h
  have hFc := vq_freeAll hD hS hA
  refine va_calli (va_runV (As := [.int a0, .int a1]) (rest := [.ref (bd 0)]) ⟨hx, hb, hml, hown, hts⟩ (c_M_isAttribute l htr dC dI bd cb N σ a0 a1 q1 h2 s.heap.size) (vq_cV WSk hts 2 rfl rfl ⟨by decide, by decide⟩ k_524 k_367 k_526 k_527 k_528 (by decide +kernel)) ⟨vq_blind, va_recv hK hP (ci := 8) (q0 := 0) rfl rfl, vq_here hst hS hN hP hK hD⟩ rfl rfl hl.1 rfl (lv_room (Nat.le_of_ble_eq_true rfl)) d_M_value_4 ⟨by decide, by decide⟩) hS (fun q _ h => hFc q h) hFc (fun r u t H1 locs ht hvm hw hB hz1 hk1 hS => ?_)
  obtain ⟨hP, -, hD1⟩ := hB
  rw [ht] at hP
  have hD := hD1.weaken (fun _ _ _ h => hFc _ h)
  have hw : r = q1.1 := hw
  subst hw
  generalize H1 = H at hP hS ⊢
  refine W.widen (k := 0) (n := 0) (by decide) (by decide) ?_
  have J32 : ∀ (τ : vS) (x1 : Int32) (x2 : Int32) (y0 : Int32) (H : Heap) (locs : List Loc) (ls : Array Slot), f_M_value_32 N τ x1 x2 y0 = some v → lv_has ls 3 [(0, .ref (bd 0)), (1, .int x1), (2, .int x2)] → va_P (dC, dI) CL (Mw bd cb τ) H → va_D A (Mw bd cb τ) → va_S A s.heap H locs → W p l e (headSpec WS ({ frames := 2, cells := 0, slots := 0, locals := 43 })).room s m ([.ref (bd 0), .int a0, .int a1] : List Value).toArray below meth c H locs 0 0 (MQ below (va_Qi (fun (r : Int32) (_ : Unit) => r = v.1) (fun _ t => vq_Post (dC, dI) CL A (Mw bd cb v.2) (Mt cb) t) A) ([.ref (bd 0), .int a0, .int a1] : List Value).toArray s 0 0 A) (F0 m 32 ls [.int y0, .ref (bd 0)]) := by
    intro τ x1 x2 y0 H locs ls h hl hP hD hS
    unfold f_M_value_32 at h
    refine p_M_code dC dI bd cb τ hx hb hts hown hK hP hD hS k_359 d_M_value_32 (fun H locs hP hD hS => ?_)
    obtain ⟨σ3, eσ3, h⟩ := vq_let h
    rw [← eσ3] at hP hD
    refine lv_aload_n hx hb d_M_value_35 rfl (lv_at hl 0 rfl) ?_
    refine g_M_code dC dI bd cb σ3 hx hb hts hown hK hP k_359 d_M_value_36 ?_
    refine lv_if_le (tgt := 46) hx hb d_M_value_39 (by decide) (fun hc4 => ?_) (fun hc4 => ?_)
    ·
      rw [if_pos hc4] at h
      refine lv_aload_n hx hb d_M_value_46 rfl (lv_at hl 0 rfl) ?_
      refine g_M_value dC dI bd cb σ3 hx hb hts hown hK hP k_504 d_M_value_47 ?_
      refine lv_iconst (v := 4) hx hb d_M_value_50 (by decide) ?_
      refine lv_iload_n hx hb d_M_value_51 rfl (lv_at hl 1 rfl) ?_
      refine lv_imul hx hb d_M_value_52 ?_
      refine lv_iload_n hx hb d_M_value_53 rfl (lv_at hl 2 rfl) ?_
      refine lv_iadd hx hb d_M_value_54 ?_
      obtain ⟨hi5, h⟩ := vq_bd h
      refine al_M23 dC dI bd cb σ3 hx hb hts hown hK hP hi5 d_M_value_55 ?_
      obtain ⟨i6, ei6, h⟩ := vq_let h
      refine vq_top ei6.symm ?_
      have h9 := Option.some.inj h
      rw [← h9]
      exact W.iret (v := i6) hx hb hr (fun t ht hW => ⟨⟨i6, (), rfl, rfl, by rw [ht]; exact hP, va_K.moved hW.alike hK, hD⟩, hS.F ht⟩) hS.2.2 d_M_value_56
    ·
      rw [if_neg hc4] at h
      refine lv_iconst (v := 0) hx hb d_M_value_42 (by decide) ?_
      refine lv_goto (tgt := 56) hx hb d_M_value_43 (by decide) ?_
      have h9 := Option.some.inj h
      rw [← h9]
      exact W.iret (v := (0 : Int32)) hx hb hr (fun t ht hW => ⟨⟨(0 : Int32), (), rfl, rfl, by rw [ht]; exact hP, va_K.moved hW.alike hK, hD⟩, hS.F ht⟩) hS.2.2 d_M_value_56
  refine lv_if_ne (tgt := 14) hx hb d_M_value_7 (by decide) (fun hc7 => ?_) (fun hc7 => ?_)
  ·
    rw [if_neg hc7] at h
    refine lv_aload_n hx hb d_M_value_14 rfl (lv_at hl 0 rfl) ?_
    refine g_M_known dC dI bd cb q1.2 hx hb hts hown hK hP k_364 d_M_value_15 ?_
    refine lv_iconst (v := 4) hx hb d_M_value_18 (by decide) ?_
    refine lv_iload_n hx hb d_M_value_19 rfl (lv_at hl 1 rfl) ?_
    refine lv_imul hx hb d_M_value_20 ?_
    refine lv_iload_n hx hb d_M_value_21 rfl (lv_at hl 2 rfl) ?_
    refine lv_iadd hx hb d_M_value_22 ?_
    obtain ⟨hi8, h⟩ := vq_bd h
    refine al_M22 dC dI bd cb q1.2 hx hb hts hown hK hP hi8 d_M_value_23 ?_
    obtain ⟨i9, ei9, h⟩ := vq_let h
    refine vq_top ei9.symm ?_
    refine lv_if_eq (tgt := 31) hx hb d_M_value_24 (by decide) (fun hc10 => ?_) (fun hc10 => ?_)
    ·
      rw [if_pos hc10] at h
      refine lv_iconst (v := 2) hx hb d_M_value_31 (by decide) ?_
      exact J32 _ _ _ _ _ _ _ h (lv_sub hl [0, 1, 2] rfl) hP hD hS
    ·
      rw [if_neg hc10] at h
      refine lv_iconst (v := 0) hx hb d_M_value_27 (by decide) ?_
      refine lv_goto (tgt := 32) hx hb d_M_value_28 (by decide) ?_
      exact J32 _ _ _ _ _ _ _ h (lv_sub hl [0, 1, 2] rfl) hP hD hS
  ·
    rw [if_pos hc7] at h
    refine lv_iconst (v := 1) hx hb d_M_value_10 (by decide) ?_
    refine lv_goto (tgt := 32) hx hb d_M_value_11 (by decide) ?_
    exact J32 _ _ _ _ _ _ _ h (lv_sub hl [0, 1, 2] rfl) hP hD hS
