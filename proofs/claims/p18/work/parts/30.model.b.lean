set_option maxHeartbeats 4000000 in
set_option maxRecDepth 100000 in
theorem c_M_thrown (l : Launch) (htr : l.stackTraces = false) (dC : Nat → ClassId) (dI : Nat → Nat → Nat) (bd : Nat → Nat) (cb : Nat → ClassId) (N : Nat) (σ : vS) (v : Int32 × vS) (h : f_M_thrown N σ = some v) (sz : Nat) : Met l y_M_thrown WS ({ frames := 0, cells := 0, slots := 0, locals := 0 }) (va_Pc [.ref (bd 0)] (vq_Pre (dC, dI) CL sz (Mw bd cb σ) (Mt cb))) (va_Qi (fun (r : Int32) (_ : Unit) => r = v.1) (fun _ t => vq_Post (dC, dI) CL (va_A (Mw bd cb σ) sz) (Mw bd cb v.2) (Mt cb) t) (va_A (Mw bd cb σ) sz)) 0 0 (va_A (Mw bd cb σ) sz) := by
  refine vq_ofW (cc := prog_10_method_2_code) (maxL := 1) (ret := (Option.some Jvm.ClassFile.FieldType.int)) pl_M (vq_his k_358) ?_
  intro p e s m args below meth c s₁ B hml hv
  obtain ⟨rfl, hst, hsz, hP, hK, hD0⟩ := hv
  have hx := B.exec
  have hb := B.bytes
  have hr := B.returns
  have hts := atoms_spec (ws := WS) B.pre
  have hown : s.vm.findClass R_M = some m.cls := findClass_of_methodNamed B.named
  have hlocks := B.notSynchronized
  have hno := vq_noH B (hts _ k_358)
  subst hsz
  have hN := vq_ns hP
  have hD := hD0.self (sz := s.heap.size)
  generalize hAe : va_A (Mw bd cb σ) s.heap.size = A at hD hN ⊢
  have hA : ∀ q : Nat, s.heap.size ≤ q → A q := fun q h => by rw [← hAe]; exact Or.inr h
  have hS : va_S A s.heap s.heap [] := va_S.rf
  have hl := lv_entry ([.ref (bd 0)]) (n := 1) (Nat.le_of_ble_eq_true rfl)
  rw [lg_entry_eq]
  generalize (lg_sl ([.ref (bd 0)]) ++ List.replicate (1 - (lg_sl ([.ref (bd 0)])).length) Slot.unset).toArray = ls at hl ⊢
  have hl : lv_has ls 1 [(0, .ref (bd 0))] := hl
  unfold f_M_thrown at h
  refine lv_aload_n hx hb d_M_thrown_0 rfl (lv_at hl 0 rfl) ?_
  refine g_M_code dC dI bd cb σ hx hb hts hown hK hP k_359 d_M_thrown_1 ?_
  have h9 := Option.some.inj h
  rw [← h9]
  exact W.iret (v := (σ.1 0)) hx hb hr (fun t ht hW => ⟨⟨(σ.1 0), (), rfl, rfl, by rw [ht]; exact hP, va_K.moved hW.alike hK, hD⟩, hS.F ht⟩) hS.2.2 d_M_thrown_4

set_option maxHeartbeats 4000000 in
set_option maxRecDepth 100000 in
theorem c_M_fail (l : Launch) (htr : l.stackTraces = false) (dC : Nat → ClassId) (dI : Nat → Nat → Nat) (bd : Nat → Nat) (cb : Nat → ClassId) (N : Nat) (σ : vS) (a0 : Int32) (v : Int32 × vS) (h : f_M_fail N σ a0 = some v) (sz : Nat) : Met l y_M_fail WS ({ frames := 0, cells := 0, slots := 0, locals := 0 }) (va_Pc [.ref (bd 0), .int a0] (vq_Pre (dC, dI) CL sz (Mw bd cb σ) (Mt cb))) (va_Qi (fun (r : Int32) (_ : Unit) => r = v.1) (fun _ t => vq_Post (dC, dI) CL (va_A (Mw bd cb σ) sz) (Mw bd cb v.2) (Mt cb) t) (va_A (Mw bd cb σ) sz)) 0 0 (va_A (Mw bd cb σ) sz) := by
  refine vq_ofW (cc := prog_10_method_3_code) (maxL := 2) (ret := (Option.some Jvm.ClassFile.FieldType.int)) pl_M (vq_his k_360) ?_
  intro p e s m args below meth c s₁ B hml hv
  obtain ⟨rfl, hst, hsz, hP, hK, hD0⟩ := hv
  have hx := B.exec
  have hb := B.bytes
  have hr := B.returns
  have hts := atoms_spec (ws := WS) B.pre
  have hown : s.vm.findClass R_M = some m.cls := findClass_of_methodNamed B.named
  have hlocks := B.notSynchronized
  have hno := vq_noH B (hts _ k_360)
  subst hsz
  have hN := vq_ns hP
  have hD := hD0.self (sz := s.heap.size)
  generalize hAe : va_A (Mw bd cb σ) s.heap.size = A at hD hN ⊢
  have hA : ∀ q : Nat, s.heap.size ≤ q → A q := fun q h => by rw [← hAe]; exact Or.inr h
  have hS : va_S A s.heap s.heap [] := va_S.rf
  have hl := lv_entry ([.ref (bd 0), .int a0]) (n := 2) (Nat.le_of_ble_eq_true rfl)
  rw [lg_entry_eq]
  generalize (lg_sl ([.ref (bd 0), .int a0]) ++ List.replicate (2 - (lg_sl ([.ref (bd 0), .int a0])).length) Slot.unset).toArray = ls at hl ⊢
  have hl : lv_has ls 2 [(0, .ref (bd 0)), (1, .int a0)] := hl
  unfold f_M_fail at h
  refine lv_aload_n hx hb d_M_fail_0 rfl (lv_at hl 0 rfl) ?_
  refine lv_iload_n hx hb d_M_fail_1 rfl (lv_at hl 1 rfl) ?_
  refine p_M_code dC dI bd cb σ hx hb hts hown hK hP hD hS k_359 d_M_fail_2 (fun H locs hP hD hS => ?_)
  obtain ⟨σ1, eσ1, h⟩ := vq_let h
  rw [← eσ1] at hP hD
  refine lv_iconst (v := 0) hx hb d_M_fail_5 (by decide) ?_
  have h9 := Option.some.inj h
  rw [← h9]
  exact W.iret (v := (0 : Int32)) hx hb hr (fun t ht hW => ⟨⟨(0 : Int32), (), rfl, rfl, by rw [ht]; exact hP, va_K.moved hW.alike hK, hD⟩, hS.F ht⟩) hS.2.2 d_M_fail_6

set_option maxHeartbeats 4000000 in
set_option maxRecDepth 100000 in
theorem c_M_endRun (l : Launch) (htr : l.stackTraces = false) (dC : Nat → ClassId) (dI : Nat → Nat → Nat) (bd : Nat → Nat) (cb : Nat → ClassId) (N : Nat) (σ : vS) (v : Int32 × vS) (h : f_M_endRun N σ = some v) (sz : Nat) : Met l y_M_endRun WS ({ frames := 0, cells := 0, slots := 0, locals := 0 }) (va_Pc [.ref (bd 0)] (vq_Pre (dC, dI) CL sz (Mw bd cb σ) (Mt cb))) (va_Qv (fun _ : Unit => True) (fun _ t => vq_Post (dC, dI) CL (va_A (Mw bd cb σ) sz) (Mw bd cb v.2) (Mt cb) t) (va_A (Mw bd cb σ) sz)) 0 0 (va_A (Mw bd cb σ) sz) := by
  refine vq_ofW (cc := prog_10_method_4_code) (maxL := 2) (ret := (Option.none : Option Jvm.ClassFile.FieldType)) pl_M (vq_his k_361) ?_
  intro p e s m args below meth c s₁ B hml hv
  obtain ⟨rfl, hst, hsz, hP, hK, hD0⟩ := hv
  have hx := B.exec
  have hb := B.bytes
  have hr := B.returns
  have hts := atoms_spec (ws := WS) B.pre
  have hown : s.vm.findClass R_M = some m.cls := findClass_of_methodNamed B.named
  have hlocks := B.notSynchronized
  have hno := vq_noH B (hts _ k_361)
  subst hsz
  have hN := vq_ns hP
  have hD := hD0.self (sz := s.heap.size)
  generalize hAe : va_A (Mw bd cb σ) s.heap.size = A at hD hN ⊢
  have hA : ∀ q : Nat, s.heap.size ≤ q → A q := fun q h => by rw [← hAe]; exact Or.inr h
  have hS : va_S A s.heap s.heap [] := va_S.rf
  have hl := lv_entry ([.ref (bd 0)]) (n := 2) (Nat.le_of_ble_eq_true rfl)
  rw [lg_entry_eq]
  generalize (lg_sl ([.ref (bd 0)]) ++ List.replicate (2 - (lg_sl ([.ref (bd 0)])).length) Slot.unset).toArray = ls at hl ⊢
  have hl : lv_has ls 2 [(0, .ref (bd 0))] := hl
  unfold f_M_endRun at h
  refine lv_aload_n hx hb d_M_endRun_0 rfl (lv_at hl 0 rfl) ?_
  refine lv_iconst (v := (-1)) hx hb d_M_endRun_1 (by decide) ?_
  refine p_M_root dC dI bd cb σ hx hb hts hown hK hP hD hS k_362 d_M_endRun_2 (fun H locs hP hD hS => ?_)
  obtain ⟨σ1, eσ1, h⟩ := vq_let h
  rw [← eσ1] at hP hD
  refine lv_aload_n hx hb d_M_endRun_5 rfl (lv_at hl 0 rfl) ?_
  refine lv_iconst (v := (-1)) hx hb d_M_endRun_6 (by decide) ?_
  refine p_M_hand dC dI bd cb σ1 hx hb hts hown hK hP hD hS k_363 d_M_endRun_7 (fun H locs hP hD hS => ?_)
  obtain ⟨σ2, eσ2, h⟩ := vq_let h
  rw [← eσ2] at hP hD
  refine lv_iconst (v := 0) hx hb d_M_endRun_10 (by decide) ?_
  refine lv_istore_n (lv' := [(1, .int 0), (0, .ref (bd 0))]) hx hb d_M_endRun_11 rfl hl (by decide) rfl (fun ls hl => ?_)
  have L12 : ∀ n12 : Nat, ∀ (τ : vS) (x1 : Int32) (H : Heap) (locs : List Loc) (ls : Array Slot), f_M_endRun_12 N n12 τ x1 = some v → lv_has ls 2 [(0, .ref (bd 0)), (1, .int x1)] → va_P (dC, dI) CL (Mw bd cb τ) H → va_D A (Mw bd cb τ) → va_S A s.heap H locs → W p l e (headSpec WS ({ frames := 0, cells := 0, slots := 0, locals := 0 })).room s m ([.ref (bd 0)] : List Value).toArray below meth c H locs 0 0 (MQ below (va_Qv (fun _ : Unit => True) (fun _ t => vq_Post (dC, dI) CL A (Mw bd cb v.2) (Mt cb) t) A) ([.ref (bd 0)] : List Value).toArray s 0 0 A) (F0 m 12 ls []) := by
    intro n12
    induction n12 with
    | zero =>
      intro τ x1 H locs ls h hl hP hD hS
      rw [f_M_endRun_12] at h
      cases h
    | succ n12 ih12 =>
      intro τ x1 H locs ls h hl hP hD hS
      rw [f_M_endRun_12] at h
      dsimp only at h
      refine lv_iload_n hx hb d_M_endRun_12 rfl (lv_at hl 1 rfl) ?_
      refine lv_sipush (v := 160) hx hb d_M_endRun_13 (by decide) ?_
      refine lv_icmp_ge (tgt := 32) hx hb d_M_endRun_16 (by decide) (fun hc3 => ?_) (fun hc3 => ?_)
      ·
        rw [if_pos hc3] at h
        have h9 := Option.some.inj h
        rw [← h9]
        exact W.vret hx hb hr (fun t ht hW => ⟨⟨(), rfl, trivial, by rw [ht]; exact hP, va_K.moved hW.alike hK, hD⟩, hS.F ht⟩) hS.2.2 d_M_endRun_32
      ·
        rw [if_neg hc3] at h
        refine lv_aload_n hx hb d_M_endRun_19 rfl (lv_at hl 0 rfl) ?_
        refine g_M_known dC dI bd cb τ hx hb hts hown hK hP k_364 d_M_endRun_20 ?_
        refine lv_iload_n hx hb d_M_endRun_23 rfl (lv_at hl 1 rfl) ?_
        refine lv_iconst (v := 0) hx hb d_M_endRun_24 (by decide) ?_
        obtain ⟨hi4, h⟩ := vq_bd h
        refine as_M22 dC dI bd cb τ hx hb hts hown hK hP hD hS hi4 d_M_endRun_25 (fun H locs hP hD hS => ?_)
        obtain ⟨σ5, eσ5, h⟩ := vq_let h
        rw [← eσ5] at hP hD
        refine lv_iinc (k := 1) (v := (x1 + 1)) (lv' := [(1, .int (x1 + 1)), (0, .ref (bd 0))]) hx hb d_M_endRun_26 hl rfl rfl (by decide) rfl (fun ls hl => ?_)
        refine lv_goto (tgt := 12) hx hb d_M_endRun_29 (by decide) ?_
        exact ih12 _ _ _ _ _ h (lv_sub hl [1, 0] rfl) hP hD hS
  exact L12 N _ _ _ _ _ h (lv_sub hl [1, 0] rfl) hP hD hS

set_option maxHeartbeats 4000000 in
set_option maxRecDepth 100000 in
theorem c_M_forget (l : Launch) (htr : l.stackTraces = false) (dC : Nat → ClassId) (dI : Nat → Nat → Nat) (bd : Nat → Nat) (cb : Nat → ClassId) (N : Nat) (σ : vS) (v : Int32 × vS) (h : f_M_forget N σ = some v) (sz : Nat) : Met l y_M_forget WS ({ frames := 1, cells := 0, slots := 0, locals := 21 }) (va_Pc [.ref (bd 0)] (vq_Pre (dC, dI) CL sz (Mw bd cb σ) (Mt cb))) (va_Qv (fun _ : Unit => True) (fun _ t => vq_Post (dC, dI) CL (va_A (Mw bd cb σ) sz) (Mw bd cb v.2) (Mt cb) t) (va_A (Mw bd cb σ) sz)) 0 0 (va_A (Mw bd cb σ) sz) := by
  refine vq_ofW (cc := prog_10_method_5_code) (maxL := 1) (ret := (Option.none : Option Jvm.ClassFile.FieldType)) pl_M (vq_his k_365) ?_
  intro p e s m args below meth c s₁ B hml hv
  obtain ⟨rfl, hst, hsz, hP, hK, hD0⟩ := hv
  have hx := B.exec
  have hb := B.bytes
  have hr := B.returns
  have hts := atoms_spec (ws := WS) B.pre
  have hown : s.vm.findClass R_M = some m.cls := findClass_of_methodNamed B.named
  have hlocks := B.notSynchronized
  have hno := vq_noH B (hts _ k_365)
  subst hsz
  have hN := vq_ns hP
  have hD := hD0.self (sz := s.heap.size)
  generalize hAe : va_A (Mw bd cb σ) s.heap.size = A at hD hN ⊢
  have hA : ∀ q : Nat, s.heap.size ≤ q → A q := fun q h => by rw [← hAe]; exact Or.inr h
  have hS : va_S A s.heap s.heap [] := va_S.rf
  have hl := lv_entry ([.ref (bd 0)]) (n := 1) (Nat.le_of_ble_eq_true rfl)
  rw [lg_entry_eq]
  generalize (lg_sl ([.ref (bd 0)]) ++ List.replicate (1 - (lg_sl ([.ref (bd 0)])).length) Slot.unset).toArray = ls at hl ⊢
  have hl : lv_has ls 1 [(0, .ref (bd 0))] := hl
  unfold f_M_forget at h
  refine lv_aload_n hx hb d_M_forget_0 rfl (lv_at hl 0 rfl) ?_
  refine lv_iconst (v := 0) hx hb d_M_forget_1 (by decide) ?_
  refine p_M_analysed dC dI bd cb σ hx hb hts hown hK hP hD hS k_366 (by decide) d_M_forget_2 (fun H locs hP hD hS => ?_)
  obtain ⟨σ1, eσ1, h⟩ := vq_let h
  rw [← eσ1] at hP hD
  refine lv_aload_n hx hb d_M_forget_5 rfl (lv_at hl 0 rfl) ?_
  obtain ⟨q2, h3, h⟩ := vq_bi h
  have hFc := vq_freeAll hD hS hA
  refine va_callv (va_runV (As := []) (rest := []) ⟨hx, hb, hml, hown, hts⟩ (c_M_endRun l htr dC dI bd cb N σ1 q2 h3 H.size) (vq_cV WSk hts 0 rfl rfl ⟨by decide, by decide⟩ k_361 k_367 k_368 k_369 k_370 (by decide +kernel)) ⟨vq_blind, va_recv hK hP (ci := 8) (q0 := 0) rfl rfl, vq_here hst hS hN hP hK hD⟩ rfl rfl hl.1 rfl (lv_room (Nat.le_of_ble_eq_true rfl)) d_M_forget_6 ⟨by decide, by decide⟩) hS (fun q _ h => hFc q h) hFc (fun u t H1 locs ht hvm hw hB hz1 hk1 hS => ?_)
  obtain ⟨hP, -, hD1⟩ := hB
  rw [ht] at hP
  have hD := hD1.weaken (fun _ _ _ h => hFc _ h)
  generalize H1 = H at hP hS ⊢
  refine W.widen (k := 0) (n := 0) (by decide) (by decide) ?_
  have h9 := Option.some.inj h
  rw [← h9]
  exact W.vret hx hb hr (fun t ht hW => ⟨⟨(), rfl, trivial, by rw [ht]; exact hP, va_K.moved hW.alike hK, hD⟩, hS.F ht⟩) hS.2.2 d_M_forget_9

set_option maxHeartbeats 4000000 in
set_option maxRecDepth 100000 in
theorem c_M_symbol (l : Launch) (htr : l.stackTraces = false) (dC : Nat → ClassId) (dI : Nat → Nat → Nat) (bd : Nat → Nat) (cb : Nat → ClassId) (N : Nat) (σ : vS) (a0 : Int32) (a1 : Int32) (v : Int32 × vS) (h : f_M_symbol N σ a0 a1 = some v) (sz : Nat) : Met l y_M_symbol WS ({ frames := 2, cells := 0, slots := 0, locals := 41 }) (va_Pc [.ref (bd 0), .int a0, .int a1] (vq_Pre (dC, dI) CL sz (Mw bd cb σ) (Mt cb))) (va_Qi (fun (r : Int32) (_ : Unit) => r = v.1) (fun _ t => vq_Post (dC, dI) CL (va_A (Mw bd cb σ) sz) (Mw bd cb v.2) (Mt cb) t) (va_A (Mw bd cb σ) sz)) 0 0 (va_A (Mw bd cb σ) sz) := by
  refine vq_ofW (cc := prog_10_method_6_code) (maxL := 4) (ret := (Option.some Jvm.ClassFile.FieldType.int)) pl_M (vq_his k_371) ?_
  intro p e s m args below meth c s₁ B hml hv
  obtain ⟨rfl, hst, hsz, hP, hK, hD0⟩ := hv
  have hx := B.exec
  have hb := B.bytes
  have hr := B.returns
  have hts := atoms_spec (ws := WS) B.pre
  have hown : s.vm.findClass R_M = some m.cls := findClass_of_methodNamed B.named
  have hlocks := B.notSynchronized
  have hno := vq_noH B (hts _ k_371)
  subst hsz
  have hN := vq_ns hP
  have hD := hD0.self (sz := s.heap.size)
  generalize hAe : va_A (Mw bd cb σ) s.heap.size = A at hD hN ⊢
  have hA : ∀ q : Nat, s.heap.size ≤ q → A q := fun q h => by rw [← hAe]; exact Or.inr h
  have hS : va_S A s.heap s.heap [] := va_S.rf
  have hl := lv_entry ([.ref (bd 0), .int a0, .int a1]) (n := 4) (Nat.le_of_ble_eq_true rfl)
  rw [lg_entry_eq]
  generalize (lg_sl ([.ref (bd 0), .int a0, .int a1]) ++ List.replicate (4 - (lg_sl ([.ref (bd 0), .int a0, .int a1])).length) Slot.unset).toArray = ls at hl ⊢
  have hl : lv_has ls 4 [(0, .ref (bd 0)), (1, .int a0), (2, .int a1)] := hl
  unfold f_M_symbol at h
  refine lv_aload_n hx hb d_M_symbol_0 rfl (lv_at hl 0 rfl) ?_
  refine lv_iload_n hx hb d_M_symbol_1 rfl (lv_at hl 1 rfl) ?_
  have J28 : ∀ (τ : vS) (x1 : Int32) (x2 : Int32) (y0 : Int32) (H : Heap) (locs : List Loc) (ls : Array Slot), f_M_symbol_28 N τ x1 x2 y0 = some v → lv_has ls 4 [(0, .ref (bd 0)), (1, .int x1), (2, .int x2)] → va_P (dC, dI) CL (Mw bd cb τ) H → va_D A (Mw bd cb τ) → va_S A s.heap H locs → W p l e (headSpec WS ({ frames := 2, cells := 0, slots := 0, locals := 41 })).room s m ([.ref (bd 0), .int a0, .int a1] : List Value).toArray below meth c H locs 0 0 (MQ below (va_Qi (fun (r : Int32) (_ : Unit) => r = v.1) (fun _ t => vq_Post (dC, dI) CL A (Mw bd cb v.2) (Mt cb) t) A) ([.ref (bd 0), .int a0, .int a1] : List Value).toArray s 0 0 A) (F0 m 28 ls [.int y0, .ref (bd 0)]) := by
    intro τ x1 x2 y0 H locs ls h hl hP hD hS
    unfold f_M_symbol_28 at h
    refine p_M_code dC dI bd cb τ hx hb hts hown hK hP hD hS k_359 d_M_symbol_28 (fun H locs hP hD hS => ?_)
    obtain ⟨σ1, eσ1, h⟩ := vq_let h
    rw [← eσ1] at hP hD
    refine lv_aload_n hx hb d_M_symbol_31 rfl (lv_at hl 0 rfl) ?_
    refine g_M_code dC dI bd cb σ1 hx hb hts hown hK hP k_359 d_M_symbol_32 ?_
    refine lv_if_le (tgt := 40) hx hb d_M_symbol_35 (by decide) (fun hc2 => ?_) (fun hc2 => ?_)
    ·
      rw [if_pos hc2] at h
      refine lv_aload_n hx hb d_M_symbol_40 rfl (lv_at hl 0 rfl) ?_
      refine g_M_attributes dC dI bd cb σ1 hx hb hts hown hK hP k_372 d_M_symbol_41 ?_
      refine lv_aload_n hx hb d_M_symbol_44 rfl (lv_at hl 0 rfl) ?_
      refine g_M_symbols dC dI bd cb σ1 hx hb hts hown hK hP k_373 d_M_symbol_45 ?_
      refine lv_iload_n hx hb d_M_symbol_48 rfl (lv_at hl 1 rfl) ?_
      obtain ⟨hi3, h⟩ := vq_bd h
      refine as_M0 dC dI bd cb σ1 hx hb hts hown hK hP hD hS hi3 d_M_symbol_49 (fun H locs hP hD hS => ?_)
      obtain ⟨σ4, eσ4, h⟩ := vq_let h
      rw [← eσ4] at hP hD
      refine lv_iconst (v := 0) hx hb d_M_symbol_50 (by decide) ?_
      refine lv_istore_n (lv' := [(3, .int 0), (0, .ref (bd 0)), (1, .int x1), (2, .int x2)]) hx hb d_M_symbol_51 rfl hl (by decide) rfl (fun ls hl => ?_)
      have L52 : ∀ n52 : Nat, ∀ (τ : vS) (x1 : Int32) (x2 : Int32) (x3 : Int32) (H : Heap) (locs : List Loc) (ls : Array Slot), f_M_symbol_52 N n52 τ x1 x2 x3 = some v → lv_has ls 4 [(0, .ref (bd 0)), (1, .int x1), (2, .int x2), (3, .int x3)] → va_P (dC, dI) CL (Mw bd cb τ) H → va_D A (Mw bd cb τ) → va_S A s.heap H locs → W p l e (headSpec WS ({ frames := 2, cells := 0, slots := 0, locals := 41 })).room s m ([.ref (bd 0), .int a0, .int a1] : List Value).toArray below meth c H locs 0 0 (MQ below (va_Qi (fun (r : Int32) (_ : Unit) => r = v.1) (fun _ t => vq_Post (dC, dI) CL A (Mw bd cb v.2) (Mt cb) t) A) ([.ref (bd 0), .int a0, .int a1] : List Value).toArray s 0 0 A) (F0 m 52 ls []) := by
        intro n52
        induction n52 with
        | zero =>
          intro τ x1 x2 x3 H locs ls h hl hP hD hS
          rw [f_M_symbol_52] at h
          cases h
        | succ n52 ih52 =>
          intro τ x1 x2 x3 H locs ls h hl hP hD hS
          rw [f_M_symbol_52] at h
          dsimp only at h
          refine lv_iload_n hx hb d_M_symbol_52 rfl (lv_at hl 3 rfl) ?_
          refine lv_iconst (v := 4) hx hb d_M_symbol_53 (by decide) ?_
          refine lv_icmp_ge (tgt := 95) hx hb d_M_symbol_54 (by decide) (fun hc5 => ?_) (fun hc5 => ?_)
          ·
            rw [if_pos hc5] at h
            refine lv_aload_n hx hb d_M_symbol_95 rfl (lv_at hl 0 rfl) ?_
            refine lv_dup hx hb d_M_symbol_96 rfl ?_
            refine g_M_symbols dC dI bd cb τ hx hb hts hown hK hP k_373 d_M_symbol_97 ?_
            refine lv_iconst (v := 1) hx hb d_M_symbol_100 (by decide) ?_
            refine lv_iadd hx hb d_M_symbol_101 ?_
            refine p_M_symbols dC dI bd cb τ hx hb hts hown hK hP hD hS k_373 d_M_symbol_102 (fun H locs hP hD hS => ?_)
            obtain ⟨σ6, eσ6, h⟩ := vq_let h
            rw [← eσ6] at hP hD
            refine lv_aload_n hx hb d_M_symbol_105 rfl (lv_at hl 0 rfl) ?_
            obtain ⟨q7, h8, h⟩ := vq_bi h
            have hFc := vq_freeAll hD hS hA
            refine va_callv (va_runV (As := []) (rest := []) ⟨hx, hb, hml, hown, hts⟩ (c_M_forget l htr dC dI bd cb N σ6 q7 h8 H.size) (vq_cV WSk hts 0 rfl rfl ⟨by decide, by decide⟩ k_365 k_367 k_374 k_375 k_376 (by decide +kernel)) ⟨vq_blind, va_recv hK hP (ci := 8) (q0 := 0) rfl rfl, vq_here hst hS hN hP hK hD⟩ rfl rfl hl.1 rfl (lv_room (Nat.le_of_ble_eq_true rfl)) d_M_symbol_106 ⟨by decide, by decide⟩) hS (fun q _ h => hFc q h) hFc (fun u t H1 locs ht hvm hw hB hz1 hk1 hS => ?_)
            obtain ⟨hP, -, hD1⟩ := hB
            rw [ht] at hP
            have hD := hD1.weaken (fun _ _ _ h => hFc _ h)
            generalize H1 = H at hP hS ⊢
            refine W.widen (k := 0) (n := 0) (by decide) (by decide) ?_
            refine lv_aload_n hx hb d_M_symbol_109 rfl (lv_at hl 0 rfl) ?_
            refine g_M_symbols dC dI bd cb q7.2 hx hb hts hown hK hP k_373 d_M_symbol_110 ?_
            refine lv_iconst (v := 1) hx hb d_M_symbol_113 (by decide) ?_
            refine lv_isub hx hb d_M_symbol_114 ?_
            have h9 := Option.some.inj h
            rw [← h9]
            exact W.iret (v := ((q7.2.1 1) - 1)) hx hb hr (fun t ht hW => ⟨⟨((q7.2.1 1) - 1), (), rfl, rfl, by rw [ht]; exact hP, va_K.moved hW.alike hK, hD⟩, hS.F ht⟩) hS.2.2 d_M_symbol_115
          ·
            rw [if_neg hc5] at h
            refine lv_aload_n hx hb d_M_symbol_57 rfl (lv_at hl 0 rfl) ?_
            refine g_M_inherits dC dI bd cb τ hx hb hts hown hK hP k_377 d_M_symbol_58 ?_
            refine lv_iconst (v := 4) hx hb d_M_symbol_61 (by decide) ?_
            refine lv_aload_n hx hb d_M_symbol_62 rfl (lv_at hl 0 rfl) ?_
            refine g_M_symbols dC dI bd cb τ hx hb hts hown hK hP k_373 d_M_symbol_63 ?_
            refine lv_imul hx hb d_M_symbol_66 ?_
            refine lv_iload_n hx hb d_M_symbol_67 rfl (lv_at hl 3 rfl) ?_
            refine lv_iadd hx hb d_M_symbol_68 ?_
            refine lv_iload_n hx hb d_M_symbol_69 rfl (lv_at hl 3 rfl) ?_
            refine lv_iload_n hx hb d_M_symbol_70 rfl (lv_at hl 1 rfl) ?_
            have J88 : ∀ (τ : vS) (x1 : Int32) (x2 : Int32) (x3 : Int32) (y0 : Int32) (y1 : Int32) (H : Heap) (locs : List Loc) (ls : Array Slot), f_M_symbol_88 N (f_M_symbol_52 N n52) τ x1 x2 x3 y0 y1 = some v → lv_has ls 4 [(0, .ref (bd 0)), (1, .int x1), (2, .int x2), (3, .int x3)] → va_P (dC, dI) CL (Mw bd cb τ) H → va_D A (Mw bd cb τ) → va_S A s.heap H locs → W p l e (headSpec WS ({ frames := 2, cells := 0, slots := 0, locals := 41 })).room s m ([.ref (bd 0), .int a0, .int a1] : List Value).toArray below meth c H locs 0 0 (MQ below (va_Qi (fun (r : Int32) (_ : Unit) => r = v.1) (fun _ t => vq_Post (dC, dI) CL A (Mw bd cb v.2) (Mt cb) t) A) ([.ref (bd 0), .int a0, .int a1] : List Value).toArray s 0 0 A) (F0 m 88 ls [.int y0, .int y1, .ref (bd 2)]) := by
              intro τ x1 x2 x3 y0 y1 H locs ls h hl hP hD hS
              unfold f_M_symbol_88 at h
              obtain ⟨hi9, h⟩ := vq_bd h
              refine as_M1 dC dI bd cb τ hx hb hts hown hK hP hD hS hi9 d_M_symbol_88 (fun H locs hP hD hS => ?_)
              obtain ⟨σ10, eσ10, h⟩ := vq_let h
              rw [← eσ10] at hP hD
              refine lv_iinc (k := 3) (v := (x3 + 1)) (lv' := [(3, .int (x3 + 1)), (0, .ref (bd 0)), (1, .int x1), (2, .int x2)]) hx hb d_M_symbol_89 hl rfl rfl (by decide) rfl (fun ls hl => ?_)
              refine lv_goto (tgt := 52) hx hb d_M_symbol_92 (by decide) ?_
              exact ih52 _ _ _ _ _ _ _ h (lv_sub hl [1, 2, 3, 0] rfl) hP hD hS
            have J87 : ∀ (τ : vS) (x1 : Int32) (x2 : Int32) (x3 : Int32) (y0 : Int32) (H : Heap) (locs : List Loc) (ls : Array Slot), f_M_symbol_87 N (f_M_symbol_52 N n52) τ x1 x2 x3 y0 = some v → lv_has ls 4 [(0, .ref (bd 0)), (1, .int x1), (2, .int x2), (3, .int x3)] → va_P (dC, dI) CL (Mw bd cb τ) H → va_D A (Mw bd cb τ) → va_S A s.heap H locs → W p l e (headSpec WS ({ frames := 2, cells := 0, slots := 0, locals := 41 })).room s m ([.ref (bd 0), .int a0, .int a1] : List Value).toArray below meth c H locs 0 0 (MQ below (va_Qi (fun (r : Int32) (_ : Unit) => r = v.1) (fun _ t => vq_Post (dC, dI) CL A (Mw bd cb v.2) (Mt cb) t) A) ([.ref (bd 0), .int a0, .int a1] : List Value).toArray s 0 0 A) (F0 m 87 ls [.int y0, .ref (bd 2)]) := by
              intro τ x1 x2 x3 y0 H locs ls h hl hP hD hS
              unfold f_M_symbol_87 at h
              refine lv_iconst (v := 0) hx hb d_M_symbol_87 (by decide) ?_
              exact J88 _ _ _ _ _ _ _ _ _ h (lv_sub hl [0, 1, 2, 3] rfl) hP hD hS
            refine lv_icmp_ge (tgt := 87) hx hb d_M_symbol_71 (by decide) (fun hc11 => ?_) (fun hc11 => ?_)
            ·
              rw [if_pos hc11] at h
              exact J87 _ _ _ _ _ _ _ _ h (lv_sub hl [0, 1, 2, 3] rfl) hP hD hS
            ·
              rw [if_neg hc11] at h
              refine lv_iload_n hx hb d_M_symbol_74 rfl (lv_at hl 2 rfl) ?_
              refine lv_iload_n hx hb d_M_symbol_75 rfl (lv_at hl 3 rfl) ?_
              refine lv_ishr hx hb d_M_symbol_76 ?_
              refine lv_iconst (v := 1) hx hb d_M_symbol_77 (by decide) ?_
              refine lv_iand hx hb d_M_symbol_78 ?_
              refine lv_iconst (v := 1) hx hb d_M_symbol_79 (by decide) ?_
              refine lv_icmp_ne (tgt := 87) hx hb d_M_symbol_80 (by decide) (fun hc12 => ?_) (fun hc12 => ?_)
              ·
                rw [if_neg hc12] at h
                exact J87 _ _ _ _ _ _ _ _ h (lv_sub hl [0, 1, 2, 3] rfl) hP hD hS
              ·
                rw [if_pos hc12] at h
                refine lv_iconst (v := 1) hx hb d_M_symbol_83 (by decide) ?_
                refine lv_goto (tgt := 88) hx hb d_M_symbol_84 (by decide) ?_
                exact J88 _ _ _ _ _ _ _ _ _ h (lv_sub hl [0, 1, 2, 3] rfl) hP hD hS
      exact L52 N _ _ _ _ _ _ _ h (lv_sub hl [1, 2, 3, 0] rfl) hP hD hS
    ·
      rw [if_neg hc2] at h
      refine lv_iconst (v := 0) hx hb d_M_symbol_38 (by decide) ?_
      have h9 := Option.some.inj h
      rw [← h9]
      exact W.iret (v := (0 : Int32)) hx hb hr (fun t ht hW => ⟨⟨(0 : Int32), (), rfl, rfl, by rw [ht]; exact hP, va_K.moved hW.alike hK, hD⟩, hS.F ht⟩) hS.2.2 d_M_symbol_39
  have J10 : ∀ (τ : vS) (x1 : Int32) (x2 : Int32) (H : Heap) (locs : List Loc) (ls : Array Slot), f_M_symbol_10 N τ x1 x2 = some v → lv_has ls 4 [(0, .ref (bd 0)), (1, .int x1), (2, .int x2)] → va_P (dC, dI) CL (Mw bd cb τ) H → va_D A (Mw bd cb τ) → va_S A s.heap H locs → W p l e (headSpec WS ({ frames := 2, cells := 0, slots := 0, locals := 41 })).room s m ([.ref (bd 0), .int a0, .int a1] : List Value).toArray below meth c H locs 0 0 (MQ below (va_Qi (fun (r : Int32) (_ : Unit) => r = v.1) (fun _ t => vq_Post (dC, dI) CL A (Mw bd cb v.2) (Mt cb) t) A) ([.ref (bd 0), .int a0, .int a1] : List Value).toArray s 0 0 A) (F0 m 10 ls [.ref (bd 0)]) := by
    intro τ x1 x2 H locs ls h hl hP hD hS
    unfold f_M_symbol_10 at h
    refine lv_iconst (v := 1) hx hb d_M_symbol_10 (by decide) ?_
    refine lv_goto (tgt := 28) hx hb d_M_symbol_11 (by decide) ?_
    exact J28 _ _ _ _ _ _ _ h (lv_sub hl [0, 1, 2] rfl) hP hD hS
  refine lv_if_lt (tgt := 10) hx hb d_M_symbol_2 (by decide) (fun hc13 => ?_) (fun hc13 => ?_)
  ·
    rw [if_pos hc13] at h
    exact J10 _ _ _ _ _ _ h (lv_sub hl [0, 1, 2] rfl) hP hD hS
  ·
    rw [if_neg hc13] at h
    refine lv_iload_n hx hb d_M_symbol_5 rfl (lv_at hl 1 rfl) ?_
    refine lv_iconst (v := 4) hx hb d_M_symbol_6 (by decide) ?_
    refine lv_icmp_le (tgt := 14) hx hb d_M_symbol_7 (by decide) (fun hc14 => ?_) (fun hc14 => ?_)
    ·
      rw [if_pos hc14] at h
      refine lv_aload_n hx hb d_M_symbol_14 rfl (lv_at hl 0 rfl) ?_
      refine g_M_symbols dC dI bd cb σ hx hb hts hown hK hP k_373 d_M_symbol_15 ?_
      refine lv_bipush (v := 6) hx hb d_M_symbol_18 (by decide) ?_
      refine lv_icmp_ne (tgt := 27) hx hb d_M_symbol_20 (by decide) (fun hc15 => ?_) (fun hc15 => ?_)
      ·
        rw [if_neg hc15] at h
        refine lv_iconst (v := 0) hx hb d_M_symbol_27 (by decide) ?_
        exact J28 _ _ _ _ _ _ _ h (lv_sub hl [0, 1, 2] rfl) hP hD hS
      ·
        rw [if_pos hc15] at h
        refine lv_iconst (v := 2) hx hb d_M_symbol_23 (by decide) ?_
        refine lv_goto (tgt := 28) hx hb d_M_symbol_24 (by decide) ?_
        exact J28 _ _ _ _ _ _ _ h (lv_sub hl [0, 1, 2] rfl) hP hD hS
    ·
      rw [if_neg hc14] at h
      exact J10 _ _ _ _ _ _ h (lv_sub hl [0, 1, 2] rfl) hP hD hS

set_option maxHeartbeats 4000000 in
set_option maxRecDepth 100000 in
theorem c_M_isSymbol (l : Launch) (htr : l.stackTraces = false) (dC : Nat → ClassId) (dI : Nat → Nat → Nat) (bd : Nat → Nat) (cb : Nat → ClassId) (N : Nat) (σ : vS) (a0 : Int32) (v : Int32 × vS) (h : f_M_isSymbol N σ a0 = some v) (sz : Nat) : Met l y_M_isSymbol WS ({ frames := 0, cells := 0, slots := 0, locals := 0 }) (va_Pc [.ref (bd 0), .int a0] (vq_Pre (dC, dI) CL sz (Mw bd cb σ) (Mt cb))) (va_Qi (fun (r : Int32) (_ : Unit) => r = v.1) (fun _ t => vq_Post (dC, dI) CL (va_A (Mw bd cb σ) sz) (Mw bd cb v.2) (Mt cb) t) (va_A (Mw bd cb σ) sz)) 0 0 (va_A (Mw bd cb σ) sz) := by
  refine vq_ofW (cc := prog_10_method_7_code) (maxL := 2) (ret := (Option.some Jvm.ClassFile.FieldType.boolean)) pl_M (vq_his k_378) ?_
  intro p e s m args below meth c s₁ B hml hv
  obtain ⟨rfl, hst, hsz, hP, hK, hD0⟩ := hv
  have hx := B.exec
  have hb := B.bytes
  have hr := B.returns
  have hts := atoms_spec (ws := WS) B.pre
  have hown : s.vm.findClass R_M = some m.cls := findClass_of_methodNamed B.named
  have hlocks := B.notSynchronized
  have hno := vq_noH B (hts _ k_378)
  subst hsz
  have hN := vq_ns hP
  have hD := hD0.self (sz := s.heap.size)
  generalize hAe : va_A (Mw bd cb σ) s.heap.size = A at hD hN ⊢
  have hA : ∀ q : Nat, s.heap.size ≤ q → A q := fun q h => by rw [← hAe]; exact Or.inr h
  have hS : va_S A s.heap s.heap [] := va_S.rf
  have hl := lv_entry ([.ref (bd 0), .int a0]) (n := 2) (Nat.le_of_ble_eq_true rfl)
  rw [lg_entry_eq]
  generalize (lg_sl ([.ref (bd 0), .int a0]) ++ List.replicate (2 - (lg_sl ([.ref (bd 0), .int a0])).length) Slot.unset).toArray = ls at hl ⊢
  have hl : lv_has ls 2 [(0, .ref (bd 0)), (1, .int a0)] := hl
  unfold f_M_isSymbol at h
  refine lv_iload_n hx hb d_M_isSymbol_0 rfl (lv_at hl 1 rfl) ?_
  refine lv_if_lt (tgt := 16) hx hb d_M_isSymbol_1 (by decide) (fun hc1 => ?_) (fun hc1 => ?_)
  ·
    rw [if_pos hc1] at h
    refine lv_iconst (v := 0) hx hb d_M_isSymbol_16 (by decide) ?_
    have h9 := Option.some.inj h
    rw [← h9]
    exact W.zret (v := 0) (ty := .boolean) hx hb hr (by decide) (fun t ht hW => ⟨⟨0, (), rfl, rfl, by rw [ht]; exact hP, va_K.moved hW.alike hK, hD⟩, hS.F ht⟩) hS.2.2 d_M_isSymbol_17
  ·
    rw [if_neg hc1] at h
    refine lv_iload_n hx hb d_M_isSymbol_4 rfl (lv_at hl 1 rfl) ?_
    refine lv_aload_n hx hb d_M_isSymbol_5 rfl (lv_at hl 0 rfl) ?_
    refine g_M_symbols dC dI bd cb σ hx hb hts hown hK hP k_373 d_M_isSymbol_6 ?_
    refine lv_icmp_ge (tgt := 16) hx hb d_M_isSymbol_9 (by decide) (fun hc2 => ?_) (fun hc2 => ?_)
    ·
      rw [if_pos hc2] at h
      refine lv_iconst (v := 0) hx hb d_M_isSymbol_16 (by decide) ?_
      have h9 := Option.some.inj h
      rw [← h9]
      exact W.zret (v := 0) (ty := .boolean) hx hb hr (by decide) (fun t ht hW => ⟨⟨0, (), rfl, rfl, by rw [ht]; exact hP, va_K.moved hW.alike hK, hD⟩, hS.F ht⟩) hS.2.2 d_M_isSymbol_17
    ·
      rw [if_neg hc2] at h
      refine lv_iconst (v := 1) hx hb d_M_isSymbol_12 (by decide) ?_
      refine lv_goto (tgt := 17) hx hb d_M_isSymbol_13 (by decide) ?_
      have h9 := Option.some.inj h
      rw [← h9]
      exact W.zret (v := 1) (ty := .boolean) hx hb hr (by decide) (fun t ht hW => ⟨⟨1, (), rfl, rfl, by rw [ht]; exact hP, va_K.moved hW.alike hK, hD⟩, hS.F ht⟩) hS.2.2 d_M_isSymbol_17

set_option maxHeartbeats 4000000 in
set_option maxRecDepth 100000 in
theorem c_M_production (l : Launch) (htr : l.stackTraces = false) (dC : Nat → ClassId) (dI : Nat → Nat → Nat) (bd : Nat → Nat) (cb : Nat → ClassId) (N : Nat) (σ : vS) (a0 : Int32) (a1 : Int32) (a2 : Int32) (a3 : Int32) (v : Int32 × vS) (h : f_M_production N σ a0 a1 a2 a3 = some v) (sz : Nat) : Met l y_M_production WS ({ frames := 2, cells := 0, slots := 0, locals := 41 }) (va_Pc [.ref (bd 0), .int a0, .int a1, .int a2, .int a3] (vq_Pre (dC, dI) CL sz (Mw bd cb σ) (Mt cb))) (va_Qi (fun (r : Int32) (_ : Unit) => r = v.1) (fun _ t => vq_Post (dC, dI) CL (va_A (Mw bd cb σ) sz) (Mw bd cb v.2) (Mt cb) t) (va_A (Mw bd cb σ) sz)) 0 0 (va_A (Mw bd cb σ) sz) := by
  refine vq_ofW (cc := prog_10_method_8_code) (maxL := 9) (ret := (Option.some Jvm.ClassFile.FieldType.int)) pl_M (vq_his k_379) ?_
  intro p e s m args below meth c s₁ B hml hv
  obtain ⟨rfl, hst, hsz, hP, hK, hD0⟩ := hv
  have hx := B.exec
  have hb := B.bytes
  have hr := B.returns
  have hts := atoms_spec (ws := WS) B.pre
  have hown : s.vm.findClass R_M = some m.cls := findClass_of_methodNamed B.named
  have hlocks := B.notSynchronized
  have hno := vq_noH B (hts _ k_379)
  subst hsz
  have hN := vq_ns hP
  have hD := hD0.self (sz := s.heap.size)
  generalize hAe : va_A (Mw bd cb σ) s.heap.size = A at hD hN ⊢
  have hA : ∀ q : Nat, s.heap.size ≤ q → A q := fun q h => by rw [← hAe]; exact Or.inr h
  have hS : va_S A s.heap s.heap [] := va_S.rf
  have hl := lv_entry ([.ref (bd 0), .int a0, .int a1, .int a2, .int a3]) (n := 9) (Nat.le_of_ble_eq_true rfl)
  rw [lg_entry_eq]
  generalize (lg_sl ([.ref (bd 0), .int a0, .int a1, .int a2, .int a3]) ++ List.replicate (9 - (lg_sl ([.ref (bd 0), .int a0, .int a1, .int a2, .int a3])).length) Slot.unset).toArray = ls at hl ⊢
  have hl : lv_has ls 9 [(0, .ref (bd 0)), (1, .int a0), (2, .int a1), (3, .int a2), (4, .int a3)] := hl
  unfold f_M_production at h
  refine lv_iload_n hx hb d_M_production_0 rfl (lv_at hl 2 rfl) ?_
  refine lv_iconst (v := (-1)) hx hb d_M_production_1 (by decide) ?_
  have J29 : ∀ (τ : vS) (x1 : Int32) (x2 : Int32) (x3 : Int32) (x4 : Int32) (y0 : Int32) (H : Heap) (locs : List Loc) (ls : Array Slot), f_M_production_29 N τ x1 x2 x3 x4 y0 = some v → lv_has ls 9 [(0, .ref (bd 0)), (1, .int x1), (2, .int x2), (3, .int x3), (4, .int x4)] → va_P (dC, dI) CL (Mw bd cb τ) H → va_D A (Mw bd cb τ) → va_S A s.heap H locs → W p l e (headSpec WS ({ frames := 2, cells := 0, slots := 0, locals := 41 })).room s m ([.ref (bd 0), .int a0, .int a1, .int a2, .int a3] : List Value).toArray below meth c H locs 0 0 (MQ below (va_Qi (fun (r : Int32) (_ : Unit) => r = v.1) (fun _ t => vq_Post (dC, dI) CL A (Mw bd cb v.2) (Mt cb) t) A) ([.ref (bd 0), .int a0, .int a1, .int a2, .int a3] : List Value).toArray s 0 0 A) (F0 m 29 ls [.int y0]) := by
    intro τ x1 x2 x3 x4 y0 H locs ls h hl hP hD hS
    unfold f_M_production_29 at h
    refine lv_istore (lv' := [(5, .int y0), (0, .ref (bd 0)), (1, .int x1), (2, .int x2), (3, .int x3), (4, .int x4)]) hx hb d_M_production_29 hl (by decide) rfl (fun ls hl => ?_)
    refine lv_iload_n hx hb d_M_production_31 rfl (lv_at hl 4 rfl) ?_
    refine lv_iconst (v := (-1)) hx hb d_M_production_32 (by decide) ?_
    have J55 : ∀ (τ : vS) (x1 : Int32) (x2 : Int32) (x3 : Int32) (x4 : Int32) (x5 : Int32) (y0 : Int32) (H : Heap) (locs : List Loc) (ls : Array Slot), f_M_production_55 N τ x1 x2 x3 x4 x5 y0 = some v → lv_has ls 9 [(0, .ref (bd 0)), (1, .int x1), (2, .int x2), (3, .int x3), (4, .int x4), (5, .int x5)] → va_P (dC, dI) CL (Mw bd cb τ) H → va_D A (Mw bd cb τ) → va_S A s.heap H locs → W p l e (headSpec WS ({ frames := 2, cells := 0, slots := 0, locals := 41 })).room s m ([.ref (bd 0), .int a0, .int a1, .int a2, .int a3] : List Value).toArray below meth c H locs 0 0 (MQ below (va_Qi (fun (r : Int32) (_ : Unit) => r = v.1) (fun _ t => vq_Post (dC, dI) CL A (Mw bd cb v.2) (Mt cb) t) A) ([.ref (bd 0), .int a0, .int a1, .int a2, .int a3] : List Value).toArray s 0 0 A) (F0 m 55 ls [.int y0]) := by
      intro τ x1 x2 x3 x4 x5 y0 H locs ls h hl hP hD hS
      unfold f_M_production_55 at h
      refine lv_istore (lv' := [(6, .int y0), (0, .ref (bd 0)), (1, .int x1), (2, .int x2), (3, .int x3), (4, .int x4), (5, .int x5)]) hx hb d_M_production_55 hl (by decide) rfl (fun ls hl => ?_)
      refine lv_iload hx hb d_M_production_57 (lv_at hl 5 rfl) ?_
      refine lv_iconst (v := (-1)) hx hb d_M_production_59 (by decide) ?_
      have J77 : ∀ (τ : vS) (x1 : Int32) (x2 : Int32) (x3 : Int32) (x4 : Int32) (x5 : Int32) (x6 : Int32) (y0 : Int32) (H : Heap) (locs : List Loc) (ls : Array Slot), f_M_production_77 N τ x1 x2 x3 x4 x5 x6 y0 = some v → lv_has ls 9 [(0, .ref (bd 0)), (1, .int x1), (2, .int x2), (3, .int x3), (4, .int x4), (5, .int x5), (6, .int x6)] → va_P (dC, dI) CL (Mw bd cb τ) H → va_D A (Mw bd cb τ) → va_S A s.heap H locs → W p l e (headSpec WS ({ frames := 2, cells := 0, slots := 0, locals := 41 })).room s m ([.ref (bd 0), .int a0, .int a1, .int a2, .int a3] : List Value).toArray below meth c H locs 0 0 (MQ below (va_Qi (fun (r : Int32) (_ : Unit) => r = v.1) (fun _ t => vq_Post (dC, dI) CL A (Mw bd cb v.2) (Mt cb) t) A) ([.ref (bd 0), .int a0, .int a1, .int a2, .int a3] : List Value).toArray s 0 0 A) (F0 m 77 ls [.int y0]) := by
        intro τ x1 x2 x3 x4 x5 x6 y0 H locs ls h hl hP hD hS
        unfold f_M_production_77 at h
        refine lv_istore (lv' := [(7, .int y0), (0, .ref (bd 0)), (1, .int x1), (2, .int x2), (3, .int x3), (4, .int x4), (5, .int x5), (6, .int x6)]) hx hb d_M_production_77 hl (by decide) rfl (fun ls hl => ?_)
        refine lv_aload_n hx hb d_M_production_79 rfl (lv_at hl 1 rfl) ?_
        refine lv_aload_n hx hb d_M_production_80 rfl (lv_at hl 1 rfl) ?_
        refine lv_iload_n hx hb d_M_production_81 rfl (lv_at hl 2 rfl) ?_
        obtain ⟨q1, h2, h⟩ := vq_bi h
        have hFc := vq_freeAll hD hS hA
        refine va_calli (va_runV (As := [.int x1]) (rest := [.ref (bd 0)]) ⟨hx, hb, hml, hown, hts⟩ (c_M_isSymbol l htr dC dI bd cb N τ x1 q1 h2 H.size) (vq_cV WSk hts 1 rfl rfl ⟨by decide, by decide⟩ k_378 k_367 k_380 k_381 k_382 (by decide +kernel)) ⟨vq_blind, va_recv hK hP (ci := 8) (q0 := 0) rfl rfl, vq_here hst hS hN hP hK hD⟩ rfl rfl hl.1 rfl (lv_room (Nat.le_of_ble_eq_true rfl)) d_M_production_82 ⟨by decide, by decide⟩) hS (fun q _ h => hFc q h) hFc (fun r u t H1 locs ht hvm hw hB hz1 hk1 hS => ?_)
        obtain ⟨hP, -, hD1⟩ := hB
        rw [ht] at hP
        have hD := hD1.weaken (fun _ _ _ h => hFc _ h)
        have hw : r = q1.1 := hw
        subst hw
        generalize H1 = H at hP hS ⊢
        refine W.widen (k := 0) (n := 0) (by decide) (by decide) ?_
        have J121 : ∀ (τ : vS) (x1 : Int32) (x2 : Int32) (x3 : Int32) (x4 : Int32) (y0 : Int32) (H : Heap) (locs : List Loc) (ls : Array Slot), f_M_production_121 N τ x1 x2 x3 x4 y0 = some v → lv_has ls 9 [(0, .ref (bd 0)), (1, .int x1), (2, .int x2), (3, .int x3), (4, .int x4)] → va_P (dC, dI) CL (Mw bd cb τ) H → va_D A (Mw bd cb τ) → va_S A s.heap H locs → W p l e (headSpec WS ({ frames := 2, cells := 0, slots := 0, locals := 41 })).room s m ([.ref (bd 0), .int a0, .int a1, .int a2, .int a3] : List Value).toArray below meth c H locs 0 0 (MQ below (va_Qi (fun (r : Int32) (_ : Unit) => r = v.1) (fun _ t => vq_Post (dC, dI) CL A (Mw bd cb v.2) (Mt cb) t) A) ([.ref (bd 0), .int a0, .int a1, .int a2, .int a3] : List Value).toArray s 0 0 A) (F0 m 121 ls [.int y0, .ref (bd 0)]) := by
          intro τ x1 x2 x3 x4 y0 H locs ls h hl hP hD hS
          unfold f_M_production_121 at h
          refine p_M_code dC dI bd cb τ hx hb hts hown hK hP hD hS k_359 d_M_production_121 (fun H locs hP hD hS => ?_)
          obtain ⟨σ3, eσ3, h⟩ := vq_let h
          rw [← eσ3] at hP hD
          refine lv_aload_n hx hb d_M_production_124 rfl (lv_at hl 0 rfl) ?_
          refine g_M_code dC dI bd cb σ3 hx hb hts hown hK hP k_359 d_M_production_125 ?_
          refine lv_if_le (tgt := 133) hx hb d_M_production_128 (by decide) (fun hc4 => ?_) (fun hc4 => ?_)
          ·
            rw [if_pos hc4] at h
            refine lv_aload_n hx hb d_M_production_133 rfl (lv_at hl 0 rfl) ?_
            refine g_M_productions dC dI bd cb σ3 hx hb hts hown hK hP k_383 d_M_production_134 ?_
            refine lv_istore (lv' := [(8, .int (σ3.1 2)), (0, .ref (bd 0)), (1, .int x1), (2, .int x2), (3, .int x3), (4, .int x4)]) hx hb d_M_production_137 hl (by decide) rfl (fun ls hl => ?_)
            refine lv_aload_n hx hb d_M_production_139 rfl (lv_at hl 1 rfl) ?_
            refine g_M_symbolAt dC dI bd cb σ3 hx hb hts hown hK hP k_384 d_M_production_140 ?_
            refine lv_iconst (v := 4) hx hb d_M_production_143 (by decide) ?_
            refine lv_iload hx hb d_M_production_144 (lv_at hl 0 rfl) ?_
            refine lv_imul hx hb d_M_production_146 ?_
            refine lv_iload_n hx hb d_M_production_147 rfl (lv_at hl 2 rfl) ?_
            obtain ⟨hi5, h⟩ := vq_bd h
            refine as_M3 dC dI bd cb σ3 hx hb hts hown hK hP hD hS hi5 d_M_production_148 (fun H locs hP hD hS => ?_)
            obtain ⟨σ6, eσ6, h⟩ := vq_let h
            rw [← eσ6] at hP hD
            refine lv_aload_n hx hb d_M_production_149 rfl (lv_at hl 1 rfl) ?_
            refine g_M_symbolAt dC dI bd cb σ6 hx hb hts hown hK hP k_384 d_M_production_150 ?_
            refine lv_iconst (v := 4) hx hb d_M_production_153 (by decide) ?_
            refine lv_iload hx hb d_M_production_154 (lv_at hl 0 rfl) ?_
            refine lv_imul hx hb d_M_production_156 ?_
            refine lv_iconst (v := 1) hx hb d_M_production_157 (by decide) ?_
            refine lv_iadd hx hb d_M_production_158 ?_
            refine lv_iload_n hx hb d_M_production_159 rfl (lv_at hl 3 rfl) ?_
            obtain ⟨hi7, h⟩ := vq_bd h
            refine as_M3 dC dI bd cb σ6 hx hb hts hown hK hP hD hS hi7 d_M_production_160 (fun H locs hP hD hS => ?_)
            obtain ⟨σ8, eσ8, h⟩ := vq_let h
            rw [← eσ8] at hP hD
            refine lv_aload_n hx hb d_M_production_161 rfl (lv_at hl 1 rfl) ?_
            refine g_M_symbolAt dC dI bd cb σ8 hx hb hts hown hK hP k_384 d_M_production_162 ?_
            refine lv_iconst (v := 4) hx hb d_M_production_165 (by decide) ?_
            refine lv_iload hx hb d_M_production_166 (lv_at hl 0 rfl) ?_
            refine lv_imul hx hb d_M_production_168 ?_
            refine lv_iconst (v := 2) hx hb d_M_production_169 (by decide) ?_
            refine lv_iadd hx hb d_M_production_170 ?_
            refine lv_iload_n hx hb d_M_production_171 rfl (lv_at hl 4 rfl) ?_
            obtain ⟨hi9, h⟩ := vq_bd h
            refine as_M3 dC dI bd cb σ8 hx hb hts hown hK hP hD hS hi9 d_M_production_172 (fun H locs hP hD hS => ?_)
            obtain ⟨σ10, eσ10, h⟩ := vq_let h
            rw [← eσ10] at hP hD
            refine lv_aload_n hx hb d_M_production_173 rfl (lv_at hl 1 rfl) ?_
            refine g_M_symbolAt dC dI bd cb σ10 hx hb hts hown hK hP k_384 d_M_production_174 ?_
            refine lv_iconst (v := 4) hx hb d_M_production_177 (by decide) ?_
            refine lv_iload hx hb d_M_production_178 (lv_at hl 0 rfl) ?_
            refine lv_imul hx hb d_M_production_180 ?_
            refine lv_iconst (v := 3) hx hb d_M_production_181 (by decide) ?_
            refine lv_iadd hx hb d_M_production_182 ?_
            refine lv_iload hx hb d_M_production_183 (lv_at hl 5 rfl) ?_
            obtain ⟨hi11, h⟩ := vq_bd h
            refine as_M3 dC dI bd cb σ10 hx hb hts hown hK hP hD hS hi11 d_M_production_185 (fun H locs hP hD hS => ?_)
            obtain ⟨σ12, eσ12, h⟩ := vq_let h
            rw [← eσ12] at hP hD
            refine lv_aload_n hx hb d_M_production_186 rfl (lv_at hl 1 rfl) ?_
            refine g_M_positions dC dI bd cb σ12 hx hb hts hown hK hP k_385 d_M_production_187 ?_
            refine lv_iload hx hb d_M_production_190 (lv_at hl 0 rfl) ?_
            refine lv_iload_n hx hb d_M_production_192 rfl (lv_at hl 3 rfl) ?_
            refine lv_iconst (v := (-1)) hx hb d_M_production_193 (by decide) ?_
            have J221 : ∀ (τ : vS) (x8 : Int32) (y0 : Int32) (y1 : Int32) (H : Heap) (locs : List Loc) (ls : Array Slot), f_M_production_221 N τ x8 y0 y1 = some v → lv_has ls 9 [(0, .ref (bd 0)), (8, .int x8)] → va_P (dC, dI) CL (Mw bd cb τ) H → va_D A (Mw bd cb τ) → va_S A s.heap H locs → W p l e (headSpec WS ({ frames := 2, cells := 0, slots := 0, locals := 41 })).room s m ([.ref (bd 0), .int a0, .int a1, .int a2, .int a3] : List Value).toArray below meth c H locs 0 0 (MQ below (va_Qi (fun (r : Int32) (_ : Unit) => r = v.1) (fun _ t => vq_Post (dC, dI) CL A (Mw bd cb v.2) (Mt cb) t) A) ([.ref (bd 0), .int a0, .int a1, .int a2, .int a3] : List Value).toArray s 0 0 A) (F0 m 221 ls [.int y0, .int y1, .ref (bd 3)]) := by
              intro τ x8 y0 y1 H locs ls h hl hP hD hS
              unfold f_M_production_221 at h
              obtain ⟨hi13, h⟩ := vq_bd h
              refine as_M2 dC dI bd cb τ hx hb hts hown hK hP hD hS hi13 d_M_production_221 (fun H locs hP hD hS => ?_)
              obtain ⟨σ14, eσ14, h⟩ := vq_let h
              rw [← eσ14] at hP hD
              refine lv_aload_n hx hb d_M_production_222 rfl (lv_at hl 0 rfl) ?_
              refine lv_dup hx hb d_M_production_223 rfl ?_
              refine g_M_productions dC dI bd cb σ14 hx hb hts hown hK hP k_383 d_M_production_224 ?_
              refine lv_iconst (v := 1) hx hb d_M_production_227 (by decide) ?_
              refine lv_iadd hx hb d_M_production_228 ?_
              refine p_M_productions dC dI bd cb σ14 hx hb hts hown hK hP hD hS k_383 d_M_production_229 (fun H locs hP hD hS => ?_)
              obtain ⟨σ15, eσ15, h⟩ := vq_let h
              rw [← eσ15] at hP hD
              refine lv_aload_n hx hb d_M_production_232 rfl (lv_at hl 0 rfl) ?_
              obtain ⟨q16, h17, h⟩ := vq_bi h
              have hFc := vq_freeAll hD hS hA
              refine va_callv (va_runV (As := []) (rest := []) ⟨hx, hb, hml, hown, hts⟩ (c_M_forget l htr dC dI bd cb N σ15 q16 h17 H.size) (vq_cV WSk hts 0 rfl rfl ⟨by decide, by decide⟩ k_365 k_367 k_374 k_375 k_376 (by decide +kernel)) ⟨vq_blind, va_recv hK hP (ci := 8) (q0 := 0) rfl rfl, vq_here hst hS hN hP hK hD⟩ rfl rfl hl.1 rfl (lv_room (Nat.le_of_ble_eq_true rfl)) d_M_production_233 ⟨by decide, by decide⟩) hS (fun q _ h => hFc q h) hFc (fun u t H1 locs ht hvm hw hB hz1 hk1 hS => ?_)
              obtain ⟨hP, -, hD1⟩ := hB
              rw [ht] at hP
              have hD := hD1.weaken (fun _ _ _ h => hFc _ h)
              generalize H1 = H at hP hS ⊢
              refine W.widen (k := 0) (n := 0) (by decide) (by decide) ?_
              refine lv_iload hx hb d_M_production_236 (lv_at hl 1 rfl) ?_
              have h9 := Option.some.inj h
              rw [← h9]
              exact W.iret (v := x8) hx hb hr (fun t ht hW => ⟨⟨x8, (), rfl, rfl, by rw [ht]; exact hP, va_K.moved hW.alike hK, hD⟩, hS.F ht⟩) hS.2.2 d_M_production_238
            refine lv_icmp_ne (tgt := 201) hx hb d_M_production_194 (by decide) (fun hc18 => ?_) (fun hc18 => ?_)
            ·
              rw [if_neg hc18] at h
              refine lv_iload_n hx hb d_M_production_201 rfl (lv_at hl 4 rfl) ?_
              refine lv_iconst (v := (-1)) hx hb d_M_production_202 (by decide) ?_
              refine lv_icmp_ne (tgt := 210) hx hb d_M_production_203 (by decide) (fun hc19 => ?_) (fun hc19 => ?_)
              ·
                rw [if_neg hc19] at h
                refine lv_iload hx hb d_M_production_210 (lv_at hl 5 rfl) ?_
                refine lv_iconst (v := (-1)) hx hb d_M_production_212 (by decide) ?_
                refine lv_icmp_ne (tgt := 220) hx hb d_M_production_213 (by decide) (fun hc20 => ?_) (fun hc20 => ?_)
                ·
                  rw [if_neg hc20] at h
                  refine lv_iconst (v := 4) hx hb d_M_production_220 (by decide) ?_
                  exact J221 _ _ _ _ _ _ _ h (lv_sub hl [1, 0] rfl) hP hD hS
                ·
                  rw [if_pos hc20] at h
                  refine lv_iconst (v := 3) hx hb d_M_production_216 (by decide) ?_
                  refine lv_goto (tgt := 221) hx hb d_M_production_217 (by decide) ?_
                  exact J221 _ _ _ _ _ _ _ h (lv_sub hl [1, 0] rfl) hP hD hS
              ·
                rw [if_pos hc19] at h
                refine lv_iconst (v := 2) hx hb d_M_production_206 (by decide) ?_
                refine lv_goto (tgt := 221) hx hb d_M_production_207 (by decide) ?_
                exact J221 _ _ _ _ _ _ _ h (lv_sub hl [1, 0] rfl) hP hD hS
            ·
              rw [if_pos hc18] at h
              refine lv_iconst (v := 1) hx hb d_M_production_197 (by decide) ?_
              refine lv_goto (tgt := 221) hx hb d_M_production_198 (by decide) ?_
              exact J221 _ _ _ _ _ _ _ h (lv_sub hl [1, 0] rfl) hP hD hS
          ·
            rw [if_neg hc4] at h
            refine lv_iconst (v := 0) hx hb d_M_production_131 (by decide) ?_
            have h9 := Option.some.inj h
            rw [← h9]
            exact W.iret (v := (0 : Int32)) hx hb hr (fun t ht hW => ⟨⟨(0 : Int32), (), rfl, rfl, by rw [ht]; exact hP, va_K.moved hW.alike hK, hD⟩, hS.F ht⟩) hS.2.2 d_M_production_132
        have J103 : ∀ (τ : vS) (x1 : Int32) (x2 : Int32) (x3 : Int32) (x4 : Int32) (H : Heap) (locs : List Loc) (ls : Array Slot), f_M_production_103 N τ x1 x2 x3 x4 = some v → lv_has ls 9 [(0, .ref (bd 0)), (1, .int x1), (2, .int x2), (3, .int x3), (4, .int x4)] → va_P (dC, dI) CL (Mw bd cb τ) H → va_D A (Mw bd cb τ) → va_S A s.heap H locs → W p l e (headSpec WS ({ frames := 2, cells := 0, slots := 0, locals := 41 })).room s m ([.ref (bd 0), .int a0, .int a1, .int a2, .int a3] : List Value).toArray below meth c H locs 0 0 (MQ below (va_Qi (fun (r : Int32) (_ : Unit) => r = v.1) (fun _ t => vq_Post (dC, dI) CL A (Mw bd cb v.2) (Mt cb) t) A) ([.ref (bd 0), .int a0, .int a1, .int a2, .int a3] : List Value).toArray s 0 0 A) (F0 m 103 ls [.ref (bd 0)]) := by
          intro τ x1 x2 x3 x4 H locs ls h hl hP hD hS
          unfold f_M_production_103 at h
          refine lv_iconst (v := 1) hx hb d_M_production_103 (by decide) ?_
          refine lv_goto (tgt := 121) hx hb d_M_production_104 (by decide) ?_
          exact J121 _ _ _ _ _ _ _ _ _ h (lv_sub hl [0, 1, 2, 3, 4] rfl) hP hD hS
        refine lv_if_eq (tgt := 103) hx hb d_M_production_85 (by decide) (fun hc21 => ?_) (fun hc21 => ?_)
        ·
          rw [if_pos hc21] at h
          exact J103 _ _ _ _ _ _ _ _ h (lv_sub hl [1, 2, 3, 4, 5] rfl) hP hD hS
        ·
          rw [if_neg hc21] at h
          refine lv_iload hx hb d_M_production_88 (lv_at hl 6 rfl) ?_
          refine lv_if_eq (tgt := 103) hx hb d_M_production_90 (by decide) (fun hc22 => ?_) (fun hc22 => ?_)
          ·
            rw [if_pos hc22] at h
            exact J103 _ _ _ _ _ _ _ _ h (lv_sub hl [1, 2, 3, 4, 5] rfl) hP hD hS
          ·
            rw [if_neg hc22] at h
            refine lv_iload hx hb d_M_production_93 (lv_at hl 7 rfl) ?_
            refine lv_if_eq (tgt := 103) hx hb d_M_production_95 (by decide) (fun hc23 => ?_) (fun hc23 => ?_)
            ·
              rw [if_pos hc23] at h
              exact J103 _ _ _ _ _ _ _ _ h (lv_sub hl [1, 2, 3, 4, 5] rfl) hP hD hS
            ·
              rw [if_neg hc23] at h
              refine lv_iload hx hb d_M_production_98 (lv_at hl 0 rfl) ?_
              refine lv_if_ne (tgt := 107) hx hb d_M_production_100 (by decide) (fun hc24 => ?_) (fun hc24 => ?_)
              ·
                rw [if_neg hc24] at h
                refine lv_aload_n hx hb d_M_production_107 rfl (lv_at hl 1 rfl) ?_
                refine g_M_productions dC dI bd cb q1.2 hx hb hts hown hK hP k_383 d_M_production_108 ?_
                refine lv_bipush (v := 10) hx hb d_M_production_111 (by decide) ?_
                refine lv_icmp_ne (tgt := 120) hx hb d_M_production_113 (by decide) (fun hc25 => ?_) (fun hc25 => ?_)
                ·
                  rw [if_neg hc25] at h
                  refine lv_iconst (v := 0) hx hb d_M_production_120 (by decide) ?_
                  exact J121 _ _ _ _ _ _ _ _ _ h (lv_sub hl [1, 2, 3, 4, 5] rfl) hP hD hS
                ·
                  rw [if_pos hc25] at h
                  refine lv_iconst (v := 2) hx hb d_M_production_116 (by decide) ?_
                  refine lv_goto (tgt := 121) hx hb d_M_production_117 (by decide) ?_
                  exact J121 _ _ _ _ _ _ _ _ _ h (lv_sub hl [1, 2, 3, 4, 5] rfl) hP hD hS
              ·
                rw [if_pos hc24] at h
                exact J103 _ _ _ _ _ _ _ _ h (lv_sub hl [1, 2, 3, 4, 5] rfl) hP hD hS
      have J72 : ∀ (τ : vS) (x1 : Int32) (x2 : Int32) (x3 : Int32) (x4 : Int32) (x5 : Int32) (x6 : Int32) (H : Heap) (locs : List Loc) (ls : Array Slot), f_M_production_72 N τ x1 x2 x3 x4 x5 x6 = some v → lv_has ls 9 [(0, .ref (bd 0)), (1, .int x1), (2, .int x2), (3, .int x3), (4, .int x4), (5, .int x5), (6, .int x6)] → va_P (dC, dI) CL (Mw bd cb τ) H → va_D A (Mw bd cb τ) → va_S A s.heap H locs → W p l e (headSpec WS ({ frames := 2, cells := 0, slots := 0, locals := 41 })).room s m ([.ref (bd 0), .int a0, .int a1, .int a2, .int a3] : List Value).toArray below meth c H locs 0 0 (MQ below (va_Qi (fun (r : Int32) (_ : Unit) => r = v.1) (fun _ t => vq_Post (dC, dI) CL A (Mw bd cb v.2) (Mt cb) t) A) ([.ref (bd 0), .int a0, .int a1, .int a2, .int a3] : List Value).toArray s 0 0 A) (F0 m 72 ls []) := by
        intro τ x1 x2 x3 x4 x5 x6 H locs ls h hl hP hD hS
        unfold f_M_production_72 at h
        refine lv_iconst (v := 1) hx hb d_M_production_72 (by decide) ?_
        refine lv_goto (tgt := 77) hx hb d_M_production_73 (by decide) ?_
        exact J77 _ _ _ _ _ _ _ _ _ _ _ h (lv_sub hl [0, 1, 2, 3, 4, 5, 6] rfl) hP hD hS
      refine lv_icmp_eq (tgt := 72) hx hb d_M_production_60 (by decide) (fun hc26 => ?_) (fun hc26 => ?_)
      ·
        rw [if_pos hc26] at h
        exact J72 _ _ _ _ _ _ _ _ _ _ h (lv_sub hl [1, 2, 3, 4, 5, 6, 0] rfl) hP hD hS
      ·
        rw [if_neg hc26] at h
        refine lv_aload_n hx hb d_M_production_63 rfl (lv_at hl 1 rfl) ?_
        refine lv_iload hx hb d_M_production_64 (lv_at hl 5 rfl) ?_
        obtain ⟨q27, h28, h⟩ := vq_bi h
        have hFc := vq_freeAll hD hS hA
        refine va_calli (va_runV (As := [.int x4]) (rest := []) ⟨hx, hb, hml, hown, hts⟩ (c_M_isSymbol l htr dC dI bd cb N τ x4 q27 h28 H.size) (vq_cV WSk hts 1 rfl rfl ⟨by decide, by decide⟩ k_378 k_367 k_380 k_381 k_382 (by decide +kernel)) ⟨vq_blind, va_recv hK hP (ci := 8) (q0 := 0) rfl rfl, vq_here hst hS hN hP hK hD⟩ rfl rfl hl.1 rfl (lv_room (Nat.le_of_ble_eq_true rfl)) d_M_production_66 ⟨by decide, by decide⟩) hS (fun q _ h => hFc q h) hFc (fun r u t H1 locs ht hvm hw hB hz1 hk1 hS => ?_)
        obtain ⟨hP, -, hD1⟩ := hB
        rw [ht] at hP
        have hD := hD1.weaken (fun _ _ _ h => hFc _ h)
        have hw : r = q27.1 := hw
        subst hw
        generalize H1 = H at hP hS ⊢
        refine W.widen (k := 0) (n := 0) (by decide) (by decide) ?_
        refine lv_if_eq (tgt := 76) hx hb d_M_production_69 (by decide) (fun hc29 => ?_) (fun hc29 => ?_)
        ·
          rw [if_pos hc29] at h
          refine lv_iconst (v := 0) hx hb d_M_production_76 (by decide) ?_
          exact J77 _ _ _ _ _ _ _ _ _ _ _ h (lv_sub hl [1, 2, 3, 4, 5, 6, 0] rfl) hP hD hS
        ·
          rw [if_neg hc29] at h
          exact J72 _ _ _ _ _ _ _ _ _ _ h (lv_sub hl [1, 2, 3, 4, 5, 6, 0] rfl) hP hD hS
    refine lv_icmp_ne (tgt := 50) hx hb d_M_production_33 (by decide) (fun hc30 => ?_) (fun hc30 => ?_)
    ·
      rw [if_neg hc30] at h
      refine lv_aload_n hx hb d_M_production_50 rfl (lv_at hl 1 rfl) ?_
      refine lv_iload_n hx hb d_M_production_51 rfl (lv_at hl 4 rfl) ?_
      obtain ⟨q31, h32, h⟩ := vq_bi h
      have hFc := vq_freeAll hD hS hA
      refine va_calli (va_runV (As := [.int x3]) (rest := []) ⟨hx, hb, hml, hown, hts⟩ (c_M_isSymbol l htr dC dI bd cb N τ x3 q31 h32 H.size) (vq_cV WSk hts 1 rfl rfl ⟨by decide, by decide⟩ k_378 k_367 k_380 k_381 k_382 (by decide +kernel)) ⟨vq_blind, va_recv hK hP (ci := 8) (q0 := 0) rfl rfl, vq_here hst hS hN hP hK hD⟩ rfl rfl hl.1 rfl (lv_room (Nat.le_of_ble_eq_true rfl)) d_M_production_52 ⟨by decide, by decide⟩) hS (fun q _ h => hFc q h) hFc (fun r u t H1 locs ht hvm hw hB hz1 hk1 hS => ?_)
      obtain ⟨hP, -, hD1⟩ := hB
      rw [ht] at hP
      have hD := hD1.weaken (fun _ _ _ h => hFc _ h)
      have hw : r = q31.1 := hw
      subst hw
      generalize H1 = H at hP hS ⊢
      refine W.widen (k := 0) (n := 0) (by decide) (by decide) ?_
      exact J55 _ _ _ _ _ _ _ _ _ _ h (lv_sub hl [1, 2, 3, 4, 5, 0] rfl) hP hD hS
    ·
      rw [if_pos hc30] at h
      refine lv_iload hx hb d_M_production_36 (lv_at hl 5 rfl) ?_
      refine lv_iconst (v := (-1)) hx hb d_M_production_38 (by decide) ?_
      refine lv_icmp_ne (tgt := 46) hx hb d_M_production_39 (by decide) (fun hc33 => ?_) (fun hc33 => ?_)
      ·
        rw [if_neg hc33] at h
        refine lv_iconst (v := 0) hx hb d_M_production_46 (by decide) ?_
        refine lv_goto (tgt := 55) hx hb d_M_production_47 (by decide) ?_
        exact J55 _ _ _ _ _ _ _ _ _ _ h (lv_sub hl [1, 2, 3, 4, 5, 0] rfl) hP hD hS
      ·
        rw [if_pos hc33] at h
        refine lv_iconst (v := 1) hx hb d_M_production_42 (by decide) ?_
        refine lv_goto (tgt := 55) hx hb d_M_production_43 (by decide) ?_
        exact J55 _ _ _ _ _ _ _ _ _ _ h (lv_sub hl [1, 2, 3, 4, 5, 0] rfl) hP hD hS
  refine lv_icmp_ne (tgt := 24) hx hb d_M_production_2 (by decide) (fun hc34 => ?_) (fun hc34 => ?_)
  ·
    rw [if_neg hc34] at h
    refine lv_aload_n hx hb d_M_production_24 rfl (lv_at hl 0 rfl) ?_
    refine lv_iload_n hx hb d_M_production_25 rfl (lv_at hl 2 rfl) ?_
    obtain ⟨q35, h36, h⟩ := vq_bi h
    have hFc := vq_freeAll hD hS hA
    refine va_calli (va_runV (As := [.int a1]) (rest := []) ⟨hx, hb, hml, hown, hts⟩ (c_M_isSymbol l htr dC dI bd cb N σ a1 q35 h36 s.heap.size) (vq_cV WSk hts 1 rfl rfl ⟨by decide, by decide⟩ k_378 k_367 k_380 k_381 k_382 (by decide +kernel)) ⟨vq_blind, va_recv hK hP (ci := 8) (q0 := 0) rfl rfl, vq_here hst hS hN hP hK hD⟩ rfl rfl hl.1 rfl (lv_room (Nat.le_of_ble_eq_true rfl)) d_M_production_26 ⟨by decide, by decide⟩) hS (fun q _ h => hFc q h) hFc (fun r u t H1 locs ht hvm hw hB hz1 hk1 hS => ?_)
    obtain ⟨hP, -, hD1⟩ := hB
    rw [ht] at hP
    have hD := hD1.weaken (fun _ _ _ h => hFc _ h)
    have hw : r = q35.1 := hw
    subst hw
    generalize H1 = H at hP hS ⊢
    refine W.widen (k := 0) (n := 0) (by decide) (by decide) ?_
    exact J29 _ _ _ _ _ _ _ _ _ h (lv_sub hl [0, 1, 2, 3, 4] rfl) hP hD hS
  ·
    rw [if_pos hc34] at h
    refine lv_iload_n hx hb d_M_production_5 rfl (lv_at hl 3 rfl) ?_
    refine lv_iconst (v := (-1)) hx hb d_M_production_6 (by decide) ?_
    have J20 : ∀ (τ : vS) (x1 : Int32) (x2 : Int32) (x3 : Int32) (x4 : Int32) (H : Heap) (locs : List Loc) (ls : Array Slot), f_M_production_20 N τ x1 x2 x3 x4 = some v → lv_has ls 9 [(0, .ref (bd 0)), (1, .int x1), (2, .int x2), (3, .int x3), (4, .int x4)] → va_P (dC, dI) CL (Mw bd cb τ) H → va_D A (Mw bd cb τ) → va_S A s.heap H locs → W p l e (headSpec WS ({ frames := 2, cells := 0, slots := 0, locals := 41 })).room s m ([.ref (bd 0), .int a0, .int a1, .int a2, .int a3] : List Value).toArray below meth c H locs 0 0 (MQ below (va_Qi (fun (r : Int32) (_ : Unit) => r = v.1) (fun _ t => vq_Post (dC, dI) CL A (Mw bd cb v.2) (Mt cb) t) A) ([.ref (bd 0), .int a0, .int a1, .int a2, .int a3] : List Value).toArray s 0 0 A) (F0 m 20 ls []) := by
      intro τ x1 x2 x3 x4 H locs ls h hl hP hD hS
      unfold f_M_production_20 at h
      refine lv_iconst (v := 0) hx hb d_M_production_20 (by decide) ?_
      refine lv_goto (tgt := 29) hx hb d_M_production_21 (by decide) ?_
      exact J29 _ _ _ _ _ _ _ _ _ h (lv_sub hl [0, 1, 2, 3, 4] rfl) hP hD hS
    refine lv_icmp_ne (tgt := 20) hx hb d_M_production_7 (by decide) (fun hc37 => ?_) (fun hc37 => ?_)
    ·
      rw [if_neg hc37] at h
      exact J20 _ _ _ _ _ _ _ _ h (lv_sub hl [0, 1, 2, 3, 4] rfl) hP hD hS
    ·
      rw [if_pos hc37] at h
      refine lv_iload hx hb d_M_production_10 (lv_at hl 4 rfl) ?_
      refine lv_iconst (v := (-1)) hx hb d_M_production_12 (by decide) ?_
      refine lv_icmp_ne (tgt := 20) hx hb d_M_production_13 (by decide) (fun hc38 => ?_) (fun hc38 => ?_)
      ·
        rw [if_neg hc38] at h
        exact J20 _ _ _ _ _ _ _ _ h (lv_sub hl [0, 1, 2, 3, 4] rfl) hP hD hS
      ·
        rw [if_pos hc38] at h
        refine lv_iconst (v := 1) hx hb d_M_production_16 (by decide) ?_
        refine lv_goto (tgt := 29) hx hb d_M_production_17 (by decide) ?_
        exact J29 _ _ _ _ _ _ _ _ _ h (lv_sub hl [0, 1, 2, 3, 4] rfl) hP hD hS

set_option maxHeartbeats 4000000 in
set_option maxRecDepth 100000 in
theorem c_M_isOccurrence (l : Launch) (htr : l.stackTraces = false) (dC : Nat → ClassId) (dI : Nat → Nat → Nat) (bd : Nat → Nat) (cb : Nat → ClassId) (N : Nat) (σ : vS) (a0 : Int32) (a1 : Int32) (v : Int32 × vS) (h : f_M_isOccurrence N σ a0 a1 = some v) (sz : Nat) : Met l y_M_isOccurrence WS ({ frames := 0, cells := 0, slots := 0, locals := 0 }) (va_Pc [.ref (bd 0), .int a0, .int a1] (vq_Pre (dC, dI) CL sz (Mw bd cb σ) (Mt cb))) (va_Qi (fun (r : Int32) (_ : Unit) => r = v.1) (fun _ t => vq_Post (dC, dI) CL (va_A (Mw bd cb σ) sz) (Mw bd cb v.2) (Mt cb) t) (va_A (Mw bd cb σ) sz)) 0 0 (va_A (Mw bd cb σ) sz) := by
  refine vq_ofW (cc := prog_10_method_9_code) (maxL := 3) (ret := (Option.some Jvm.ClassFile.FieldType.boolean)) pl_M (vq_his k_386) ?_
  intro p e s m args below meth c s₁ B hml hv
  obtain ⟨rfl, hst, hsz, hP, hK, hD0⟩ := hv
  have hx := B.exec
  have hb := B.bytes
  have hr := B.returns
  have hts := atoms_spec (ws := WS) B.pre
  have hown : s.vm.findClass R_M = some m.cls := findClass_of_methodNamed B.named
  have hlocks := B.notSynchronized
  have hno := vq_noH B (hts _ k_386)
  subst hsz
  have hN := vq_ns hP
  have hD := hD0.self (sz := s.heap.size)
  generalize hAe : va_A (Mw bd cb σ) s.heap.size = A at hD hN ⊢
  have hA : ∀ q : Nat, s.heap.size ≤ q → A q := fun q h => by rw [← hAe]; exact Or.inr h
  have hS : va_S A s.heap s.heap [] := va_S.rf
  have hl := lv_entry ([.ref (bd 0), .int a0, .int a1]) (n := 3) (Nat.le_of_ble_eq_true rfl)
  rw [lg_entry_eq]
  generalize (lg_sl ([.ref (bd 0), .int a0, .int a1]) ++ List.replicate (3 - (lg_sl ([.ref (bd 0), .int a0, .int a1])).length) Slot.unset).toArray = ls at hl ⊢
  have hl : lv_has ls 3 [(0, .ref (bd 0)), (1, .int a0), (2, .int a1)] := hl
  unfold f_M_isOccurrence at h
  refine lv_iload_n hx hb d_M_isOccurrence_0 rfl (lv_at hl 2 rfl) ?_
  refine lv_if_lt (tgt := 43) hx hb d_M_isOccurrence_1 (by decide) (fun hc1 => ?_) (fun hc1 => ?_)
  ·
    rw [if_pos hc1] at h
    refine lv_iconst (v := 0) hx hb d_M_isOccurrence_43 (by decide) ?_
    have h9 := Option.some.inj h
    rw [← h9]
    exact W.zret (v := 0) (ty := .boolean) hx hb hr (by decide) (fun t ht hW => ⟨⟨0, (), rfl, rfl, by rw [ht]; exact hP, va_K.moved hW.alike hK, hD⟩, hS.F ht⟩) hS.2.2 d_M_isOccurrence_44
  ·
    rw [if_neg hc1] at h
    refine lv_iload_n hx hb d_M_isOccurrence_4 rfl (lv_at hl 2 rfl) ?_
    refine lv_iconst (v := 4) hx hb d_M_isOccurrence_5 (by decide) ?_
    refine lv_aload_n hx hb d_M_isOccurrence_6 rfl (lv_at hl 0 rfl) ?_
    refine g_M_positions dC dI bd cb σ hx hb hts hown hK hP k_385 d_M_isOccurrence_7 ?_
    refine lv_iload_n hx hb d_M_isOccurrence_10 rfl (lv_at hl 1 rfl) ?_
    obtain ⟨hi2, h⟩ := vq_bd h
    refine al_M2 dC dI bd cb σ hx hb hts hown hK hP hi2 d_M_isOccurrence_11 ?_
    obtain ⟨i3, ei3, h⟩ := vq_let h
    refine vq_top ei3.symm ?_
    refine lv_imul hx hb d_M_isOccurrence_12 ?_
    refine lv_icmp_ge (tgt := 43) hx hb d_M_isOccurrence_13 (by decide) (fun hc4 => ?_) (fun hc4 => ?_)
    ·
      rw [if_pos hc4] at h
      refine lv_iconst (v := 0) hx hb d_M_isOccurrence_43 (by decide) ?_
      have h9 := Option.some.inj h
      rw [← h9]
      exact W.zret (v := 0) (ty := .boolean) hx hb hr (by decide) (fun t ht hW => ⟨⟨0, (), rfl, rfl, by rw [ht]; exact hP, va_K.moved hW.alike hK, hD⟩, hS.F ht⟩) hS.2.2 d_M_isOccurrence_44
    ·
      rw [if_neg hc4] at h
      refine lv_iload_n hx hb d_M_isOccurrence_16 rfl (lv_at hl 2 rfl) ?_
      refine lv_iconst (v := 4) hx hb d_M_isOccurrence_17 (by decide) ?_
      refine lv_irem hx hb d_M_isOccurrence_18 (by decide) ?_
      refine lv_aload_n hx hb d_M_isOccurrence_19 rfl (lv_at hl 0 rfl) ?_
      refine g_M_attributes dC dI bd cb σ hx hb hts hown hK hP k_372 d_M_isOccurrence_20 ?_
      refine lv_aload_n hx hb d_M_isOccurrence_23 rfl (lv_at hl 0 rfl) ?_
      refine g_M_symbolAt dC dI bd cb σ hx hb hts hown hK hP k_384 d_M_isOccurrence_24 ?_
      refine lv_iconst (v := 4) hx hb d_M_isOccurrence_27 (by decide) ?_
      refine lv_iload_n hx hb d_M_isOccurrence_28 rfl (lv_at hl 1 rfl) ?_
      refine lv_imul hx hb d_M_isOccurrence_29 ?_
      refine lv_iload_n hx hb d_M_isOccurrence_30 rfl (lv_at hl 2 rfl) ?_
      refine lv_iconst (v := 4) hx hb d_M_isOccurrence_31 (by decide) ?_
      refine lv_idiv hx hb d_M_isOccurrence_32 (by decide) ?_
      refine lv_iadd hx hb d_M_isOccurrence_33 ?_
      obtain ⟨hi5, h⟩ := vq_bd h
      refine al_M3 dC dI bd cb σ hx hb hts hown hK hP hi5 d_M_isOccurrence_34 ?_
      obtain ⟨i6, ei6, h⟩ := vq_let h
      refine vq_top ei6.symm ?_
      obtain ⟨hi7, h⟩ := vq_bd h
      refine al_M0 dC dI bd cb σ hx hb hts hown hK hP hi7 d_M_isOccurrence_35 ?_
      obtain ⟨i8, ei8, h⟩ := vq_let h
      refine vq_top ei8.symm ?_
      refine lv_icmp_ge (tgt := 43) hx hb d_M_isOccurrence_36 (by decide) (fun hc9 => ?_) (fun hc9 => ?_)
      ·
        rw [if_pos hc9] at h
        refine lv_iconst (v := 0) hx hb d_M_isOccurrence_43 (by decide) ?_
        have h9 := Option.some.inj h
        rw [← h9]
        exact W.zret (v := 0) (ty := .boolean) hx hb hr (by decide) (fun t ht hW => ⟨⟨0, (), rfl, rfl, by rw [ht]; exact hP, va_K.moved hW.alike hK, hD⟩, hS.F ht⟩) hS.2.2 d_M_isOccurrence_44
      ·
        rw [if_neg hc9] at h
        refine lv_iconst (v := 1) hx hb d_M_isOccurrence_39 (by decide) ?_
        refine lv_goto (tgt := 44) hx hb d_M_isOccurrence_40 (by decide) ?_
        have h9 := Option.some.inj h
        rw [← h9]
        exact W.zret (v := 1) (ty := .boolean) hx hb hr (by decide) (fun t ht hW => ⟨⟨1, (), rfl, rfl, by rw [ht]; exact hP, va_K.moved hW.alike hK, hD⟩, hS.F ht⟩) hS.2.2 d_M_isOccurrence_44

set_option maxHeartbeats 4000000 in
set_option maxRecDepth 100000 in
theorem c_M_attributeOf (l : Launch) (htr : l.stackTraces = false) (dC : Nat → ClassId) (dI : Nat → Nat → Nat) (bd : Nat → Nat) (cb : Nat → ClassId) (N : Nat) (σ : vS) (a0 : Int32) (a1 : Int32) (v : Int32 × vS) (h : f_M_attributeOf N σ a0 a1 = some v) (sz : Nat) : Met l y_M_attributeOf WS ({ frames := 0, cells := 0, slots := 0, locals := 0 }) (va_Pc [.ref (bd 0), .int a0, .int a1] (vq_Pre (dC, dI) CL sz (Mw bd cb σ) (Mt cb))) (va_Qi (fun (r : Int32) (_ : Unit) => r = v.1) (fun _ t => vq_Post (dC, dI) CL (va_A (Mw bd cb σ) sz) (Mw bd cb v.2) (Mt cb) t) (va_A (Mw bd cb σ) sz)) 0 0 (va_A (Mw bd cb σ) sz) := by
  refine vq_ofW (cc := prog_10_method_10_code) (maxL := 3) (ret := (Option.some Jvm.ClassFile.FieldType.int)) pl_M (vq_his k_387) ?_
  intro p e s m args below meth c s₁ B hml hv
  obtain ⟨rfl, hst, hsz, hP, hK, hD0⟩ := hv
  have hx := B.exec
  have hb := B.bytes
  have hr := B.returns
  have hts := atoms_spec (ws := WS) B.pre
  have hown : s.vm.findClass R_M = some m.cls := findClass_of_methodNamed B.named
  have hlocks := B.notSynchronized
  have hno := vq_noH B (hts _ k_387)
  subst hsz
  have hN := vq_ns hP
  have hD := hD0.self (sz := s.heap.size)
  generalize hAe : va_A (Mw bd cb σ) s.heap.size = A at hD hN ⊢
  have hA : ∀ q : Nat, s.heap.size ≤ q → A q := fun q h => by rw [← hAe]; exact Or.inr h
  have hS : va_S A s.heap s.heap [] := va_S.rf
  have hl := lv_entry ([.ref (bd 0), .int a0, .int a1]) (n := 3) (Nat.le_of_ble_eq_true rfl)
  rw [lg_entry_eq]
  generalize (lg_sl ([.ref (bd 0), .int a0, .int a1]) ++ List.replicate (3 - (lg_sl ([.ref (bd 0), .int a0, .int a1])).length) Slot.unset).toArray = ls at hl ⊢
  have hl : lv_has ls 3 [(0, .ref (bd 0)), (1, .int a0), (2, .int a1)] := hl
  unfold f_M_attributeOf at h
  refine lv_iconst (v := 4) hx hb d_M_attributeOf_0 (by decide) ?_
  refine lv_aload_n hx hb d_M_attributeOf_1 rfl (lv_at hl 0 rfl) ?_
  refine g_M_symbolAt dC dI bd cb σ hx hb hts hown hK hP k_384 d_M_attributeOf_2 ?_
  refine lv_iconst (v := 4) hx hb d_M_attributeOf_5 (by decide) ?_
  refine lv_iload_n hx hb d_M_attributeOf_6 rfl (lv_at hl 1 rfl) ?_
  refine lv_imul hx hb d_M_attributeOf_7 ?_
  refine lv_iload_n hx hb d_M_attributeOf_8 rfl (lv_at hl 2 rfl) ?_
  refine lv_iconst (v := 4) hx hb d_M_attributeOf_9 (by decide) ?_
  refine lv_idiv hx hb d_M_attributeOf_10 (by decide) ?_
  refine lv_iadd hx hb d_M_attributeOf_11 ?_
  obtain ⟨hi1, h⟩ := vq_bd h
  refine al_M3 dC dI bd cb σ hx hb hts hown hK hP hi1 d_M_attributeOf_12 ?_
  obtain ⟨i2, ei2, h⟩ := vq_let h
  refine vq_top ei2.symm ?_
  refine lv_imul hx hb d_M_attributeOf_13 ?_
  refine lv_iload_n hx hb d_M_attributeOf_14 rfl (lv_at hl 2 rfl) ?_
  refine lv_iconst (v := 4) hx hb d_M_attributeOf_15 (by decide) ?_
  refine lv_irem hx hb d_M_attributeOf_16 (by decide) ?_
  refine lv_iadd hx hb d_M_attributeOf_17 ?_
  obtain ⟨i3, ei3, h⟩ := vq_let h
  refine vq_top ei3.symm ?_
  have h9 := Option.some.inj h
  rw [← h9]
  exact W.iret (v := i3) hx hb hr (fun t ht hW => ⟨⟨i3, (), rfl, rfl, by rw [ht]; exact hP, va_K.moved hW.alike hK, hD⟩, hS.F ht⟩) hS.2.2 d_M_attributeOf_18

set_option maxHeartbeats 4000000 in
set_option maxRecDepth 100000 in
theorem c_M_isDefined (l : Launch) (htr : l.stackTraces = false) (dC : Nat → ClassId) (dI : Nat → Nat → Nat) (bd : Nat → Nat) (cb : Nat → ClassId) (N : Nat) (σ : vS) (a0 : Int32) (a1 : Int32) (v : Int32 × vS) (h : f_M_isDefined N σ a0 a1 = some v) (sz : Nat) : Met l y_M_isDefined WS ({ frames := 1, cells := 0, slots := 0, locals := 22 }) (va_Pc [.ref (bd 0), .int a0, .int a1] (vq_Pre (dC, dI) CL sz (Mw bd cb σ) (Mt cb))) (va_Qi (fun (r : Int32) (_ : Unit) => r = v.1) (fun _ t => vq_Post (dC, dI) CL (va_A (Mw bd cb σ) sz) (Mw bd cb v.2) (Mt cb) t) (va_A (Mw bd cb σ) sz)) 0 0 (va_A (Mw bd cb σ) sz) := by
  refine vq_ofW (cc := prog_10_method_11_code) (maxL := 3) (ret := (Option.some Jvm.ClassFile.FieldType.boolean)) pl_M (vq_his k_388) ?_
  intro p e s m args below meth c s₁ B hml hv
  obtain ⟨rfl, hst, hsz, hP, hK, hD0⟩ := hv
  have hx := B.exec
  have hb := B.bytes
  have hr := B.returns
  have hts := atoms_spec (ws := WS) B.pre
  have hown : s.vm.findClass R_M = some m.cls := findClass_of_methodNamed B.named
  have hlocks := B.notSynchronized
  have hno := vq_noH B (hts _ k_388)
  subst hsz
  have hN := vq_ns hP
  have hD := hD0.self (sz := s.heap.size)
  generalize hAe : va_A (Mw bd cb σ) s.heap.size = A at hD hN ⊢
  have hA : ∀ q : Nat, s.heap.size ≤ q → A q := fun q h => by rw [← hAe]; exact Or.inr h
  have hS : va_S A s.heap s.heap [] := va_S.rf
  have hl := lv_entry ([.ref (bd 0), .int a0, .int a1]) (n := 3) (Nat.le_of_ble_eq_true rfl)
  rw [lg_entry_eq]
  generalize (lg_sl ([.ref (bd 0), .int a0, .int a1]) ++ List.replicate (3 - (lg_sl ([.ref (bd 0), .int a0, .int a1])).length) Slot.unset).toArray = ls at hl ⊢
  have hl : lv_has ls 3 [(0, .ref (bd 0)), (1, .int a0), (2, .int a1)] := hl
  unfold f_M_isDefined at h
  refine lv_aload_n hx hb d_M_isDefined_0 rfl (lv_at hl 0 rfl) ?_
  refine lv_iload_n hx hb d_M_isDefined_1 rfl (lv_at hl 1 rfl) ?_
  refine lv_iload_n hx hb d_M_isDefined_2 rfl (lv_at hl 2 rfl) ?_
  obtain ⟨q1, h2, h⟩ := vq_bi h
  have hFc := vq_freeAll hD hS hA
  refine va_calli (va_runV (As := [.int a0, .int a1]) (rest := []) ⟨hx, hb, hml, hown, hts⟩ (c_M_isOccurrence l htr dC dI bd cb N σ a0 a1 q1 h2 s.heap.size) (vq_cV WSk hts 2 rfl rfl ⟨by decide, by decide⟩ k_386 k_367 k_389 k_390 k_391 (by decide +kernel)) ⟨vq_blind, va_recv hK hP (ci := 8) (q0 := 0) rfl rfl, vq_here hst hS hN hP hK hD⟩ rfl rfl hl.1 rfl (lv_room (Nat.le_of_ble_eq_true rfl)) d_M_isDefined_3 ⟨by decide, by decide⟩) hS (fun q _ h => hFc q h) hFc (fun r u t H1 locs ht hvm hw hB hz1 hk1 hS => ?_)
  obtain ⟨hP, -, hD1⟩ := hB
  rw [ht] at hP
  have hD := hD1.weaken (fun _ _ _ h => hFc _ h)
  have hw : r = q1.1 := hw
  subst hw
  generalize H1 = H at hP hS ⊢
  refine W.widen (k := 0) (n := 0) (by decide) (by decide) ?_
  refine lv_if_eq (tgt := 37) hx hb d_M_isDefined_6 (by decide) (fun hc3 => ?_) (fun hc3 => ?_)
  ·
    rw [if_pos hc3] at h
    refine lv_iconst (v := 0) hx hb d_M_isDefined_37 (by decide) ?_
    have h9 := Option.some.inj h
    rw [← h9]
    exact W.zret (v := 0) (ty := .boolean) hx hb hr (by decide) (fun t ht hW => ⟨⟨0, (), rfl, rfl, by rw [ht]; exact hP, va_K.moved hW.alike hK, hD⟩, hS.F ht⟩) hS.2.2 d_M_isDefined_38
  ·
    rw [if_neg hc3] at h
    refine lv_aload_n hx hb d_M_isDefined_9 rfl (lv_at hl 0 rfl) ?_
    refine g_M_inherits dC dI bd cb q1.2 hx hb hts hown hK hP k_377 d_M_isDefined_10 ?_
    refine lv_aload_n hx hb d_M_isDefined_13 rfl (lv_at hl 0 rfl) ?_
    refine lv_iload_n hx hb d_M_isDefined_14 rfl (lv_at hl 1 rfl) ?_
    refine lv_iload_n hx hb d_M_isDefined_15 rfl (lv_at hl 2 rfl) ?_
    obtain ⟨q4, h5, h⟩ := vq_bi h
    have hFc := vq_freeAll hD hS hA
    refine va_calli (va_runV (As := [.int a0, .int a1]) (rest := [.ref (bd 2)]) ⟨hx, hb, hml, hown, hts⟩ (c_M_attributeOf l htr dC dI bd cb N q1.2 a0 a1 q4 h5 H.size) (vq_cV WSk hts 2 rfl rfl ⟨by decide, by decide⟩ k_387 k_367 k_392 k_393 k_394 (by decide +kernel)) ⟨vq_blind, va_recv hK hP (ci := 8) (q0 := 0) rfl rfl, vq_here hst hS hN hP hK hD⟩ rfl rfl hl.1 rfl (lv_room (Nat.le_of_ble_eq_true rfl)) d_M_isDefined_16 ⟨by decide, by decide⟩) hS (fun q _ h => hFc q h) hFc (fun r u t H1 locs ht hvm hw hB hz1 hk1 hS => ?_)
    obtain ⟨hP, -, hD1⟩ := hB
    rw [ht] at hP
    have hD := hD1.weaken (fun _ _ _ h => hFc _ h)
    have hw : r = q4.1 := hw
    subst hw
    generalize H1 = H at hP hS ⊢
    refine W.widen (k := 0) (n := 0) (by decide) (by decide) ?_
    obtain ⟨hi6, h⟩ := vq_bd h
    refine al_M1 dC dI bd cb q4.2 hx hb hts hown hK hP hi6 d_M_isDefined_19 ?_
    obtain ⟨i7, ei7, h⟩ := vq_let h
    refine vq_top ei7.symm ?_
    refine lv_iload_n hx hb d_M_isDefined_20 rfl (lv_at hl 2 rfl) ?_
    refine lv_iconst (v := 3) hx hb d_M_isDefined_21 (by decide) ?_
    have J30 : ∀ (τ : vS) (y0 : Int32) (y1 : Int32) (H : Heap) (locs : List Loc) (ls : Array Slot), f_M_isDefined_30 N τ y0 y1 = some v → lv_has ls 3 [] → va_P (dC, dI) CL (Mw bd cb τ) H → va_D A (Mw bd cb τ) → va_S A s.heap H locs → W p l e (headSpec WS ({ frames := 1, cells := 0, slots := 0, locals := 22 })).room s m ([.ref (bd 0), .int a0, .int a1] : List Value).toArray below meth c H locs 0 0 (MQ below (va_Qi (fun (r : Int32) (_ : Unit) => r = v.1) (fun _ t => vq_Post (dC, dI) CL A (Mw bd cb v.2) (Mt cb) t) A) ([.ref (bd 0), .int a0, .int a1] : List Value).toArray s 0 0 A) (F0 m 30 ls [.int y0, .int y1]) := by
      intro τ y0 y1 H locs ls h hl hP hD hS
      unfold f_M_isDefined_30 at h
      refine lv_icmp_ne (tgt := 37) hx hb d_M_isDefined_30 (by decide) (fun hc8 => ?_) (fun hc8 => ?_)
      ·
        rw [if_neg hc8] at h
        refine lv_iconst (v := 0) hx hb d_M_isDefined_37 (by decide) ?_
        have h9 := Option.some.inj h
        rw [← h9]
        exact W.zret (v := 0) (ty := .boolean) hx hb hr (by decide) (fun t ht hW => ⟨⟨0, (), rfl, rfl, by rw [ht]; exact hP, va_K.moved hW.alike hK, hD⟩, hS.F ht⟩) hS.2.2 d_M_isDefined_38
      ·
        rw [if_pos hc8] at h
        refine lv_iconst (v := 1) hx hb d_M_isDefined_33 (by decide) ?_
        refine lv_goto (tgt := 38) hx hb d_M_isDefined_34 (by decide) ?_
        have h9 := Option.some.inj h
        rw [← h9]
        exact W.zret (v := 1) (ty := .boolean) hx hb hr (by decide) (fun t ht hW => ⟨⟨1, (), rfl, rfl, by rw [ht]; exact hP, va_K.moved hW.alike hK, hD⟩, hS.F ht⟩) hS.2.2 d_M_isDefined_38
    refine lv_icmp_le (tgt := 29) hx hb d_M_isDefined_22 (by decide) (fun hc9 => ?_) (fun hc9 => ?_)
    ·
      rw [if_pos hc9] at h
      refine lv_iconst (v := 0) hx hb d_M_isDefined_29 (by decide) ?_
      exact J30 _ _ _ _ _ _ h (lv_sub hl [] rfl) hP hD hS
    ·
      rw [if_neg hc9] at h
      refine lv_iconst (v := 1) hx hb d_M_isDefined_25 (by decide) ?_
      refine lv_goto (tgt := 30) hx hb d_M_isDefined_26 (by decide) ?_
      exact J30 _ _ _ _ _ _ h (lv_sub hl [] rfl) hP hD hS

set_option maxHeartbeats 4000000 in
set_option maxRecDepth 100000 in
theorem c_M_rule (l : Launch) (htr : l.stackTraces = false) (dC : Nat → ClassId) (dI : Nat → Nat → Nat) (bd : Nat → Nat) (cb : Nat → ClassId) (N : Nat) (σ : vS) (a0 : Int32) (a1 : Int32) (a2 : Int32) (a3 : Int32) (a4 : Int32) (v : Int32 × vS) (h : f_M_rule N σ a0 a1 a2 a3 a4 = some v) (sz : Nat) : Met l y_M_rule WS ({ frames := 2, cells := 0, slots := 0, locals := 44 }) (va_Pc [.ref (bd 0), .int a0, .int a1, .int a2, .int a3, .int a4] (vq_Pre (dC, dI) CL sz (Mw bd cb σ) (Mt cb))) (va_Qv (fun _ : Unit => True) (fun _ t => vq_Post (dC, dI) CL (va_A (Mw bd cb σ) sz) (Mw bd cb v.2) (Mt cb) t) (va_A (Mw bd cb σ) sz)) 0 0 (va_A (Mw bd cb σ) sz) := by
  refine vq_ofW (cc := prog_10_method_13_code) (maxL := 7) (ret := (Option.none : Option Jvm.ClassFile.FieldType)) pl_M (vq_his k_395) ?_
  intro p e s m args below meth c s₁ B hml hv
  obtain ⟨rfl, hst, hsz, hP, hK, hD0⟩ := hv
  have hx := B.exec
  have hb := B.bytes
  have hr := B.returns
  have hts := atoms_spec (ws := WS) B.pre
  have hown : s.vm.findClass R_M = some m.cls := findClass_of_methodNamed B.named
  have hlocks := B.notSynchronized
  have hno := vq_noH B (hts _ k_395)
  subst hsz
  have hN := vq_ns hP
  have hD := hD0.self (sz := s.heap.size)
  generalize hAe : va_A (Mw bd cb σ) s.heap.size = A at hD hN ⊢
  have hA : ∀ q : Nat, s.heap.size ≤ q → A q := fun q h => by rw [← hAe]; exact Or.inr h
  have hS : va_S A s.heap s.heap [] := va_S.rf
  have hl := lv_entry ([.ref (bd 0), .int a0, .int a1, .int a2, .int a3, .int a4]) (n := 7) (Nat.le_of_ble_eq_true rfl)
  rw [lg_entry_eq]
  generalize (lg_sl ([.ref (bd 0), .int a0, .int a1, .int a2, .int a3, .int a4]) ++ List.replicate (7 - (lg_sl ([.ref (bd 0), .int a0, .int a1, .int a2, .int a3, .int a4])).length) Slot.unset).toArray = ls at hl ⊢
  have hl : lv_has ls 7 [(0, .ref (bd 0)), (1, .int a0), (2, .int a1), (3, .int a2), (4, .int a3), (5, .int a4)] := hl
  unfold f_M_rule at h
  refine lv_aload_n hx hb d_M_rule_0 rfl (lv_at hl 0 rfl) ?_
  refine lv_iload_n hx hb d_M_rule_1 rfl (lv_at hl 1 rfl) ?_
  have J18 : ∀ (τ : vS) (x1 : Int32) (x2 : Int32) (x3 : Int32) (x4 : Int32) (x5 : Int32) (y0 : Int32) (H : Heap) (locs : List Loc) (ls : Array Slot), f_M_rule_18 N τ x1 x2 x3 x4 x5 y0 = some v → lv_has ls 7 [(0, .ref (bd 0)), (1, .int x1), (2, .int x2), (3, .int x3), (4, .int x4), (5, .int x5)] → va_P (dC, dI) CL (Mw bd cb τ) H → va_D A (Mw bd cb τ) → va_S A s.heap H locs → W p l e (headSpec WS ({ frames := 2, cells := 0, slots := 0, locals := 44 })).room s m ([.ref (bd 0), .int a0, .int a1, .int a2, .int a3, .int a4] : List Value).toArray below meth c H locs 0 0 (MQ below (va_Qv (fun _ : Unit => True) (fun _ t => vq_Post (dC, dI) CL A (Mw bd cb v.2) (Mt cb) t) A) ([.ref (bd 0), .int a0, .int a1, .int a2, .int a3, .int a4] : List Value).toArray s 0 0 A) (F0 m 18 ls [.int y0, .ref (bd 0)]) := by
    intro τ x1 x2 x3 x4 x5 y0 H locs ls h hl hP hD hS
    unfold f_M_rule_18 at h
    refine p_M_code dC dI bd cb τ hx hb hts hown hK hP hD hS k_359 d_M_rule_18 (fun H locs hP hD hS => ?_)
    obtain ⟨σ1, eσ1, h⟩ := vq_let h
    rw [← eσ1] at hP hD
    refine lv_aload_n hx hb d_M_rule_21 rfl (lv_at hl 0 rfl) ?_
    refine g_M_code dC dI bd cb σ1 hx hb hts hown hK hP k_359 d_M_rule_22 ?_
    refine lv_if_le (tgt := 29) hx hb d_M_rule_25 (by decide) (fun hc2 => ?_) (fun hc2 => ?_)
    ·
      rw [if_pos hc2] at h
      refine lv_aload_n hx hb d_M_rule_29 rfl (lv_at hl 0 rfl) ?_
      refine lv_iload_n hx hb d_M_rule_30 rfl (lv_at hl 1 rfl) ?_
      refine lv_iload_n hx hb d_M_rule_31 rfl (lv_at hl 2 rfl) ?_
      obtain ⟨q3, h4, h⟩ := vq_bi h
      have hFc := vq_freeAll hD hS hA
      refine va_calli (va_runV (As := [.int x1, .int x2]) (rest := []) ⟨hx, hb, hml, hown, hts⟩ (c_M_isDefined l htr dC dI bd cb N σ1 x1 x2 q3 h4 H.size) (vq_cV WSk hts 2 rfl rfl ⟨by decide, by decide⟩ k_388 k_367 k_396 k_397 k_398 (by decide +kernel)) ⟨vq_blind, va_recv hK hP (ci := 8) (q0 := 0) rfl rfl, vq_here hst hS hN hP hK hD⟩ rfl rfl hl.1 rfl (lv_room (Nat.le_of_ble_eq_true rfl)) d_M_rule_32 ⟨by decide, by decide⟩) hS (fun q _ h => hFc q h) hFc (fun r u t H1 locs ht hvm hw hB hz1 hk1 hS => ?_)
      obtain ⟨hP, -, hD1⟩ := hB
      rw [ht] at hP
      have hD := hD1.weaken (fun _ _ _ h => hFc _ h)
      have hw : r = q3.1 := hw
      subst hw
      generalize H1 = H at hP hS ⊢
      refine W.widen (k := 0) (n := 0) (by decide) (by decide) ?_
      have J89 : ∀ (τ : vS) (x1 : Int32) (x2 : Int32) (x3 : Int32) (x4 : Int32) (x5 : Int32) (y0 : Int32) (H : Heap) (locs : List Loc) (ls : Array Slot), f_M_rule_89 N τ x1 x2 x3 x4 x5 y0 = some v → lv_has ls 7 [(0, .ref (bd 0)), (1, .int x1), (2, .int x2), (3, .int x3), (4, .int x4), (5, .int x5)] → va_P (dC, dI) CL (Mw bd cb τ) H → va_D A (Mw bd cb τ) → va_S A s.heap H locs → W p l e (headSpec WS ({ frames := 2, cells := 0, slots := 0, locals := 44 })).room s m ([.ref (bd 0), .int a0, .int a1, .int a2, .int a3, .int a4] : List Value).toArray below meth c H locs 0 0 (MQ below (va_Qv (fun _ : Unit => True) (fun _ t => vq_Post (dC, dI) CL A (Mw bd cb v.2) (Mt cb) t) A) ([.ref (bd 0), .int a0, .int a1, .int a2, .int a3, .int a4] : List Value).toArray s 0 0 A) (F0 m 89 ls [.int y0]) := by
        intro τ x1 x2 x3 x4 x5 y0 H locs ls h hl hP hD hS
        unfold f_M_rule_89 at h
        refine lv_istore (lv' := [(6, .int y0), (0, .ref (bd 0)), (1, .int x1), (2, .int x2), (3, .int x3), (4, .int x4), (5, .int x5)]) hx hb d_M_rule_89 hl (by decide) rfl (fun ls hl => ?_)
        refine lv_aload_n hx hb d_M_rule_91 rfl (lv_at hl 1 rfl) ?_
        refine lv_iload hx hb d_M_rule_92 (lv_at hl 0 rfl) ?_
        have J102 : ∀ (τ : vS) (x1 : Int32) (x2 : Int32) (x3 : Int32) (x4 : Int32) (x5 : Int32) (y0 : Int32) (H : Heap) (locs : List Loc) (ls : Array Slot), f_M_rule_102 N τ x1 x2 x3 x4 x5 y0 = some v → lv_has ls 7 [(0, .ref (bd 0)), (1, .int x1), (2, .int x2), (3, .int x3), (4, .int x4), (5, .int x5)] → va_P (dC, dI) CL (Mw bd cb τ) H → va_D A (Mw bd cb τ) → va_S A s.heap H locs → W p l e (headSpec WS ({ frames := 2, cells := 0, slots := 0, locals := 44 })).room s m ([.ref (bd 0), .int a0, .int a1, .int a2, .int a3, .int a4] : List Value).toArray below meth c H locs 0 0 (MQ below (va_Qv (fun _ : Unit => True) (fun _ t => vq_Post (dC, dI) CL A (Mw bd cb v.2) (Mt cb) t) A) ([.ref (bd 0), .int a0, .int a1, .int a2, .int a3, .int a4] : List Value).toArray s 0 0 A) (F0 m 102 ls [.int y0, .ref (bd 0)]) := by
          intro τ x1 x2 x3 x4 x5 y0 H locs ls h hl hP hD hS
          unfold f_M_rule_102 at h
          refine p_M_code dC dI bd cb τ hx hb hts hown hK hP hD hS k_359 d_M_rule_102 (fun H locs hP hD hS => ?_)
          obtain ⟨σ5, eσ5, h⟩ := vq_let h
          rw [← eσ5] at hP hD
          refine lv_aload_n hx hb d_M_rule_105 rfl (lv_at hl 0 rfl) ?_
          refine g_M_code dC dI bd cb σ5 hx hb hts hown hK hP k_359 d_M_rule_106 ?_
          refine lv_if_le (tgt := 113) hx hb d_M_rule_109 (by decide) (fun hc6 => ?_) (fun hc6 => ?_)
          ·
            rw [if_pos hc6] at h
            refine lv_aload_n hx hb d_M_rule_113 rfl (lv_at hl 0 rfl) ?_
            refine g_M_form dC dI bd cb σ5 hx hb hts hown hK hP k_399 d_M_rule_114 ?_
            refine lv_bipush (v := 16) hx hb d_M_rule_117 (by decide) ?_
            refine lv_iload_n hx hb d_M_rule_119 rfl (lv_at hl 1 rfl) ?_
            refine lv_imul hx hb d_M_rule_120 ?_
            refine lv_iload_n hx hb d_M_rule_121 rfl (lv_at hl 2 rfl) ?_
            refine lv_iadd hx hb d_M_rule_122 ?_
            refine lv_iload_n hx hb d_M_rule_123 rfl (lv_at hl 3 rfl) ?_
            obtain ⟨hi7, h⟩ := vq_bd h
            refine as_M4 dC dI bd cb σ5 hx hb hts hown hK hP hD hS hi7 d_M_rule_124 (fun H locs hP hD hS => ?_)
            obtain ⟨σ8, eσ8, h⟩ := vq_let h
            rw [← eσ8] at hP hD
            refine lv_aload_n hx hb d_M_rule_125 rfl (lv_at hl 0 rfl) ?_
            refine g_M_ruleX dC dI bd cb σ8 hx hb hts hown hK hP k_400 d_M_rule_126 ?_
            refine lv_bipush (v := 16) hx hb d_M_rule_129 (by decide) ?_
            refine lv_iload_n hx hb d_M_rule_131 rfl (lv_at hl 1 rfl) ?_
            refine lv_imul hx hb d_M_rule_132 ?_
            refine lv_iload_n hx hb d_M_rule_133 rfl (lv_at hl 2 rfl) ?_
            refine lv_iadd hx hb d_M_rule_134 ?_
            refine lv_iload hx hb d_M_rule_135 (lv_at hl 4 rfl) ?_
            obtain ⟨hi9, h⟩ := vq_bd h
            refine as_M5 dC dI bd cb σ8 hx hb hts hown hK hP hD hS hi9 d_M_rule_137 (fun H locs hP hD hS => ?_)
            obtain ⟨σ10, eσ10, h⟩ := vq_let h
            rw [← eσ10] at hP hD
            refine lv_aload_n hx hb d_M_rule_138 rfl (lv_at hl 0 rfl) ?_
            refine g_M_ruleY dC dI bd cb σ10 hx hb hts hown hK hP k_401 d_M_rule_139 ?_
            refine lv_bipush (v := 16) hx hb d_M_rule_142 (by decide) ?_
            refine lv_iload_n hx hb d_M_rule_144 rfl (lv_at hl 1 rfl) ?_
            refine lv_imul hx hb d_M_rule_145 ?_
            refine lv_iload_n hx hb d_M_rule_146 rfl (lv_at hl 2 rfl) ?_
            refine lv_iadd hx hb d_M_rule_147 ?_
            refine lv_iload hx hb d_M_rule_148 (lv_at hl 5 rfl) ?_
            obtain ⟨hi11, h⟩ := vq_bd h
            refine as_M6 dC dI bd cb σ10 hx hb hts hown hK hP hD hS hi11 d_M_rule_150 (fun H locs hP hD hS => ?_)
            obtain ⟨σ12, eσ12, h⟩ := vq_let h
            rw [← eσ12] at hP hD
            refine lv_aload_n hx hb d_M_rule_151 rfl (lv_at hl 0 rfl) ?_
            obtain ⟨q13, h14, h⟩ := vq_bi h
            have hFc := vq_freeAll hD hS hA
            refine va_callv (va_runV (As := []) (rest := []) ⟨hx, hb, hml, hown, hts⟩ (c_M_forget l htr dC dI bd cb N σ12 q13 h14 H.size) (vq_cV WSk hts 0 rfl rfl ⟨by decide, by decide⟩ k_365 k_367 k_374 k_375 k_376 (by decide +kernel)) ⟨vq_blind, va_recv hK hP (ci := 8) (q0 := 0) rfl rfl, vq_here hst hS hN hP hK hD⟩ rfl rfl hl.1 rfl (lv_room (Nat.le_of_ble_eq_true rfl)) d_M_rule_152 ⟨by decide, by decide⟩) hS (fun q _ h => hFc q h) hFc (fun u t H1 locs ht hvm hw hB hz1 hk1 hS => ?_)
            obtain ⟨hP, -, hD1⟩ := hB
            rw [ht] at hP
            have hD := hD1.weaken (fun _ _ _ h => hFc _ h)
            generalize H1 = H at hP hS ⊢
            refine W.widen (k := 0) (n := 0) (by decide) (by decide) ?_
            have h9 := Option.some.inj h
            rw [← h9]
            exact W.vret hx hb hr (fun t ht hW => ⟨⟨(), rfl, trivial, by rw [ht]; exact hP, va_K.moved hW.alike hK, hD⟩, hS.F ht⟩) hS.2.2 d_M_rule_155
          ·
            rw [if_neg hc6] at h
            have h9 := Option.some.inj h
            rw [← h9]
            exact W.vret hx hb hr (fun t ht hW => ⟨⟨(), rfl, trivial, by rw [ht]; exact hP, va_K.moved hW.alike hK, hD⟩, hS.F ht⟩) hS.2.2 d_M_rule_112
        refine lv_if_eq (tgt := 101) hx hb d_M_rule_94 (by decide) (fun hc15 => ?_) (fun hc15 => ?_)
        ·
          rw [if_pos hc15] at h
          refine lv_iconst (v := 2) hx hb d_M_rule_101 (by decide) ?_
          exact J102 _ _ _ _ _ _ _ _ _ _ h (lv_sub hl [1, 2, 3, 4, 5, 6] rfl) hP hD hS
        ·
          rw [if_neg hc15] at h
          refine lv_iconst (v := 0) hx hb d_M_rule_97 (by decide) ?_
          refine lv_goto (tgt := 102) hx hb d_M_rule_98 (by decide) ?_
          exact J102 _ _ _ _ _ _ _ _ _ _ h (lv_sub hl [1, 2, 3, 4, 5, 6] rfl) hP hD hS
      have J88 : ∀ (τ : vS) (x1 : Int32) (x2 : Int32) (x3 : Int32) (x4 : Int32) (x5 : Int32) (H : Heap) (locs : List Loc) (ls : Array Slot), f_M_rule_88 N τ x1 x2 x3 x4 x5 = some v → lv_has ls 7 [(0, .ref (bd 0)), (1, .int x1), (2, .int x2), (3, .int x3), (4, .int x4), (5, .int x5)] → va_P (dC, dI) CL (Mw bd cb τ) H → va_D A (Mw bd cb τ) → va_S A s.heap H locs → W p l e (headSpec WS ({ frames := 2, cells := 0, slots := 0, locals := 44 })).room s m ([.ref (bd 0), .int a0, .int a1, .int a2, .int a3, .int a4] : List Value).toArray below meth c H locs 0 0 (MQ below (va_Qv (fun _ : Unit => True) (fun _ t => vq_Post (dC, dI) CL A (Mw bd cb v.2) (Mt cb) t) A) ([.ref (bd 0), .int a0, .int a1, .int a2, .int a3, .int a4] : List Value).toArray s 0 0 A) (F0 m 88 ls []) := by
        intro τ x1 x2 x3 x4 x5 H locs ls h hl hP hD hS
        unfold f_M_rule_88 at h
        refine lv_iconst (v := 0) hx hb d_M_rule_88 (by decide) ?_
        exact J89 _ _ _ _ _ _ _ _ _ _ h (lv_sub hl [0, 1, 2, 3, 4, 5] rfl) hP hD hS
      refine lv_if_eq (tgt := 88) hx hb d_M_rule_35 (by decide) (fun hc16 => ?_) (fun hc16 => ?_)
      ·
        rw [if_pos hc16] at h
        exact J88 _ _ _ _ _ _ _ _ _ h (lv_sub hl [0, 1, 2, 3, 4, 5] rfl) hP hD hS
      ·
        rw [if_neg hc16] at h
        refine lv_iload_n hx hb d_M_rule_38 rfl (lv_at hl 3 rfl) ?_
        refine lv_if_lt (tgt := 88) hx hb d_M_rule_39 (by decide) (fun hc17 => ?_) (fun hc17 => ?_)
        ·
          rw [if_pos hc17] at h
          exact J88 _ _ _ _ _ _ _ _ _ h (lv_sub hl [0, 1, 2, 3, 4, 5] rfl) hP hD hS
        ·
          rw [if_neg hc17] at h
          refine lv_iload_n hx hb d_M_rule_42 rfl (lv_at hl 3 rfl) ?_
          refine lv_bipush (v := 8) hx hb d_M_rule_43 (by decide) ?_
          refine lv_icmp_ge (tgt := 88) hx hb d_M_rule_45 (by decide) (fun hc18 => ?_) (fun hc18 => ?_)
          ·
            rw [if_pos hc18] at h
            exact J88 _ _ _ _ _ _ _ _ _ h (lv_sub hl [0, 1, 2, 3, 4, 5] rfl) hP hD hS
          ·
            rw [if_neg hc18] at h
            refine lv_iload_n hx hb d_M_rule_48 rfl (lv_at hl 3 rfl) ?_
            obtain ⟨q19, h20, h⟩ := vq_bi h
            have hKe := hK.sub (tys' := []) [] rfl
            refine va_calli (va_runS (As := [.int x3]) (rest := []) ⟨hx, hb, hml, hown, hts⟩ (c_M_needs l htr dC dI N x3 q19 h20 H.size) (vq_cS WSk hts 1 rfl rfl ⟨by decide, by decide⟩ k_5 k_367 k_402 k_403 (by decide +kernel)) ⟨vq_blind, vq_here hst hS hN vq_P0 hKe vq_D0⟩ rfl rfl hl.1 rfl (lv_room (Nat.le_of_ble_eq_true rfl)) d_M_rule_49 ⟨by decide, by decide⟩) hS (fun q _ h => vq_keepA h (fun hz => hA q (Nat.le_trans hS.1 hz))) (fun q h => vq_keepA h (fun hz => hA q (Nat.le_trans hS.1 hz))) (fun r u t H1 locs ht hvm hw hB hz1 hk1 hS => ?_)
            have hw : r = q19 := hw
            rw [hw]
            have hP := vq_keepP hP hk1
            generalize H1 = H at hP hS ⊢
            refine W.widen (k := 0) (n := 0) (by decide) (by decide) ?_
            refine lv_iconst (v := 1) hx hb d_M_rule_52 (by decide) ?_
            have J66 : ∀ (τ : vS) (x1 : Int32) (x2 : Int32) (x3 : Int32) (x4 : Int32) (x5 : Int32) (H : Heap) (locs : List Loc) (ls : Array Slot), f_M_rule_66 N τ x1 x2 x3 x4 x5 = some v → lv_has ls 7 [(0, .ref (bd 0)), (1, .int x1), (2, .int x2), (3, .int x3), (4, .int x4), (5, .int x5)] → va_P (dC, dI) CL (Mw bd cb τ) H → va_D A (Mw bd cb τ) → va_S A s.heap H locs → W p l e (headSpec WS ({ frames := 2, cells := 0, slots := 0, locals := 44 })).room s m ([.ref (bd 0), .int a0, .int a1, .int a2, .int a3, .int a4] : List Value).toArray below meth c H locs 0 0 (MQ below (va_Qv (fun _ : Unit => True) (fun _ t => vq_Post (dC, dI) CL A (Mw bd cb v.2) (Mt cb) t) A) ([.ref (bd 0), .int a0, .int a1, .int a2, .int a3, .int a4] : List Value).toArray s 0 0 A) (F0 m 66 ls []) := by
              intro τ x1 x2 x3 x4 x5 H locs ls h hl hP hD hS
              unfold f_M_rule_66 at h
              refine lv_iload_n hx hb d_M_rule_66 rfl (lv_at hl 3 rfl) ?_
              obtain ⟨q21, h22, h⟩ := vq_bi h
              have hKe := hK.sub (tys' := []) [] rfl
              refine va_calli (va_runS (As := [.int x3]) (rest := []) ⟨hx, hb, hml, hown, hts⟩ (c_M_needs l htr dC dI N x3 q21 h22 H.size) (vq_cS WSk hts 1 rfl rfl ⟨by decide, by decide⟩ k_5 k_367 k_402 k_403 (by decide +kernel)) ⟨vq_blind, vq_here hst hS hN vq_P0 hKe vq_D0⟩ rfl rfl hl.1 rfl (lv_room (Nat.le_of_ble_eq_true rfl)) d_M_rule_67 ⟨by decide, by decide⟩) hS (fun q _ h => vq_keepA h (fun hz => hA q (Nat.le_trans hS.1 hz))) (fun q h => vq_keepA h (fun hz => hA q (Nat.le_trans hS.1 hz))) (fun r u t H1 locs ht hvm hw hB hz1 hk1 hS => ?_)
              have hw : r = q21 := hw
              rw [hw]
              have hP := vq_keepP hP hk1
              generalize H1 = H at hP hS ⊢
              refine W.widen (k := 0) (n := 0) (by decide) (by decide) ?_
              refine lv_iconst (v := 2) hx hb d_M_rule_70 (by decide) ?_
              have J84 : ∀ (τ : vS) (x1 : Int32) (x2 : Int32) (x3 : Int32) (x4 : Int32) (x5 : Int32) (H : Heap) (locs : List Loc) (ls : Array Slot), f_M_rule_84 N τ x1 x2 x3 x4 x5 = some v → lv_has ls 7 [(0, .ref (bd 0)), (1, .int x1), (2, .int x2), (3, .int x3), (4, .int x4), (5, .int x5)] → va_P (dC, dI) CL (Mw bd cb τ) H → va_D A (Mw bd cb τ) → va_S A s.heap H locs → W p l e (headSpec WS ({ frames := 2, cells := 0, slots := 0, locals := 44 })).room s m ([.ref (bd 0), .int a0, .int a1, .int a2, .int a3, .int a4] : List Value).toArray below meth c H locs 0 0 (MQ below (va_Qv (fun _ : Unit => True) (fun _ t => vq_Post (dC, dI) CL A (Mw bd cb v.2) (Mt cb) t) A) ([.ref (bd 0), .int a0, .int a1, .int a2, .int a3, .int a4] : List Value).toArray s 0 0 A) (F0 m 84 ls []) := by
                intro τ x1 x2 x3 x4 x5 H locs ls h hl hP hD hS
                unfold f_M_rule_84 at h
                refine lv_iconst (v := 1) hx hb d_M_rule_84 (by decide) ?_
                refine lv_goto (tgt := 89) hx hb d_M_rule_85 (by decide) ?_
                exact J89 _ _ _ _ _ _ _ _ _ _ h (lv_sub hl [0, 1, 2, 3, 4, 5] rfl) hP hD hS
              refine lv_icmp_lt (tgt := 84) hx hb d_M_rule_71 (by decide) (fun hc23 => ?_) (fun hc23 => ?_)
              ·
                rw [if_pos hc23] at h
                exact J84 _ _ _ _ _ _ _ _ _ h (lv_sub hl [0, 1, 2, 3, 4, 5] rfl) hP hD hS
              ·
                rw [if_neg hc23] at h
                refine lv_aload_n hx hb d_M_rule_74 rfl (lv_at hl 0 rfl) ?_
                refine lv_iload_n hx hb d_M_rule_75 rfl (lv_at hl 1 rfl) ?_
                refine lv_iload hx hb d_M_rule_76 (lv_at hl 5 rfl) ?_
                obtain ⟨q24, h25, h⟩ := vq_bi h
                have hFc := vq_freeAll hD hS hA
                refine va_calli (va_runV (As := [.int x1, .int x5]) (rest := []) ⟨hx, hb, hml, hown, hts⟩ (c_M_isOccurrence l htr dC dI bd cb N τ x1 x5 q24 h25 H.size) (vq_cV WSk hts 2 rfl rfl ⟨by decide, by decide⟩ k_386 k_367 k_389 k_390 k_391 (by decide +kernel)) ⟨vq_blind, va_recv hK hP (ci := 8) (q0 := 0) rfl rfl, vq_here hst hS hN hP hK hD⟩ rfl rfl hl.1 rfl (lv_room (Nat.le_of_ble_eq_true rfl)) d_M_rule_78 ⟨by decide, by decide⟩) hS (fun q _ h => hFc q h) hFc (fun r u t H1 locs ht hvm hw hB hz1 hk1 hS => ?_)
                obtain ⟨hP, -, hD1⟩ := hB
                rw [ht] at hP
                have hD := hD1.weaken (fun _ _ _ h => hFc _ h)
                have hw : r = q24.1 := hw
                subst hw
                generalize H1 = H at hP hS ⊢
                refine W.widen (k := 0) (n := 0) (by decide) (by decide) ?_
                refine lv_if_eq (tgt := 88) hx hb d_M_rule_81 (by decide) (fun hc26 => ?_) (fun hc26 => ?_)
                ·
                  rw [if_pos hc26] at h
                  exact J88 _ _ _ _ _ _ _ _ _ h (lv_sub hl [0, 1, 2, 3, 4, 5] rfl) hP hD hS
                ·
                  rw [if_neg hc26] at h
                  exact J84 _ _ _ _ _ _ _ _ _ h (lv_sub hl [0, 1, 2, 3, 4, 5] rfl) hP hD hS
            refine lv_icmp_lt (tgt := 66) hx hb d_M_rule_53 (by decide) (fun hc27 => ?_) (fun hc27 => ?_)
            ·
              rw [if_pos hc27] at h
              exact J66 _ _ _ _ _ _ _ _ _ h (lv_sub hl [0, 1, 2, 3, 4, 5] rfl) hP hD hS
            ·
              rw [if_neg hc27] at h
              refine lv_aload_n hx hb d_M_rule_56 rfl (lv_at hl 0 rfl) ?_
              refine lv_iload_n hx hb d_M_rule_57 rfl (lv_at hl 1 rfl) ?_
              refine lv_iload hx hb d_M_rule_58 (lv_at hl 4 rfl) ?_
              obtain ⟨q28, h29, h⟩ := vq_bi h
              have hFc := vq_freeAll hD hS hA
              refine va_calli (va_runV (As := [.int x1, .int x4]) (rest := []) ⟨hx, hb, hml, hown, hts⟩ (c_M_isOccurrence l htr dC dI bd cb N q3.2 x1 x4 q28 h29 H.size) (vq_cV WSk hts 2 rfl rfl ⟨by decide, by decide⟩ k_386 k_367 k_389 k_390 k_391 (by decide +kernel)) ⟨vq_blind, va_recv hK hP (ci := 8) (q0 := 0) rfl rfl, vq_here hst hS hN hP hK hD⟩ rfl rfl hl.1 rfl (lv_room (Nat.le_of_ble_eq_true rfl)) d_M_rule_60 ⟨by decide, by decide⟩) hS (fun q _ h => hFc q h) hFc (fun r u t H1 locs ht hvm hw hB hz1 hk1 hS => ?_)
              obtain ⟨hP, -, hD1⟩ := hB
              rw [ht] at hP
              have hD := hD1.weaken (fun _ _ _ h => hFc _ h)
              have hw : r = q28.1 := hw
              subst hw
              generalize H1 = H at hP hS ⊢
              refine W.widen (k := 0) (n := 0) (by decide) (by decide) ?_
              refine lv_if_eq (tgt := 88) hx hb d_M_rule_63 (by decide) (fun hc30 => ?_) (fun hc30 => ?_)
              ·
                rw [if_pos hc30] at h
                exact J88 _ _ _ _ _ _ _ _ _ h (lv_sub hl [0, 1, 2, 3, 4, 5] rfl) hP hD hS
              ·
                rw [if_neg hc30] at h
                exact J66 _ _ _ _ _ _ _ _ _ h (lv_sub hl [0, 1, 2, 3, 4, 5] rfl) hP hD hS
    ·
      rw [if_neg hc2] at h
      have h9 := Option.some.inj h
      rw [← h9]
      exact W.vret hx hb hr (fun t ht hW => ⟨⟨(), rfl, trivial, by rw [ht]; exact hP, va_K.moved hW.alike hK, hD⟩, hS.F ht⟩) hS.2.2 d_M_rule_28
  have J13 : ∀ (τ : vS) (x1 : Int32) (x2 : Int32) (x3 : Int32) (x4 : Int32) (x5 : Int32) (H : Heap) (locs : List Loc) (ls : Array Slot), f_M_rule_13 N τ x1 x2 x3 x4 x5 = some v → lv_has ls 7 [(0, .ref (bd 0)), (1, .int x1), (2, .int x2), (3, .int x3), (4, .int x4), (5, .int x5)] → va_P (dC, dI) CL (Mw bd cb τ) H → va_D A (Mw bd cb τ) → va_S A s.heap H locs → W p l e (headSpec WS ({ frames := 2, cells := 0, slots := 0, locals := 44 })).room s m ([.ref (bd 0), .int a0, .int a1, .int a2, .int a3, .int a4] : List Value).toArray below meth c H locs 0 0 (MQ below (va_Qv (fun _ : Unit => True) (fun _ t => vq_Post (dC, dI) CL A (Mw bd cb v.2) (Mt cb) t) A) ([.ref (bd 0), .int a0, .int a1, .int a2, .int a3, .int a4] : List Value).toArray s 0 0 A) (F0 m 13 ls [.ref (bd 0)]) := by
    intro τ x1 x2 x3 x4 x5 H locs ls h hl hP hD hS
    unfold f_M_rule_13 at h
    refine lv_iconst (v := 1) hx hb d_M_rule_13 (by decide) ?_
    refine lv_goto (tgt := 18) hx hb d_M_rule_14 (by decide) ?_
    exact J18 _ _ _ _ _ _ _ _ _ _ h (lv_sub hl [0, 1, 2, 3, 4, 5] rfl) hP hD hS
  refine lv_if_lt (tgt := 13) hx hb d_M_rule_2 (by decide) (fun hc31 => ?_) (fun hc31 => ?_)
  ·
    rw [if_pos hc31] at h
    exact J13 _ _ _ _ _ _ _ _ _ h (lv_sub hl [0, 1, 2, 3, 4, 5] rfl) hP hD hS
  ·
    rw [if_neg hc31] at h
    refine lv_iload_n hx hb d_M_rule_5 rfl (lv_at hl 1 rfl) ?_
    refine lv_aload_n hx hb d_M_rule_6 rfl (lv_at hl 0 rfl) ?_
    refine g_M_productions dC dI bd cb σ hx hb hts hown hK hP k_383 d_M_rule_7 ?_
    refine lv_icmp_lt (tgt := 17) hx hb d_M_rule_10 (by decide) (fun hc32 => ?_) (fun hc32 => ?_)
    ·
      rw [if_pos hc32] at h
      refine lv_iconst (v := 0) hx hb d_M_rule_17 (by decide) ?_
      exact J18 _ _ _ _ _ _ _ _ _ _ h (lv_sub hl [0, 1, 2, 3, 4, 5] rfl) hP hD hS
    ·
      rw [if_neg hc32] at h
      exact J13 _ _ _ _ _ _ _ _ _ h (lv_sub hl [0, 1, 2, 3, 4, 5] rfl) hP hD hS

set_option maxHeartbeats 4000000 in
set_option maxRecDepth 100000 in
theorem c_M_isUsed (l : Launch) (htr : l.stackTraces = false) (dC : Nat → ClassId) (dI : Nat → Nat → Nat) (bd : Nat → Nat) (cb : Nat → ClassId) (N : Nat) (σ : vS) (a0 : Int32) (a1 : Int32) (a2 : Int32) (v : Int32 × vS) (h : f_M_isUsed N σ a0 a1 a2 = some v) (sz : Nat) : Met l y_M_isUsed WS ({ frames := 1, cells := 0, slots := 0, locals := 20 }) (va_Pc [.ref (bd 0), .int a0, .int a1, .int a2] (vq_Pre (dC, dI) CL sz (Mw bd cb σ) (Mt cb))) (va_Qi (fun (r : Int32) (_ : Unit) => r = v.1) (fun _ t => vq_Post (dC, dI) CL (va_A (Mw bd cb σ) sz) (Mw bd cb v.2) (Mt cb) t) (va_A (Mw bd cb σ) sz)) 0 0 (va_A (Mw bd cb σ) sz) := by
  refine vq_ofW (cc := prog_10_method_14_code) (maxL := 5) (ret := (Option.some Jvm.ClassFile.FieldType.boolean)) pl_M (vq_his k_404) ?_
  intro p e s m args below meth c s₁ B hml hv
  obtain ⟨rfl, hst, hsz, hP, hK, hD0⟩ := hv
  have hx := B.exec
  have hb := B.bytes
  have hr := B.returns
  have hts := atoms_spec (ws := WS) B.pre
  have hown : s.vm.findClass R_M = some m.cls := findClass_of_methodNamed B.named
  have hlocks := B.notSynchronized
  have hno := vq_noH B (hts _ k_404)
  subst hsz
  have hN := vq_ns hP
  have hD := hD0.self (sz := s.heap.size)
  generalize hAe : va_A (Mw bd cb σ) s.heap.size = A at hD hN ⊢
  have hA : ∀ q : Nat, s.heap.size ≤ q → A q := fun q h => by rw [← hAe]; exact Or.inr h
  have hS : va_S A s.heap s.heap [] := va_S.rf
  have hl := lv_entry ([.ref (bd 0), .int a0, .int a1, .int a2]) (n := 5) (Nat.le_of_ble_eq_true rfl)
  rw [lg_entry_eq]
  generalize (lg_sl ([.ref (bd 0), .int a0, .int a1, .int a2]) ++ List.replicate (5 - (lg_sl ([.ref (bd 0), .int a0, .int a1, .int a2])).length) Slot.unset).toArray = ls at hl ⊢
  have hl : lv_has ls 5 [(0, .ref (bd 0)), (1, .int a0), (2, .int a1), (3, .int a2)] := hl
  unfold f_M_isUsed at h
  refine lv_bipush (v := 16) hx hb d_M_isUsed_0 (by decide) ?_
  refine lv_iload_n hx hb d_M_isUsed_2 rfl (lv_at hl 1 rfl) ?_
  refine lv_imul hx hb d_M_isUsed_3 ?_
  refine lv_iload_n hx hb d_M_isUsed_4 rfl (lv_at hl 3 rfl) ?_
  refine lv_iadd hx hb d_M_isUsed_5 ?_
  refine lv_istore (lv' := [(4, .int (((16 : Int32) * a0) + a2)), (0, .ref (bd 0)), (1, .int a0), (2, .int a1), (3, .int a2)]) hx hb d_M_isUsed_6 hl (by decide) rfl (fun ls hl => ?_)
  refine lv_aload_n hx hb d_M_isUsed_8 rfl (lv_at hl 1 rfl) ?_
  refine g_M_form dC dI bd cb σ hx hb hts hown hK hP k_399 d_M_isUsed_9 ?_
  refine lv_iload hx hb d_M_isUsed_12 (lv_at hl 0 rfl) ?_
  obtain ⟨hi1, h⟩ := vq_bd h
  refine al_M4 dC dI bd cb σ hx hb hts hown hK hP hi1 d_M_isUsed_14 ?_
  obtain ⟨i2, ei2, h⟩ := vq_let h
  refine vq_top ei2.symm ?_
  obtain ⟨q3, h4, h⟩ := vq_bi h
  have hKe := hK.sub (tys' := []) [] rfl
  refine va_calli (va_runS (As := [.int i2]) (rest := []) ⟨hx, hb, hml, hown, hts⟩ (c_M_needs l htr dC dI N i2 q3 h4 s.heap.size) (vq_cS WSk hts 1 rfl rfl ⟨by decide, by decide⟩ k_5 k_367 k_402 k_403 (by decide +kernel)) ⟨vq_blind, vq_here hst hS hN vq_P0 hKe vq_D0⟩ rfl rfl hl.1 rfl (lv_room (Nat.le_of_ble_eq_true rfl)) d_M_isUsed_15 ⟨by decide, by decide⟩) hS (fun q _ h => vq_keepA h (fun hz => hA q (Nat.le_trans hS.1 hz))) (fun q h => vq_keepA h (fun hz => hA q (Nat.le_trans hS.1 hz))) (fun r u t H1 locs ht hvm hw hB hz1 hk1 hS => ?_)
  have hw : r = q3 := hw
  rw [hw]
  have hP := vq_keepP hP hk1
  generalize H1 = H at hP hS ⊢
  refine W.widen (k := 0) (n := 0) (by decide) (by decide) ?_
  have J57 : ∀ (τ : vS) (H : Heap) (locs : List Loc) (ls : Array Slot), f_M_isUsed_57 N τ = some v → lv_has ls 5 [] → va_P (dC, dI) CL (Mw bd cb τ) H → va_D A (Mw bd cb τ) → va_S A s.heap H locs → W p l e (headSpec WS ({ frames := 1, cells := 0, slots := 0, locals := 20 })).room s m ([.ref (bd 0), .int a0, .int a1, .int a2] : List Value).toArray below meth c H locs 0 0 (MQ below (va_Qi (fun (r : Int32) (_ : Unit) => r = v.1) (fun _ t => vq_Post (dC, dI) CL A (Mw bd cb v.2) (Mt cb) t) A) ([.ref (bd 0), .int a0, .int a1, .int a2] : List Value).toArray s 0 0 A) (F0 m 57 ls []) := by
    intro τ H locs ls h hl hP hD hS
    unfold f_M_isUsed_57 at h
    refine lv_iconst (v := 1) hx hb d_M_isUsed_57 (by decide) ?_
    refine lv_goto (tgt := 62) hx hb d_M_isUsed_58 (by decide) ?_
    have h9 := Option.some.inj h
    rw [← h9]
    exact W.zret (v := 1) (ty := .boolean) hx hb hr (by decide) (fun t ht hW => ⟨⟨1, (), rfl, rfl, by rw [ht]; exact hP, va_K.moved hW.alike hK, hD⟩, hS.F ht⟩) hS.2.2 d_M_isUsed_62
  have J32 : ∀ (τ : vS) (x2 : Int32) (x4 : Int32) (H : Heap) (locs : List Loc) (ls : Array Slot), f_M_isUsed_32 N τ x2 x4 = some v → lv_has ls 5 [(0, .ref (bd 0)), (2, .int x2), (4, .int x4)] → va_P (dC, dI) CL (Mw bd cb τ) H → va_D A (Mw bd cb τ) → va_S A s.heap H locs → W p l e (headSpec WS ({ frames := 1, cells := 0, slots := 0, locals := 20 })).room s m ([.ref (bd 0), .int a0, .int a1, .int a2] : List Value).toArray below meth c H locs 0 0 (MQ below (va_Qi (fun (r : Int32) (_ : Unit) => r = v.1) (fun _ t => vq_Post (dC, dI) CL A (Mw bd cb v.2) (Mt cb) t) A) ([.ref (bd 0), .int a0, .int a1, .int a2] : List Value).toArray s 0 0 A) (F0 m 32 ls []) := by
    intro τ x2 x4 H locs ls h hl hP hD hS
    unfold f_M_isUsed_32 at h
    refine lv_aload_n hx hb d_M_isUsed_32 rfl (lv_at hl 0 rfl) ?_
    refine g_M_form dC dI bd cb τ hx hb hts hown hK hP k_399 d_M_isUsed_33 ?_
    refine lv_iload hx hb d_M_isUsed_36 (lv_at hl 2 rfl) ?_
    obtain ⟨hi5, h⟩ := vq_bd h
    refine al_M4 dC dI bd cb τ hx hb hts hown hK hP hi5 d_M_isUsed_38 ?_
    obtain ⟨i6, ei6, h⟩ := vq_let h
    refine vq_top ei6.symm ?_
    obtain ⟨q7, h8, h⟩ := vq_bi h
    have hKe := hK.sub (tys' := []) [] rfl
    refine va_calli (va_runS (As := [.int i6]) (rest := []) ⟨hx, hb, hml, hown, hts⟩ (c_M_needs l htr dC dI N i6 q7 h8 H.size) (vq_cS WSk hts 1 rfl rfl ⟨by decide, by decide⟩ k_5 k_367 k_402 k_403 (by decide +kernel)) ⟨vq_blind, vq_here hst hS hN vq_P0 hKe vq_D0⟩ rfl rfl hl.1 rfl (lv_room (Nat.le_of_ble_eq_true rfl)) d_M_isUsed_39 ⟨by decide, by decide⟩) hS (fun q _ h => vq_keepA h (fun hz => hA q (Nat.le_trans hS.1 hz))) (fun q h => vq_keepA h (fun hz => hA q (Nat.le_trans hS.1 hz))) (fun r u t H1 locs ht hvm hw hB hz1 hk1 hS => ?_)
    have hw : r = q7 := hw
    rw [hw]
    have hP := vq_keepP hP hk1
    generalize H1 = H at hP hS ⊢
    refine W.widen (k := 0) (n := 0) (by decide) (by decide) ?_
    refine lv_iconst (v := 1) hx hb d_M_isUsed_42 (by decide) ?_
    refine lv_icmp_le (tgt := 61) hx hb d_M_isUsed_43 (by decide) (fun hc9 => ?_) (fun hc9 => ?_)
    ·
      rw [if_pos hc9] at h
      refine lv_iconst (v := 0) hx hb d_M_isUsed_61 (by decide) ?_
      have h9 := Option.some.inj h
      rw [← h9]
      exact W.zret (v := 0) (ty := .boolean) hx hb hr (by decide) (fun t ht hW => ⟨⟨0, (), rfl, rfl, by rw [ht]; exact hP, va_K.moved hW.alike hK, hD⟩, hS.F ht⟩) hS.2.2 d_M_isUsed_62
    ·
      rw [if_neg hc9] at h
      refine lv_aload_n hx hb d_M_isUsed_46 rfl (lv_at hl 0 rfl) ?_
      refine g_M_ruleY dC dI bd cb τ hx hb hts hown hK hP k_401 d_M_isUsed_47 ?_
      refine lv_iload hx hb d_M_isUsed_50 (lv_at hl 2 rfl) ?_
      obtain ⟨hi10, h⟩ := vq_bd h
      refine al_M6 dC dI bd cb τ hx hb hts hown hK hP hi10 d_M_isUsed_52 ?_
      obtain ⟨i11, ei11, h⟩ := vq_let h
      refine vq_top ei11.symm ?_
      refine lv_iload_n hx hb d_M_isUsed_53 rfl (lv_at hl 1 rfl) ?_
      refine lv_icmp_ne (tgt := 61) hx hb d_M_isUsed_54 (by decide) (fun hc12 => ?_) (fun hc12 => ?_)
      ·
        rw [if_neg hc12] at h
        refine lv_iconst (v := 0) hx hb d_M_isUsed_61 (by decide) ?_
        have h9 := Option.some.inj h
        rw [← h9]
        exact W.zret (v := 0) (ty := .boolean) hx hb hr (by decide) (fun t ht hW => ⟨⟨0, (), rfl, rfl, by rw [ht]; exact hP, va_K.moved hW.alike hK, hD⟩, hS.F ht⟩) hS.2.2 d_M_isUsed_62
      ·
        rw [if_pos hc12] at h
        exact J57 _ _ _ _ h (lv_sub hl [] rfl) hP hD hS
  refine lv_if_le (tgt := 32) hx hb d_M_isUsed_18 (by decide) (fun hc13 => ?_) (fun hc13 => ?_)
  ·
    rw [if_pos hc13] at h
    exact J32 _ _ _ _ _ _ h (lv_sub hl [1, 3, 0] rfl) hP hD hS
  ·
    rw [if_neg hc13] at h
    refine lv_aload_n hx hb d_M_isUsed_21 rfl (lv_at hl 1 rfl) ?_
    refine g_M_ruleX dC dI bd cb σ hx hb hts hown hK hP k_400 d_M_isUsed_22 ?_
    refine lv_iload hx hb d_M_isUsed_25 (lv_at hl 0 rfl) ?_
    obtain ⟨hi14, h⟩ := vq_bd h
    refine al_M5 dC dI bd cb σ hx hb hts hown hK hP hi14 d_M_isUsed_27 ?_
    obtain ⟨i15, ei15, h⟩ := vq_let h
    refine vq_top ei15.symm ?_
    refine lv_iload_n hx hb d_M_isUsed_28 rfl (lv_at hl 3 rfl) ?_
    refine lv_icmp_eq (tgt := 57) hx hb d_M_isUsed_29 (by decide) (fun hc16 => ?_) (fun hc16 => ?_)
    ·
      rw [if_pos hc16] at h
      exact J57 _ _ _ _ h (lv_sub hl [] rfl) hP hD hS
    ·
      rw [if_neg hc16] at h
      exact J32 _ _ _ _ _ _ h (lv_sub hl [1, 3, 0] rfl) hP hD hS

set_option maxHeartbeats 4000000 in
set_option maxRecDepth 100000 in
theorem c_M_blame (l : Launch) (htr : l.stackTraces = false) (dC : Nat → ClassId) (dI : Nat → Nat → Nat) (bd : Nat → Nat) (cb : Nat → ClassId) (N : Nat) (σ : vS) (a0 : Int32) (a1 : Int32) (a2 : Int32) (v : Int32 × vS) (h : f_M_blame N σ a0 a1 a2 = some v) (sz : Nat) : Met l y_M_blame WS ({ frames := 0, cells := 0, slots := 0, locals := 0 }) (va_Pc [.ref (bd 0), .int a0, .int a1, .int a2] (vq_Pre (dC, dI) CL sz (Mw bd cb σ) (Mt cb))) (va_Qi (fun (r : Int32) (_ : Unit) => r = v.1) (fun _ t => vq_Post (dC, dI) CL (va_A (Mw bd cb σ) sz) (Mw bd cb v.2) (Mt cb) t) (va_A (Mw bd cb σ) sz)) 0 0 (va_A (Mw bd cb σ) sz) := by
  refine vq_ofW (cc := prog_10_method_16_code) (maxL := 4) (ret := (Option.some Jvm.ClassFile.FieldType.boolean)) pl_M (vq_his k_405) ?_
  intro p e s m args below meth c s₁ B hml hv
  obtain ⟨rfl, hst, hsz, hP, hK, hD0⟩ := hv
  have hx := B.exec
  have hb := B.bytes
  have hr := B.returns
  have hts := atoms_spec (ws := WS) B.pre
  have hown : s.vm.findClass R_M = some m.cls := findClass_of_methodNamed B.named
  have hlocks := B.notSynchronized
  have hno := vq_noH B (hts _ k_405)
  subst hsz
  have hN := vq_ns hP
  have hD := hD0.self (sz := s.heap.size)
  generalize hAe : va_A (Mw bd cb σ) s.heap.size = A at hD hN ⊢
  have hA : ∀ q : Nat, s.heap.size ≤ q → A q := fun q h => by rw [← hAe]; exact Or.inr h
  have hS : va_S A s.heap s.heap [] := va_S.rf
  have hl := lv_entry ([.ref (bd 0), .int a0, .int a1, .int a2]) (n := 4) (Nat.le_of_ble_eq_true rfl)
  rw [lg_entry_eq]
  generalize (lg_sl ([.ref (bd 0), .int a0, .int a1, .int a2]) ++ List.replicate (4 - (lg_sl ([.ref (bd 0), .int a0, .int a1, .int a2])).length) Slot.unset).toArray = ls at hl ⊢
  have hl : lv_has ls 4 [(0, .ref (bd 0)), (1, .int a0), (2, .int a1), (3, .int a2)] := hl
  unfold f_M_blame at h
  refine lv_aload_n hx hb d_M_blame_0 rfl (lv_at hl 0 rfl) ?_
  refine lv_iload_n hx hb d_M_blame_1 rfl (lv_at hl 1 rfl) ?_
  refine p_M_faultKind dC dI bd cb σ hx hb hts hown hK hP hD hS k_406 d_M_blame_2 (fun H locs hP hD hS => ?_)
  obtain ⟨σ1, eσ1, h⟩ := vq_let h
  rw [← eσ1] at hP hD
  refine lv_aload_n hx hb d_M_blame_5 rfl (lv_at hl 0 rfl) ?_
  refine lv_iload_n hx hb d_M_blame_6 rfl (lv_at hl 2 rfl) ?_
  refine p_M_faultProduction dC dI bd cb σ1 hx hb hts hown hK hP hD hS k_407 d_M_blame_7 (fun H locs hP hD hS => ?_)
  obtain ⟨σ2, eσ2, h⟩ := vq_let h
  rw [← eσ2] at hP hD
  refine lv_aload_n hx hb d_M_blame_10 rfl (lv_at hl 0 rfl) ?_
  refine lv_iload_n hx hb d_M_blame_11 rfl (lv_at hl 3 rfl) ?_
  refine p_M_faultOccurrence dC dI bd cb σ2 hx hb hts hown hK hP hD hS k_408 d_M_blame_12 (fun H locs hP hD hS => ?_)
  obtain ⟨σ3, eσ3, h⟩ := vq_let h
  rw [← eσ3] at hP hD
  refine lv_iconst (v := 1) hx hb d_M_blame_15 (by decide) ?_
  have h9 := Option.some.inj h
  rw [← h9]
  exact W.zret (v := 1) (ty := .boolean) hx hb hr (by decide) (fun t ht hW => ⟨⟨1, (), rfl, rfl, by rw [ht]; exact hP, va_K.moved hW.alike hK, hD⟩, hS.F ht⟩) hS.2.2 d_M_blame_16

set_option maxHeartbeats 4000000 in
set_option maxRecDepth 100000 in
theorem c_M_lacks (l : Launch) (htr : l.stackTraces = false) (dC : Nat → ClassId) (dI : Nat → Nat → Nat) (bd : Nat → Nat) (cb : Nat → ClassId) (N : Nat) (σ : vS) (v : Int32 × vS) (h : f_M_lacks N σ = some v) (sz : Nat) : Met l y_M_lacks WS ({ frames := 2, cells := 0, slots := 0, locals := 44 }) (va_Pc [.ref (bd 0)] (vq_Pre (dC, dI) CL sz (Mw bd cb σ) (Mt cb))) (va_Qi (fun (r : Int32) (_ : Unit) => r = v.1) (fun _ t => vq_Post (dC, dI) CL (va_A (Mw bd cb σ) sz) (Mw bd cb v.2) (Mt cb) t) (va_A (Mw bd cb σ) sz)) 0 0 (va_A (Mw bd cb σ) sz) := by
  refine vq_ofW (cc := prog_10_method_15_code) (maxL := 3) (ret := (Option.some Jvm.ClassFile.FieldType.boolean)) pl_M (vq_his k_409) ?_
  intro p e s m args below meth c s₁ B hml hv
  obtain ⟨rfl, hst, hsz, hP, hK, hD0⟩ := hv
  have hx := B.exec
  have hb := B.bytes
  have hr := B.returns
  have hts := atoms_spec (ws := WS) B.pre
  have hown : s.vm.findClass R_M = some m.cls := findClass_of_methodNamed B.named
  have hlocks := B.notSynchronized
  have hno := vq_noH B (hts _ k_409)
  subst hsz
  have hN := vq_ns hP
  have hD := hD0.self (sz := s.heap.size)
  generalize hAe : va_A (Mw bd cb σ) s.heap.size = A at hD hN ⊢
  have hA : ∀ q : Nat, s.heap.size ≤ q → A q := fun q h => by rw [← hAe]; exact Or.inr h
  have hS : va_S A s.heap s.heap [] := va_S.rf
  have hl := lv_entry ([.ref (bd 0)]) (n := 3) (Nat.le_of_ble_eq_true rfl)
  rw [lg_entry_eq]
  generalize (lg_sl ([.ref (bd 0)]) ++ List.replicate (3 - (lg_sl ([.ref (bd 0)])).length) Slot.unset).toArray = ls at hl ⊢
  have hl : lv_has ls 3 [(0, .ref (bd 0))] := hl
  unfold f_M_lacks at h
  refine lv_iconst (v := 0) hx hb d_M_lacks_0 (by decide) ?_
  refine lv_istore_n (lv' := [(1, .int 0), (0, .ref (bd 0))]) hx hb d_M_lacks_1 rfl hl (by decide) rfl (fun ls hl => ?_)
  have L2 : ∀ n2 : Nat, ∀ (τ : vS) (x1 : Int32) (H : Heap) (locs : List Loc) (ls : Array Slot), f_M_lacks_2 N n2 τ x1 = some v → lv_has ls 3 [(0, .ref (bd 0)), (1, .int x1)] → va_P (dC, dI) CL (Mw bd cb τ) H → va_D A (Mw bd cb τ) → va_S A s.heap H locs → W p l e (headSpec WS ({ frames := 2, cells := 0, slots := 0, locals := 44 })).room s m ([.ref (bd 0)] : List Value).toArray below meth c H locs 0 0 (MQ below (va_Qi (fun (r : Int32) (_ : Unit) => r = v.1) (fun _ t => vq_Post (dC, dI) CL A (Mw bd cb v.2) (Mt cb) t) A) ([.ref (bd 0)] : List Value).toArray s 0 0 A) (F0 m 2 ls []) := by
    intro n2
    induction n2 with
    | zero =>
      intro τ x1 H locs ls h hl hP hD hS
      rw [f_M_lacks_2] at h
      cases h
    | succ n2 ih2 =>
      intro τ x1 H locs ls h hl hP hD hS
      rw [f_M_lacks_2] at h
      dsimp only at h
      refine lv_iload_n hx hb d_M_lacks_2 rfl (lv_at hl 1 rfl) ?_
      refine lv_aload_n hx hb d_M_lacks_3 rfl (lv_at hl 0 rfl) ?_
      refine g_M_productions dC dI bd cb τ hx hb hts hown hK hP k_383 d_M_lacks_4 ?_
      refine lv_icmp_ge (tgt := 62) hx hb d_M_lacks_7 (by decide) (fun hc1 => ?_) (fun hc1 => ?_)
      ·
        rw [if_pos hc1] at h
        refine lv_iconst (v := 0) hx hb d_M_lacks_62 (by decide) ?_
        have h9 := Option.some.inj h
        rw [← h9]
        exact W.zret (v := 0) (ty := .boolean) hx hb hr (by decide) (fun t ht hW => ⟨⟨0, (), rfl, rfl, by rw [ht]; exact hP, va_K.moved hW.alike hK, hD⟩, hS.F ht⟩) hS.2.2 d_M_lacks_63
      ·
        rw [if_neg hc1] at h
        refine lv_iconst (v := 0) hx hb d_M_lacks_10 (by decide) ?_
        refine lv_istore_n (lv' := [(2, .int 0), (0, .ref (bd 0)), (1, .int x1)]) hx hb d_M_lacks_11 rfl hl (by decide) rfl (fun ls hl => ?_)
        have L12 : ∀ n12 : Nat, ∀ (τ : vS) (x1 : Int32) (x2 : Int32) (H : Heap) (locs : List Loc) (ls : Array Slot), f_M_lacks_12 N (f_M_lacks_2 N n2) n12 τ x1 x2 = some v → lv_has ls 3 [(0, .ref (bd 0)), (1, .int x1), (2, .int x2)] → va_P (dC, dI) CL (Mw bd cb τ) H → va_D A (Mw bd cb τ) → va_S A s.heap H locs → W p l e (headSpec WS ({ frames := 2, cells := 0, slots := 0, locals := 44 })).room s m ([.ref (bd 0)] : List Value).toArray below meth c H locs 0 0 (MQ below (va_Qi (fun (r : Int32) (_ : Unit) => r = v.1) (fun _ t => vq_Post (dC, dI) CL A (Mw bd cb v.2) (Mt cb) t) A) ([.ref (bd 0)] : List Value).toArray s 0 0 A) (F0 m 12 ls []) := by
          intro n12
          induction n12 with
          | zero =>
            intro τ x1 x2 H locs ls h hl hP hD hS
            rw [f_M_lacks_12] at h
            cases h
          | succ n12 ih12 =>
            intro τ x1 x2 H locs ls h hl hP hD hS
            rw [f_M_lacks_12] at h
            dsimp only at h
            refine lv_iload_n hx hb d_M_lacks_12 rfl (lv_at hl 2 rfl) ?_
            refine lv_bipush (v := 16) hx hb d_M_lacks_13 (by decide) ?_
            refine lv_icmp_ge (tgt := 56) hx hb d_M_lacks_15 (by decide) (fun hc2 => ?_) (fun hc2 => ?_)
            ·
              rw [if_pos hc2] at h
              refine lv_iinc (k := 1) (v := (x1 + 1)) (lv' := [(1, .int (x1 + 1)), (0, .ref (bd 0)), (2, .int x2)]) hx hb d_M_lacks_56 hl rfl rfl (by decide) rfl (fun ls hl => ?_)
              refine lv_goto (tgt := 2) hx hb d_M_lacks_59 (by decide) ?_
              exact ih2 _ _ _ _ _ h (lv_sub hl [1, 0] rfl) hP hD hS
            ·
              rw [if_neg hc2] at h
              refine lv_aload_n hx hb d_M_lacks_18 rfl (lv_at hl 0 rfl) ?_
              refine lv_iload_n hx hb d_M_lacks_19 rfl (lv_at hl 1 rfl) ?_
              refine lv_iload_n hx hb d_M_lacks_20 rfl (lv_at hl 2 rfl) ?_
              obtain ⟨q3, h4, h⟩ := vq_bi h
              have hFc := vq_freeAll hD hS hA
              refine va_calli (va_runV (As := [.int x1, .int x2]) (rest := []) ⟨hx, hb, hml, hown, hts⟩ (c_M_isDefined l htr dC dI bd cb N τ x1 x2 q3 h4 H.size) (vq_cV WSk hts 2 rfl rfl ⟨by decide, by decide⟩ k_388 k_367 k_396 k_397 k_398 (by decide +kernel)) ⟨vq_blind, va_recv hK hP (ci := 8) (q0 := 0) rfl rfl, vq_here hst hS hN hP hK hD⟩ rfl rfl hl.1 rfl (lv_room (Nat.le_of_ble_eq_true rfl)) d_M_lacks_21 ⟨by decide, by decide⟩) hS (fun q _ h => hFc q h) hFc (fun r u t H1 locs ht hvm hw hB hz1 hk1 hS => ?_)
              obtain ⟨hP, -, hD1⟩ := hB
              rw [ht] at hP
              have hD := hD1.weaken (fun _ _ _ h => hFc _ h)
              have hw : r = q3.1 := hw
              subst hw
              generalize H1 = H at hP hS ⊢
              refine W.widen (k := 0) (n := 0) (by decide) (by decide) ?_
              have J50 : ∀ (τ : vS) (x1 : Int32) (x2 : Int32) (H : Heap) (locs : List Loc) (ls : Array Slot), f_M_lacks_50 N (f_M_lacks_2 N n2) (f_M_lacks_12 N (f_M_lacks_2 N n2) n12) τ x1 x2 = some v → lv_has ls 3 [(0, .ref (bd 0)), (1, .int x1), (2, .int x2)] → va_P (dC, dI) CL (Mw bd cb τ) H → va_D A (Mw bd cb τ) → va_S A s.heap H locs → W p l e (headSpec WS ({ frames := 2, cells := 0, slots := 0, locals := 44 })).room s m ([.ref (bd 0)] : List Value).toArray below meth c H locs 0 0 (MQ below (va_Qi (fun (r : Int32) (_ : Unit) => r = v.1) (fun _ t => vq_Post (dC, dI) CL A (Mw bd cb v.2) (Mt cb) t) A) ([.ref (bd 0)] : List Value).toArray s 0 0 A) (F0 m 50 ls []) := by
                intro τ x1 x2 H locs ls h hl hP hD hS
                unfold f_M_lacks_50 at h
                refine lv_iinc (k := 2) (v := (x2 + 1)) (lv' := [(2, .int (x2 + 1)), (0, .ref (bd 0)), (1, .int x1)]) hx hb d_M_lacks_50 hl rfl rfl (by decide) rfl (fun ls hl => ?_)
                refine lv_goto (tgt := 12) hx hb d_M_lacks_53 (by decide) ?_
                exact ih12 _ _ _ _ _ _ h (lv_sub hl [1, 2, 0] rfl) hP hD hS
              refine lv_if_eq (tgt := 50) hx hb d_M_lacks_24 (by decide) (fun hc5 => ?_) (fun hc5 => ?_)
              ·
                rw [if_pos hc5] at h
                exact J50 _ _ _ _ _ _ h (lv_sub hl [0, 1, 2] rfl) hP hD hS
              ·
                rw [if_neg hc5] at h
                refine lv_aload_n hx hb d_M_lacks_27 rfl (lv_at hl 0 rfl) ?_
                refine g_M_form dC dI bd cb q3.2 hx hb hts hown hK hP k_399 d_M_lacks_28 ?_
                refine lv_bipush (v := 16) hx hb d_M_lacks_31 (by decide) ?_
                refine lv_iload_n hx hb d_M_lacks_33 rfl (lv_at hl 1 rfl) ?_
                refine lv_imul hx hb d_M_lacks_34 ?_
                refine lv_iload_n hx hb d_M_lacks_35 rfl (lv_at hl 2 rfl) ?_
                refine lv_iadd hx hb d_M_lacks_36 ?_
                obtain ⟨hi6, h⟩ := vq_bd h
                refine al_M4 dC dI bd cb q3.2 hx hb hts hown hK hP hi6 d_M_lacks_37 ?_
                obtain ⟨i7, ei7, h⟩ := vq_let h
                refine vq_top ei7.symm ?_
                refine lv_iconst (v := (-1)) hx hb d_M_lacks_38 (by decide) ?_
                refine lv_icmp_ne (tgt := 50) hx hb d_M_lacks_39 (by decide) (fun hc8 => ?_) (fun hc8 => ?_)
                ·
                  rw [if_neg hc8] at h
                  exact J50 _ _ _ _ _ _ h (lv_sub hl [0, 1, 2] rfl) hP hD hS
                ·
                  rw [if_pos hc8] at h
                  refine lv_aload_n hx hb d_M_lacks_42 rfl (lv_at hl 0 rfl) ?_
                  refine lv_iconst (v := 1) hx hb d_M_lacks_43 (by decide) ?_
                  refine lv_iload_n hx hb d_M_lacks_44 rfl (lv_at hl 1 rfl) ?_
                  refine lv_iload_n hx hb d_M_lacks_45 rfl (lv_at hl 2 rfl) ?_
                  obtain ⟨q9, h10, h⟩ := vq_bi h
                  have hFc := vq_freeAll hD hS hA
                  refine va_calli (va_runV (As := [.int 1, .int x1, .int x2]) (rest := []) ⟨hx, hb, hml, hown, hts⟩ (c_M_blame l htr dC dI bd cb N q3.2 1 x1 x2 q9 h10 H.size) (vq_cV WSk hts 3 rfl rfl ⟨by decide, by decide⟩ k_405 k_367 k_410 k_411 k_412 (by decide +kernel)) ⟨vq_blind, va_recv hK hP (ci := 8) (q0 := 0) rfl rfl, vq_here hst hS hN hP hK hD⟩ rfl rfl hl.1 rfl (lv_room (Nat.le_of_ble_eq_true rfl)) d_M_lacks_46 ⟨by decide, by decide⟩) hS (fun q _ h => hFc q h) hFc (fun r u t H1 locs ht hvm hw hB hz1 hk1 hS => ?_)
                  obtain ⟨hP, -, hD1⟩ := hB
                  rw [ht] at hP
                  have hD := hD1.weaken (fun _ _ _ h => hFc _ h)
                  have hw : r = q9.1 := hw
                  subst hw
                  generalize H1 = H at hP hS ⊢
                  refine W.widen (k := 0) (n := 0) (by decide) (by decide) ?_
                  have h9 := Option.some.inj h
                  rw [← h9]
                  exact vq_zret hx hb hr (fun t ht hW => ⟨⟨_, (), rfl, rfl, by rw [ht]; exact hP, va_K.moved hW.alike hK, hD⟩, hS.F ht⟩) hS.2.2 d_M_lacks_49
        exact L12 N _ _ _ _ _ _ h (lv_sub hl [1, 2, 0] rfl) hP hD hS
  exact L2 N _ _ _ _ _ h (lv_sub hl [1, 0] rfl) hP hD hS

set_option maxHeartbeats 4000000 in
set_option maxRecDepth 100000 in
theorem c_M_begin (l : Launch) (htr : l.stackTraces = false) (dC : Nat → ClassId) (dI : Nat → Nat → Nat) (bd : Nat → Nat) (cb : Nat → ClassId) (N : Nat) (σ : vS) (v : Int32 × vS) (h : f_M_begin N σ = some v) (sz : Nat) : Met l y_M_begin WS ({ frames := 2, cells := 0, slots := 0, locals := 44 }) (va_Pc [.ref (bd 0)] (vq_Pre (dC, dI) CL sz (Mw bd cb σ) (Mt cb))) (va_Qv (fun _ : Unit => True) (fun _ t => vq_Post (dC, dI) CL (va_A (Mw bd cb σ) sz) (Mw bd cb v.2) (Mt cb) t) (va_A (Mw bd cb σ) sz)) 0 0 (va_A (Mw bd cb σ) sz) := by
  refine vq_ofW (cc := prog_10_method_17_code) (maxL := 5) (ret := (Option.none : Option Jvm.ClassFile.FieldType)) pl_M (vq_his k_413) ?_
  intro p e s m args below meth c s₁ B hml hv
  obtain ⟨rfl, hst, hsz, hP, hK, hD0⟩ := hv
  have hx := B.exec
  have hb := B.bytes
  have hr := B.returns
  have hts := atoms_spec (ws := WS) B.pre
  have hown : s.vm.findClass R_M = some m.cls := findClass_of_methodNamed B.named
  have hlocks := B.notSynchronized
  have hno := vq_noH B (hts _ k_413)
  subst hsz
  have hN := vq_ns hP
  have hD := hD0.self (sz := s.heap.size)
  generalize hAe : va_A (Mw bd cb σ) s.heap.size = A at hD hN ⊢
  have hA : ∀ q : Nat, s.heap.size ≤ q → A q := fun q h => by rw [← hAe]; exact Or.inr h
  have hS : va_S A s.heap s.heap [] := va_S.rf
  have hl := lv_entry ([.ref (bd 0)]) (n := 5) (Nat.le_of_ble_eq_true rfl)
  rw [lg_entry_eq]
  generalize (lg_sl ([.ref (bd 0)]) ++ List.replicate (5 - (lg_sl ([.ref (bd 0)])).length) Slot.unset).toArray = ls at hl ⊢
  have hl : lv_has ls 5 [(0, .ref (bd 0))] := hl
  unfold f_M_begin at h
  refine lv_iconst (v := 0) hx hb d_M_begin_0 (by decide) ?_
  refine lv_istore_n (lv' := [(1, .int 0), (0, .ref (bd 0))]) hx hb d_M_begin_1 rfl hl (by decide) rfl (fun ls hl => ?_)
  have L2 : ∀ n2 : Nat, ∀ (τ : vS) (x1 : Int32) (H : Heap) (locs : List Loc) (ls : Array Slot), f_M_begin_2 N n2 τ x1 = some v → lv_has ls 5 [(0, .ref (bd 0)), (1, .int x1)] → va_P (dC, dI) CL (Mw bd cb τ) H → va_D A (Mw bd cb τ) → va_S A s.heap H locs → W p l e (headSpec WS ({ frames := 2, cells := 0, slots := 0, locals := 44 })).room s m ([.ref (bd 0)] : List Value).toArray below meth c H locs 0 0 (MQ below (va_Qv (fun _ : Unit => True) (fun _ t => vq_Post (dC, dI) CL A (Mw bd cb v.2) (Mt cb) t) A) ([.ref (bd 0)] : List Value).toArray s 0 0 A) (F0 m 2 ls []) := by
    intro n2
    induction n2 with
    | zero =>
      intro τ x1 H locs ls h hl hP hD hS
      rw [f_M_begin_2] at h
      cases h
    | succ n2 ih2 =>
      intro τ x1 H locs ls h hl hP hD hS
      rw [f_M_begin_2] at h
      dsimp only at h
      refine lv_iload_n hx hb d_M_begin_2 rfl (lv_at hl 1 rfl) ?_
      refine lv_bipush (v := 96) hx hb d_M_begin_3 (by decide) ?_
      refine lv_icmp_ge (tgt := 21) hx hb d_M_begin_5 (by decide) (fun hc1 => ?_) (fun hc1 => ?_)
      ·
        rw [if_pos hc1] at h
        refine lv_iconst (v := 0) hx hb d_M_begin_21 (by decide) ?_
        refine lv_istore_n (lv' := [(1, .int 0), (0, .ref (bd 0))]) hx hb d_M_begin_22 rfl hl (by decide) rfl (fun ls hl => ?_)
        have L23 : ∀ n23 : Nat, ∀ (τ : vS) (x1 : Int32) (H : Heap) (locs : List Loc) (ls : Array Slot), f_M_begin_23 N n23 τ x1 = some v → lv_has ls 5 [(0, .ref (bd 0)), (1, .int x1)] → va_P (dC, dI) CL (Mw bd cb τ) H → va_D A (Mw bd cb τ) → va_S A s.heap H locs → W p l e (headSpec WS ({ frames := 2, cells := 0, slots := 0, locals := 44 })).room s m ([.ref (bd 0)] : List Value).toArray below meth c H locs 0 0 (MQ below (va_Qv (fun _ : Unit => True) (fun _ t => vq_Post (dC, dI) CL A (Mw bd cb v.2) (Mt cb) t) A) ([.ref (bd 0)] : List Value).toArray s 0 0 A) (F0 m 23 ls []) := by
          intro n23
          induction n23 with
          | zero =>
            intro τ x1 H locs ls h hl hP hD hS
            rw [f_M_begin_23] at h
            cases h
          | succ n23 ih23 =>
            intro τ x1 H locs ls h hl hP hD hS
            rw [f_M_begin_23] at h
            dsimp only at h
            refine lv_iload_n hx hb d_M_begin_23 rfl (lv_at hl 1 rfl) ?_
            refine lv_sipush (v := 256) hx hb d_M_begin_24 (by decide) ?_
            refine lv_aload_n hx hb d_M_begin_27 rfl (lv_at hl 0 rfl) ?_
            refine g_M_productions dC dI bd cb τ hx hb hts hown hK hP k_383 d_M_begin_28 ?_
            refine lv_imul hx hb d_M_begin_31 ?_
            refine lv_icmp_ge (tgt := 105) hx hb d_M_begin_32 (by decide) (fun hc2 => ?_) (fun hc2 => ?_)
            ·
              rw [if_pos hc2] at h
              have h9 := Option.some.inj h
              rw [← h9]
              exact W.vret hx hb hr (fun t ht hW => ⟨⟨(), rfl, trivial, by rw [ht]; exact hP, va_K.moved hW.alike hK, hD⟩, hS.F ht⟩) hS.2.2 d_M_begin_105
            ·
              rw [if_neg hc2] at h
              refine lv_iload_n hx hb d_M_begin_35 rfl (lv_at hl 1 rfl) ?_
              refine lv_sipush (v := 256) hx hb d_M_begin_36 (by decide) ?_
              refine lv_idiv hx hb d_M_begin_39 (by decide) ?_
              refine lv_istore_n (lv' := [(2, .int (x1 / 256)), (0, .ref (bd 0)), (1, .int x1)]) hx hb d_M_begin_40 rfl hl (by decide) rfl (fun ls hl => ?_)
              refine lv_iload_n hx hb d_M_begin_41 rfl (lv_at hl 2 rfl) ?_
              refine lv_bipush (v := 16) hx hb d_M_begin_42 (by decide) ?_
              refine lv_idiv hx hb d_M_begin_44 (by decide) ?_
              refine lv_bipush (v := 16) hx hb d_M_begin_45 (by decide) ?_
              refine lv_irem hx hb d_M_begin_47 (by decide) ?_
              obtain ⟨i3, ei3, h⟩ := vq_let h
              refine vq_top ei3.symm ?_
              refine lv_istore_n (lv' := [(3, .int i3), (2, .int (x1 / 256)), (0, .ref (bd 0)), (1, .int x1)]) hx hb d_M_begin_48 rfl hl (by decide) rfl (fun ls hl => ?_)
              refine lv_iload_n hx hb d_M_begin_49 rfl (lv_at hl 3 rfl) ?_
              refine lv_bipush (v := 16) hx hb d_M_begin_50 (by decide) ?_
              refine lv_irem hx hb d_M_begin_52 (by decide) ?_
              refine lv_istore (lv' := [(4, .int (x1 - x1 / 16 * 16)), (3, .int i3), (2, .int (x1 / 256)), (0, .ref (bd 0)), (1, .int x1)]) hx hb d_M_begin_53 hl (by decide) rfl (fun ls hl => ?_)
              refine lv_aload_n hx hb d_M_begin_55 rfl (lv_at hl 3 rfl) ?_
              refine g_M_uses dC dI bd cb τ hx hb hts hown hK hP k_414 d_M_begin_56 ?_
              refine lv_iload_n hx hb d_M_begin_59 rfl (lv_at hl 4 rfl) ?_
              refine lv_aload_n hx hb d_M_begin_60 rfl (lv_at hl 3 rfl) ?_
              refine lv_iload_n hx hb d_M_begin_61 rfl (lv_at hl 2 rfl) ?_
              refine lv_iload hx hb d_M_begin_62 (lv_at hl 0 rfl) ?_
              obtain ⟨q4, h5, h⟩ := vq_bi h
              have hFc := vq_freeAll hD hS hA
              refine va_calli (va_runV (As := [.int (x1 / 256), .int (x1 - x1 / 16 * 16)]) (rest := [.int x1, .ref (bd 8)]) ⟨hx, hb, hml, hown, hts⟩ (c_M_isDefined l htr dC dI bd cb N τ (x1 / 256) (x1 - x1 / 16 * 16) q4 h5 H.size) (vq_cV WSk hts 2 rfl rfl ⟨by decide, by decide⟩ k_388 k_367 k_396 k_397 k_398 (by decide +kernel)) ⟨vq_blind, va_recv hK hP (ci := 8) (q0 := 0) rfl rfl, vq_here hst hS hN hP hK hD⟩ rfl rfl hl.1 rfl (lv_room (Nat.le_of_ble_eq_true rfl)) d_M_begin_64 ⟨by decide, by decide⟩) hS (fun q _ h => hFc q h) hFc (fun r u t H1 locs ht hvm hw hB hz1 hk1 hS => ?_)
              obtain ⟨hP, -, hD1⟩ := hB
              rw [ht] at hP
              have hD := hD1.weaken (fun _ _ _ h => hFc _ h)
              have hw : r = q4.1 := hw
              subst hw
              generalize H1 = H at hP hS ⊢
              refine W.widen (k := 0) (n := 0) (by decide) (by decide) ?_
              have J86 : ∀ (τ : vS) (x1 : Int32) (y0 : Int32) (y1 : Int32) (H : Heap) (locs : List Loc) (ls : Array Slot), f_M_begin_86 N (f_M_begin_23 N n23) τ x1 y0 y1 = some v → lv_has ls 5 [(0, .ref (bd 0)), (1, .int x1)] → va_P (dC, dI) CL (Mw bd cb τ) H → va_D A (Mw bd cb τ) → va_S A s.heap H locs → W p l e (headSpec WS ({ frames := 2, cells := 0, slots := 0, locals := 44 })).room s m ([.ref (bd 0)] : List Value).toArray below meth c H locs 0 0 (MQ below (va_Qv (fun _ : Unit => True) (fun _ t => vq_Post (dC, dI) CL A (Mw bd cb v.2) (Mt cb) t) A) ([.ref (bd 0)] : List Value).toArray s 0 0 A) (F0 m 86 ls [.int y0, .int y1, .ref (bd 8)]) := by
                intro τ x1 y0 y1 H locs ls h hl hP hD hS
                unfold f_M_begin_86 at h
                obtain ⟨hi6, h⟩ := vq_bd h
                refine as_M7 dC dI bd cb τ hx hb hts hown hK hP hD hS hi6 d_M_begin_86 (fun H locs hP hD hS => ?_)
                obtain ⟨σ7, eσ7, h⟩ := vq_let h
                rw [← eσ7] at hP hD
                refine lv_aload_n hx hb d_M_begin_87 rfl (lv_at hl 0 rfl) ?_
                refine g_M_leads dC dI bd cb σ7 hx hb hts hown hK hP k_415 d_M_begin_88 ?_
                refine lv_iload_n hx hb d_M_begin_91 rfl (lv_at hl 1 rfl) ?_
                refine lv_aload_n hx hb d_M_begin_92 rfl (lv_at hl 0 rfl) ?_
                refine g_M_uses dC dI bd cb σ7 hx hb hts hown hK hP k_414 d_M_begin_93 ?_
                refine lv_iload_n hx hb d_M_begin_96 rfl (lv_at hl 1 rfl) ?_
                obtain ⟨hi8, h⟩ := vq_bd h
                refine al_M7 dC dI bd cb σ7 hx hb hts hown hK hP hi8 d_M_begin_97 ?_
                obtain ⟨i9, ei9, h⟩ := vq_let h
                refine vq_top ei9.symm ?_
                obtain ⟨hi10, h⟩ := vq_bd h
                refine as_M8 dC dI bd cb σ7 hx hb hts hown hK hP hD hS hi10 d_M_begin_98 (fun H locs hP hD hS => ?_)
                obtain ⟨σ11, eσ11, h⟩ := vq_let h
                rw [← eσ11] at hP hD
                refine lv_iinc (k := 1) (v := (x1 + 1)) (lv' := [(1, .int (x1 + 1)), (0, .ref (bd 0))]) hx hb d_M_begin_99 hl rfl rfl (by decide) rfl (fun ls hl => ?_)
                refine lv_goto (tgt := 23) hx hb d_M_begin_102 (by decide) ?_
                exact ih23 _ _ _ _ _ h (lv_sub hl [1, 0] rfl) hP hD hS
              have J85 : ∀ (τ : vS) (x1 : Int32) (y0 : Int32) (H : Heap) (locs : List Loc) (ls : Array Slot), f_M_begin_85 N (f_M_begin_23 N n23) τ x1 y0 = some v → lv_has ls 5 [(0, .ref (bd 0)), (1, .int x1)] → va_P (dC, dI) CL (Mw bd cb τ) H → va_D A (Mw bd cb τ) → va_S A s.heap H locs → W p l e (headSpec WS ({ frames := 2, cells := 0, slots := 0, locals := 44 })).room s m ([.ref (bd 0)] : List Value).toArray below meth c H locs 0 0 (MQ below (va_Qv (fun _ : Unit => True) (fun _ t => vq_Post (dC, dI) CL A (Mw bd cb v.2) (Mt cb) t) A) ([.ref (bd 0)] : List Value).toArray s 0 0 A) (F0 m 85 ls [.int y0, .ref (bd 8)]) := by
                intro τ x1 y0 H locs ls h hl hP hD hS
                unfold f_M_begin_85 at h
                refine lv_iconst (v := 0) hx hb d_M_begin_85 (by decide) ?_
                exact J86 _ _ _ _ _ _ _ h (lv_sub hl [0, 1] rfl) hP hD hS
              refine lv_if_eq (tgt := 85) hx hb d_M_begin_67 (by decide) (fun hc12 => ?_) (fun hc12 => ?_)
              ·
                rw [if_pos hc12] at h
                exact J85 _ _ _ _ _ _ h (lv_sub hl [3, 4] rfl) hP hD hS
              ·
                rw [if_neg hc12] at h
                refine lv_aload_n hx hb d_M_begin_70 rfl (lv_at hl 3 rfl) ?_
                refine lv_iload_n hx hb d_M_begin_71 rfl (lv_at hl 2 rfl) ?_
                refine lv_iload_n hx hb d_M_begin_72 rfl (lv_at hl 1 rfl) ?_
                refine lv_iload hx hb d_M_begin_73 (lv_at hl 0 rfl) ?_
                obtain ⟨q13, h14, h⟩ := vq_bi h
                have hFc := vq_freeAll hD hS hA
                refine va_calli (va_runV (As := [.int (x1 / 256), .int i3, .int (x1 - x1 / 16 * 16)]) (rest := [.int x1, .ref (bd 8)]) ⟨hx, hb, hml, hown, hts⟩ (c_M_isUsed l htr dC dI bd cb N q4.2 (x1 / 256) i3 (x1 - x1 / 16 * 16) q13 h14 H.size) (vq_cV WSk hts 3 rfl rfl ⟨by decide, by decide⟩ k_404 k_367 k_416 k_417 k_418 (by decide +kernel)) ⟨vq_blind, va_recv hK hP (ci := 8) (q0 := 0) rfl rfl, vq_here hst hS hN hP hK hD⟩ rfl rfl hl.1 rfl (lv_room (Nat.le_of_ble_eq_true rfl)) d_M_begin_75 ⟨by decide, by decide⟩) hS (fun q _ h => hFc q h) hFc (fun r u t H1 locs ht hvm hw hB hz1 hk1 hS => ?_)
                obtain ⟨hP, -, hD1⟩ := hB
                rw [ht] at hP
                have hD := hD1.weaken (fun _ _ _ h => hFc _ h)
                have hw : r = q13.1 := hw
                subst hw
                generalize H1 = H at hP hS ⊢
                refine W.widen (k := 0) (n := 0) (by decide) (by decide) ?_
                refine lv_if_eq (tgt := 85) hx hb d_M_begin_78 (by decide) (fun hc15 => ?_) (fun hc15 => ?_)
                ·
                  rw [if_pos hc15] at h
                  exact J85 _ _ _ _ _ _ h (lv_sub hl [3, 4] rfl) hP hD hS
                ·
                  rw [if_neg hc15] at h
                  refine lv_iconst (v := 1) hx hb d_M_begin_81 (by decide) ?_
                  refine lv_goto (tgt := 86) hx hb d_M_begin_82 (by decide) ?_
                  exact J86 _ _ _ _ _ _ _ h (lv_sub hl [3, 4] rfl) hP hD hS
        exact L23 N _ _ _ _ _ h (lv_sub hl [1, 0] rfl) hP hD hS
      ·
        rw [if_neg hc1] at h
        refine lv_aload_n hx hb d_M_begin_8 rfl (lv_at hl 0 rfl) ?_
        refine g_M_symbolLeads dC dI bd cb τ hx hb hts hown hK hP k_419 d_M_begin_9 ?_
        refine lv_iload_n hx hb d_M_begin_12 rfl (lv_at hl 1 rfl) ?_
        refine lv_iconst (v := 0) hx hb d_M_begin_13 (by decide) ?_
        obtain ⟨hi16, h⟩ := vq_bd h
        refine as_M9 dC dI bd cb τ hx hb hts hown hK hP hD hS hi16 d_M_begin_14 (fun H locs hP hD hS => ?_)
        obtain ⟨σ17, eσ17, h⟩ := vq_let h
        rw [← eσ17] at hP hD
        refine lv_iinc (k := 1) (v := (x1 + 1)) (lv' := [(1, .int (x1 + 1)), (0, .ref (bd 0))]) hx hb d_M_begin_15 hl rfl rfl (by decide) rfl (fun ls hl => ?_)
        refine lv_goto (tgt := 2) hx hb d_M_begin_18 (by decide) ?_
        exact ih2 _ _ _ _ _ h (lv_sub hl [1, 0] rfl) hP hD hS
  exact L2 N _ _ _ _ _ h (lv_sub hl [1, 0] rfl) hP hD hS
