set_option maxHeartbeats 4000000 in
set_option maxRecDepth 100000 in
theorem w_symbol_0 (l : Launch) (htr : l.stackTraces = false) (dC : Nat → ClassId) (dI : Nat → Nat → Nat) (ad : Nat → Nat) (ca : Nat → ClassId) (o : Nat) (co : ClassId) (fo : Nat → Int64) (N : Nat) (σ : vS) (a0 : Int32) (a1 : Int32) (v : Int32 × vS) (h : f_V_symbol N σ a0 a1 = some ((0, v.1), v.2)) (sz : Nat) : Met l y_L_symbol WS ({ frames := 7, cells := 0, slots := 0, locals := 104 }) (va_Pc [.ref (ad 0), .int a0, .int a1, .ref o] (vq_PreN (dC, dI) CL sz (xo ad ca o co σ fo) (xot ca co))) (va_Qi (fun (r : Int32) (_ : Unit) => r = 0) (fun _ t => vq_Post (dC, dI) CL (va_A (xo ad ca o co σ fo) sz) (xo ad ca o co v.2 (vp_updL fo (0 : Int32).toNatClampNeg v.1.toInt64)) (xot ca co) t) (va_A (xo ad ca o co σ fo) sz)) 0 0 (va_A (xo ad ca o co σ fo) sz) := by
  refine vq_ofW (cc := method_3_code) (maxL := 5) (ret := (Option.some Jvm.ClassFile.FieldType.int)) pl_L (vq_hisH k_666) ?_
  intro p e s m args below meth c s₁ B hml hv
  obtain ⟨rfl, hnc, hst, hsz, hP, hK, hD0⟩ := hv
  have hx := B.exec
  have hb := B.bytes
  have hr := B.returns
  have hts := atoms_spec (ws := WS) B.pre
  have hown : s.vm.findClass R_L = some m.cls := findClass_of_methodNamed B.named
  have hlocks := B.notSynchronized
  have htab := vq_hasH B (hts _ k_666)
  subst hsz
  have hN := vq_ns hP
  have hD := hD0.self (sz := s.heap.size)
  generalize hAe : va_A (xo ad ca o co σ fo) s.heap.size = A at hD hN ⊢
  have hA : ∀ q : Nat, s.heap.size ≤ q → A q := fun q h => by rw [← hAe]; exact Or.inr h
  have hS : va_S A s.heap s.heap [] := va_S.rf
  have hl := lv_entry ([.ref (ad 0), .int a0, .int a1, .ref o]) (n := 5) (Nat.le_of_ble_eq_true rfl)
  rw [lg_entry_eq]
  generalize (lg_sl ([.ref (ad 0), .int a0, .int a1, .ref o]) ++ List.replicate (5 - (lg_sl ([.ref (ad 0), .int a0, .int a1, .ref o])).length) Slot.unset).toArray = ls at hl ⊢
  have hl : lv_has ls 5 [(0, .ref (ad 0)), (1, .int a0), (2, .int a1), (3, .ref o)] := hl
  refine lv_aload_n hx hb d_L_symbol_0 rfl (lv_at hl 3 rfl) ?_
  refine lv_iconst (v := 0) hx hb d_L_symbol_1 (by decide) ?_
  refine lv_aload_n hx hb d_L_symbol_2 rfl (lv_at hl 0 rfl) ?_
  refine lv_iload_n hx hb d_L_symbol_3 rfl (lv_at hl 1 rfl) ?_
  refine lv_iload_n hx hb d_L_symbol_4 rfl (lv_at hl 2 rfl) ?_
  obtain ⟨hPc, hDc⟩ := ws_sp hP hD
  have hKc := ws_kt hK
  have hFc := ws_fe hD hS hA
  refine va_calli (va_runV (As := [.int a0, .int a1]) (rest := [.int 0, .ref o]) ⟨hx, hb, hml, hown, hts⟩ (c_V_symbol l htr dC dI ad ca N σ a0 a1 v h s.heap.size) (vq_cV WSk hts 2 rfl rfl ⟨by decide, by decide⟩ k_554 k_22 k_667 k_668 k_669 (by decide +kernel)) ⟨vq_blind, va_recv hKc hPc (ci := 0) (q0 := 0) rfl rfl, vq_here hst hS hN hPc hKc hDc⟩ rfl rfl hl.1 rfl (lv_room (Nat.le_of_ble_eq_true rfl)) d_L_symbol_5 ⟨by decide, by decide⟩) hS (fun q _ h => hFc q h) hFc (fun r u t H1 locs ht hvm hw hB hz1 hk1 hS => ?_)
  have hw : r = v.1 := hw
  subst hw
  obtain ⟨hP1, -, hD1⟩ := hB
  rw [ht] at hP1
  obtain ⟨hP, hD⟩ := ws_jn hP hD hk1 hFc hP1 hD1
  generalize H1 = H at hP hS ⊢
  have hP : va_P (dC, dI) CL ([(o, .inl (co, 1, .inr (.inl fo)))] ++ Xw ad ca v.2) H := hP
  refine W.widen (k := 0) (n := 0) (by decide) (by decide) ?_
  refine lv_i2l hx hb d_L_symbol_8 rfl ?_
  refine va_last (n := 1) (f := fo) hx hb hK hP hD hS 0 27 rfl rfl (show ¬ ((0 : Int32) < 0 ∨ 1 ≤ Int32.toNatClampNeg 0) by decide) d_L_symbol_9 (fun H locs hP hD hS => ?_)
  refine lv_goto (tgt := 21) hx hb d_L_symbol_10 (by decide) ?_
  refine lv_iconst (v := 0) hx hb d_L_symbol_21 (by decide) ?_
  obtain ⟨hP9, hD9⟩ := ws_pm (σ := v.2) (fo := (vp_updL fo (0 : Int32).toNatClampNeg v.1.toInt64)) hP hD
  exact W.iret (v := 0) hx hb hr (fun t ht hW => ⟨⟨0, (), rfl, rfl, by rw [ht]; exact hP9, va_K.moved hW.alike hK, hD9⟩, hS.F ht⟩) hS.2.2 d_L_symbol_22

set_option maxHeartbeats 4000000 in
set_option maxRecDepth 100000 in
theorem w_symbol_1 (l : Launch) (htr : l.stackTraces = false) (dC : Nat → ClassId) (dI : Nat → Nat → Nat) (ad : Nat → Nat) (ca : Nat → ClassId) (o : Nat) (co : ClassId) (fo : Nat → Int64) (N : Nat) (σ : vS) (a0 : Int32) (a1 : Int32) (v : Int32 × vS) (h : f_V_symbol N σ a0 a1 = some ((1, v.1), v.2)) (sz : Nat) : Met l y_L_symbol WS ({ frames := 7, cells := 1, slots := 6, locals := 104 }) (va_Pc [.ref (ad 0), .int a0, .int a1, .ref o] (vq_PreN (dC, dI) CL sz (xo ad ca o co σ fo) (xot ca co))) (va_Qi (fun (r : Int32) (_ : Unit) => r = 1) (fun _ t => vq_Post (dC, dI) CL (va_A (xo ad ca o co σ fo) sz) (xo ad ca o co v.2 fo) (xot ca co) t) (va_A (xo ad ca o co σ fo) sz)) 1 6 (va_A (xo ad ca o co σ fo) sz) := by
  refine vq_ofW (cc := method_3_code) (maxL := 5) (ret := (Option.some Jvm.ClassFile.FieldType.int)) pl_L (vq_hisH k_666) ?_
  intro p e s m args below meth c s₁ B hml hv
  obtain ⟨rfl, hnc, hst, hsz, hP, hK, hD0⟩ := hv
  have hx := B.exec
  have hb := B.bytes
  have hr := B.returns
  have hts := atoms_spec (ws := WS) B.pre
  have hown : s.vm.findClass R_L = some m.cls := findClass_of_methodNamed B.named
  have hlocks := B.notSynchronized
  have htab := vq_hasH B (hts _ k_666)
  subst hsz
  have hN := vq_ns hP
  have hD := hD0.self (sz := s.heap.size)
  generalize hAe : va_A (xo ad ca o co σ fo) s.heap.size = A at hD hN ⊢
  have hA : ∀ q : Nat, s.heap.size ≤ q → A q := fun q h => by rw [← hAe]; exact Or.inr h
  have hS : va_S A s.heap s.heap [] := va_S.rf
  have hl := lv_entry ([.ref (ad 0), .int a0, .int a1, .ref o]) (n := 5) (Nat.le_of_ble_eq_true rfl)
  rw [lg_entry_eq]
  generalize (lg_sl ([.ref (ad 0), .int a0, .int a1, .ref o]) ++ List.replicate (5 - (lg_sl ([.ref (ad 0), .int a0, .int a1, .ref o])).length) Slot.unset).toArray = ls at hl ⊢
  have hl : lv_has ls 5 [(0, .ref (ad 0)), (1, .int a0), (2, .int a1), (3, .ref o)] := hl
  refine lv_aload_n hx hb d_L_symbol_0 rfl (lv_at hl 3 rfl) ?_
  refine lv_iconst (v := 0) hx hb d_L_symbol_1 (by decide) ?_
  refine lv_aload_n hx hb d_L_symbol_2 rfl (lv_at hl 0 rfl) ?_
  refine lv_iload_n hx hb d_L_symbol_3 rfl (lv_at hl 1 rfl) ?_
  refine lv_iload_n hx hb d_L_symbol_4 rfl (lv_at hl 2 rfl) ?_
  obtain ⟨hPc, hDc⟩ := ws_sp hP hD
  have hKc := ws_kt hK
  have hFc := ws_fe hD hS hA
  refine vq_catch2 (E := "java/lang/IllegalArgumentException") (name := "java/lang/IllegalArgumentException") (vq_runT2 (As := [.int a0, .int a1]) (rest := [.int 0, .ref o]) ⟨hx, hb, hml, hown, hts⟩ (t_V_symbol_1 l htr dC dI ad ca N σ a0 a1 v h s.heap.size) (vq_cV WSk hts 2 rfl rfl ⟨by decide, by decide⟩ k_554 k_22 k_667 k_668 k_669 (by decide +kernel)) ⟨vq_blind, va_recv hKc hPc (ci := 0) (q0 := 0) rfl rfl, vq_here hst hS hN hPc hKc hDc⟩ rfl rfl hl.1 rfl (lv_room (Nat.le_of_ble_eq_true rfl)) d_L_symbol_5 ⟨by decide, by decide⟩) hS hFc hown [] ⟨0, 10, 13, 13⟩ [⟨0, 10, 17, 15⟩] htab (by intro z hz; cases hz) (by decide) (by decide) (hts _ k_670) (hts _ k_671) (fun q9 t H1 locs ht hvm hB hz1 hk1 hS => ?_)
  obtain ⟨hP1, -, hD1⟩ := hB
  rw [ht] at hP1
  obtain ⟨hP, hD⟩ := ws_jn hP hD hk1 hFc hP1 hD1
  generalize H1 = H at hP hS ⊢
  have hP : va_P (dC, dI) CL ([(o, .inl (co, 1, .inr (.inl fo)))] ++ Xw ad ca v.2) H := hP
  refine W.widen (k := 1) (n := 6) (by decide) (by decide) ?_
  refine W.eq (g2 := F0 m 13 ls [.ref q9]) rfl ?_
  refine lv_astore (lv' := [(4, .ref q9), (0, .ref (ad 0)), (1, .int a0), (2, .int a1), (3, .ref o)]) hx hb d_L_symbol_13 hl (by decide) rfl (fun ls hl => ?_)
  refine lv_iconst (v := 1) hx hb d_L_symbol_15 (by decide) ?_
  obtain ⟨hP9, hD9⟩ := ws_pm (σ := v.2) (fo := fo) hP hD
  exact W.iret (v := 1) hx hb hr (fun t ht hW => ⟨⟨1, (), rfl, rfl, by rw [ht]; exact hP9, va_K.moved hW.alike hK, hD9⟩, hS.F ht⟩) hS.2.2 d_L_symbol_16

set_option maxHeartbeats 4000000 in
set_option maxRecDepth 100000 in
theorem w_symbol_2 (l : Launch) (htr : l.stackTraces = false) (dC : Nat → ClassId) (dI : Nat → Nat → Nat) (ad : Nat → Nat) (ca : Nat → ClassId) (o : Nat) (co : ClassId) (fo : Nat → Int64) (N : Nat) (σ : vS) (a0 : Int32) (a1 : Int32) (v : Int32 × vS) (h : f_V_symbol N σ a0 a1 = some ((2, v.1), v.2)) (sz : Nat) : Met l y_L_symbol WS ({ frames := 7, cells := 1, slots := 6, locals := 104 }) (va_Pc [.ref (ad 0), .int a0, .int a1, .ref o] (vq_PreN (dC, dI) CL sz (xo ad ca o co σ fo) (xot ca co))) (va_Qi (fun (r : Int32) (_ : Unit) => r = 2) (fun _ t => vq_Post (dC, dI) CL (va_A (xo ad ca o co σ fo) sz) (xo ad ca o co v.2 fo) (xot ca co) t) (va_A (xo ad ca o co σ fo) sz)) 1 6 (va_A (xo ad ca o co σ fo) sz) := by
  refine vq_ofW (cc := method_3_code) (maxL := 5) (ret := (Option.some Jvm.ClassFile.FieldType.int)) pl_L (vq_hisH k_666) ?_
  intro p e s m args below meth c s₁ B hml hv
  obtain ⟨rfl, hnc, hst, hsz, hP, hK, hD0⟩ := hv
  have hx := B.exec
  have hb := B.bytes
  have hr := B.returns
  have hts := atoms_spec (ws := WS) B.pre
  have hown : s.vm.findClass R_L = some m.cls := findClass_of_methodNamed B.named
  have hlocks := B.notSynchronized
  have htab := vq_hasH B (hts _ k_666)
  subst hsz
  have hN := vq_ns hP
  have hD := hD0.self (sz := s.heap.size)
  generalize hAe : va_A (xo ad ca o co σ fo) s.heap.size = A at hD hN ⊢
  have hA : ∀ q : Nat, s.heap.size ≤ q → A q := fun q h => by rw [← hAe]; exact Or.inr h
  have hS : va_S A s.heap s.heap [] := va_S.rf
  have hl := lv_entry ([.ref (ad 0), .int a0, .int a1, .ref o]) (n := 5) (Nat.le_of_ble_eq_true rfl)
  rw [lg_entry_eq]
  generalize (lg_sl ([.ref (ad 0), .int a0, .int a1, .ref o]) ++ List.replicate (5 - (lg_sl ([.ref (ad 0), .int a0, .int a1, .ref o])).length) Slot.unset).toArray = ls at hl ⊢
  have hl : lv_has ls 5 [(0, .ref (ad 0)), (1, .int a0), (2, .int a1), (3, .ref o)] := hl
  refine lv_aload_n hx hb d_L_symbol_0 rfl (lv_at hl 3 rfl) ?_
  refine lv_iconst (v := 0) hx hb d_L_symbol_1 (by decide) ?_
  refine lv_aload_n hx hb d_L_symbol_2 rfl (lv_at hl 0 rfl) ?_
  refine lv_iload_n hx hb d_L_symbol_3 rfl (lv_at hl 1 rfl) ?_
  refine lv_iload_n hx hb d_L_symbol_4 rfl (lv_at hl 2 rfl) ?_
  obtain ⟨hPc, hDc⟩ := ws_sp hP hD
  have hKc := ws_kt hK
  have hFc := ws_fe hD hS hA
  refine vq_catch2 (E := "java/lang/IllegalStateException") (name := "java/lang/IllegalStateException") (vq_runT2 (As := [.int a0, .int a1]) (rest := [.int 0, .ref o]) ⟨hx, hb, hml, hown, hts⟩ (t_V_symbol_2 l htr dC dI ad ca N σ a0 a1 v h s.heap.size) (vq_cV WSk hts 2 rfl rfl ⟨by decide, by decide⟩ k_554 k_22 k_667 k_668 k_669 (by decide +kernel)) ⟨vq_blind, va_recv hKc hPc (ci := 0) (q0 := 0) rfl rfl, vq_here hst hS hN hPc hKc hDc⟩ rfl rfl hl.1 rfl (lv_room (Nat.le_of_ble_eq_true rfl)) d_L_symbol_5 ⟨by decide, by decide⟩) hS hFc hown [⟨0, 10, 13, 13⟩] ⟨0, 10, 17, 15⟩ [] htab (by intro z hz; rw [List.mem_singleton] at hz; subst hz; exact Or.inr ⟨by decide, "java/lang/IllegalArgumentException", hts _ k_670, hnc ("java/lang/IllegalStateException", "java/lang/IllegalArgumentException") (by decide)⟩) (by decide) (by decide) (hts _ k_672) (hts _ k_673) (fun q9 t H1 locs ht hvm hB hz1 hk1 hS => ?_)
  obtain ⟨hP1, -, hD1⟩ := hB
  rw [ht] at hP1
  obtain ⟨hP, hD⟩ := ws_jn hP hD hk1 hFc hP1 hD1
  generalize H1 = H at hP hS ⊢
  have hP : va_P (dC, dI) CL ([(o, .inl (co, 1, .inr (.inl fo)))] ++ Xw ad ca v.2) H := hP
  refine W.widen (k := 1) (n := 6) (by decide) (by decide) ?_
  refine W.eq (g2 := F0 m 17 ls [.ref q9]) rfl ?_
  refine lv_astore (lv' := [(4, .ref q9), (0, .ref (ad 0)), (1, .int a0), (2, .int a1), (3, .ref o)]) hx hb d_L_symbol_17 hl (by decide) rfl (fun ls hl => ?_)
  refine lv_iconst (v := 2) hx hb d_L_symbol_19 (by decide) ?_
  obtain ⟨hP9, hD9⟩ := ws_pm (σ := v.2) (fo := fo) hP hD
  exact W.iret (v := 2) hx hb hr (fun t ht hW => ⟨⟨2, (), rfl, rfl, by rw [ht]; exact hP9, va_K.moved hW.alike hK, hD9⟩, hS.F ht⟩) hS.2.2 d_L_symbol_20

set_option maxHeartbeats 4000000 in
set_option maxRecDepth 100000 in
theorem w_production_0 (l : Launch) (htr : l.stackTraces = false) (dC : Nat → ClassId) (dI : Nat → Nat → Nat) (ad : Nat → Nat) (ca : Nat → ClassId) (o : Nat) (co : ClassId) (fo : Nat → Int64) (N : Nat) (σ : vS) (a0 : Int32) (a1 : Int32) (a2 : Int32) (a3 : Int32) (v : Int32 × vS) (h : f_V_production N σ a0 a1 a2 a3 = some ((0, v.1), v.2)) (sz : Nat) : Met l y_L_production WS ({ frames := 7, cells := 0, slots := 0, locals := 106 }) (va_Pc [.ref (ad 0), .int a0, .int a1, .int a2, .int a3, .ref o] (vq_PreN (dC, dI) CL sz (xo ad ca o co σ fo) (xot ca co))) (va_Qi (fun (r : Int32) (_ : Unit) => r = 0) (fun _ t => vq_Post (dC, dI) CL (va_A (xo ad ca o co σ fo) sz) (xo ad ca o co v.2 (vp_updL fo (0 : Int32).toNatClampNeg v.1.toInt64)) (xot ca co) t) (va_A (xo ad ca o co σ fo) sz)) 0 0 (va_A (xo ad ca o co σ fo) sz) := by
  refine vq_ofW (cc := method_4_code) (maxL := 7) (ret := (Option.some Jvm.ClassFile.FieldType.int)) pl_L (vq_hisH k_674) ?_
  intro p e s m args below meth c s₁ B hml hv
  obtain ⟨rfl, hnc, hst, hsz, hP, hK, hD0⟩ := hv
  have hx := B.exec
  have hb := B.bytes
  have hr := B.returns
  have hts := atoms_spec (ws := WS) B.pre
  have hown : s.vm.findClass R_L = some m.cls := findClass_of_methodNamed B.named
  have hlocks := B.notSynchronized
  have htab := vq_hasH B (hts _ k_674)
  subst hsz
  have hN := vq_ns hP
  have hD := hD0.self (sz := s.heap.size)
  generalize hAe : va_A (xo ad ca o co σ fo) s.heap.size = A at hD hN ⊢
  have hA : ∀ q : Nat, s.heap.size ≤ q → A q := fun q h => by rw [← hAe]; exact Or.inr h
  have hS : va_S A s.heap s.heap [] := va_S.rf
  have hl := lv_entry ([.ref (ad 0), .int a0, .int a1, .int a2, .int a3, .ref o]) (n := 7) (Nat.le_of_ble_eq_true rfl)
  rw [lg_entry_eq]
  generalize (lg_sl ([.ref (ad 0), .int a0, .int a1, .int a2, .int a3, .ref o]) ++ List.replicate (7 - (lg_sl ([.ref (ad 0), .int a0, .int a1, .int a2, .int a3, .ref o])).length) Slot.unset).toArray = ls at hl ⊢
  have hl : lv_has ls 7 [(0, .ref (ad 0)), (1, .int a0), (2, .int a1), (3, .int a2), (4, .int a3), (5, .ref o)] := hl
  refine lv_aload hx hb d_L_production_0 (lv_at hl 5 rfl) ?_
  refine lv_iconst (v := 0) hx hb d_L_production_2 (by decide) ?_
  refine lv_aload_n hx hb d_L_production_3 rfl (lv_at hl 0 rfl) ?_
  refine lv_iload_n hx hb d_L_production_4 rfl (lv_at hl 1 rfl) ?_
  refine lv_iload_n hx hb d_L_production_5 rfl (lv_at hl 2 rfl) ?_
  refine lv_iload_n hx hb d_L_production_6 rfl (lv_at hl 3 rfl) ?_
  refine lv_iload hx hb d_L_production_7 (lv_at hl 4 rfl) ?_
  obtain ⟨hPc, hDc⟩ := ws_sp hP hD
  have hKc := ws_kt hK
  have hFc := ws_fe hD hS hA
  refine va_calli (va_runV (As := [.int a0, .int a1, .int a2, .int a3]) (rest := [.int 0, .ref o]) ⟨hx, hb, hml, hown, hts⟩ (c_V_production l htr dC dI ad ca N σ a0 a1 a2 a3 v h s.heap.size) (vq_cV WSk hts 4 rfl rfl ⟨by decide, by decide⟩ k_567 k_22 k_675 k_676 k_677 (by decide +kernel)) ⟨vq_blind, va_recv hKc hPc (ci := 0) (q0 := 0) rfl rfl, vq_here hst hS hN hPc hKc hDc⟩ rfl rfl hl.1 rfl (lv_room (Nat.le_of_ble_eq_true rfl)) d_L_production_9 ⟨by decide, by decide⟩) hS (fun q _ h => hFc q h) hFc (fun r u t H1 locs ht hvm hw hB hz1 hk1 hS => ?_)
  have hw : r = v.1 := hw
  subst hw
  obtain ⟨hP1, -, hD1⟩ := hB
  rw [ht] at hP1
  obtain ⟨hP, hD⟩ := ws_jn hP hD hk1 hFc hP1 hD1
  generalize H1 = H at hP hS ⊢
  have hP : va_P (dC, dI) CL ([(o, .inl (co, 1, .inr (.inl fo)))] ++ Xw ad ca v.2) H := hP
  refine W.widen (k := 0) (n := 0) (by decide) (by decide) ?_
  refine lv_i2l hx hb d_L_production_12 rfl ?_
  refine va_last (n := 1) (f := fo) hx hb hK hP hD hS 0 27 rfl rfl (show ¬ ((0 : Int32) < 0 ∨ 1 ≤ Int32.toNatClampNeg 0) by decide) d_L_production_13 (fun H locs hP hD hS => ?_)
  refine lv_goto (tgt := 25) hx hb d_L_production_14 (by decide) ?_
  refine lv_iconst (v := 0) hx hb d_L_production_25 (by decide) ?_
  obtain ⟨hP9, hD9⟩ := ws_pm (σ := v.2) (fo := (vp_updL fo (0 : Int32).toNatClampNeg v.1.toInt64)) hP hD
  exact W.iret (v := 0) hx hb hr (fun t ht hW => ⟨⟨0, (), rfl, rfl, by rw [ht]; exact hP9, va_K.moved hW.alike hK, hD9⟩, hS.F ht⟩) hS.2.2 d_L_production_26

set_option maxHeartbeats 4000000 in
set_option maxRecDepth 100000 in
theorem w_production_1 (l : Launch) (htr : l.stackTraces = false) (dC : Nat → ClassId) (dI : Nat → Nat → Nat) (ad : Nat → Nat) (ca : Nat → ClassId) (o : Nat) (co : ClassId) (fo : Nat → Int64) (N : Nat) (σ : vS) (a0 : Int32) (a1 : Int32) (a2 : Int32) (a3 : Int32) (v : Int32 × vS) (h : f_V_production N σ a0 a1 a2 a3 = some ((1, v.1), v.2)) (sz : Nat) : Met l y_L_production WS ({ frames := 7, cells := 1, slots := 6, locals := 106 }) (va_Pc [.ref (ad 0), .int a0, .int a1, .int a2, .int a3, .ref o] (vq_PreN (dC, dI) CL sz (xo ad ca o co σ fo) (xot ca co))) (va_Qi (fun (r : Int32) (_ : Unit) => r = 1) (fun _ t => vq_Post (dC, dI) CL (va_A (xo ad ca o co σ fo) sz) (xo ad ca o co v.2 fo) (xot ca co) t) (va_A (xo ad ca o co σ fo) sz)) 1 6 (va_A (xo ad ca o co σ fo) sz) := by
  refine vq_ofW (cc := method_4_code) (maxL := 7) (ret := (Option.some Jvm.ClassFile.FieldType.int)) pl_L (vq_hisH k_674) ?_
  intro p e s m args below meth c s₁ B hml hv
  obtain ⟨rfl, hnc, hst, hsz, hP, hK, hD0⟩ := hv
  have hx := B.exec
  have hb := B.bytes
  have hr := B.returns
  have hts := atoms_spec (ws := WS) B.pre
  have hown : s.vm.findClass R_L = some m.cls := findClass_of_methodNamed B.named
  have hlocks := B.notSynchronized
  have htab := vq_hasH B (hts _ k_674)
  subst hsz
  have hN := vq_ns hP
  have hD := hD0.self (sz := s.heap.size)
  generalize hAe : va_A (xo ad ca o co σ fo) s.heap.size = A at hD hN ⊢
  have hA : ∀ q : Nat, s.heap.size ≤ q → A q := fun q h => by rw [← hAe]; exact Or.inr h
  have hS : va_S A s.heap s.heap [] := va_S.rf
  have hl := lv_entry ([.ref (ad 0), .int a0, .int a1, .int a2, .int a3, .ref o]) (n := 7) (Nat.le_of_ble_eq_true rfl)
  rw [lg_entry_eq]
  generalize (lg_sl ([.ref (ad 0), .int a0, .int a1, .int a2, .int a3, .ref o]) ++ List.replicate (7 - (lg_sl ([.ref (ad 0), .int a0, .int a1, .int a2, .int a3, .ref o])).length) Slot.unset).toArray = ls at hl ⊢
  have hl : lv_has ls 7 [(0, .ref (ad 0)), (1, .int a0), (2, .int a1), (3, .int a2), (4, .int a3), (5, .ref o)] := hl
  refine lv_aload hx hb d_L_production_0 (lv_at hl 5 rfl) ?_
  refine lv_iconst (v := 0) hx hb d_L_production_2 (by decide) ?_
  refine lv_aload_n hx hb d_L_production_3 rfl (lv_at hl 0 rfl) ?_
  refine lv_iload_n hx hb d_L_production_4 rfl (lv_at hl 1 rfl) ?_
  refine lv_iload_n hx hb d_L_production_5 rfl (lv_at hl 2 rfl) ?_
  refine lv_iload_n hx hb d_L_production_6 rfl (lv_at hl 3 rfl) ?_
  refine lv_iload hx hb d_L_production_7 (lv_at hl 4 rfl) ?_
  obtain ⟨hPc, hDc⟩ := ws_sp hP hD
  have hKc := ws_kt hK
  have hFc := ws_fe hD hS hA
  refine vq_catch2 (E := "java/lang/IllegalArgumentException") (name := "java/lang/IllegalArgumentException") (vq_runT2 (As := [.int a0, .int a1, .int a2, .int a3]) (rest := [.int 0, .ref o]) ⟨hx, hb, hml, hown, hts⟩ (t_V_production_1 l htr dC dI ad ca N σ a0 a1 a2 a3 v h s.heap.size) (vq_cV WSk hts 4 rfl rfl ⟨by decide, by decide⟩ k_567 k_22 k_675 k_676 k_677 (by decide +kernel)) ⟨vq_blind, va_recv hKc hPc (ci := 0) (q0 := 0) rfl rfl, vq_here hst hS hN hPc hKc hDc⟩ rfl rfl hl.1 rfl (lv_room (Nat.le_of_ble_eq_true rfl)) d_L_production_9 ⟨by decide, by decide⟩) hS hFc hown [] ⟨0, 14, 17, 13⟩ [⟨0, 14, 21, 15⟩] htab (by intro z hz; cases hz) (by decide) (by decide) (hts _ k_670) (hts _ k_671) (fun q9 t H1 locs ht hvm hB hz1 hk1 hS => ?_)
  obtain ⟨hP1, -, hD1⟩ := hB
  rw [ht] at hP1
  obtain ⟨hP, hD⟩ := ws_jn hP hD hk1 hFc hP1 hD1
  generalize H1 = H at hP hS ⊢
  have hP : va_P (dC, dI) CL ([(o, .inl (co, 1, .inr (.inl fo)))] ++ Xw ad ca v.2) H := hP
  refine W.widen (k := 1) (n := 6) (by decide) (by decide) ?_
  refine W.eq (g2 := F0 m 17 ls [.ref q9]) rfl ?_
  refine lv_astore (lv' := [(6, .ref q9), (0, .ref (ad 0)), (1, .int a0), (2, .int a1), (3, .int a2), (4, .int a3), (5, .ref o)]) hx hb d_L_production_17 hl (by decide) rfl (fun ls hl => ?_)
  refine lv_iconst (v := 1) hx hb d_L_production_19 (by decide) ?_
  obtain ⟨hP9, hD9⟩ := ws_pm (σ := v.2) (fo := fo) hP hD
  exact W.iret (v := 1) hx hb hr (fun t ht hW => ⟨⟨1, (), rfl, rfl, by rw [ht]; exact hP9, va_K.moved hW.alike hK, hD9⟩, hS.F ht⟩) hS.2.2 d_L_production_20

set_option maxHeartbeats 4000000 in
set_option maxRecDepth 100000 in
theorem w_production_2 (l : Launch) (htr : l.stackTraces = false) (dC : Nat → ClassId) (dI : Nat → Nat → Nat) (ad : Nat → Nat) (ca : Nat → ClassId) (o : Nat) (co : ClassId) (fo : Nat → Int64) (N : Nat) (σ : vS) (a0 : Int32) (a1 : Int32) (a2 : Int32) (a3 : Int32) (v : Int32 × vS) (h : f_V_production N σ a0 a1 a2 a3 = some ((2, v.1), v.2)) (sz : Nat) : Met l y_L_production WS ({ frames := 7, cells := 1, slots := 6, locals := 106 }) (va_Pc [.ref (ad 0), .int a0, .int a1, .int a2, .int a3, .ref o] (vq_PreN (dC, dI) CL sz (xo ad ca o co σ fo) (xot ca co))) (va_Qi (fun (r : Int32) (_ : Unit) => r = 2) (fun _ t => vq_Post (dC, dI) CL (va_A (xo ad ca o co σ fo) sz) (xo ad ca o co v.2 fo) (xot ca co) t) (va_A (xo ad ca o co σ fo) sz)) 1 6 (va_A (xo ad ca o co σ fo) sz) := by
  refine vq_ofW (cc := method_4_code) (maxL := 7) (ret := (Option.some Jvm.ClassFile.FieldType.int)) pl_L (vq_hisH k_674) ?_
  intro p e s m args below meth c s₁ B hml hv
  obtain ⟨rfl, hnc, hst, hsz, hP, hK, hD0⟩ := hv
  have hx := B.exec
  have hb := B.bytes
  have hr := B.returns
  have hts := atoms_spec (ws := WS) B.pre
  have hown : s.vm.findClass R_L = some m.cls := findClass_of_methodNamed B.named
  have hlocks := B.notSynchronized
  have htab := vq_hasH B (hts _ k_674)
  subst hsz
  have hN := vq_ns hP
  have hD := hD0.self (sz := s.heap.size)
  generalize hAe : va_A (xo ad ca o co σ fo) s.heap.size = A at hD hN ⊢
  have hA : ∀ q : Nat, s.heap.size ≤ q → A q := fun q h => by rw [← hAe]; exact Or.inr h
  have hS : va_S A s.heap s.heap [] := va_S.rf
  have hl := lv_entry ([.ref (ad 0), .int a0, .int a1, .int a2, .int a3, .ref o]) (n := 7) (Nat.le_of_ble_eq_true rfl)
  rw [lg_entry_eq]
  generalize (lg_sl ([.ref (ad 0), .int a0, .int a1, .int a2, .int a3, .ref o]) ++ List.replicate (7 - (lg_sl ([.ref (ad 0), .int a0, .int a1, .int a2, .int a3, .ref o])).length) Slot.unset).toArray = ls at hl ⊢
  have hl : lv_has ls 7 [(0, .ref (ad 0)), (1, .int a0), (2, .int a1), (3, .int a2), (4, .int a3), (5, .ref o)] := hl
  refine lv_aload hx hb d_L_production_0 (lv_at hl 5 rfl) ?_
  refine lv_iconst (v := 0) hx hb d_L_production_2 (by decide) ?_
  refine lv_aload_n hx hb d_L_production_3 rfl (lv_at hl 0 rfl) ?_
  refine lv_iload_n hx hb d_L_production_4 rfl (lv_at hl 1 rfl) ?_
  refine lv_iload_n hx hb d_L_production_5 rfl (lv_at hl 2 rfl) ?_
  refine lv_iload_n hx hb d_L_production_6 rfl (lv_at hl 3 rfl) ?_
  refine lv_iload hx hb d_L_production_7 (lv_at hl 4 rfl) ?_
  obtain ⟨hPc, hDc⟩ := ws_sp hP hD
  have hKc := ws_kt hK
  have hFc := ws_fe hD hS hA
  refine vq_catch2 (E := "java/lang/IllegalStateException") (name := "java/lang/IllegalStateException") (vq_runT2 (As := [.int a0, .int a1, .int a2, .int a3]) (rest := [.int 0, .ref o]) ⟨hx, hb, hml, hown, hts⟩ (t_V_production_2 l htr dC dI ad ca N σ a0 a1 a2 a3 v h s.heap.size) (vq_cV WSk hts 4 rfl rfl ⟨by decide, by decide⟩ k_567 k_22 k_675 k_676 k_677 (by decide +kernel)) ⟨vq_blind, va_recv hKc hPc (ci := 0) (q0 := 0) rfl rfl, vq_here hst hS hN hPc hKc hDc⟩ rfl rfl hl.1 rfl (lv_room (Nat.le_of_ble_eq_true rfl)) d_L_production_9 ⟨by decide, by decide⟩) hS hFc hown [⟨0, 14, 17, 13⟩] ⟨0, 14, 21, 15⟩ [] htab (by intro z hz; rw [List.mem_singleton] at hz; subst hz; exact Or.inr ⟨by decide, "java/lang/IllegalArgumentException", hts _ k_670, hnc ("java/lang/IllegalStateException", "java/lang/IllegalArgumentException") (by decide)⟩) (by decide) (by decide) (hts _ k_672) (hts _ k_673) (fun q9 t H1 locs ht hvm hB hz1 hk1 hS => ?_)
  obtain ⟨hP1, -, hD1⟩ := hB
  rw [ht] at hP1
  obtain ⟨hP, hD⟩ := ws_jn hP hD hk1 hFc hP1 hD1
  generalize H1 = H at hP hS ⊢
  have hP : va_P (dC, dI) CL ([(o, .inl (co, 1, .inr (.inl fo)))] ++ Xw ad ca v.2) H := hP
  refine W.widen (k := 1) (n := 6) (by decide) (by decide) ?_
  refine W.eq (g2 := F0 m 21 ls [.ref q9]) rfl ?_
  refine lv_astore (lv' := [(6, .ref q9), (0, .ref (ad 0)), (1, .int a0), (2, .int a1), (3, .int a2), (4, .int a3), (5, .ref o)]) hx hb d_L_production_21 hl (by decide) rfl (fun ls hl => ?_)
  refine lv_iconst (v := 2) hx hb d_L_production_23 (by decide) ?_
  obtain ⟨hP9, hD9⟩ := ws_pm (σ := v.2) (fo := fo) hP hD
  exact W.iret (v := 2) hx hb hr (fun t ht hW => ⟨⟨2, (), rfl, rfl, by rw [ht]; exact hP9, va_K.moved hW.alike hK, hD9⟩, hS.F ht⟩) hS.2.2 d_L_production_24

set_option maxHeartbeats 4000000 in
set_option maxRecDepth 100000 in
theorem w_rule_0 (l : Launch) (htr : l.stackTraces = false) (dC : Nat → ClassId) (dI : Nat → Nat → Nat) (ad : Nat → Nat) (ca : Nat → ClassId) (N : Nat) (σ : vS) (a0 : Int32) (a1 : Int32) (a2 : Int32) (a3 : Int32) (a4 : Int32) (v : Int32 × vS) (h : f_V_rule N σ a0 a1 a2 a3 a4 = some ((0, v.1), v.2)) (sz : Nat) : Met l y_L_rule WS ({ frames := 7, cells := 0, slots := 0, locals := 107 }) (va_Pc [.ref (ad 0), .int a0, .int a1, .int a2, .int a3, .int a4] (vq_PreN (dC, dI) CL sz (Xw ad ca σ) (Xt ca))) (va_Qi (fun (r : Int32) (_ : Unit) => r = 0) (fun _ t => vq_Post (dC, dI) CL (va_A (Xw ad ca σ) sz) (Xw ad ca v.2) (Xt ca) t) (va_A (Xw ad ca σ) sz)) 0 0 (va_A (Xw ad ca σ) sz) := by
  refine vq_ofW (cc := method_5_code) (maxL := 7) (ret := (Option.some Jvm.ClassFile.FieldType.int)) pl_L (vq_hisH k_678) ?_
  intro p e s m args below meth c s₁ B hml hv
  obtain ⟨rfl, hnc, hst, hsz, hP, hK, hD0⟩ := hv
  have hx := B.exec
  have hb := B.bytes
  have hr := B.returns
  have hts := atoms_spec (ws := WS) B.pre
  have hown : s.vm.findClass R_L = some m.cls := findClass_of_methodNamed B.named
  have hlocks := B.notSynchronized
  have htab := vq_hasH B (hts _ k_678)
  subst hsz
  have hN := vq_ns hP
  have hD := hD0.self (sz := s.heap.size)
  generalize hAe : va_A (Xw ad ca σ) s.heap.size = A at hD hN ⊢
  have hA : ∀ q : Nat, s.heap.size ≤ q → A q := fun q h => by rw [← hAe]; exact Or.inr h
  have hS : va_S A s.heap s.heap [] := va_S.rf
  have hl := lv_entry ([.ref (ad 0), .int a0, .int a1, .int a2, .int a3, .int a4]) (n := 7) (Nat.le_of_ble_eq_true rfl)
  rw [lg_entry_eq]
  generalize (lg_sl ([.ref (ad 0), .int a0, .int a1, .int a2, .int a3, .int a4]) ++ List.replicate (7 - (lg_sl ([.ref (ad 0), .int a0, .int a1, .int a2, .int a3, .int a4])).length) Slot.unset).toArray = ls at hl ⊢
  have hl : lv_has ls 7 [(0, .ref (ad 0)), (1, .int a0), (2, .int a1), (3, .int a2), (4, .int a3), (5, .int a4)] := hl
  refine lv_aload_n hx hb d_L_rule_0 rfl (lv_at hl 0 rfl) ?_
  refine lv_iload_n hx hb d_L_rule_1 rfl (lv_at hl 1 rfl) ?_
  refine lv_iload_n hx hb d_L_rule_2 rfl (lv_at hl 2 rfl) ?_
  refine lv_iload_n hx hb d_L_rule_3 rfl (lv_at hl 3 rfl) ?_
  refine lv_iload hx hb d_L_rule_4 (lv_at hl 4 rfl) ?_
  refine lv_iload hx hb d_L_rule_6 (lv_at hl 5 rfl) ?_
  have hPc := hP
  have hDc := hD
  have hKc := hK
  have hFc := vq_freeAll hD hS hA
  refine va_callv (va_runV (As := [.int a0, .int a1, .int a2, .int a3, .int a4]) (rest := []) ⟨hx, hb, hml, hown, hts⟩ (c_V_rule l htr dC dI ad ca N σ a0 a1 a2 a3 a4 v h s.heap.size) (vq_cV WSk hts 5 rfl rfl ⟨by decide, by decide⟩ k_578 k_22 k_679 k_680 k_681 (by decide +kernel)) ⟨vq_blind, va_recv hKc hPc (ci := 0) (q0 := 0) rfl rfl, vq_here hst hS hN hPc hKc hDc⟩ rfl rfl hl.1 rfl (lv_room (Nat.le_of_ble_eq_true rfl)) d_L_rule_8 ⟨by decide, by decide⟩) hS (fun q _ h => hFc q h) hFc (fun u t H1 locs ht hvm hw hB hz1 hk1 hS => ?_)
  obtain ⟨hP1, -, hD1⟩ := hB
  rw [ht] at hP1
  have hP := hP1
  have hD := hD1.weaken (fun _ _ _ h => hFc _ h)
  generalize H1 = H at hP hS ⊢
  refine W.widen (k := 0) (n := 0) (by decide) (by decide) ?_
  refine lv_goto (tgt := 22) hx hb d_L_rule_11 (by decide) ?_
  refine lv_iconst (v := 0) hx hb d_L_rule_22 (by decide) ?_
  have hP9 := hP
  have hD9 := hD
  exact W.iret (v := 0) hx hb hr (fun t ht hW => ⟨⟨0, (), rfl, rfl, by rw [ht]; exact hP9, va_K.moved hW.alike hK, hD9⟩, hS.F ht⟩) hS.2.2 d_L_rule_23

set_option maxHeartbeats 4000000 in
set_option maxRecDepth 100000 in
theorem w_rule_1 (l : Launch) (htr : l.stackTraces = false) (dC : Nat → ClassId) (dI : Nat → Nat → Nat) (ad : Nat → Nat) (ca : Nat → ClassId) (N : Nat) (σ : vS) (a0 : Int32) (a1 : Int32) (a2 : Int32) (a3 : Int32) (a4 : Int32) (v : Int32 × vS) (h : f_V_rule N σ a0 a1 a2 a3 a4 = some ((1, v.1), v.2)) (sz : Nat) : Met l y_L_rule WS ({ frames := 7, cells := 1, slots := 6, locals := 107 }) (va_Pc [.ref (ad 0), .int a0, .int a1, .int a2, .int a3, .int a4] (vq_PreN (dC, dI) CL sz (Xw ad ca σ) (Xt ca))) (va_Qi (fun (r : Int32) (_ : Unit) => r = 2) (fun _ t => vq_Post (dC, dI) CL (va_A (Xw ad ca σ) sz) (Xw ad ca v.2) (Xt ca) t) (va_A (Xw ad ca σ) sz)) 1 6 (va_A (Xw ad ca σ) sz) := by
  refine vq_ofW (cc := method_5_code) (maxL := 7) (ret := (Option.some Jvm.ClassFile.FieldType.int)) pl_L (vq_hisH k_678) ?_
  intro p e s m args below meth c s₁ B hml hv
  obtain ⟨rfl, hnc, hst, hsz, hP, hK, hD0⟩ := hv
  have hx := B.exec
  have hb := B.bytes
  have hr := B.returns
  have hts := atoms_spec (ws := WS) B.pre
  have hown : s.vm.findClass R_L = some m.cls := findClass_of_methodNamed B.named
  have hlocks := B.notSynchronized
  have htab := vq_hasH B (hts _ k_678)
  subst hsz
  have hN := vq_ns hP
  have hD := hD0.self (sz := s.heap.size)
  generalize hAe : va_A (Xw ad ca σ) s.heap.size = A at hD hN ⊢
  have hA : ∀ q : Nat, s.heap.size ≤ q → A q := fun q h => by rw [← hAe]; exact Or.inr h
  have hS : va_S A s.heap s.heap [] := va_S.rf
  have hl := lv_entry ([.ref (ad 0), .int a0, .int a1, .int a2, .int a3, .int a4]) (n := 7) (Nat.le_of_ble_eq_true rfl)
  rw [lg_entry_eq]
  generalize (lg_sl ([.ref (ad 0), .int a0, .int a1, .int a2, .int a3, .int a4]) ++ List.replicate (7 - (lg_sl ([.ref (ad 0), .int a0, .int a1, .int a2, .int a3, .int a4])).length) Slot.unset).toArray = ls at hl ⊢
  have hl : lv_has ls 7 [(0, .ref (ad 0)), (1, .int a0), (2, .int a1), (3, .int a2), (4, .int a3), (5, .int a4)] := hl
  refine lv_aload_n hx hb d_L_rule_0 rfl (lv_at hl 0 rfl) ?_
  refine lv_iload_n hx hb d_L_rule_1 rfl (lv_at hl 1 rfl) ?_
  refine lv_iload_n hx hb d_L_rule_2 rfl (lv_at hl 2 rfl) ?_
  refine lv_iload_n hx hb d_L_rule_3 rfl (lv_at hl 3 rfl) ?_
  refine lv_iload hx hb d_L_rule_4 (lv_at hl 4 rfl) ?_
  refine lv_iload hx hb d_L_rule_6 (lv_at hl 5 rfl) ?_
  have hPc := hP
  have hDc := hD
  have hKc := hK
  have hFc := vq_freeAll hD hS hA
  refine vq_catch2 (E := "java/lang/IllegalArgumentException") (name := "java/lang/IllegalArgumentException") (vq_runT2 (As := [.int a0, .int a1, .int a2, .int a3, .int a4]) (rest := []) ⟨hx, hb, hml, hown, hts⟩ (t_V_rule_1 l htr dC dI ad ca N σ a0 a1 a2 a3 a4 v h s.heap.size) (vq_cV WSk hts 5 rfl rfl ⟨by decide, by decide⟩ k_578 k_22 k_679 k_680 k_681 (by decide +kernel)) ⟨vq_blind, va_recv hKc hPc (ci := 0) (q0 := 0) rfl rfl, vq_here hst hS hN hPc hKc hDc⟩ rfl rfl hl.1 rfl (lv_room (Nat.le_of_ble_eq_true rfl)) d_L_rule_8 ⟨by decide, by decide⟩) hS hFc hown [⟨0, 11, 14, 25⟩] ⟨0, 11, 18, 13⟩ [] htab (by intro z hz; rw [List.mem_singleton] at hz; subst hz; exact Or.inr ⟨by decide, "java/lang/IndexOutOfBoundsException", hts _ k_682, hnc ("java/lang/IllegalArgumentException", "java/lang/IndexOutOfBoundsException") (by decide)⟩) (by decide) (by decide) (hts _ k_670) (hts _ k_671) (fun q9 t H1 locs ht hvm hB hz1 hk1 hS => ?_)
  obtain ⟨hP1, -, hD1⟩ := hB
  rw [ht] at hP1
  have hP := hP1
  have hD := hD1.weaken (fun _ _ _ h => hFc _ h)
  generalize H1 = H at hP hS ⊢
  refine W.widen (k := 1) (n := 6) (by decide) (by decide) ?_
  refine W.eq (g2 := F0 m 18 ls [.ref q9]) rfl ?_
  refine lv_astore (lv' := [(6, .ref q9), (0, .ref (ad 0)), (1, .int a0), (2, .int a1), (3, .int a2), (4, .int a3), (5, .int a4)]) hx hb d_L_rule_18 hl (by decide) rfl (fun ls hl => ?_)
  refine lv_iconst (v := 2) hx hb d_L_rule_20 (by decide) ?_
  have hP9 := hP
  have hD9 := hD
  exact W.iret (v := 2) hx hb hr (fun t ht hW => ⟨⟨2, (), rfl, rfl, by rw [ht]; exact hP9, va_K.moved hW.alike hK, hD9⟩, hS.F ht⟩) hS.2.2 d_L_rule_21

set_option maxHeartbeats 4000000 in
set_option maxRecDepth 100000 in
theorem w_rule_3 (l : Launch) (htr : l.stackTraces = false) (dC : Nat → ClassId) (dI : Nat → Nat → Nat) (ad : Nat → Nat) (ca : Nat → ClassId) (N : Nat) (σ : vS) (a0 : Int32) (a1 : Int32) (a2 : Int32) (a3 : Int32) (a4 : Int32) (v : Int32 × vS) (h : f_V_rule N σ a0 a1 a2 a3 a4 = some ((3, v.1), v.2)) (sz : Nat) : Met l y_L_rule WS ({ frames := 7, cells := 1, slots := 6, locals := 107 }) (va_Pc [.ref (ad 0), .int a0, .int a1, .int a2, .int a3, .int a4] (vq_PreN (dC, dI) CL sz (Xw ad ca σ) (Xt ca))) (va_Qi (fun (r : Int32) (_ : Unit) => r = 1) (fun _ t => vq_Post (dC, dI) CL (va_A (Xw ad ca σ) sz) (Xw ad ca v.2) (Xt ca) t) (va_A (Xw ad ca σ) sz)) 1 6 (va_A (Xw ad ca σ) sz) := by
  refine vq_ofW (cc := method_5_code) (maxL := 7) (ret := (Option.some Jvm.ClassFile.FieldType.int)) pl_L (vq_hisH k_678) ?_
  intro p e s m args below meth c s₁ B hml hv
  obtain ⟨rfl, hnc, hst, hsz, hP, hK, hD0⟩ := hv
  have hx := B.exec
  have hb := B.bytes
  have hr := B.returns
  have hts := atoms_spec (ws := WS) B.pre
  have hown : s.vm.findClass R_L = some m.cls := findClass_of_methodNamed B.named
  have hlocks := B.notSynchronized
  have htab := vq_hasH B (hts _ k_678)
  subst hsz
  have hN := vq_ns hP
  have hD := hD0.self (sz := s.heap.size)
  generalize hAe : va_A (Xw ad ca σ) s.heap.size = A at hD hN ⊢
  have hA : ∀ q : Nat, s.heap.size ≤ q → A q := fun q h => by rw [← hAe]; exact Or.inr h
  have hS : va_S A s.heap s.heap [] := va_S.rf
  have hl := lv_entry ([.ref (ad 0), .int a0, .int a1, .int a2, .int a3, .int a4]) (n := 7) (Nat.le_of_ble_eq_true rfl)
  rw [lg_entry_eq]
  generalize (lg_sl ([.ref (ad 0), .int a0, .int a1, .int a2, .int a3, .int a4]) ++ List.replicate (7 - (lg_sl ([.ref (ad 0), .int a0, .int a1, .int a2, .int a3, .int a4])).length) Slot.unset).toArray = ls at hl ⊢
  have hl : lv_has ls 7 [(0, .ref (ad 0)), (1, .int a0), (2, .int a1), (3, .int a2), (4, .int a3), (5, .int a4)] := hl
  refine lv_aload_n hx hb d_L_rule_0 rfl (lv_at hl 0 rfl) ?_
  refine lv_iload_n hx hb d_L_rule_1 rfl (lv_at hl 1 rfl) ?_
  refine lv_iload_n hx hb d_L_rule_2 rfl (lv_at hl 2 rfl) ?_
  refine lv_iload_n hx hb d_L_rule_3 rfl (lv_at hl 3 rfl) ?_
  refine lv_iload hx hb d_L_rule_4 (lv_at hl 4 rfl) ?_
  refine lv_iload hx hb d_L_rule_6 (lv_at hl 5 rfl) ?_
  have hPc := hP
  have hDc := hD
  have hKc := hK
  have hFc := vq_freeAll hD hS hA
  refine vq_catch2 (E := "java/lang/IndexOutOfBoundsException") (name := "java/lang/IndexOutOfBoundsException") (vq_runT2 (As := [.int a0, .int a1, .int a2, .int a3, .int a4]) (rest := []) ⟨hx, hb, hml, hown, hts⟩ (t_V_rule_3 l htr dC dI ad ca N σ a0 a1 a2 a3 a4 v h s.heap.size) (vq_cV WSk hts 5 rfl rfl ⟨by decide, by decide⟩ k_578 k_22 k_679 k_680 k_681 (by decide +kernel)) ⟨vq_blind, va_recv hKc hPc (ci := 0) (q0 := 0) rfl rfl, vq_here hst hS hN hPc hKc hDc⟩ rfl rfl hl.1 rfl (lv_room (Nat.le_of_ble_eq_true rfl)) d_L_rule_8 ⟨by decide, by decide⟩) hS hFc hown [] ⟨0, 11, 14, 25⟩ [⟨0, 11, 18, 13⟩] htab (by intro z hz; cases hz) (by decide) (by decide) (hts _ k_682) (hts _ k_683) (fun q9 t H1 locs ht hvm hB hz1 hk1 hS => ?_)
  obtain ⟨hP1, -, hD1⟩ := hB
  rw [ht] at hP1
  have hP := hP1
  have hD := hD1.weaken (fun _ _ _ h => hFc _ h)
  generalize H1 = H at hP hS ⊢
  refine W.widen (k := 1) (n := 6) (by decide) (by decide) ?_
  refine W.eq (g2 := F0 m 14 ls [.ref q9]) rfl ?_
  refine lv_astore (lv' := [(6, .ref q9), (0, .ref (ad 0)), (1, .int a0), (2, .int a1), (3, .int a2), (4, .int a3), (5, .int a4)]) hx hb d_L_rule_14 hl (by decide) rfl (fun ls hl => ?_)
  refine lv_iconst (v := 1) hx hb d_L_rule_16 (by decide) ?_
  have hP9 := hP
  have hD9 := hD
  exact W.iret (v := 1) hx hb hr (fun t ht hW => ⟨⟨1, (), rfl, rfl, by rw [ht]; exact hP9, va_K.moved hW.alike hK, hD9⟩, hS.F ht⟩) hS.2.2 d_L_rule_17

set_option maxHeartbeats 4000000 in
set_option maxRecDepth 100000 in
theorem w_analyse_0 (l : Launch) (htr : l.stackTraces = false) (dC : Nat → ClassId) (dI : Nat → Nat → Nat) (ad : Nat → Nat) (ca : Nat → ClassId) (o : Nat) (co : ClassId) (fo : Nat → Int64) (N : Nat) (σ : vS) (v : Int32 × vS) (h : f_V_analyse N σ = some ((0, v.1), v.2)) (sz : Nat) : Met l y_L_analyse WS ({ frames := 7, cells := 0, slots := 0, locals := 156 }) (va_Pc [.ref (ad 0), .ref o] (vq_PreN (dC, dI) CL sz (xo ad ca o co σ fo) (xot ca co))) (va_Qi (fun (r : Int32) (_ : Unit) => r = 0) (fun _ t => vq_Post (dC, dI) CL (va_A (xo ad ca o co σ fo) sz) (xo ad ca o co v.2 (vp_updL fo (0 : Int32).toNatClampNeg v.1.toInt64)) (xot ca co) t) (va_A (xo ad ca o co σ fo) sz)) 0 0 (va_A (xo ad ca o co σ fo) sz) := by
  refine vq_ofW (cc := method_6_code) (maxL := 3) (ret := (Option.some Jvm.ClassFile.FieldType.int)) pl_L (vq_hisH k_684) ?_
  intro p e s m args below meth c s₁ B hml hv
  obtain ⟨rfl, hnc, hst, hsz, hP, hK, hD0⟩ := hv
  have hx := B.exec
  have hb := B.bytes
  have hr := B.returns
  have hts := atoms_spec (ws := WS) B.pre
  have hown : s.vm.findClass R_L = some m.cls := findClass_of_methodNamed B.named
  have hlocks := B.notSynchronized
  have htab := vq_hasH B (hts _ k_684)
  subst hsz
  have hN := vq_ns hP
  have hD := hD0.self (sz := s.heap.size)
  generalize hAe : va_A (xo ad ca o co σ fo) s.heap.size = A at hD hN ⊢
  have hA : ∀ q : Nat, s.heap.size ≤ q → A q := fun q h => by rw [← hAe]; exact Or.inr h
  have hS : va_S A s.heap s.heap [] := va_S.rf
  have hl := lv_entry ([.ref (ad 0), .ref o]) (n := 3) (Nat.le_of_ble_eq_true rfl)
  rw [lg_entry_eq]
  generalize (lg_sl ([.ref (ad 0), .ref o]) ++ List.replicate (3 - (lg_sl ([.ref (ad 0), .ref o])).length) Slot.unset).toArray = ls at hl ⊢
  have hl : lv_has ls 3 [(0, .ref (ad 0)), (1, .ref o)] := hl
  refine lv_aload_n hx hb d_L_analyse_0 rfl (lv_at hl 1 rfl) ?_
  refine lv_iconst (v := 0) hx hb d_L_analyse_1 (by decide) ?_
  refine lv_aload_n hx hb d_L_analyse_2 rfl (lv_at hl 0 rfl) ?_
  obtain ⟨hPc, hDc⟩ := ws_sp hP hD
  have hKc := ws_kt hK
  have hFc := ws_fe hD hS hA
  refine va_calli (va_runV (As := []) (rest := [.int 0, .ref o]) ⟨hx, hb, hml, hown, hts⟩ (c_V_analyse l htr dC dI ad ca N σ v h s.heap.size) (vq_cV WSk hts 0 rfl rfl ⟨by decide, by decide⟩ k_594 k_22 k_685 k_686 k_687 (by decide +kernel)) ⟨vq_blind, va_recv hKc hPc (ci := 0) (q0 := 0) rfl rfl, vq_here hst hS hN hPc hKc hDc⟩ rfl rfl hl.1 rfl (lv_room (Nat.le_of_ble_eq_true rfl)) d_L_analyse_3 ⟨by decide, by decide⟩) hS (fun q _ h => hFc q h) hFc (fun r u t H1 locs ht hvm hw hB hz1 hk1 hS => ?_)
  have hw : r = v.1 := hw
  subst hw
  obtain ⟨hP1, -, hD1⟩ := hB
  rw [ht] at hP1
  obtain ⟨hP, hD⟩ := ws_jn hP hD hk1 hFc hP1 hD1
  generalize H1 = H at hP hS ⊢
  have hP : va_P (dC, dI) CL ([(o, .inl (co, 1, .inr (.inl fo)))] ++ Xw ad ca v.2) H := hP
  refine W.widen (k := 0) (n := 0) (by decide) (by decide) ?_
  refine lv_i2l hx hb d_L_analyse_6 rfl ?_
  refine va_last (n := 1) (f := fo) hx hb hK hP hD hS 0 27 rfl rfl (show ¬ ((0 : Int32) < 0 ∨ 1 ≤ Int32.toNatClampNeg 0) by decide) d_L_analyse_7 (fun H locs hP hD hS => ?_)
  refine lv_goto (tgt := 17) hx hb d_L_analyse_8 (by decide) ?_
  refine lv_iconst (v := 0) hx hb d_L_analyse_17 (by decide) ?_
  obtain ⟨hP9, hD9⟩ := ws_pm (σ := v.2) (fo := (vp_updL fo (0 : Int32).toNatClampNeg v.1.toInt64)) hP hD
  exact W.iret (v := 0) hx hb hr (fun t ht hW => ⟨⟨0, (), rfl, rfl, by rw [ht]; exact hP9, va_K.moved hW.alike hK, hD9⟩, hS.F ht⟩) hS.2.2 d_L_analyse_18

set_option maxHeartbeats 4000000 in
set_option maxRecDepth 100000 in
theorem w_analyse_2 (l : Launch) (htr : l.stackTraces = false) (dC : Nat → ClassId) (dI : Nat → Nat → Nat) (ad : Nat → Nat) (ca : Nat → ClassId) (o : Nat) (co : ClassId) (fo : Nat → Int64) (N : Nat) (σ : vS) (v : Int32 × vS) (h : f_V_analyse N σ = some ((2, v.1), v.2)) (sz : Nat) : Met l y_L_analyse WS ({ frames := 7, cells := 1, slots := 6, locals := 156 }) (va_Pc [.ref (ad 0), .ref o] (vq_PreN (dC, dI) CL sz (xo ad ca o co σ fo) (xot ca co))) (va_Qi (fun (r : Int32) (_ : Unit) => r = 1) (fun _ t => vq_Post (dC, dI) CL (va_A (xo ad ca o co σ fo) sz) (xo ad ca o co v.2 fo) (xot ca co) t) (va_A (xo ad ca o co σ fo) sz)) 1 6 (va_A (xo ad ca o co σ fo) sz) := by
  refine vq_ofW (cc := method_6_code) (maxL := 3) (ret := (Option.some Jvm.ClassFile.FieldType.int)) pl_L (vq_hisH k_684) ?_
  intro p e s m args below meth c s₁ B hml hv
  obtain ⟨rfl, hnc, hst, hsz, hP, hK, hD0⟩ := hv
  have hx := B.exec
  have hb := B.bytes
  have hr := B.returns
  have hts := atoms_spec (ws := WS) B.pre
  have hown : s.vm.findClass R_L = some m.cls := findClass_of_methodNamed B.named
  have hlocks := B.notSynchronized
  have htab := vq_hasH B (hts _ k_684)
  subst hsz
  have hN := vq_ns hP
  have hD := hD0.self (sz := s.heap.size)
  generalize hAe : va_A (xo ad ca o co σ fo) s.heap.size = A at hD hN ⊢
  have hA : ∀ q : Nat, s.heap.size ≤ q → A q := fun q h => by rw [← hAe]; exact Or.inr h
  have hS : va_S A s.heap s.heap [] := va_S.rf
  have hl := lv_entry ([.ref (ad 0), .ref o]) (n := 3) (Nat.le_of_ble_eq_true rfl)
  rw [lg_entry_eq]
  generalize (lg_sl ([.ref (ad 0), .ref o]) ++ List.replicate (3 - (lg_sl ([.ref (ad 0), .ref o])).length) Slot.unset).toArray = ls at hl ⊢
  have hl : lv_has ls 3 [(0, .ref (ad 0)), (1, .ref o)] := hl
  refine lv_aload_n hx hb d_L_analyse_0 rfl (lv_at hl 1 rfl) ?_
  refine lv_iconst (v := 0) hx hb d_L_analyse_1 (by decide) ?_
  refine lv_aload_n hx hb d_L_analyse_2 rfl (lv_at hl 0 rfl) ?_
  obtain ⟨hPc, hDc⟩ := ws_sp hP hD
  have hKc := ws_kt hK
  have hFc := ws_fe hD hS hA
  refine vq_catch2 (E := "java/lang/IllegalStateException") (name := "java/lang/IllegalStateException") (vq_runT2 (As := []) (rest := [.int 0, .ref o]) ⟨hx, hb, hml, hown, hts⟩ (t_V_analyse_2 l htr dC dI ad ca N σ v h s.heap.size) (vq_cV WSk hts 0 rfl rfl ⟨by decide, by decide⟩ k_594 k_22 k_685 k_686 k_687 (by decide +kernel)) ⟨vq_blind, va_recv hKc hPc (ci := 0) (q0 := 0) rfl rfl, vq_here hst hS hN hPc hKc hDc⟩ rfl rfl hl.1 rfl (lv_room (Nat.le_of_ble_eq_true rfl)) d_L_analyse_3 ⟨by decide, by decide⟩) hS hFc hown [] ⟨0, 8, 11, 15⟩ [⟨0, 8, 14, 31⟩] htab (by intro z hz; cases hz) (by decide) (by decide) (hts _ k_672) (hts _ k_673) (fun q9 t H1 locs ht hvm hB hz1 hk1 hS => ?_)
  obtain ⟨hP1, -, hD1⟩ := hB
  rw [ht] at hP1
  obtain ⟨hP, hD⟩ := ws_jn hP hD hk1 hFc hP1 hD1
  generalize H1 = H at hP hS ⊢
  have hP : va_P (dC, dI) CL ([(o, .inl (co, 1, .inr (.inl fo)))] ++ Xw ad ca v.2) H := hP
  refine W.widen (k := 1) (n := 6) (by decide) (by decide) ?_
  refine W.eq (g2 := F0 m 11 ls [.ref q9]) rfl ?_
  refine lv_astore_n (lv' := [(2, .ref q9), (0, .ref (ad 0)), (1, .ref o)]) hx hb d_L_analyse_11 rfl hl (by decide) rfl (fun ls hl => ?_)
  refine lv_iconst (v := 1) hx hb d_L_analyse_12 (by decide) ?_
  obtain ⟨hP9, hD9⟩ := ws_pm (σ := v.2) (fo := fo) hP hD
  exact W.iret (v := 1) hx hb hr (fun t ht hW => ⟨⟨1, (), rfl, rfl, by rw [ht]; exact hP9, va_K.moved hW.alike hK, hD9⟩, hS.F ht⟩) hS.2.2 d_L_analyse_13

set_option maxHeartbeats 4000000 in
set_option maxRecDepth 100000 in
theorem w_analyse_4 (l : Launch) (htr : l.stackTraces = false) (dC : Nat → ClassId) (dI : Nat → Nat → Nat) (ad : Nat → Nat) (ca : Nat → ClassId) (o : Nat) (co : ClassId) (fo : Nat → Int64) (N : Nat) (σ : vS) (v : Int32 × vS) (h : f_V_analyse N σ = some ((4, v.1), v.2)) (sz : Nat) : Met l y_L_analyse WS ({ frames := 7, cells := 1, slots := 6, locals := 156 }) (va_Pc [.ref (ad 0), .ref o] (vq_PreN (dC, dI) CL sz (xo ad ca o co σ fo) (xot ca co))) (va_Qi (fun (r : Int32) (_ : Unit) => r = 2) (fun _ t => vq_Post (dC, dI) CL (va_A (xo ad ca o co σ fo) sz) (xo ad ca o co v.2 fo) (xot ca co) t) (va_A (xo ad ca o co σ fo) sz)) 1 6 (va_A (xo ad ca o co σ fo) sz) := by
  refine vq_ofW (cc := method_6_code) (maxL := 3) (ret := (Option.some Jvm.ClassFile.FieldType.int)) pl_L (vq_hisH k_684) ?_
  intro p e s m args below meth c s₁ B hml hv
  obtain ⟨rfl, hnc, hst, hsz, hP, hK, hD0⟩ := hv
  have hx := B.exec
  have hb := B.bytes
  have hr := B.returns
  have hts := atoms_spec (ws := WS) B.pre
  have hown : s.vm.findClass R_L = some m.cls := findClass_of_methodNamed B.named
  have hlocks := B.notSynchronized
  have htab := vq_hasH B (hts _ k_684)
  subst hsz
  have hN := vq_ns hP
  have hD := hD0.self (sz := s.heap.size)
  generalize hAe : va_A (xo ad ca o co σ fo) s.heap.size = A at hD hN ⊢
  have hA : ∀ q : Nat, s.heap.size ≤ q → A q := fun q h => by rw [← hAe]; exact Or.inr h
  have hS : va_S A s.heap s.heap [] := va_S.rf
  have hl := lv_entry ([.ref (ad 0), .ref o]) (n := 3) (Nat.le_of_ble_eq_true rfl)
  rw [lg_entry_eq]
  generalize (lg_sl ([.ref (ad 0), .ref o]) ++ List.replicate (3 - (lg_sl ([.ref (ad 0), .ref o])).length) Slot.unset).toArray = ls at hl ⊢
  have hl : lv_has ls 3 [(0, .ref (ad 0)), (1, .ref o)] := hl
  refine lv_aload_n hx hb d_L_analyse_0 rfl (lv_at hl 1 rfl) ?_
  refine lv_iconst (v := 0) hx hb d_L_analyse_1 (by decide) ?_
  refine lv_aload_n hx hb d_L_analyse_2 rfl (lv_at hl 0 rfl) ?_
  obtain ⟨hPc, hDc⟩ := ws_sp hP hD
  have hKc := ws_kt hK
  have hFc := ws_fe hD hS hA
  refine vq_catch2 (E := "java/lang/UnsupportedOperationException") (name := "java/lang/UnsupportedOperationException") (vq_runT2 (As := []) (rest := [.int 0, .ref o]) ⟨hx, hb, hml, hown, hts⟩ (t_V_analyse_4 l htr dC dI ad ca N σ v h s.heap.size) (vq_cV WSk hts 0 rfl rfl ⟨by decide, by decide⟩ k_594 k_22 k_685 k_686 k_687 (by decide +kernel)) ⟨vq_blind, va_recv hKc hPc (ci := 0) (q0 := 0) rfl rfl, vq_here hst hS hN hPc hKc hDc⟩ rfl rfl hl.1 rfl (lv_room (Nat.le_of_ble_eq_true rfl)) d_L_analyse_3 ⟨by decide, by decide⟩) hS hFc hown [⟨0, 8, 11, 15⟩] ⟨0, 8, 14, 31⟩ [] htab (by intro z hz; rw [List.mem_singleton] at hz; subst hz; exact Or.inr ⟨by decide, "java/lang/IllegalStateException", hts _ k_672, hnc ("java/lang/UnsupportedOperationException", "java/lang/IllegalStateException") (by decide)⟩) (by decide) (by decide) (hts _ k_688) (hts _ k_689) (fun q9 t H1 locs ht hvm hB hz1 hk1 hS => ?_)
  obtain ⟨hP1, -, hD1⟩ := hB
  rw [ht] at hP1
  obtain ⟨hP, hD⟩ := ws_jn hP hD hk1 hFc hP1 hD1
  generalize H1 = H at hP hS ⊢
  have hP : va_P (dC, dI) CL ([(o, .inl (co, 1, .inr (.inl fo)))] ++ Xw ad ca v.2) H := hP
  refine W.widen (k := 1) (n := 6) (by decide) (by decide) ?_
  refine W.eq (g2 := F0 m 14 ls [.ref q9]) rfl ?_
  refine lv_astore_n (lv' := [(2, .ref q9), (0, .ref (ad 0)), (1, .ref o)]) hx hb d_L_analyse_14 rfl hl (by decide) rfl (fun ls hl => ?_)
  refine lv_iconst (v := 2) hx hb d_L_analyse_15 (by decide) ?_
  obtain ⟨hP9, hD9⟩ := ws_pm (σ := v.2) (fo := fo) hP hD
  exact W.iret (v := 2) hx hb hr (fun t ht hW => ⟨⟨2, (), rfl, rfl, by rw [ht]; exact hP9, va_K.moved hW.alike hK, hD9⟩, hS.F ht⟩) hS.2.2 d_L_analyse_16

set_option maxHeartbeats 4000000 in
set_option maxRecDepth 100000 in
theorem w_visits_0 (l : Launch) (htr : l.stackTraces = false) (dC : Nat → ClassId) (dI : Nat → Nat → Nat) (ad : Nat → Nat) (ca : Nat → ClassId) (o : Nat) (co : ClassId) (fo : Nat → Int64) (N : Nat) (σ : vS) (a0 : Int32) (v : Int32 × vS) (h : f_V_visits N σ a0 = some ((0, v.1), v.2)) (sz : Nat) : Met l y_L_visits WS ({ frames := 8, cells := 0, slots := 0, locals := 123 }) (va_Pc [.ref (ad 0), .int a0, .ref o] (vq_PreN (dC, dI) CL sz (xo ad ca o co σ fo) (xot ca co))) (va_Qi (fun (r : Int32) (_ : Unit) => r = 0) (fun _ t => vq_Post (dC, dI) CL (va_A (xo ad ca o co σ fo) sz) (xo ad ca o co v.2 (vp_updL fo (0 : Int32).toNatClampNeg v.1.toInt64)) (xot ca co) t) (va_A (xo ad ca o co σ fo) sz)) 0 0 (va_A (xo ad ca o co σ fo) sz) := by
  refine vq_ofW (cc := method_7_code) (maxL := 4) (ret := (Option.some Jvm.ClassFile.FieldType.int)) pl_L (vq_hisH k_690) ?_
  intro p e s m args below meth c s₁ B hml hv
  obtain ⟨rfl, hnc, hst, hsz, hP, hK, hD0⟩ := hv
  have hx := B.exec
  have hb := B.bytes
  have hr := B.returns
  have hts := atoms_spec (ws := WS) B.pre
  have hown : s.vm.findClass R_L = some m.cls := findClass_of_methodNamed B.named
  have hlocks := B.notSynchronized
  have htab := vq_hasH B (hts _ k_690)
  subst hsz
  have hN := vq_ns hP
  have hD := hD0.self (sz := s.heap.size)
  generalize hAe : va_A (xo ad ca o co σ fo) s.heap.size = A at hD hN ⊢
  have hA : ∀ q : Nat, s.heap.size ≤ q → A q := fun q h => by rw [← hAe]; exact Or.inr h
  have hS : va_S A s.heap s.heap [] := va_S.rf
  have hl := lv_entry ([.ref (ad 0), .int a0, .ref o]) (n := 4) (Nat.le_of_ble_eq_true rfl)
  rw [lg_entry_eq]
  generalize (lg_sl ([.ref (ad 0), .int a0, .ref o]) ++ List.replicate (4 - (lg_sl ([.ref (ad 0), .int a0, .ref o])).length) Slot.unset).toArray = ls at hl ⊢
  have hl : lv_has ls 4 [(0, .ref (ad 0)), (1, .int a0), (2, .ref o)] := hl
  refine lv_aload_n hx hb d_L_visits_0 rfl (lv_at hl 2 rfl) ?_
  refine lv_iconst (v := 0) hx hb d_L_visits_1 (by decide) ?_
  refine lv_aload_n hx hb d_L_visits_2 rfl (lv_at hl 0 rfl) ?_
  refine lv_iload_n hx hb d_L_visits_3 rfl (lv_at hl 1 rfl) ?_
  obtain ⟨hPc, hDc⟩ := ws_sp hP hD
  have hKc := ws_kt hK
  have hFc := ws_fe hD hS hA
  refine va_calli (va_runV (As := [.int a0]) (rest := [.int 0, .ref o]) ⟨hx, hb, hml, hown, hts⟩ (c_V_visits l htr dC dI ad ca N σ a0 v h s.heap.size) (vq_cV WSk hts 1 rfl rfl ⟨by decide, by decide⟩ k_611 k_22 k_691 k_692 k_693 (by decide +kernel)) ⟨vq_blind, va_recv hKc hPc (ci := 0) (q0 := 0) rfl rfl, vq_here hst hS hN hPc hKc hDc⟩ rfl rfl hl.1 rfl (lv_room (Nat.le_of_ble_eq_true rfl)) d_L_visits_4 ⟨by decide, by decide⟩) hS (fun q _ h => hFc q h) hFc (fun r u t H1 locs ht hvm hw hB hz1 hk1 hS => ?_)
  have hw : r = v.1 := hw
  subst hw
  obtain ⟨hP1, -, hD1⟩ := hB
  rw [ht] at hP1
  obtain ⟨hP, hD⟩ := ws_jn hP hD hk1 hFc hP1 hD1
  generalize H1 = H at hP hS ⊢
  have hP : va_P (dC, dI) CL ([(o, .inl (co, 1, .inr (.inl fo)))] ++ Xw ad ca v.2) H := hP
  refine W.widen (k := 0) (n := 0) (by decide) (by decide) ?_
  refine lv_i2l hx hb d_L_visits_7 rfl ?_
  refine va_last (n := 1) (f := fo) hx hb hK hP hD hS 0 27 rfl rfl (show ¬ ((0 : Int32) < 0 ∨ 1 ≤ Int32.toNatClampNeg 0) by decide) d_L_visits_8 (fun H locs hP hD hS => ?_)
  refine lv_goto (tgt := 18) hx hb d_L_visits_9 (by decide) ?_
  refine lv_iconst (v := 0) hx hb d_L_visits_18 (by decide) ?_
  obtain ⟨hP9, hD9⟩ := ws_pm (σ := v.2) (fo := (vp_updL fo (0 : Int32).toNatClampNeg v.1.toInt64)) hP hD
  exact W.iret (v := 0) hx hb hr (fun t ht hW => ⟨⟨0, (), rfl, rfl, by rw [ht]; exact hP9, va_K.moved hW.alike hK, hD9⟩, hS.F ht⟩) hS.2.2 d_L_visits_19

set_option maxHeartbeats 4000000 in
set_option maxRecDepth 100000 in
theorem w_visits_2 (l : Launch) (htr : l.stackTraces = false) (dC : Nat → ClassId) (dI : Nat → Nat → Nat) (ad : Nat → Nat) (ca : Nat → ClassId) (o : Nat) (co : ClassId) (fo : Nat → Int64) (N : Nat) (σ : vS) (a0 : Int32) (v : Int32 × vS) (h : f_V_visits N σ a0 = some ((2, v.1), v.2)) (sz : Nat) : Met l y_L_visits WS ({ frames := 8, cells := 1, slots := 6, locals := 123 }) (va_Pc [.ref (ad 0), .int a0, .ref o] (vq_PreN (dC, dI) CL sz (xo ad ca o co σ fo) (xot ca co))) (va_Qi (fun (r : Int32) (_ : Unit) => r = 1) (fun _ t => vq_Post (dC, dI) CL (va_A (xo ad ca o co σ fo) sz) (xo ad ca o co v.2 fo) (xot ca co) t) (va_A (xo ad ca o co σ fo) sz)) 1 6 (va_A (xo ad ca o co σ fo) sz) := by
  refine vq_ofW (cc := method_7_code) (maxL := 4) (ret := (Option.some Jvm.ClassFile.FieldType.int)) pl_L (vq_hisH k_690) ?_
  intro p e s m args below meth c s₁ B hml hv
  obtain ⟨rfl, hnc, hst, hsz, hP, hK, hD0⟩ := hv
  have hx := B.exec
  have hb := B.bytes
  have hr := B.returns
  have hts := atoms_spec (ws := WS) B.pre
  have hown : s.vm.findClass R_L = some m.cls := findClass_of_methodNamed B.named
  have hlocks := B.notSynchronized
  have htab := vq_hasH B (hts _ k_690)
  subst hsz
  have hN := vq_ns hP
  have hD := hD0.self (sz := s.heap.size)
  generalize hAe : va_A (xo ad ca o co σ fo) s.heap.size = A at hD hN ⊢
  have hA : ∀ q : Nat, s.heap.size ≤ q → A q := fun q h => by rw [← hAe]; exact Or.inr h
  have hS : va_S A s.heap s.heap [] := va_S.rf
  have hl := lv_entry ([.ref (ad 0), .int a0, .ref o]) (n := 4) (Nat.le_of_ble_eq_true rfl)
  rw [lg_entry_eq]
  generalize (lg_sl ([.ref (ad 0), .int a0, .ref o]) ++ List.replicate (4 - (lg_sl ([.ref (ad 0), .int a0, .ref o])).length) Slot.unset).toArray = ls at hl ⊢
  have hl : lv_has ls 4 [(0, .ref (ad 0)), (1, .int a0), (2, .ref o)] := hl
  refine lv_aload_n hx hb d_L_visits_0 rfl (lv_at hl 2 rfl) ?_
  refine lv_iconst (v := 0) hx hb d_L_visits_1 (by decide) ?_
  refine lv_aload_n hx hb d_L_visits_2 rfl (lv_at hl 0 rfl) ?_
  refine lv_iload_n hx hb d_L_visits_3 rfl (lv_at hl 1 rfl) ?_
  obtain ⟨hPc, hDc⟩ := ws_sp hP hD
  have hKc := ws_kt hK
  have hFc := ws_fe hD hS hA
  refine vq_catch2 (E := "java/lang/IllegalStateException") (name := "java/lang/IllegalStateException") (vq_runT2 (As := [.int a0]) (rest := [.int 0, .ref o]) ⟨hx, hb, hml, hown, hts⟩ (t_V_visits_2 l htr dC dI ad ca N σ a0 v h s.heap.size) (vq_cV WSk hts 1 rfl rfl ⟨by decide, by decide⟩ k_611 k_22 k_691 k_692 k_693 (by decide +kernel)) ⟨vq_blind, va_recv hKc hPc (ci := 0) (q0 := 0) rfl rfl, vq_here hst hS hN hPc hKc hDc⟩ rfl rfl hl.1 rfl (lv_room (Nat.le_of_ble_eq_true rfl)) d_L_visits_4 ⟨by decide, by decide⟩) hS hFc hown [] ⟨0, 9, 12, 15⟩ [⟨0, 9, 15, 25⟩] htab (by intro z hz; cases hz) (by decide) (by decide) (hts _ k_672) (hts _ k_673) (fun q9 t H1 locs ht hvm hB hz1 hk1 hS => ?_)
  obtain ⟨hP1, -, hD1⟩ := hB
  rw [ht] at hP1
  obtain ⟨hP, hD⟩ := ws_jn hP hD hk1 hFc hP1 hD1
  generalize H1 = H at hP hS ⊢
  have hP : va_P (dC, dI) CL ([(o, .inl (co, 1, .inr (.inl fo)))] ++ Xw ad ca v.2) H := hP
  refine W.widen (k := 1) (n := 6) (by decide) (by decide) ?_
  refine W.eq (g2 := F0 m 12 ls [.ref q9]) rfl ?_
  refine lv_astore_n (lv' := [(3, .ref q9), (0, .ref (ad 0)), (1, .int a0), (2, .ref o)]) hx hb d_L_visits_12 rfl hl (by decide) rfl (fun ls hl => ?_)
  refine lv_iconst (v := 1) hx hb d_L_visits_13 (by decide) ?_
  obtain ⟨hP9, hD9⟩ := ws_pm (σ := v.2) (fo := fo) hP hD
  exact W.iret (v := 1) hx hb hr (fun t ht hW => ⟨⟨1, (), rfl, rfl, by rw [ht]; exact hP9, va_K.moved hW.alike hK, hD9⟩, hS.F ht⟩) hS.2.2 d_L_visits_14

set_option maxHeartbeats 4000000 in
set_option maxRecDepth 100000 in
theorem w_visits_3 (l : Launch) (htr : l.stackTraces = false) (dC : Nat → ClassId) (dI : Nat → Nat → Nat) (ad : Nat → Nat) (ca : Nat → ClassId) (o : Nat) (co : ClassId) (fo : Nat → Int64) (N : Nat) (σ : vS) (a0 : Int32) (v : Int32 × vS) (h : f_V_visits N σ a0 = some ((3, v.1), v.2)) (sz : Nat) : Met l y_L_visits WS ({ frames := 8, cells := 1, slots := 6, locals := 123 }) (va_Pc [.ref (ad 0), .int a0, .ref o] (vq_PreN (dC, dI) CL sz (xo ad ca o co σ fo) (xot ca co))) (va_Qi (fun (r : Int32) (_ : Unit) => r = 2) (fun _ t => vq_Post (dC, dI) CL (va_A (xo ad ca o co σ fo) sz) (xo ad ca o co v.2 fo) (xot ca co) t) (va_A (xo ad ca o co σ fo) sz)) 1 6 (va_A (xo ad ca o co σ fo) sz) := by
  refine vq_ofW (cc := method_7_code) (maxL := 4) (ret := (Option.some Jvm.ClassFile.FieldType.int)) pl_L (vq_hisH k_690) ?_
  intro p e s m args below meth c s₁ B hml hv
  obtain ⟨rfl, hnc, hst, hsz, hP, hK, hD0⟩ := hv
  have hx := B.exec
  have hb := B.bytes
  have hr := B.returns
  have hts := atoms_spec (ws := WS) B.pre
  have hown : s.vm.findClass R_L = some m.cls := findClass_of_methodNamed B.named
  have hlocks := B.notSynchronized
  have htab := vq_hasH B (hts _ k_690)
  subst hsz
  have hN := vq_ns hP
  have hD := hD0.self (sz := s.heap.size)
  generalize hAe : va_A (xo ad ca o co σ fo) s.heap.size = A at hD hN ⊢
  have hA : ∀ q : Nat, s.heap.size ≤ q → A q := fun q h => by rw [← hAe]; exact Or.inr h
  have hS : va_S A s.heap s.heap [] := va_S.rf
  have hl := lv_entry ([.ref (ad 0), .int a0, .ref o]) (n := 4) (Nat.le_of_ble_eq_true rfl)
  rw [lg_entry_eq]
  generalize (lg_sl ([.ref (ad 0), .int a0, .ref o]) ++ List.replicate (4 - (lg_sl ([.ref (ad 0), .int a0, .ref o])).length) Slot.unset).toArray = ls at hl ⊢
  have hl : lv_has ls 4 [(0, .ref (ad 0)), (1, .int a0), (2, .ref o)] := hl
  refine lv_aload_n hx hb d_L_visits_0 rfl (lv_at hl 2 rfl) ?_
  refine lv_iconst (v := 0) hx hb d_L_visits_1 (by decide) ?_
  refine lv_aload_n hx hb d_L_visits_2 rfl (lv_at hl 0 rfl) ?_
  refine lv_iload_n hx hb d_L_visits_3 rfl (lv_at hl 1 rfl) ?_
  obtain ⟨hPc, hDc⟩ := ws_sp hP hD
  have hKc := ws_kt hK
  have hFc := ws_fe hD hS hA
  refine vq_catch2 (E := "java/lang/IndexOutOfBoundsException") (name := "java/lang/IndexOutOfBoundsException") (vq_runT2 (As := [.int a0]) (rest := [.int 0, .ref o]) ⟨hx, hb, hml, hown, hts⟩ (t_V_visits_3 l htr dC dI ad ca N σ a0 v h s.heap.size) (vq_cV WSk hts 1 rfl rfl ⟨by decide, by decide⟩ k_611 k_22 k_691 k_692 k_693 (by decide +kernel)) ⟨vq_blind, va_recv hKc hPc (ci := 0) (q0 := 0) rfl rfl, vq_here hst hS hN hPc hKc hDc⟩ rfl rfl hl.1 rfl (lv_room (Nat.le_of_ble_eq_true rfl)) d_L_visits_4 ⟨by decide, by decide⟩) hS hFc hown [⟨0, 9, 12, 15⟩] ⟨0, 9, 15, 25⟩ [] htab (by intro z hz; rw [List.mem_singleton] at hz; subst hz; exact Or.inr ⟨by decide, "java/lang/IllegalStateException", hts _ k_672, hnc ("java/lang/IndexOutOfBoundsException", "java/lang/IllegalStateException") (by decide)⟩) (by decide) (by decide) (hts _ k_682) (hts _ k_683) (fun q9 t H1 locs ht hvm hB hz1 hk1 hS => ?_)
  obtain ⟨hP1, -, hD1⟩ := hB
  rw [ht] at hP1
  obtain ⟨hP, hD⟩ := ws_jn hP hD hk1 hFc hP1 hD1
  generalize H1 = H at hP hS ⊢
  have hP : va_P (dC, dI) CL ([(o, .inl (co, 1, .inr (.inl fo)))] ++ Xw ad ca v.2) H := hP
  refine W.widen (k := 1) (n := 6) (by decide) (by decide) ?_
  refine W.eq (g2 := F0 m 15 ls [.ref q9]) rfl ?_
  refine lv_astore_n (lv' := [(3, .ref q9), (0, .ref (ad 0)), (1, .int a0), (2, .ref o)]) hx hb d_L_visits_15 rfl hl (by decide) rfl (fun ls hl => ?_)
  refine lv_iconst (v := 2) hx hb d_L_visits_16 (by decide) ?_
  obtain ⟨hP9, hD9⟩ := ws_pm (σ := v.2) (fo := fo) hP hD
  exact W.iret (v := 2) hx hb hr (fun t ht hW => ⟨⟨2, (), rfl, rfl, by rw [ht]; exact hP9, va_K.moved hW.alike hK, hD9⟩, hS.F ht⟩) hS.2.2 d_L_visits_17

set_option maxHeartbeats 4000000 in
set_option maxRecDepth 100000 in
theorem w_rank_0 (l : Launch) (htr : l.stackTraces = false) (dC : Nat → ClassId) (dI : Nat → Nat → Nat) (ad : Nat → Nat) (ca : Nat → ClassId) (o : Nat) (co : ClassId) (fo : Nat → Int64) (N : Nat) (σ : vS) (a0 : Int32) (a1 : Int32) (v : Int32 × vS) (h : f_V_rank N σ a0 a1 = some ((0, v.1), v.2)) (sz : Nat) : Met l y_L_rank WS ({ frames := 8, cells := 0, slots := 0, locals := 124 }) (va_Pc [.ref (ad 0), .int a0, .int a1, .ref o] (vq_PreN (dC, dI) CL sz (xo ad ca o co σ fo) (xot ca co))) (va_Qi (fun (r : Int32) (_ : Unit) => r = 0) (fun _ t => vq_Post (dC, dI) CL (va_A (xo ad ca o co σ fo) sz) (xo ad ca o co v.2 (vp_updL fo (0 : Int32).toNatClampNeg v.1.toInt64)) (xot ca co) t) (va_A (xo ad ca o co σ fo) sz)) 0 0 (va_A (xo ad ca o co σ fo) sz) := by
  refine vq_ofW (cc := method_8_code) (maxL := 5) (ret := (Option.some Jvm.ClassFile.FieldType.int)) pl_L (vq_hisH k_694) ?_
  intro p e s m args below meth c s₁ B hml hv
  obtain ⟨rfl, hnc, hst, hsz, hP, hK, hD0⟩ := hv
  have hx := B.exec
  have hb := B.bytes
  have hr := B.returns
  have hts := atoms_spec (ws := WS) B.pre
  have hown : s.vm.findClass R_L = some m.cls := findClass_of_methodNamed B.named
  have hlocks := B.notSynchronized
  have htab := vq_hasH B (hts _ k_694)
  subst hsz
  have hN := vq_ns hP
  have hD := hD0.self (sz := s.heap.size)
  generalize hAe : va_A (xo ad ca o co σ fo) s.heap.size = A at hD hN ⊢
  have hA : ∀ q : Nat, s.heap.size ≤ q → A q := fun q h => by rw [← hAe]; exact Or.inr h
  have hS : va_S A s.heap s.heap [] := va_S.rf
  have hl := lv_entry ([.ref (ad 0), .int a0, .int a1, .ref o]) (n := 5) (Nat.le_of_ble_eq_true rfl)
  rw [lg_entry_eq]
  generalize (lg_sl ([.ref (ad 0), .int a0, .int a1, .ref o]) ++ List.replicate (5 - (lg_sl ([.ref (ad 0), .int a0, .int a1, .ref o])).length) Slot.unset).toArray = ls at hl ⊢
  have hl : lv_has ls 5 [(0, .ref (ad 0)), (1, .int a0), (2, .int a1), (3, .ref o)] := hl
  refine lv_aload_n hx hb d_L_rank_0 rfl (lv_at hl 3 rfl) ?_
  refine lv_iconst (v := 0) hx hb d_L_rank_1 (by decide) ?_
  refine lv_aload_n hx hb d_L_rank_2 rfl (lv_at hl 0 rfl) ?_
  refine lv_iload_n hx hb d_L_rank_3 rfl (lv_at hl 1 rfl) ?_
  refine lv_iload_n hx hb d_L_rank_4 rfl (lv_at hl 2 rfl) ?_
  obtain ⟨hPc, hDc⟩ := ws_sp hP hD
  have hKc := ws_kt hK
  have hFc := ws_fe hD hS hA
  refine va_calli (va_runV (As := [.int a0, .int a1]) (rest := [.int 0, .ref o]) ⟨hx, hb, hml, hown, hts⟩ (c_V_rank l htr dC dI ad ca N σ a0 a1 v h s.heap.size) (vq_cV WSk hts 2 rfl rfl ⟨by decide, by decide⟩ k_618 k_22 k_695 k_696 k_697 (by decide +kernel)) ⟨vq_blind, va_recv hKc hPc (ci := 0) (q0 := 0) rfl rfl, vq_here hst hS hN hPc hKc hDc⟩ rfl rfl hl.1 rfl (lv_room (Nat.le_of_ble_eq_true rfl)) d_L_rank_5 ⟨by decide, by decide⟩) hS (fun q _ h => hFc q h) hFc (fun r u t H1 locs ht hvm hw hB hz1 hk1 hS => ?_)
  have hw : r = v.1 := hw
  subst hw
  obtain ⟨hP1, -, hD1⟩ := hB
  rw [ht] at hP1
  obtain ⟨hP, hD⟩ := ws_jn hP hD hk1 hFc hP1 hD1
  generalize H1 = H at hP hS ⊢
  have hP : va_P (dC, dI) CL ([(o, .inl (co, 1, .inr (.inl fo)))] ++ Xw ad ca v.2) H := hP
  refine W.widen (k := 0) (n := 0) (by decide) (by decide) ?_
  refine lv_i2l hx hb d_L_rank_8 rfl ?_
  refine va_last (n := 1) (f := fo) hx hb hK hP hD hS 0 27 rfl rfl (show ¬ ((0 : Int32) < 0 ∨ 1 ≤ Int32.toNatClampNeg 0) by decide) d_L_rank_9 (fun H locs hP hD hS => ?_)
  refine lv_goto (tgt := 21) hx hb d_L_rank_10 (by decide) ?_
  refine lv_iconst (v := 0) hx hb d_L_rank_21 (by decide) ?_
  obtain ⟨hP9, hD9⟩ := ws_pm (σ := v.2) (fo := (vp_updL fo (0 : Int32).toNatClampNeg v.1.toInt64)) hP hD
  exact W.iret (v := 0) hx hb hr (fun t ht hW => ⟨⟨0, (), rfl, rfl, by rw [ht]; exact hP9, va_K.moved hW.alike hK, hD9⟩, hS.F ht⟩) hS.2.2 d_L_rank_22

set_option maxHeartbeats 4000000 in
set_option maxRecDepth 100000 in
theorem w_rank_2 (l : Launch) (htr : l.stackTraces = false) (dC : Nat → ClassId) (dI : Nat → Nat → Nat) (ad : Nat → Nat) (ca : Nat → ClassId) (o : Nat) (co : ClassId) (fo : Nat → Int64) (N : Nat) (σ : vS) (a0 : Int32) (a1 : Int32) (v : Int32 × vS) (h : f_V_rank N σ a0 a1 = some ((2, v.1), v.2)) (sz : Nat) : Met l y_L_rank WS ({ frames := 8, cells := 1, slots := 6, locals := 124 }) (va_Pc [.ref (ad 0), .int a0, .int a1, .ref o] (vq_PreN (dC, dI) CL sz (xo ad ca o co σ fo) (xot ca co))) (va_Qi (fun (r : Int32) (_ : Unit) => r = 1) (fun _ t => vq_Post (dC, dI) CL (va_A (xo ad ca o co σ fo) sz) (xo ad ca o co v.2 fo) (xot ca co) t) (va_A (xo ad ca o co σ fo) sz)) 1 6 (va_A (xo ad ca o co σ fo) sz) := by
  refine vq_ofW (cc := method_8_code) (maxL := 5) (ret := (Option.some Jvm.ClassFile.FieldType.int)) pl_L (vq_hisH k_694) ?_
  intro p e s m args below meth c s₁ B hml hv
  obtain ⟨rfl, hnc, hst, hsz, hP, hK, hD0⟩ := hv
  have hx := B.exec
  have hb := B.bytes
  have hr := B.returns
  have hts := atoms_spec (ws := WS) B.pre
  have hown : s.vm.findClass R_L = some m.cls := findClass_of_methodNamed B.named
  have hlocks := B.notSynchronized
  have htab := vq_hasH B (hts _ k_694)
  subst hsz
  have hN := vq_ns hP
  have hD := hD0.self (sz := s.heap.size)
  generalize hAe : va_A (xo ad ca o co σ fo) s.heap.size = A at hD hN ⊢
  have hA : ∀ q : Nat, s.heap.size ≤ q → A q := fun q h => by rw [← hAe]; exact Or.inr h
  have hS : va_S A s.heap s.heap [] := va_S.rf
  have hl := lv_entry ([.ref (ad 0), .int a0, .int a1, .ref o]) (n := 5) (Nat.le_of_ble_eq_true rfl)
  rw [lg_entry_eq]
  generalize (lg_sl ([.ref (ad 0), .int a0, .int a1, .ref o]) ++ List.replicate (5 - (lg_sl ([.ref (ad 0), .int a0, .int a1, .ref o])).length) Slot.unset).toArray = ls at hl ⊢
  have hl : lv_has ls 5 [(0, .ref (ad 0)), (1, .int a0), (2, .int a1), (3, .ref o)] := hl
  refine lv_aload_n hx hb d_L_rank_0 rfl (lv_at hl 3 rfl) ?_
  refine lv_iconst (v := 0) hx hb d_L_rank_1 (by decide) ?_
  refine lv_aload_n hx hb d_L_rank_2 rfl (lv_at hl 0 rfl) ?_
  refine lv_iload_n hx hb d_L_rank_3 rfl (lv_at hl 1 rfl) ?_
  refine lv_iload_n hx hb d_L_rank_4 rfl (lv_at hl 2 rfl) ?_
  obtain ⟨hPc, hDc⟩ := ws_sp hP hD
  have hKc := ws_kt hK
  have hFc := ws_fe hD hS hA
  refine vq_catch2 (E := "java/lang/IllegalStateException") (name := "java/lang/IllegalStateException") (vq_runT2 (As := [.int a0, .int a1]) (rest := [.int 0, .ref o]) ⟨hx, hb, hml, hown, hts⟩ (t_V_rank_2 l htr dC dI ad ca N σ a0 a1 v h s.heap.size) (vq_cV WSk hts 2 rfl rfl ⟨by decide, by decide⟩ k_618 k_22 k_695 k_696 k_697 (by decide +kernel)) ⟨vq_blind, va_recv hKc hPc (ci := 0) (q0 := 0) rfl rfl, vq_here hst hS hN hPc hKc hDc⟩ rfl rfl hl.1 rfl (lv_room (Nat.le_of_ble_eq_true rfl)) d_L_rank_5 ⟨by decide, by decide⟩) hS hFc hown [] ⟨0, 10, 13, 15⟩ [⟨0, 10, 17, 25⟩] htab (by intro z hz; cases hz) (by decide) (by decide) (hts _ k_672) (hts _ k_673) (fun q9 t H1 locs ht hvm hB hz1 hk1 hS => ?_)
  obtain ⟨hP1, -, hD1⟩ := hB
  rw [ht] at hP1
  obtain ⟨hP, hD⟩ := ws_jn hP hD hk1 hFc hP1 hD1
  generalize H1 = H at hP hS ⊢
  have hP : va_P (dC, dI) CL ([(o, .inl (co, 1, .inr (.inl fo)))] ++ Xw ad ca v.2) H := hP
  refine W.widen (k := 1) (n := 6) (by decide) (by decide) ?_
  refine W.eq (g2 := F0 m 13 ls [.ref q9]) rfl ?_
  refine lv_astore (lv' := [(4, .ref q9), (0, .ref (ad 0)), (1, .int a0), (2, .int a1), (3, .ref o)]) hx hb d_L_rank_13 hl (by decide) rfl (fun ls hl => ?_)
  refine lv_iconst (v := 1) hx hb d_L_rank_15 (by decide) ?_
  obtain ⟨hP9, hD9⟩ := ws_pm (σ := v.2) (fo := fo) hP hD
  exact W.iret (v := 1) hx hb hr (fun t ht hW => ⟨⟨1, (), rfl, rfl, by rw [ht]; exact hP9, va_K.moved hW.alike hK, hD9⟩, hS.F ht⟩) hS.2.2 d_L_rank_16

set_option maxHeartbeats 4000000 in
set_option maxRecDepth 100000 in
theorem w_rank_3 (l : Launch) (htr : l.stackTraces = false) (dC : Nat → ClassId) (dI : Nat → Nat → Nat) (ad : Nat → Nat) (ca : Nat → ClassId) (o : Nat) (co : ClassId) (fo : Nat → Int64) (N : Nat) (σ : vS) (a0 : Int32) (a1 : Int32) (v : Int32 × vS) (h : f_V_rank N σ a0 a1 = some ((3, v.1), v.2)) (sz : Nat) : Met l y_L_rank WS ({ frames := 8, cells := 1, slots := 6, locals := 124 }) (va_Pc [.ref (ad 0), .int a0, .int a1, .ref o] (vq_PreN (dC, dI) CL sz (xo ad ca o co σ fo) (xot ca co))) (va_Qi (fun (r : Int32) (_ : Unit) => r = 2) (fun _ t => vq_Post (dC, dI) CL (va_A (xo ad ca o co σ fo) sz) (xo ad ca o co v.2 fo) (xot ca co) t) (va_A (xo ad ca o co σ fo) sz)) 1 6 (va_A (xo ad ca o co σ fo) sz) := by
  refine vq_ofW (cc := method_8_code) (maxL := 5) (ret := (Option.some Jvm.ClassFile.FieldType.int)) pl_L (vq_hisH k_694) ?_
  intro p e s m args below meth c s₁ B hml hv
  obtain ⟨rfl, hnc, hst, hsz, hP, hK, hD0⟩ := hv
  have hx := B.exec
  have hb := B.bytes
  have hr := B.returns
  have hts := atoms_spec (ws := WS) B.pre
  have hown : s.vm.findClass R_L = some m.cls := findClass_of_methodNamed B.named
  have hlocks := B.notSynchronized
  have htab := vq_hasH B (hts _ k_694)
  subst hsz
  have hN := vq_ns hP
  have hD := hD0.self (sz := s.heap.size)
  generalize hAe : va_A (xo ad ca o co σ fo) s.heap.size = A at hD hN ⊢
  have hA : ∀ q : Nat, s.heap.size ≤ q → A q := fun q h => by rw [← hAe]; exact Or.inr h
  have hS : va_S A s.heap s.heap [] := va_S.rf
  have hl := lv_entry ([.ref (ad 0), .int a0, .int a1, .ref o]) (n := 5) (Nat.le_of_ble_eq_true rfl)
  rw [lg_entry_eq]
  generalize (lg_sl ([.ref (ad 0), .int a0, .int a1, .ref o]) ++ List.replicate (5 - (lg_sl ([.ref (ad 0), .int a0, .int a1, .ref o])).length) Slot.unset).toArray = ls at hl ⊢
  have hl : lv_has ls 5 [(0, .ref (ad 0)), (1, .int a0), (2, .int a1), (3, .ref o)] := hl
  refine lv_aload_n hx hb d_L_rank_0 rfl (lv_at hl 3 rfl) ?_
  refine lv_iconst (v := 0) hx hb d_L_rank_1 (by decide) ?_
  refine lv_aload_n hx hb d_L_rank_2 rfl (lv_at hl 0 rfl) ?_
  refine lv_iload_n hx hb d_L_rank_3 rfl (lv_at hl 1 rfl) ?_
  refine lv_iload_n hx hb d_L_rank_4 rfl (lv_at hl 2 rfl) ?_
  obtain ⟨hPc, hDc⟩ := ws_sp hP hD
  have hKc := ws_kt hK
  have hFc := ws_fe hD hS hA
  refine vq_catch2 (E := "java/lang/IndexOutOfBoundsException") (name := "java/lang/IndexOutOfBoundsException") (vq_runT2 (As := [.int a0, .int a1]) (rest := [.int 0, .ref o]) ⟨hx, hb, hml, hown, hts⟩ (t_V_rank_3 l htr dC dI ad ca N σ a0 a1 v h s.heap.size) (vq_cV WSk hts 2 rfl rfl ⟨by decide, by decide⟩ k_618 k_22 k_695 k_696 k_697 (by decide +kernel)) ⟨vq_blind, va_recv hKc hPc (ci := 0) (q0 := 0) rfl rfl, vq_here hst hS hN hPc hKc hDc⟩ rfl rfl hl.1 rfl (lv_room (Nat.le_of_ble_eq_true rfl)) d_L_rank_5 ⟨by decide, by decide⟩) hS hFc hown [⟨0, 10, 13, 15⟩] ⟨0, 10, 17, 25⟩ [] htab (by intro z hz; rw [List.mem_singleton] at hz; subst hz; exact Or.inr ⟨by decide, "java/lang/IllegalStateException", hts _ k_672, hnc ("java/lang/IndexOutOfBoundsException", "java/lang/IllegalStateException") (by decide)⟩) (by decide) (by decide) (hts _ k_682) (hts _ k_683) (fun q9 t H1 locs ht hvm hB hz1 hk1 hS => ?_)
  obtain ⟨hP1, -, hD1⟩ := hB
  rw [ht] at hP1
  obtain ⟨hP, hD⟩ := ws_jn hP hD hk1 hFc hP1 hD1
  generalize H1 = H at hP hS ⊢
  have hP : va_P (dC, dI) CL ([(o, .inl (co, 1, .inr (.inl fo)))] ++ Xw ad ca v.2) H := hP
  refine W.widen (k := 1) (n := 6) (by decide) (by decide) ?_
  refine W.eq (g2 := F0 m 17 ls [.ref q9]) rfl ?_
  refine lv_astore (lv' := [(4, .ref q9), (0, .ref (ad 0)), (1, .int a0), (2, .int a1), (3, .ref o)]) hx hb d_L_rank_17 hl (by decide) rfl (fun ls hl => ?_)
  refine lv_iconst (v := 2) hx hb d_L_rank_19 (by decide) ?_
  obtain ⟨hP9, hD9⟩ := ws_pm (σ := v.2) (fo := fo) hP hD
  exact W.iret (v := 2) hx hb hr (fun t ht hW => ⟨⟨2, (), rfl, rfl, by rw [ht]; exact hP9, va_K.moved hW.alike hK, hD9⟩, hS.F ht⟩) hS.2.2 d_L_rank_20

set_option maxHeartbeats 4000000 in
set_option maxRecDepth 100000 in
theorem w_instruction_0 (l : Launch) (htr : l.stackTraces = false) (dC : Nat → ClassId) (dI : Nat → Nat → Nat) (ad : Nat → Nat) (ca : Nat → ClassId) (o : Nat) (co : ClassId) (fo : Nat → Int64) (N : Nat) (σ : vS) (a0 : Int32) (a1 : Int32) (v : Int32 × vS) (h : f_V_instruction N σ a0 a1 = some ((0, v.1), v.2)) (sz : Nat) : Met l y_L_instruction WS ({ frames := 8, cells := 0, slots := 0, locals := 124 }) (va_Pc [.ref (ad 0), .int a0, .int a1, .ref o] (vq_PreN (dC, dI) CL sz (xo ad ca o co σ fo) (xot ca co))) (va_Qi (fun (r : Int32) (_ : Unit) => r = 0) (fun _ t => vq_Post (dC, dI) CL (va_A (xo ad ca o co σ fo) sz) (xo ad ca o co v.2 (vp_updL fo (0 : Int32).toNatClampNeg v.1.toInt64)) (xot ca co) t) (va_A (xo ad ca o co σ fo) sz)) 0 0 (va_A (xo ad ca o co σ fo) sz) := by
  refine vq_ofW (cc := method_9_code) (maxL := 5) (ret := (Option.some Jvm.ClassFile.FieldType.int)) pl_L (vq_hisH k_698) ?_
  intro p e s m args below meth c s₁ B hml hv
  obtain ⟨rfl, hnc, hst, hsz, hP, hK, hD0⟩ := hv
  have hx := B.exec
  have hb := B.bytes
  have hr := B.returns
  have hts := atoms_spec (ws := WS) B.pre
  have hown : s.vm.findClass R_L = some m.cls := findClass_of_methodNamed B.named
  have hlocks := B.notSynchronized
  have htab := vq_hasH B (hts _ k_698)
  subst hsz
  have hN := vq_ns hP
  have hD := hD0.self (sz := s.heap.size)
  generalize hAe : va_A (xo ad ca o co σ fo) s.heap.size = A at hD hN ⊢
  have hA : ∀ q : Nat, s.heap.size ≤ q → A q := fun q h => by rw [← hAe]; exact Or.inr h
  have hS : va_S A s.heap s.heap [] := va_S.rf
  have hl := lv_entry ([.ref (ad 0), .int a0, .int a1, .ref o]) (n := 5) (Nat.le_of_ble_eq_true rfl)
  rw [lg_entry_eq]
  generalize (lg_sl ([.ref (ad 0), .int a0, .int a1, .ref o]) ++ List.replicate (5 - (lg_sl ([.ref (ad 0), .int a0, .int a1, .ref o])).length) Slot.unset).toArray = ls at hl ⊢
  have hl : lv_has ls 5 [(0, .ref (ad 0)), (1, .int a0), (2, .int a1), (3, .ref o)] := hl
  refine lv_aload_n hx hb d_L_instruction_0 rfl (lv_at hl 3 rfl) ?_
  refine lv_iconst (v := 0) hx hb d_L_instruction_1 (by decide) ?_
  refine lv_aload_n hx hb d_L_instruction_2 rfl (lv_at hl 0 rfl) ?_
  refine lv_iload_n hx hb d_L_instruction_3 rfl (lv_at hl 1 rfl) ?_
  refine lv_iload_n hx hb d_L_instruction_4 rfl (lv_at hl 2 rfl) ?_
  obtain ⟨hPc, hDc⟩ := ws_sp hP hD
  have hKc := ws_kt hK
  have hFc := ws_fe hD hS hA
  refine va_calli (va_runV (As := [.int a0, .int a1]) (rest := [.int 0, .ref o]) ⟨hx, hb, hml, hown, hts⟩ (c_V_instruction l htr dC dI ad ca N σ a0 a1 v h s.heap.size) (vq_cV WSk hts 2 rfl rfl ⟨by decide, by decide⟩ k_621 k_22 k_699 k_700 k_701 (by decide +kernel)) ⟨vq_blind, va_recv hKc hPc (ci := 0) (q0 := 0) rfl rfl, vq_here hst hS hN hPc hKc hDc⟩ rfl rfl hl.1 rfl (lv_room (Nat.le_of_ble_eq_true rfl)) d_L_instruction_5 ⟨by decide, by decide⟩) hS (fun q _ h => hFc q h) hFc (fun r u t H1 locs ht hvm hw hB hz1 hk1 hS => ?_)
  have hw : r = v.1 := hw
  subst hw
  obtain ⟨hP1, -, hD1⟩ := hB
  rw [ht] at hP1
  obtain ⟨hP, hD⟩ := ws_jn hP hD hk1 hFc hP1 hD1
  generalize H1 = H at hP hS ⊢
  have hP : va_P (dC, dI) CL ([(o, .inl (co, 1, .inr (.inl fo)))] ++ Xw ad ca v.2) H := hP
  refine W.widen (k := 0) (n := 0) (by decide) (by decide) ?_
  refine lv_i2l hx hb d_L_instruction_8 rfl ?_
  refine va_last (n := 1) (f := fo) hx hb hK hP hD hS 0 27 rfl rfl (show ¬ ((0 : Int32) < 0 ∨ 1 ≤ Int32.toNatClampNeg 0) by decide) d_L_instruction_9 (fun H locs hP hD hS => ?_)
  refine lv_goto (tgt := 21) hx hb d_L_instruction_10 (by decide) ?_
  refine lv_iconst (v := 0) hx hb d_L_instruction_21 (by decide) ?_
  obtain ⟨hP9, hD9⟩ := ws_pm (σ := v.2) (fo := (vp_updL fo (0 : Int32).toNatClampNeg v.1.toInt64)) hP hD
  exact W.iret (v := 0) hx hb hr (fun t ht hW => ⟨⟨0, (), rfl, rfl, by rw [ht]; exact hP9, va_K.moved hW.alike hK, hD9⟩, hS.F ht⟩) hS.2.2 d_L_instruction_22

set_option maxHeartbeats 4000000 in
set_option maxRecDepth 100000 in
theorem w_instruction_2 (l : Launch) (htr : l.stackTraces = false) (dC : Nat → ClassId) (dI : Nat → Nat → Nat) (ad : Nat → Nat) (ca : Nat → ClassId) (o : Nat) (co : ClassId) (fo : Nat → Int64) (N : Nat) (σ : vS) (a0 : Int32) (a1 : Int32) (v : Int32 × vS) (h : f_V_instruction N σ a0 a1 = some ((2, v.1), v.2)) (sz : Nat) : Met l y_L_instruction WS ({ frames := 8, cells := 1, slots := 6, locals := 124 }) (va_Pc [.ref (ad 0), .int a0, .int a1, .ref o] (vq_PreN (dC, dI) CL sz (xo ad ca o co σ fo) (xot ca co))) (va_Qi (fun (r : Int32) (_ : Unit) => r = 1) (fun _ t => vq_Post (dC, dI) CL (va_A (xo ad ca o co σ fo) sz) (xo ad ca o co v.2 fo) (xot ca co) t) (va_A (xo ad ca o co σ fo) sz)) 1 6 (va_A (xo ad ca o co σ fo) sz) := by
  refine vq_ofW (cc := method_9_code) (maxL := 5) (ret := (Option.some Jvm.ClassFile.FieldType.int)) pl_L (vq_hisH k_698) ?_
  intro p e s m args below meth c s₁ B hml hv
  obtain ⟨rfl, hnc, hst, hsz, hP, hK, hD0⟩ := hv
  have hx := B.exec
  have hb := B.bytes
  have hr := B.returns
  have hts := atoms_spec (ws := WS) B.pre
  have hown : s.vm.findClass R_L = some m.cls := findClass_of_methodNamed B.named
  have hlocks := B.notSynchronized
  have htab := vq_hasH B (hts _ k_698)
  subst hsz
  have hN := vq_ns hP
  have hD := hD0.self (sz := s.heap.size)
  generalize hAe : va_A (xo ad ca o co σ fo) s.heap.size = A at hD hN ⊢
  have hA : ∀ q : Nat, s.heap.size ≤ q → A q := fun q h => by rw [← hAe]; exact Or.inr h
  have hS : va_S A s.heap s.heap [] := va_S.rf
  have hl := lv_entry ([.ref (ad 0), .int a0, .int a1, .ref o]) (n := 5) (Nat.le_of_ble_eq_true rfl)
  rw [lg_entry_eq]
  generalize (lg_sl ([.ref (ad 0), .int a0, .int a1, .ref o]) ++ List.replicate (5 - (lg_sl ([.ref (ad 0), .int a0, .int a1, .ref o])).length) Slot.unset).toArray = ls at hl ⊢
  have hl : lv_has ls 5 [(0, .ref (ad 0)), (1, .int a0), (2, .int a1), (3, .ref o)] := hl
  refine lv_aload_n hx hb d_L_instruction_0 rfl (lv_at hl 3 rfl) ?_
  refine lv_iconst (v := 0) hx hb d_L_instruction_1 (by decide) ?_
  refine lv_aload_n hx hb d_L_instruction_2 rfl (lv_at hl 0 rfl) ?_
  refine lv_iload_n hx hb d_L_instruction_3 rfl (lv_at hl 1 rfl) ?_
  refine lv_iload_n hx hb d_L_instruction_4 rfl (lv_at hl 2 rfl) ?_
  obtain ⟨hPc, hDc⟩ := ws_sp hP hD
  have hKc := ws_kt hK
  have hFc := ws_fe hD hS hA
  refine vq_catch2 (E := "java/lang/IllegalStateException") (name := "java/lang/IllegalStateException") (vq_runT2 (As := [.int a0, .int a1]) (rest := [.int 0, .ref o]) ⟨hx, hb, hml, hown, hts⟩ (t_V_instruction_2 l htr dC dI ad ca N σ a0 a1 v h s.heap.size) (vq_cV WSk hts 2 rfl rfl ⟨by decide, by decide⟩ k_621 k_22 k_699 k_700 k_701 (by decide +kernel)) ⟨vq_blind, va_recv hKc hPc (ci := 0) (q0 := 0) rfl rfl, vq_here hst hS hN hPc hKc hDc⟩ rfl rfl hl.1 rfl (lv_room (Nat.le_of_ble_eq_true rfl)) d_L_instruction_5 ⟨by decide, by decide⟩) hS hFc hown [] ⟨0, 10, 13, 15⟩ [⟨0, 10, 17, 25⟩] htab (by intro z hz; cases hz) (by decide) (by decide) (hts _ k_672) (hts _ k_673) (fun q9 t H1 locs ht hvm hB hz1 hk1 hS => ?_)
  obtain ⟨hP1, -, hD1⟩ := hB
  rw [ht] at hP1
  obtain ⟨hP, hD⟩ := ws_jn hP hD hk1 hFc hP1 hD1
  generalize H1 = H at hP hS ⊢
  have hP : va_P (dC, dI) CL ([(o, .inl (co, 1, .inr (.inl fo)))] ++ Xw ad ca v.2) H := hP
  refine W.widen (k := 1) (n := 6) (by decide) (by decide) ?_
  refine W.eq (g2 := F0 m 13 ls [.ref q9]) rfl ?_
  refine lv_astore (lv' := [(4, .ref q9), (0, .ref (ad 0)), (1, .int a0), (2, .int a1), (3, .ref o)]) hx hb d_L_instruction_13 hl (by decide) rfl (fun ls hl => ?_)
  refine lv_iconst (v := 1) hx hb d_L_instruction_15 (by decide) ?_
  obtain ⟨hP9, hD9⟩ := ws_pm (σ := v.2) (fo := fo) hP hD
  exact W.iret (v := 1) hx hb hr (fun t ht hW => ⟨⟨1, (), rfl, rfl, by rw [ht]; exact hP9, va_K.moved hW.alike hK, hD9⟩, hS.F ht⟩) hS.2.2 d_L_instruction_16

set_option maxHeartbeats 4000000 in
set_option maxRecDepth 100000 in
theorem w_instruction_3 (l : Launch) (htr : l.stackTraces = false) (dC : Nat → ClassId) (dI : Nat → Nat → Nat) (ad : Nat → Nat) (ca : Nat → ClassId) (o : Nat) (co : ClassId) (fo : Nat → Int64) (N : Nat) (σ : vS) (a0 : Int32) (a1 : Int32) (v : Int32 × vS) (h : f_V_instruction N σ a0 a1 = some ((3, v.1), v.2)) (sz : Nat) : Met l y_L_instruction WS ({ frames := 8, cells := 1, slots := 6, locals := 124 }) (va_Pc [.ref (ad 0), .int a0, .int a1, .ref o] (vq_PreN (dC, dI) CL sz (xo ad ca o co σ fo) (xot ca co))) (va_Qi (fun (r : Int32) (_ : Unit) => r = 2) (fun _ t => vq_Post (dC, dI) CL (va_A (xo ad ca o co σ fo) sz) (xo ad ca o co v.2 fo) (xot ca co) t) (va_A (xo ad ca o co σ fo) sz)) 1 6 (va_A (xo ad ca o co σ fo) sz) := by
  refine vq_ofW (cc := method_9_code) (maxL := 5) (ret := (Option.some Jvm.ClassFile.FieldType.int)) pl_L (vq_hisH k_698) ?_
  intro p e s m args below meth c s₁ B hml hv
  obtain ⟨rfl, hnc, hst, hsz, hP, hK, hD0⟩ := hv
  have hx := B.exec
  have hb := B.bytes
  have hr := B.returns
  have hts := atoms_spec (ws := WS) B.pre
  have hown : s.vm.findClass R_L = some m.cls := findClass_of_methodNamed B.named
  have hlocks := B.notSynchronized
  have htab := vq_hasH B (hts _ k_698)
  subst hsz
  have hN := vq_ns hP
  have hD := hD0.self (sz := s.heap.size)
  generalize hAe : va_A (xo ad ca o co σ fo) s.heap.size = A at hD hN ⊢
  have hA : ∀ q : Nat, s.heap.size ≤ q → A q := fun q h => by rw [← hAe]; exact Or.inr h
  have hS : va_S A s.heap s.heap [] := va_S.rf
  have hl := lv_entry ([.ref (ad 0), .int a0, .int a1, .ref o]) (n := 5) (Nat.le_of_ble_eq_true rfl)
  rw [lg_entry_eq]
  generalize (lg_sl ([.ref (ad 0), .int a0, .int a1, .ref o]) ++ List.replicate (5 - (lg_sl ([.ref (ad 0), .int a0, .int a1, .ref o])).length) Slot.unset).toArray = ls at hl ⊢
  have hl : lv_has ls 5 [(0, .ref (ad 0)), (1, .int a0), (2, .int a1), (3, .ref o)] := hl
  refine lv_aload_n hx hb d_L_instruction_0 rfl (lv_at hl 3 rfl) ?_
  refine lv_iconst (v := 0) hx hb d_L_instruction_1 (by decide) ?_
  refine lv_aload_n hx hb d_L_instruction_2 rfl (lv_at hl 0 rfl) ?_
  refine lv_iload_n hx hb d_L_instruction_3 rfl (lv_at hl 1 rfl) ?_
  refine lv_iload_n hx hb d_L_instruction_4 rfl (lv_at hl 2 rfl) ?_
  obtain ⟨hPc, hDc⟩ := ws_sp hP hD
  have hKc := ws_kt hK
  have hFc := ws_fe hD hS hA
  refine vq_catch2 (E := "java/lang/IndexOutOfBoundsException") (name := "java/lang/IndexOutOfBoundsException") (vq_runT2 (As := [.int a0, .int a1]) (rest := [.int 0, .ref o]) ⟨hx, hb, hml, hown, hts⟩ (t_V_instruction_3 l htr dC dI ad ca N σ a0 a1 v h s.heap.size) (vq_cV WSk hts 2 rfl rfl ⟨by decide, by decide⟩ k_621 k_22 k_699 k_700 k_701 (by decide +kernel)) ⟨vq_blind, va_recv hKc hPc (ci := 0) (q0 := 0) rfl rfl, vq_here hst hS hN hPc hKc hDc⟩ rfl rfl hl.1 rfl (lv_room (Nat.le_of_ble_eq_true rfl)) d_L_instruction_5 ⟨by decide, by decide⟩) hS hFc hown [⟨0, 10, 13, 15⟩] ⟨0, 10, 17, 25⟩ [] htab (by intro z hz; rw [List.mem_singleton] at hz; subst hz; exact Or.inr ⟨by decide, "java/lang/IllegalStateException", hts _ k_672, hnc ("java/lang/IndexOutOfBoundsException", "java/lang/IllegalStateException") (by decide)⟩) (by decide) (by decide) (hts _ k_682) (hts _ k_683) (fun q9 t H1 locs ht hvm hB hz1 hk1 hS => ?_)
  obtain ⟨hP1, -, hD1⟩ := hB
  rw [ht] at hP1
  obtain ⟨hP, hD⟩ := ws_jn hP hD hk1 hFc hP1 hD1
  generalize H1 = H at hP hS ⊢
  have hP : va_P (dC, dI) CL ([(o, .inl (co, 1, .inr (.inl fo)))] ++ Xw ad ca v.2) H := hP
  refine W.widen (k := 1) (n := 6) (by decide) (by decide) ?_
  refine W.eq (g2 := F0 m 17 ls [.ref q9]) rfl ?_
  refine lv_astore (lv' := [(4, .ref q9), (0, .ref (ad 0)), (1, .int a0), (2, .int a1), (3, .ref o)]) hx hb d_L_instruction_17 hl (by decide) rfl (fun ls hl => ?_)
  refine lv_iconst (v := 2) hx hb d_L_instruction_19 (by decide) ?_
  obtain ⟨hP9, hD9⟩ := ws_pm (σ := v.2) (fo := fo) hP hD
  exact W.iret (v := 2) hx hb hr (fun t ht hW => ⟨⟨2, (), rfl, rfl, by rw [ht]; exact hP9, va_K.moved hW.alike hK, hD9⟩, hS.F ht⟩) hS.2.2 d_L_instruction_20

set_option maxHeartbeats 4000000 in
set_option maxRecDepth 100000 in
theorem w_node_0 (l : Launch) (htr : l.stackTraces = false) (dC : Nat → ClassId) (dI : Nat → Nat → Nat) (ad : Nat → Nat) (ca : Nat → ClassId) (o : Nat) (co : ClassId) (fo : Nat → Int64) (N : Nat) (σ : vS) (a0 : Int32) (a1 : Int32) (a2 : Int32) (a3 : Int32) (a4 : Int32) (v : Int32 × vS) (h : f_V_node N σ a0 a1 a2 a3 a4 = some ((0, v.1), v.2)) (sz : Nat) : Met l y_L_node WS ({ frames := 7, cells := 0, slots := 0, locals := 115 }) (va_Pc [.ref (ad 0), .int a0, .int a1, .int a2, .int a3, .int a4, .ref o] (vq_PreN (dC, dI) CL sz (xo ad ca o co σ fo) (xot ca co))) (va_Qi (fun (r : Int32) (_ : Unit) => r = 0) (fun _ t => vq_Post (dC, dI) CL (va_A (xo ad ca o co σ fo) sz) (xo ad ca o co v.2 (vp_updL fo (0 : Int32).toNatClampNeg v.1.toInt64)) (xot ca co) t) (va_A (xo ad ca o co σ fo) sz)) 0 0 (va_A (xo ad ca o co σ fo) sz) := by
  refine vq_ofW (cc := method_10_code) (maxL := 8) (ret := (Option.some Jvm.ClassFile.FieldType.int)) pl_L (vq_hisH k_702) ?_
  intro p e s m args below meth c s₁ B hml hv
  obtain ⟨rfl, hnc, hst, hsz, hP, hK, hD0⟩ := hv
  have hx := B.exec
  have hb := B.bytes
  have hr := B.returns
  have hts := atoms_spec (ws := WS) B.pre
  have hown : s.vm.findClass R_L = some m.cls := findClass_of_methodNamed B.named
  have hlocks := B.notSynchronized
  have htab := vq_hasH B (hts _ k_702)
  subst hsz
  have hN := vq_ns hP
  have hD := hD0.self (sz := s.heap.size)
  generalize hAe : va_A (xo ad ca o co σ fo) s.heap.size = A at hD hN ⊢
  have hA : ∀ q : Nat, s.heap.size ≤ q → A q := fun q h => by rw [← hAe]; exact Or.inr h
  have hS : va_S A s.heap s.heap [] := va_S.rf
  have hl := lv_entry ([.ref (ad 0), .int a0, .int a1, .int a2, .int a3, .int a4, .ref o]) (n := 8) (Nat.le_of_ble_eq_true rfl)
  rw [lg_entry_eq]
  generalize (lg_sl ([.ref (ad 0), .int a0, .int a1, .int a2, .int a3, .int a4, .ref o]) ++ List.replicate (8 - (lg_sl ([.ref (ad 0), .int a0, .int a1, .int a2, .int a3, .int a4, .ref o])).length) Slot.unset).toArray = ls at hl ⊢
  have hl : lv_has ls 8 [(0, .ref (ad 0)), (1, .int a0), (2, .int a1), (3, .int a2), (4, .int a3), (5, .int a4), (6, .ref o)] := hl
  refine lv_aload hx hb d_L_node_0 (lv_at hl 6 rfl) ?_
  refine lv_iconst (v := 0) hx hb d_L_node_2 (by decide) ?_
  refine lv_aload_n hx hb d_L_node_3 rfl (lv_at hl 0 rfl) ?_
  refine lv_iload_n hx hb d_L_node_4 rfl (lv_at hl 1 rfl) ?_
  refine lv_iload_n hx hb d_L_node_5 rfl (lv_at hl 2 rfl) ?_
  refine lv_iload_n hx hb d_L_node_6 rfl (lv_at hl 3 rfl) ?_
  refine lv_iload hx hb d_L_node_7 (lv_at hl 4 rfl) ?_
  refine lv_iload hx hb d_L_node_9 (lv_at hl 5 rfl) ?_
  obtain ⟨hPc, hDc⟩ := ws_sp hP hD
  have hKc := ws_kt hK
  have hFc := ws_fe hD hS hA
  refine va_calli (va_runV (As := [.int a0, .int a1, .int a2, .int a3, .int a4]) (rest := [.int 0, .ref o]) ⟨hx, hb, hml, hown, hts⟩ (c_V_node l htr dC dI ad ca N σ a0 a1 a2 a3 a4 v h s.heap.size) (vq_cV WSk hts 5 rfl rfl ⟨by decide, by decide⟩ k_624 k_22 k_703 k_704 k_705 (by decide +kernel)) ⟨vq_blind, va_recv hKc hPc (ci := 0) (q0 := 0) rfl rfl, vq_here hst hS hN hPc hKc hDc⟩ rfl rfl hl.1 rfl (lv_room (Nat.le_of_ble_eq_true rfl)) d_L_node_11 ⟨by decide, by decide⟩) hS (fun q _ h => hFc q h) hFc (fun r u t H1 locs ht hvm hw hB hz1 hk1 hS => ?_)
  have hw : r = v.1 := hw
  subst hw
  obtain ⟨hP1, -, hD1⟩ := hB
  rw [ht] at hP1
  obtain ⟨hP, hD⟩ := ws_jn hP hD hk1 hFc hP1 hD1
  generalize H1 = H at hP hS ⊢
  have hP : va_P (dC, dI) CL ([(o, .inl (co, 1, .inr (.inl fo)))] ++ Xw ad ca v.2) H := hP
  refine W.widen (k := 0) (n := 0) (by decide) (by decide) ?_
  refine lv_i2l hx hb d_L_node_14 rfl ?_
  refine va_last (n := 1) (f := fo) hx hb hK hP hD hS 0 27 rfl rfl (show ¬ ((0 : Int32) < 0 ∨ 1 ≤ Int32.toNatClampNeg 0) by decide) d_L_node_15 (fun H locs hP hD hS => ?_)
  refine lv_goto (tgt := 27) hx hb d_L_node_16 (by decide) ?_
  refine lv_iconst (v := 0) hx hb d_L_node_27 (by decide) ?_
  obtain ⟨hP9, hD9⟩ := ws_pm (σ := v.2) (fo := (vp_updL fo (0 : Int32).toNatClampNeg v.1.toInt64)) hP hD
  exact W.iret (v := 0) hx hb hr (fun t ht hW => ⟨⟨0, (), rfl, rfl, by rw [ht]; exact hP9, va_K.moved hW.alike hK, hD9⟩, hS.F ht⟩) hS.2.2 d_L_node_28

set_option maxHeartbeats 4000000 in
set_option maxRecDepth 100000 in
theorem w_node_1 (l : Launch) (htr : l.stackTraces = false) (dC : Nat → ClassId) (dI : Nat → Nat → Nat) (ad : Nat → Nat) (ca : Nat → ClassId) (o : Nat) (co : ClassId) (fo : Nat → Int64) (N : Nat) (σ : vS) (a0 : Int32) (a1 : Int32) (a2 : Int32) (a3 : Int32) (a4 : Int32) (v : Int32 × vS) (h : f_V_node N σ a0 a1 a2 a3 a4 = some ((1, v.1), v.2)) (sz : Nat) : Met l y_L_node WS ({ frames := 7, cells := 1, slots := 6, locals := 115 }) (va_Pc [.ref (ad 0), .int a0, .int a1, .int a2, .int a3, .int a4, .ref o] (vq_PreN (dC, dI) CL sz (xo ad ca o co σ fo) (xot ca co))) (va_Qi (fun (r : Int32) (_ : Unit) => r = 1) (fun _ t => vq_Post (dC, dI) CL (va_A (xo ad ca o co σ fo) sz) (xo ad ca o co v.2 fo) (xot ca co) t) (va_A (xo ad ca o co σ fo) sz)) 1 6 (va_A (xo ad ca o co σ fo) sz) := by
  refine vq_ofW (cc := method_10_code) (maxL := 8) (ret := (Option.some Jvm.ClassFile.FieldType.int)) pl_L (vq_hisH k_702) ?_
  intro p e s m args below meth c s₁ B hml hv
  obtain ⟨rfl, hnc, hst, hsz, hP, hK, hD0⟩ := hv
  have hx := B.exec
  have hb := B.bytes
  have hr := B.returns
  have hts := atoms_spec (ws := WS) B.pre
  have hown : s.vm.findClass R_L = some m.cls := findClass_of_methodNamed B.named
  have hlocks := B.notSynchronized
  have htab := vq_hasH B (hts _ k_702)
  subst hsz
  have hN := vq_ns hP
  have hD := hD0.self (sz := s.heap.size)
  generalize hAe : va_A (xo ad ca o co σ fo) s.heap.size = A at hD hN ⊢
  have hA : ∀ q : Nat, s.heap.size ≤ q → A q := fun q h => by rw [← hAe]; exact Or.inr h
  have hS : va_S A s.heap s.heap [] := va_S.rf
  have hl := lv_entry ([.ref (ad 0), .int a0, .int a1, .int a2, .int a3, .int a4, .ref o]) (n := 8) (Nat.le_of_ble_eq_true rfl)
  rw [lg_entry_eq]
  generalize (lg_sl ([.ref (ad 0), .int a0, .int a1, .int a2, .int a3, .int a4, .ref o]) ++ List.replicate (8 - (lg_sl ([.ref (ad 0), .int a0, .int a1, .int a2, .int a3, .int a4, .ref o])).length) Slot.unset).toArray = ls at hl ⊢
  have hl : lv_has ls 8 [(0, .ref (ad 0)), (1, .int a0), (2, .int a1), (3, .int a2), (4, .int a3), (5, .int a4), (6, .ref o)] := hl
  refine lv_aload hx hb d_L_node_0 (lv_at hl 6 rfl) ?_
  refine lv_iconst (v := 0) hx hb d_L_node_2 (by decide) ?_
  refine lv_aload_n hx hb d_L_node_3 rfl (lv_at hl 0 rfl) ?_
  refine lv_iload_n hx hb d_L_node_4 rfl (lv_at hl 1 rfl) ?_
  refine lv_iload_n hx hb d_L_node_5 rfl (lv_at hl 2 rfl) ?_
  refine lv_iload_n hx hb d_L_node_6 rfl (lv_at hl 3 rfl) ?_
  refine lv_iload hx hb d_L_node_7 (lv_at hl 4 rfl) ?_
  refine lv_iload hx hb d_L_node_9 (lv_at hl 5 rfl) ?_
  obtain ⟨hPc, hDc⟩ := ws_sp hP hD
  have hKc := ws_kt hK
  have hFc := ws_fe hD hS hA
  refine vq_catch2 (E := "java/lang/IllegalArgumentException") (name := "java/lang/IllegalArgumentException") (vq_runT2 (As := [.int a0, .int a1, .int a2, .int a3, .int a4]) (rest := [.int 0, .ref o]) ⟨hx, hb, hml, hown, hts⟩ (t_V_node_1 l htr dC dI ad ca N σ a0 a1 a2 a3 a4 v h s.heap.size) (vq_cV WSk hts 5 rfl rfl ⟨by decide, by decide⟩ k_624 k_22 k_703 k_704 k_705 (by decide +kernel)) ⟨vq_blind, va_recv hKc hPc (ci := 0) (q0 := 0) rfl rfl, vq_here hst hS hN hPc hKc hDc⟩ rfl rfl hl.1 rfl (lv_room (Nat.le_of_ble_eq_true rfl)) d_L_node_11 ⟨by decide, by decide⟩) hS hFc hown [] ⟨0, 16, 19, 13⟩ [⟨0, 16, 23, 15⟩] htab (by intro z hz; cases hz) (by decide) (by decide) (hts _ k_670) (hts _ k_671) (fun q9 t H1 locs ht hvm hB hz1 hk1 hS => ?_)
  obtain ⟨hP1, -, hD1⟩ := hB
  rw [ht] at hP1
  obtain ⟨hP, hD⟩ := ws_jn hP hD hk1 hFc hP1 hD1
  generalize H1 = H at hP hS ⊢
  have hP : va_P (dC, dI) CL ([(o, .inl (co, 1, .inr (.inl fo)))] ++ Xw ad ca v.2) H := hP
  refine W.widen (k := 1) (n := 6) (by decide) (by decide) ?_
  refine W.eq (g2 := F0 m 19 ls [.ref q9]) rfl ?_
  refine lv_astore (lv' := [(7, .ref q9), (0, .ref (ad 0)), (1, .int a0), (2, .int a1), (3, .int a2), (4, .int a3), (5, .int a4), (6, .ref o)]) hx hb d_L_node_19 hl (by decide) rfl (fun ls hl => ?_)
  refine lv_iconst (v := 1) hx hb d_L_node_21 (by decide) ?_
  obtain ⟨hP9, hD9⟩ := ws_pm (σ := v.2) (fo := fo) hP hD
  exact W.iret (v := 1) hx hb hr (fun t ht hW => ⟨⟨1, (), rfl, rfl, by rw [ht]; exact hP9, va_K.moved hW.alike hK, hD9⟩, hS.F ht⟩) hS.2.2 d_L_node_22

set_option maxHeartbeats 4000000 in
set_option maxRecDepth 100000 in
theorem w_node_2 (l : Launch) (htr : l.stackTraces = false) (dC : Nat → ClassId) (dI : Nat → Nat → Nat) (ad : Nat → Nat) (ca : Nat → ClassId) (o : Nat) (co : ClassId) (fo : Nat → Int64) (N : Nat) (σ : vS) (a0 : Int32) (a1 : Int32) (a2 : Int32) (a3 : Int32) (a4 : Int32) (v : Int32 × vS) (h : f_V_node N σ a0 a1 a2 a3 a4 = some ((2, v.1), v.2)) (sz : Nat) : Met l y_L_node WS ({ frames := 7, cells := 1, slots := 6, locals := 115 }) (va_Pc [.ref (ad 0), .int a0, .int a1, .int a2, .int a3, .int a4, .ref o] (vq_PreN (dC, dI) CL sz (xo ad ca o co σ fo) (xot ca co))) (va_Qi (fun (r : Int32) (_ : Unit) => r = 2) (fun _ t => vq_Post (dC, dI) CL (va_A (xo ad ca o co σ fo) sz) (xo ad ca o co v.2 fo) (xot ca co) t) (va_A (xo ad ca o co σ fo) sz)) 1 6 (va_A (xo ad ca o co σ fo) sz) := by
  refine vq_ofW (cc := method_10_code) (maxL := 8) (ret := (Option.some Jvm.ClassFile.FieldType.int)) pl_L (vq_hisH k_702) ?_
  intro p e s m args below meth c s₁ B hml hv
  obtain ⟨rfl, hnc, hst, hsz, hP, hK, hD0⟩ := hv
  have hx := B.exec
  have hb := B.bytes
  have hr := B.returns
  have hts := atoms_spec (ws := WS) B.pre
  have hown : s.vm.findClass R_L = some m.cls := findClass_of_methodNamed B.named
  have hlocks := B.notSynchronized
  have htab := vq_hasH B (hts _ k_702)
  subst hsz
  have hN := vq_ns hP
  have hD := hD0.self (sz := s.heap.size)
  generalize hAe : va_A (xo ad ca o co σ fo) s.heap.size = A at hD hN ⊢
  have hA : ∀ q : Nat, s.heap.size ≤ q → A q := fun q h => by rw [← hAe]; exact Or.inr h
  have hS : va_S A s.heap s.heap [] := va_S.rf
  have hl := lv_entry ([.ref (ad 0), .int a0, .int a1, .int a2, .int a3, .int a4, .ref o]) (n := 8) (Nat.le_of_ble_eq_true rfl)
  rw [lg_entry_eq]
  generalize (lg_sl ([.ref (ad 0), .int a0, .int a1, .int a2, .int a3, .int a4, .ref o]) ++ List.replicate (8 - (lg_sl ([.ref (ad 0), .int a0, .int a1, .int a2, .int a3, .int a4, .ref o])).length) Slot.unset).toArray = ls at hl ⊢
  have hl : lv_has ls 8 [(0, .ref (ad 0)), (1, .int a0), (2, .int a1), (3, .int a2), (4, .int a3), (5, .int a4), (6, .ref o)] := hl
  refine lv_aload hx hb d_L_node_0 (lv_at hl 6 rfl) ?_
  refine lv_iconst (v := 0) hx hb d_L_node_2 (by decide) ?_
  refine lv_aload_n hx hb d_L_node_3 rfl (lv_at hl 0 rfl) ?_
  refine lv_iload_n hx hb d_L_node_4 rfl (lv_at hl 1 rfl) ?_
  refine lv_iload_n hx hb d_L_node_5 rfl (lv_at hl 2 rfl) ?_
  refine lv_iload_n hx hb d_L_node_6 rfl (lv_at hl 3 rfl) ?_
  refine lv_iload hx hb d_L_node_7 (lv_at hl 4 rfl) ?_
  refine lv_iload hx hb d_L_node_9 (lv_at hl 5 rfl) ?_
  obtain ⟨hPc, hDc⟩ := ws_sp hP hD
  have hKc := ws_kt hK
  have hFc := ws_fe hD hS hA
  refine vq_catch2 (E := "java/lang/IllegalStateException") (name := "java/lang/IllegalStateException") (vq_runT2 (As := [.int a0, .int a1, .int a2, .int a3, .int a4]) (rest := [.int 0, .ref o]) ⟨hx, hb, hml, hown, hts⟩ (t_V_node_2 l htr dC dI ad ca N σ a0 a1 a2 a3 a4 v h s.heap.size) (vq_cV WSk hts 5 rfl rfl ⟨by decide, by decide⟩ k_624 k_22 k_703 k_704 k_705 (by decide +kernel)) ⟨vq_blind, va_recv hKc hPc (ci := 0) (q0 := 0) rfl rfl, vq_here hst hS hN hPc hKc hDc⟩ rfl rfl hl.1 rfl (lv_room (Nat.le_of_ble_eq_true rfl)) d_L_node_11 ⟨by decide, by decide⟩) hS hFc hown [⟨0, 16, 19, 13⟩] ⟨0, 16, 23, 15⟩ [] htab (by intro z hz; rw [List.mem_singleton] at hz; subst hz; exact Or.inr ⟨by decide, "java/lang/IllegalArgumentException", hts _ k_670, hnc ("java/lang/IllegalStateException", "java/lang/IllegalArgumentException") (by decide)⟩) (by decide) (by decide) (hts _ k_672) (hts _ k_673) (fun q9 t H1 locs ht hvm hB hz1 hk1 hS => ?_)
  obtain ⟨hP1, -, hD1⟩ := hB
  rw [ht] at hP1
  obtain ⟨hP, hD⟩ := ws_jn hP hD hk1 hFc hP1 hD1
  generalize H1 = H at hP hS ⊢
  have hP : va_P (dC, dI) CL ([(o, .inl (co, 1, .inr (.inl fo)))] ++ Xw ad ca v.2) H := hP
  refine W.widen (k := 1) (n := 6) (by decide) (by decide) ?_
  refine W.eq (g2 := F0 m 23 ls [.ref q9]) rfl ?_
  refine lv_astore (lv' := [(7, .ref q9), (0, .ref (ad 0)), (1, .int a0), (2, .int a1), (3, .int a2), (4, .int a3), (5, .int a4), (6, .ref o)]) hx hb d_L_node_23 hl (by decide) rfl (fun ls hl => ?_)
  refine lv_iconst (v := 2) hx hb d_L_node_25 (by decide) ?_
  obtain ⟨hP9, hD9⟩ := ws_pm (σ := v.2) (fo := fo) hP hD
  exact W.iret (v := 2) hx hb hr (fun t ht hW => ⟨⟨2, (), rfl, rfl, by rw [ht]; exact hP9, va_K.moved hW.alike hK, hD9⟩, hS.F ht⟩) hS.2.2 d_L_node_26

set_option maxHeartbeats 4000000 in
set_option maxRecDepth 100000 in
theorem w_give_0 (l : Launch) (htr : l.stackTraces = false) (dC : Nat → ClassId) (dI : Nat → Nat → Nat) (ad : Nat → Nat) (ca : Nat → ClassId) (N : Nat) (σ : vS) (a0 : Int32) (a1 : Int32) (v : Int32 × vS) (h : f_V_give N σ a0 a1 = some ((0, v.1), v.2)) (sz : Nat) : Met l y_L_give WS ({ frames := 7, cells := 0, slots := 0, locals := 104 }) (va_Pc [.ref (ad 0), .int a0, .int a1] (vq_PreN (dC, dI) CL sz (Xw ad ca σ) (Xt ca))) (va_Qi (fun (r : Int32) (_ : Unit) => r = 0) (fun _ t => vq_Post (dC, dI) CL (va_A (Xw ad ca σ) sz) (Xw ad ca v.2) (Xt ca) t) (va_A (Xw ad ca σ) sz)) 0 0 (va_A (Xw ad ca σ) sz) := by
  refine vq_ofW (cc := method_11_code) (maxL := 4) (ret := (Option.some Jvm.ClassFile.FieldType.int)) pl_L (vq_hisH k_706) ?_
  intro p e s m args below meth c s₁ B hml hv
  obtain ⟨rfl, hnc, hst, hsz, hP, hK, hD0⟩ := hv
  have hx := B.exec
  have hb := B.bytes
  have hr := B.returns
  have hts := atoms_spec (ws := WS) B.pre
  have hown : s.vm.findClass R_L = some m.cls := findClass_of_methodNamed B.named
  have hlocks := B.notSynchronized
  have htab := vq_hasH B (hts _ k_706)
  subst hsz
  have hN := vq_ns hP
  have hD := hD0.self (sz := s.heap.size)
  generalize hAe : va_A (Xw ad ca σ) s.heap.size = A at hD hN ⊢
  have hA : ∀ q : Nat, s.heap.size ≤ q → A q := fun q h => by rw [← hAe]; exact Or.inr h
  have hS : va_S A s.heap s.heap [] := va_S.rf
  have hl := lv_entry ([.ref (ad 0), .int a0, .int a1]) (n := 4) (Nat.le_of_ble_eq_true rfl)
  rw [lg_entry_eq]
  generalize (lg_sl ([.ref (ad 0), .int a0, .int a1]) ++ List.replicate (4 - (lg_sl ([.ref (ad 0), .int a0, .int a1])).length) Slot.unset).toArray = ls at hl ⊢
  have hl : lv_has ls 4 [(0, .ref (ad 0)), (1, .int a0), (2, .int a1)] := hl
  refine lv_aload_n hx hb d_L_give_0 rfl (lv_at hl 0 rfl) ?_
  refine lv_iload_n hx hb d_L_give_1 rfl (lv_at hl 1 rfl) ?_
  refine lv_iload_n hx hb d_L_give_2 rfl (lv_at hl 2 rfl) ?_
  have hPc := hP
  have hDc := hD
  have hKc := hK
  have hFc := vq_freeAll hD hS hA
  refine va_callv (va_runV (As := [.int a0, .int a1]) (rest := []) ⟨hx, hb, hml, hown, hts⟩ (c_V_give l htr dC dI ad ca N σ a0 a1 v h s.heap.size) (vq_cV WSk hts 2 rfl rfl ⟨by decide, by decide⟩ k_638 k_22 k_707 k_708 k_709 (by decide +kernel)) ⟨vq_blind, va_recv hKc hPc (ci := 0) (q0 := 0) rfl rfl, vq_here hst hS hN hPc hKc hDc⟩ rfl rfl hl.1 rfl (lv_room (Nat.le_of_ble_eq_true rfl)) d_L_give_3 ⟨by decide, by decide⟩) hS (fun q _ h => hFc q h) hFc (fun u t H1 locs ht hvm hw hB hz1 hk1 hS => ?_)
  obtain ⟨hP1, -, hD1⟩ := hB
  rw [ht] at hP1
  have hP := hP1
  have hD := hD1.weaken (fun _ _ _ h => hFc _ h)
  generalize H1 = H at hP hS ⊢
  refine W.widen (k := 0) (n := 0) (by decide) (by decide) ?_
  refine lv_goto (tgt := 12) hx hb d_L_give_6 (by decide) ?_
  refine lv_iconst (v := 0) hx hb d_L_give_12 (by decide) ?_
  have hP9 := hP
  have hD9 := hD
  exact W.iret (v := 0) hx hb hr (fun t ht hW => ⟨⟨0, (), rfl, rfl, by rw [ht]; exact hP9, va_K.moved hW.alike hK, hD9⟩, hS.F ht⟩) hS.2.2 d_L_give_13

set_option maxHeartbeats 4000000 in
set_option maxRecDepth 100000 in
theorem w_give_3 (l : Launch) (htr : l.stackTraces = false) (dC : Nat → ClassId) (dI : Nat → Nat → Nat) (ad : Nat → Nat) (ca : Nat → ClassId) (N : Nat) (σ : vS) (a0 : Int32) (a1 : Int32) (v : Int32 × vS) (h : f_V_give N σ a0 a1 = some ((3, v.1), v.2)) (sz : Nat) : Met l y_L_give WS ({ frames := 7, cells := 1, slots := 6, locals := 104 }) (va_Pc [.ref (ad 0), .int a0, .int a1] (vq_PreN (dC, dI) CL sz (Xw ad ca σ) (Xt ca))) (va_Qi (fun (r : Int32) (_ : Unit) => r = 1) (fun _ t => vq_Post (dC, dI) CL (va_A (Xw ad ca σ) sz) (Xw ad ca v.2) (Xt ca) t) (va_A (Xw ad ca σ) sz)) 1 6 (va_A (Xw ad ca σ) sz) := by
  refine vq_ofW (cc := method_11_code) (maxL := 4) (ret := (Option.some Jvm.ClassFile.FieldType.int)) pl_L (vq_hisH k_706) ?_
  intro p e s m args below meth c s₁ B hml hv
  obtain ⟨rfl, hnc, hst, hsz, hP, hK, hD0⟩ := hv
  have hx := B.exec
  have hb := B.bytes
  have hr := B.returns
  have hts := atoms_spec (ws := WS) B.pre
  have hown : s.vm.findClass R_L = some m.cls := findClass_of_methodNamed B.named
  have hlocks := B.notSynchronized
  have htab := vq_hasH B (hts _ k_706)
  subst hsz
  have hN := vq_ns hP
  have hD := hD0.self (sz := s.heap.size)
  generalize hAe : va_A (Xw ad ca σ) s.heap.size = A at hD hN ⊢
  have hA : ∀ q : Nat, s.heap.size ≤ q → A q := fun q h => by rw [← hAe]; exact Or.inr h
  have hS : va_S A s.heap s.heap [] := va_S.rf
  have hl := lv_entry ([.ref (ad 0), .int a0, .int a1]) (n := 4) (Nat.le_of_ble_eq_true rfl)
  rw [lg_entry_eq]
  generalize (lg_sl ([.ref (ad 0), .int a0, .int a1]) ++ List.replicate (4 - (lg_sl ([.ref (ad 0), .int a0, .int a1])).length) Slot.unset).toArray = ls at hl ⊢
  have hl : lv_has ls 4 [(0, .ref (ad 0)), (1, .int a0), (2, .int a1)] := hl
  refine lv_aload_n hx hb d_L_give_0 rfl (lv_at hl 0 rfl) ?_
  refine lv_iload_n hx hb d_L_give_1 rfl (lv_at hl 1 rfl) ?_
  refine lv_iload_n hx hb d_L_give_2 rfl (lv_at hl 2 rfl) ?_
  have hPc := hP
  have hDc := hD
  have hKc := hK
  have hFc := vq_freeAll hD hS hA
  refine vq_catch2 (E := "java/lang/IndexOutOfBoundsException") (name := "java/lang/IndexOutOfBoundsException") (vq_runT2 (As := [.int a0, .int a1]) (rest := []) ⟨hx, hb, hml, hown, hts⟩ (t_V_give_3 l htr dC dI ad ca N σ a0 a1 v h s.heap.size) (vq_cV WSk hts 2 rfl rfl ⟨by decide, by decide⟩ k_638 k_22 k_707 k_708 k_709 (by decide +kernel)) ⟨vq_blind, va_recv hKc hPc (ci := 0) (q0 := 0) rfl rfl, vq_here hst hS hN hPc hKc hDc⟩ rfl rfl hl.1 rfl (lv_room (Nat.le_of_ble_eq_true rfl)) d_L_give_3 ⟨by decide, by decide⟩) hS hFc hown [] ⟨0, 6, 9, 25⟩ [] htab (by intro z hz; cases hz) (by decide) (by decide) (hts _ k_682) (hts _ k_683) (fun q9 t H1 locs ht hvm hB hz1 hk1 hS => ?_)
  obtain ⟨hP1, -, hD1⟩ := hB
  rw [ht] at hP1
  have hP := hP1
  have hD := hD1.weaken (fun _ _ _ h => hFc _ h)
  generalize H1 = H at hP hS ⊢
  refine W.widen (k := 1) (n := 6) (by decide) (by decide) ?_
  refine W.eq (g2 := F0 m 9 ls [.ref q9]) rfl ?_
  refine lv_astore_n (lv' := [(3, .ref q9), (0, .ref (ad 0)), (1, .int a0), (2, .int a1)]) hx hb d_L_give_9 rfl hl (by decide) rfl (fun ls hl => ?_)
  refine lv_iconst (v := 1) hx hb d_L_give_10 (by decide) ?_
  have hP9 := hP
  have hD9 := hD
  exact W.iret (v := 1) hx hb hr (fun t ht hW => ⟨⟨1, (), rfl, rfl, by rw [ht]; exact hP9, va_K.moved hW.alike hK, hD9⟩, hS.F ht⟩) hS.2.2 d_L_give_11

set_option maxHeartbeats 4000000 in
set_option maxRecDepth 100000 in
theorem w_start_0 (l : Launch) (htr : l.stackTraces = false) (dC : Nat → ClassId) (dI : Nat → Nat → Nat) (ad : Nat → Nat) (ca : Nat → ClassId) (N : Nat) (σ : vS) (a0 : Int32) (v : Int32 × vS) (h : f_V_start N σ a0 = some ((0, v.1), v.2)) (sz : Nat) : Met l y_L_start WS ({ frames := 8, cells := 0, slots := 0, locals := 123 }) (va_Pc [.ref (ad 0), .int a0] (vq_PreN (dC, dI) CL sz (Xw ad ca σ) (Xt ca))) (va_Qi (fun (r : Int32) (_ : Unit) => r = 0) (fun _ t => vq_Post (dC, dI) CL (va_A (Xw ad ca σ) sz) (Xw ad ca v.2) (Xt ca) t) (va_A (Xw ad ca σ) sz)) 0 0 (va_A (Xw ad ca σ) sz) := by
  refine vq_ofW (cc := method_12_code) (maxL := 3) (ret := (Option.some Jvm.ClassFile.FieldType.int)) pl_L (vq_hisH k_710) ?_
  intro p e s m args below meth c s₁ B hml hv
  obtain ⟨rfl, hnc, hst, hsz, hP, hK, hD0⟩ := hv
  have hx := B.exec
  have hb := B.bytes
  have hr := B.returns
  have hts := atoms_spec (ws := WS) B.pre
  have hown : s.vm.findClass R_L = some m.cls := findClass_of_methodNamed B.named
  have hlocks := B.notSynchronized
  have htab := vq_hasH B (hts _ k_710)
  subst hsz
  have hN := vq_ns hP
  have hD := hD0.self (sz := s.heap.size)
  generalize hAe : va_A (Xw ad ca σ) s.heap.size = A at hD hN ⊢
  have hA : ∀ q : Nat, s.heap.size ≤ q → A q := fun q h => by rw [← hAe]; exact Or.inr h
  have hS : va_S A s.heap s.heap [] := va_S.rf
  have hl := lv_entry ([.ref (ad 0), .int a0]) (n := 3) (Nat.le_of_ble_eq_true rfl)
  rw [lg_entry_eq]
  generalize (lg_sl ([.ref (ad 0), .int a0]) ++ List.replicate (3 - (lg_sl ([.ref (ad 0), .int a0])).length) Slot.unset).toArray = ls at hl ⊢
  have hl : lv_has ls 3 [(0, .ref (ad 0)), (1, .int a0)] := hl
  refine lv_aload_n hx hb d_L_start_0 rfl (lv_at hl 0 rfl) ?_
  refine lv_iload_n hx hb d_L_start_1 rfl (lv_at hl 1 rfl) ?_
  have hPc := hP
  have hDc := hD
  have hKc := hK
  have hFc := vq_freeAll hD hS hA
  refine va_callv (va_runV (As := [.int a0]) (rest := []) ⟨hx, hb, hml, hown, hts⟩ (c_V_start l htr dC dI ad ca N σ a0 v h s.heap.size) (vq_cV WSk hts 1 rfl rfl ⟨by decide, by decide⟩ k_641 k_22 k_711 k_712 k_713 (by decide +kernel)) ⟨vq_blind, va_recv hKc hPc (ci := 0) (q0 := 0) rfl rfl, vq_here hst hS hN hPc hKc hDc⟩ rfl rfl hl.1 rfl (lv_room (Nat.le_of_ble_eq_true rfl)) d_L_start_2 ⟨by decide, by decide⟩) hS (fun q _ h => hFc q h) hFc (fun u t H1 locs ht hvm hw hB hz1 hk1 hS => ?_)
  obtain ⟨hP1, -, hD1⟩ := hB
  rw [ht] at hP1
  have hP := hP1
  have hD := hD1.weaken (fun _ _ _ h => hFc _ h)
  generalize H1 = H at hP hS ⊢
  refine W.widen (k := 0) (n := 0) (by decide) (by decide) ?_
  refine lv_goto (tgt := 14) hx hb d_L_start_5 (by decide) ?_
  refine lv_iconst (v := 0) hx hb d_L_start_14 (by decide) ?_
  have hP9 := hP
  have hD9 := hD
  exact W.iret (v := 0) hx hb hr (fun t ht hW => ⟨⟨0, (), rfl, rfl, by rw [ht]; exact hP9, va_K.moved hW.alike hK, hD9⟩, hS.F ht⟩) hS.2.2 d_L_start_15

set_option maxHeartbeats 4000000 in
set_option maxRecDepth 100000 in
theorem w_start_2 (l : Launch) (htr : l.stackTraces = false) (dC : Nat → ClassId) (dI : Nat → Nat → Nat) (ad : Nat → Nat) (ca : Nat → ClassId) (N : Nat) (σ : vS) (a0 : Int32) (v : Int32 × vS) (h : f_V_start N σ a0 = some ((2, v.1), v.2)) (sz : Nat) : Met l y_L_start WS ({ frames := 8, cells := 1, slots := 6, locals := 123 }) (va_Pc [.ref (ad 0), .int a0] (vq_PreN (dC, dI) CL sz (Xw ad ca σ) (Xt ca))) (va_Qi (fun (r : Int32) (_ : Unit) => r = 1) (fun _ t => vq_Post (dC, dI) CL (va_A (Xw ad ca σ) sz) (Xw ad ca v.2) (Xt ca) t) (va_A (Xw ad ca σ) sz)) 1 6 (va_A (Xw ad ca σ) sz) := by
  refine vq_ofW (cc := method_12_code) (maxL := 3) (ret := (Option.some Jvm.ClassFile.FieldType.int)) pl_L (vq_hisH k_710) ?_
  intro p e s m args below meth c s₁ B hml hv
  obtain ⟨rfl, hnc, hst, hsz, hP, hK, hD0⟩ := hv
  have hx := B.exec
  have hb := B.bytes
  have hr := B.returns
  have hts := atoms_spec (ws := WS) B.pre
  have hown : s.vm.findClass R_L = some m.cls := findClass_of_methodNamed B.named
  have hlocks := B.notSynchronized
  have htab := vq_hasH B (hts _ k_710)
  subst hsz
  have hN := vq_ns hP
  have hD := hD0.self (sz := s.heap.size)
  generalize hAe : va_A (Xw ad ca σ) s.heap.size = A at hD hN ⊢
  have hA : ∀ q : Nat, s.heap.size ≤ q → A q := fun q h => by rw [← hAe]; exact Or.inr h
  have hS : va_S A s.heap s.heap [] := va_S.rf
  have hl := lv_entry ([.ref (ad 0), .int a0]) (n := 3) (Nat.le_of_ble_eq_true rfl)
  rw [lg_entry_eq]
  generalize (lg_sl ([.ref (ad 0), .int a0]) ++ List.replicate (3 - (lg_sl ([.ref (ad 0), .int a0])).length) Slot.unset).toArray = ls at hl ⊢
  have hl : lv_has ls 3 [(0, .ref (ad 0)), (1, .int a0)] := hl
  refine lv_aload_n hx hb d_L_start_0 rfl (lv_at hl 0 rfl) ?_
  refine lv_iload_n hx hb d_L_start_1 rfl (lv_at hl 1 rfl) ?_
  have hPc := hP
  have hDc := hD
  have hKc := hK
  have hFc := vq_freeAll hD hS hA
  refine vq_catch2 (E := "java/lang/IllegalStateException") (name := "java/lang/IllegalStateException") (vq_runT2 (As := [.int a0]) (rest := []) ⟨hx, hb, hml, hown, hts⟩ (t_V_start_2 l htr dC dI ad ca N σ a0 v h s.heap.size) (vq_cV WSk hts 1 rfl rfl ⟨by decide, by decide⟩ k_641 k_22 k_711 k_712 k_713 (by decide +kernel)) ⟨vq_blind, va_recv hKc hPc (ci := 0) (q0 := 0) rfl rfl, vq_here hst hS hN hPc hKc hDc⟩ rfl rfl hl.1 rfl (lv_room (Nat.le_of_ble_eq_true rfl)) d_L_start_2 ⟨by decide, by decide⟩) hS hFc hown [] ⟨0, 5, 8, 15⟩ [⟨0, 5, 11, 25⟩] htab (by intro z hz; cases hz) (by decide) (by decide) (hts _ k_672) (hts _ k_673) (fun q9 t H1 locs ht hvm hB hz1 hk1 hS => ?_)
  obtain ⟨hP1, -, hD1⟩ := hB
  rw [ht] at hP1
  have hP := hP1
  have hD := hD1.weaken (fun _ _ _ h => hFc _ h)
  generalize H1 = H at hP hS ⊢
  refine W.widen (k := 1) (n := 6) (by decide) (by decide) ?_
  refine W.eq (g2 := F0 m 8 ls [.ref q9]) rfl ?_
  refine lv_astore_n (lv' := [(2, .ref q9), (0, .ref (ad 0)), (1, .int a0)]) hx hb d_L_start_8 rfl hl (by decide) rfl (fun ls hl => ?_)
  refine lv_iconst (v := 1) hx hb d_L_start_9 (by decide) ?_
  have hP9 := hP
  have hD9 := hD
  exact W.iret (v := 1) hx hb hr (fun t ht hW => ⟨⟨1, (), rfl, rfl, by rw [ht]; exact hP9, va_K.moved hW.alike hK, hD9⟩, hS.F ht⟩) hS.2.2 d_L_start_10

set_option maxHeartbeats 4000000 in
set_option maxRecDepth 100000 in
theorem w_start_3 (l : Launch) (htr : l.stackTraces = false) (dC : Nat → ClassId) (dI : Nat → Nat → Nat) (ad : Nat → Nat) (ca : Nat → ClassId) (N : Nat) (σ : vS) (a0 : Int32) (v : Int32 × vS) (h : f_V_start N σ a0 = some ((3, v.1), v.2)) (sz : Nat) : Met l y_L_start WS ({ frames := 8, cells := 1, slots := 6, locals := 123 }) (va_Pc [.ref (ad 0), .int a0] (vq_PreN (dC, dI) CL sz (Xw ad ca σ) (Xt ca))) (va_Qi (fun (r : Int32) (_ : Unit) => r = 2) (fun _ t => vq_Post (dC, dI) CL (va_A (Xw ad ca σ) sz) (Xw ad ca v.2) (Xt ca) t) (va_A (Xw ad ca σ) sz)) 1 6 (va_A (Xw ad ca σ) sz) := by
  refine vq_ofW (cc := method_12_code) (maxL := 3) (ret := (Option.some Jvm.ClassFile.FieldType.int)) pl_L (vq_hisH k_710) ?_
  intro p e s m args below meth c s₁ B hml hv
  obtain ⟨rfl, hnc, hst, hsz, hP, hK, hD0⟩ := hv
  have hx := B.exec
  have hb := B.bytes
  have hr := B.returns
  have hts := atoms_spec (ws := WS) B.pre
  have hown : s.vm.findClass R_L = some m.cls := findClass_of_methodNamed B.named
  have hlocks := B.notSynchronized
  have htab := vq_hasH B (hts _ k_710)
  subst hsz
  have hN := vq_ns hP
  have hD := hD0.self (sz := s.heap.size)
  generalize hAe : va_A (Xw ad ca σ) s.heap.size = A at hD hN ⊢
  have hA : ∀ q : Nat, s.heap.size ≤ q → A q := fun q h => by rw [← hAe]; exact Or.inr h
  have hS : va_S A s.heap s.heap [] := va_S.rf
  have hl := lv_entry ([.ref (ad 0), .int a0]) (n := 3) (Nat.le_of_ble_eq_true rfl)
  rw [lg_entry_eq]
  generalize (lg_sl ([.ref (ad 0), .int a0]) ++ List.replicate (3 - (lg_sl ([.ref (ad 0), .int a0])).length) Slot.unset).toArray = ls at hl ⊢
  have hl : lv_has ls 3 [(0, .ref (ad 0)), (1, .int a0)] := hl
  refine lv_aload_n hx hb d_L_start_0 rfl (lv_at hl 0 rfl) ?_
  refine lv_iload_n hx hb d_L_start_1 rfl (lv_at hl 1 rfl) ?_
  have hPc := hP
  have hDc := hD
  have hKc := hK
  have hFc := vq_freeAll hD hS hA
  refine vq_catch2 (E := "java/lang/IndexOutOfBoundsException") (name := "java/lang/IndexOutOfBoundsException") (vq_runT2 (As := [.int a0]) (rest := []) ⟨hx, hb, hml, hown, hts⟩ (t_V_start_3 l htr dC dI ad ca N σ a0 v h s.heap.size) (vq_cV WSk hts 1 rfl rfl ⟨by decide, by decide⟩ k_641 k_22 k_711 k_712 k_713 (by decide +kernel)) ⟨vq_blind, va_recv hKc hPc (ci := 0) (q0 := 0) rfl rfl, vq_here hst hS hN hPc hKc hDc⟩ rfl rfl hl.1 rfl (lv_room (Nat.le_of_ble_eq_true rfl)) d_L_start_2 ⟨by decide, by decide⟩) hS hFc hown [⟨0, 5, 8, 15⟩] ⟨0, 5, 11, 25⟩ [] htab (by intro z hz; rw [List.mem_singleton] at hz; subst hz; exact Or.inr ⟨by decide, "java/lang/IllegalStateException", hts _ k_672, hnc ("java/lang/IndexOutOfBoundsException", "java/lang/IllegalStateException") (by decide)⟩) (by decide) (by decide) (hts _ k_682) (hts _ k_683) (fun q9 t H1 locs ht hvm hB hz1 hk1 hS => ?_)
  obtain ⟨hP1, -, hD1⟩ := hB
  rw [ht] at hP1
  have hP := hP1
  have hD := hD1.weaken (fun _ _ _ h => hFc _ h)
  generalize H1 = H at hP hS ⊢
  refine W.widen (k := 1) (n := 6) (by decide) (by decide) ?_
  refine W.eq (g2 := F0 m 11 ls [.ref q9]) rfl ?_
  refine lv_astore_n (lv' := [(2, .ref q9), (0, .ref (ad 0)), (1, .int a0)]) hx hb d_L_start_11 rfl hl (by decide) rfl (fun ls hl => ?_)
  refine lv_iconst (v := 2) hx hb d_L_start_12 (by decide) ?_
  have hP9 := hP
  have hD9 := hD
  exact W.iret (v := 2) hx hb hr (fun t ht hW => ⟨⟨2, (), rfl, rfl, by rw [ht]; exact hP9, va_K.moved hW.alike hK, hD9⟩, hS.F ht⟩) hS.2.2 d_L_start_13

set_option maxHeartbeats 4000000 in
set_option maxRecDepth 100000 in
theorem w_run_0 (l : Launch) (htr : l.stackTraces = false) (dC : Nat → ClassId) (dI : Nat → Nat → Nat) (ad : Nat → Nat) (ca : Nat → ClassId) (o : Nat) (co : ClassId) (fo : Nat → Int64) (N : Nat) (σ : vS) (a0 : Int32) (v : Int32 × vS) (h : f_V_run N σ a0 = some ((0, v.1), v.2)) (sz : Nat) : Met l y_L_run WS ({ frames := 7, cells := 0, slots := 0, locals := 132 }) (va_Pc [.ref (ad 0), .int a0, .ref o] (vq_PreN (dC, dI) CL sz (xo ad ca o co σ fo) (xot ca co))) (va_Qi (fun (r : Int32) (_ : Unit) => r = 0) (fun _ t => vq_Post (dC, dI) CL (va_A (xo ad ca o co σ fo) sz) (xo ad ca o co v.2 (vp_updL fo (0 : Int32).toNatClampNeg v.1.toInt64)) (xot ca co) t) (va_A (xo ad ca o co σ fo) sz)) 0 0 (va_A (xo ad ca o co σ fo) sz) := by
  refine vq_ofW (cc := method_13_code) (maxL := 4) (ret := (Option.some Jvm.ClassFile.FieldType.int)) pl_L (vq_hisH k_714) ?_
  intro p e s m args below meth c s₁ B hml hv
  obtain ⟨rfl, hnc, hst, hsz, hP, hK, hD0⟩ := hv
  have hx := B.exec
  have hb := B.bytes
  have hr := B.returns
  have hts := atoms_spec (ws := WS) B.pre
  have hown : s.vm.findClass R_L = some m.cls := findClass_of_methodNamed B.named
  have hlocks := B.notSynchronized
  have htab := vq_hasH B (hts _ k_714)
  subst hsz
  have hN := vq_ns hP
  have hD := hD0.self (sz := s.heap.size)
  generalize hAe : va_A (xo ad ca o co σ fo) s.heap.size = A at hD hN ⊢
  have hA : ∀ q : Nat, s.heap.size ≤ q → A q := fun q h => by rw [← hAe]; exact Or.inr h
  have hS : va_S A s.heap s.heap [] := va_S.rf
  have hl := lv_entry ([.ref (ad 0), .int a0, .ref o]) (n := 4) (Nat.le_of_ble_eq_true rfl)
  rw [lg_entry_eq]
  generalize (lg_sl ([.ref (ad 0), .int a0, .ref o]) ++ List.replicate (4 - (lg_sl ([.ref (ad 0), .int a0, .ref o])).length) Slot.unset).toArray = ls at hl ⊢
  have hl : lv_has ls 4 [(0, .ref (ad 0)), (1, .int a0), (2, .ref o)] := hl
  refine lv_aload_n hx hb d_L_run_0 rfl (lv_at hl 2 rfl) ?_
  refine lv_iconst (v := 0) hx hb d_L_run_1 (by decide) ?_
  refine lv_aload_n hx hb d_L_run_2 rfl (lv_at hl 0 rfl) ?_
  refine lv_iload_n hx hb d_L_run_3 rfl (lv_at hl 1 rfl) ?_
  obtain ⟨hPc, hDc⟩ := ws_sp hP hD
  have hKc := ws_kt hK
  have hFc := ws_fe hD hS hA
  refine va_calli (va_runV (As := [.int a0]) (rest := [.int 0, .ref o]) ⟨hx, hb, hml, hown, hts⟩ (c_V_run l htr dC dI ad ca N σ a0 v h s.heap.size) (vq_cV WSk hts 1 rfl rfl ⟨by decide, by decide⟩ k_646 k_22 k_715 k_716 k_717 (by decide +kernel)) ⟨vq_blind, va_recv hKc hPc (ci := 0) (q0 := 0) rfl rfl, vq_here hst hS hN hPc hKc hDc⟩ rfl rfl hl.1 rfl (lv_room (Nat.le_of_ble_eq_true rfl)) d_L_run_4 ⟨by decide, by decide⟩) hS (fun q _ h => hFc q h) hFc (fun r u t H1 locs ht hvm hw hB hz1 hk1 hS => ?_)
  have hw : r = v.1 := hw
  subst hw
  obtain ⟨hP1, -, hD1⟩ := hB
  rw [ht] at hP1
  obtain ⟨hP, hD⟩ := ws_jn hP hD hk1 hFc hP1 hD1
  generalize H1 = H at hP hS ⊢
  have hP : va_P (dC, dI) CL ([(o, .inl (co, 1, .inr (.inl fo)))] ++ Xw ad ca v.2) H := hP
  refine W.widen (k := 0) (n := 0) (by decide) (by decide) ?_
  refine lv_i2l hx hb d_L_run_7 rfl ?_
  refine va_last (n := 1) (f := fo) hx hb hK hP hD hS 0 27 rfl rfl (show ¬ ((0 : Int32) < 0 ∨ 1 ≤ Int32.toNatClampNeg 0) by decide) d_L_run_8 (fun H locs hP hD hS => ?_)
  refine lv_goto (tgt := 18) hx hb d_L_run_9 (by decide) ?_
  refine lv_iconst (v := 0) hx hb d_L_run_18 (by decide) ?_
  obtain ⟨hP9, hD9⟩ := ws_pm (σ := v.2) (fo := (vp_updL fo (0 : Int32).toNatClampNeg v.1.toInt64)) hP hD
  exact W.iret (v := 0) hx hb hr (fun t ht hW => ⟨⟨0, (), rfl, rfl, by rw [ht]; exact hP9, va_K.moved hW.alike hK, hD9⟩, hS.F ht⟩) hS.2.2 d_L_run_19

set_option maxHeartbeats 4000000 in
set_option maxRecDepth 100000 in
theorem w_run_1 (l : Launch) (htr : l.stackTraces = false) (dC : Nat → ClassId) (dI : Nat → Nat → Nat) (ad : Nat → Nat) (ca : Nat → ClassId) (o : Nat) (co : ClassId) (fo : Nat → Int64) (N : Nat) (σ : vS) (a0 : Int32) (v : Int32 × vS) (h : f_V_run N σ a0 = some ((1, v.1), v.2)) (sz : Nat) : Met l y_L_run WS ({ frames := 7, cells := 1, slots := 6, locals := 132 }) (va_Pc [.ref (ad 0), .int a0, .ref o] (vq_PreN (dC, dI) CL sz (xo ad ca o co σ fo) (xot ca co))) (va_Qi (fun (r : Int32) (_ : Unit) => r = 1) (fun _ t => vq_Post (dC, dI) CL (va_A (xo ad ca o co σ fo) sz) (xo ad ca o co v.2 fo) (xot ca co) t) (va_A (xo ad ca o co σ fo) sz)) 1 6 (va_A (xo ad ca o co σ fo) sz) := by
  refine vq_ofW (cc := method_13_code) (maxL := 4) (ret := (Option.some Jvm.ClassFile.FieldType.int)) pl_L (vq_hisH k_714) ?_
  intro p e s m args below meth c s₁ B hml hv
  obtain ⟨rfl, hnc, hst, hsz, hP, hK, hD0⟩ := hv
  have hx := B.exec
  have hb := B.bytes
  have hr := B.returns
  have hts := atoms_spec (ws := WS) B.pre
  have hown : s.vm.findClass R_L = some m.cls := findClass_of_methodNamed B.named
  have hlocks := B.notSynchronized
  have htab := vq_hasH B (hts _ k_714)
  subst hsz
  have hN := vq_ns hP
  have hD := hD0.self (sz := s.heap.size)
  generalize hAe : va_A (xo ad ca o co σ fo) s.heap.size = A at hD hN ⊢
  have hA : ∀ q : Nat, s.heap.size ≤ q → A q := fun q h => by rw [← hAe]; exact Or.inr h
  have hS : va_S A s.heap s.heap [] := va_S.rf
  have hl := lv_entry ([.ref (ad 0), .int a0, .ref o]) (n := 4) (Nat.le_of_ble_eq_true rfl)
  rw [lg_entry_eq]
  generalize (lg_sl ([.ref (ad 0), .int a0, .ref o]) ++ List.replicate (4 - (lg_sl ([.ref (ad 0), .int a0, .ref o])).length) Slot.unset).toArray = ls at hl ⊢
  have hl : lv_has ls 4 [(0, .ref (ad 0)), (1, .int a0), (2, .ref o)] := hl
  refine lv_aload_n hx hb d_L_run_0 rfl (lv_at hl 2 rfl) ?_
  refine lv_iconst (v := 0) hx hb d_L_run_1 (by decide) ?_
  refine lv_aload_n hx hb d_L_run_2 rfl (lv_at hl 0 rfl) ?_
  refine lv_iload_n hx hb d_L_run_3 rfl (lv_at hl 1 rfl) ?_
  obtain ⟨hPc, hDc⟩ := ws_sp hP hD
  have hKc := ws_kt hK
  have hFc := ws_fe hD hS hA
  refine vq_catch2 (E := "java/lang/IllegalArgumentException") (name := "java/lang/IllegalArgumentException") (vq_runT2 (As := [.int a0]) (rest := [.int 0, .ref o]) ⟨hx, hb, hml, hown, hts⟩ (t_V_run_1 l htr dC dI ad ca N σ a0 v h s.heap.size) (vq_cV WSk hts 1 rfl rfl ⟨by decide, by decide⟩ k_646 k_22 k_715 k_716 k_717 (by decide +kernel)) ⟨vq_blind, va_recv hKc hPc (ci := 0) (q0 := 0) rfl rfl, vq_here hst hS hN hPc hKc hDc⟩ rfl rfl hl.1 rfl (lv_room (Nat.le_of_ble_eq_true rfl)) d_L_run_4 ⟨by decide, by decide⟩) hS hFc hown [] ⟨0, 9, 12, 13⟩ [⟨0, 9, 15, 15⟩] htab (by intro z hz; cases hz) (by decide) (by decide) (hts _ k_670) (hts _ k_671) (fun q9 t H1 locs ht hvm hB hz1 hk1 hS => ?_)
  obtain ⟨hP1, -, hD1⟩ := hB
  rw [ht] at hP1
  obtain ⟨hP, hD⟩ := ws_jn hP hD hk1 hFc hP1 hD1
  generalize H1 = H at hP hS ⊢
  have hP : va_P (dC, dI) CL ([(o, .inl (co, 1, .inr (.inl fo)))] ++ Xw ad ca v.2) H := hP
  refine W.widen (k := 1) (n := 6) (by decide) (by decide) ?_
  refine W.eq (g2 := F0 m 12 ls [.ref q9]) rfl ?_
  refine lv_astore_n (lv' := [(3, .ref q9), (0, .ref (ad 0)), (1, .int a0), (2, .ref o)]) hx hb d_L_run_12 rfl hl (by decide) rfl (fun ls hl => ?_)
  refine lv_iconst (v := 1) hx hb d_L_run_13 (by decide) ?_
  obtain ⟨hP9, hD9⟩ := ws_pm (σ := v.2) (fo := fo) hP hD
  exact W.iret (v := 1) hx hb hr (fun t ht hW => ⟨⟨1, (), rfl, rfl, by rw [ht]; exact hP9, va_K.moved hW.alike hK, hD9⟩, hS.F ht⟩) hS.2.2 d_L_run_14

set_option maxHeartbeats 4000000 in
set_option maxRecDepth 100000 in
theorem w_run_2 (l : Launch) (htr : l.stackTraces = false) (dC : Nat → ClassId) (dI : Nat → Nat → Nat) (ad : Nat → Nat) (ca : Nat → ClassId) (o : Nat) (co : ClassId) (fo : Nat → Int64) (N : Nat) (σ : vS) (a0 : Int32) (v : Int32 × vS) (h : f_V_run N σ a0 = some ((2, v.1), v.2)) (sz : Nat) : Met l y_L_run WS ({ frames := 7, cells := 1, slots := 6, locals := 132 }) (va_Pc [.ref (ad 0), .int a0, .ref o] (vq_PreN (dC, dI) CL sz (xo ad ca o co σ fo) (xot ca co))) (va_Qi (fun (r : Int32) (_ : Unit) => r = 2) (fun _ t => vq_Post (dC, dI) CL (va_A (xo ad ca o co σ fo) sz) (xo ad ca o co v.2 fo) (xot ca co) t) (va_A (xo ad ca o co σ fo) sz)) 1 6 (va_A (xo ad ca o co σ fo) sz) := by
  refine vq_ofW (cc := method_13_code) (maxL := 4) (ret := (Option.some Jvm.ClassFile.FieldType.int)) pl_L (vq_hisH k_714) ?_
  intro p e s m args below meth c s₁ B hml hv
  obtain ⟨rfl, hnc, hst, hsz, hP, hK, hD0⟩ := hv
  have hx := B.exec
  have hb := B.bytes
  have hr := B.returns
  have hts := atoms_spec (ws := WS) B.pre
  have hown : s.vm.findClass R_L = some m.cls := findClass_of_methodNamed B.named
  have hlocks := B.notSynchronized
  have htab := vq_hasH B (hts _ k_714)
  subst hsz
  have hN := vq_ns hP
  have hD := hD0.self (sz := s.heap.size)
  generalize hAe : va_A (xo ad ca o co σ fo) s.heap.size = A at hD hN ⊢
  have hA : ∀ q : Nat, s.heap.size ≤ q → A q := fun q h => by rw [← hAe]; exact Or.inr h
  have hS : va_S A s.heap s.heap [] := va_S.rf
  have hl := lv_entry ([.ref (ad 0), .int a0, .ref o]) (n := 4) (Nat.le_of_ble_eq_true rfl)
  rw [lg_entry_eq]
  generalize (lg_sl ([.ref (ad 0), .int a0, .ref o]) ++ List.replicate (4 - (lg_sl ([.ref (ad 0), .int a0, .ref o])).length) Slot.unset).toArray = ls at hl ⊢
  have hl : lv_has ls 4 [(0, .ref (ad 0)), (1, .int a0), (2, .ref o)] := hl
  refine lv_aload_n hx hb d_L_run_0 rfl (lv_at hl 2 rfl) ?_
  refine lv_iconst (v := 0) hx hb d_L_run_1 (by decide) ?_
  refine lv_aload_n hx hb d_L_run_2 rfl (lv_at hl 0 rfl) ?_
  refine lv_iload_n hx hb d_L_run_3 rfl (lv_at hl 1 rfl) ?_
  obtain ⟨hPc, hDc⟩ := ws_sp hP hD
  have hKc := ws_kt hK
  have hFc := ws_fe hD hS hA
  refine vq_catch2 (E := "java/lang/IllegalStateException") (name := "java/lang/IllegalStateException") (vq_runT2 (As := [.int a0]) (rest := [.int 0, .ref o]) ⟨hx, hb, hml, hown, hts⟩ (t_V_run_2 l htr dC dI ad ca N σ a0 v h s.heap.size) (vq_cV WSk hts 1 rfl rfl ⟨by decide, by decide⟩ k_646 k_22 k_715 k_716 k_717 (by decide +kernel)) ⟨vq_blind, va_recv hKc hPc (ci := 0) (q0 := 0) rfl rfl, vq_here hst hS hN hPc hKc hDc⟩ rfl rfl hl.1 rfl (lv_room (Nat.le_of_ble_eq_true rfl)) d_L_run_4 ⟨by decide, by decide⟩) hS hFc hown [⟨0, 9, 12, 13⟩] ⟨0, 9, 15, 15⟩ [] htab (by intro z hz; rw [List.mem_singleton] at hz; subst hz; exact Or.inr ⟨by decide, "java/lang/IllegalArgumentException", hts _ k_670, hnc ("java/lang/IllegalStateException", "java/lang/IllegalArgumentException") (by decide)⟩) (by decide) (by decide) (hts _ k_672) (hts _ k_673) (fun q9 t H1 locs ht hvm hB hz1 hk1 hS => ?_)
  obtain ⟨hP1, -, hD1⟩ := hB
  rw [ht] at hP1
  obtain ⟨hP, hD⟩ := ws_jn hP hD hk1 hFc hP1 hD1
  generalize H1 = H at hP hS ⊢
  have hP : va_P (dC, dI) CL ([(o, .inl (co, 1, .inr (.inl fo)))] ++ Xw ad ca v.2) H := hP
  refine W.widen (k := 1) (n := 6) (by decide) (by decide) ?_
  refine W.eq (g2 := F0 m 15 ls [.ref q9]) rfl ?_
  refine lv_astore_n (lv' := [(3, .ref q9), (0, .ref (ad 0)), (1, .int a0), (2, .ref o)]) hx hb d_L_run_15 rfl hl (by decide) rfl (fun ls hl => ?_)
  refine lv_iconst (v := 2) hx hb d_L_run_16 (by decide) ?_
  obtain ⟨hP9, hD9⟩ := ws_pm (σ := v.2) (fo := fo) hP hD
  exact W.iret (v := 2) hx hb hr (fun t ht hW => ⟨⟨2, (), rfl, rfl, by rw [ht]; exact hP9, va_K.moved hW.alike hK, hD9⟩, hS.F ht⟩) hS.2.2 d_L_run_17

set_option maxHeartbeats 4000000 in
set_option maxRecDepth 100000 in
theorem w_knows_0 (l : Launch) (htr : l.stackTraces = false) (dC : Nat → ClassId) (dI : Nat → Nat → Nat) (ad : Nat → Nat) (ca : Nat → ClassId) (o : Nat) (co : ClassId) (fo : Nat → Int64) (N : Nat) (σ : vS) (a0 : Int32) (a1 : Int32) (v : Int32 × vS) (h : f_V_knows N σ a0 a1 = some ((0, v.1), v.2)) (sz : Nat) : Met l y_L_knows WS ({ frames := 8, cells := 0, slots := 0, locals := 126 }) (va_Pc [.ref (ad 0), .int a0, .int a1, .ref o] (vq_PreN (dC, dI) CL sz (xo ad ca o co σ fo) (xot ca co))) (va_Qi (fun (r : Int32) (_ : Unit) => r = 0) (fun _ t => vq_Post (dC, dI) CL (va_A (xo ad ca o co σ fo) sz) (xo ad ca o co v.2 (vp_updL fo (0 : Int32).toNatClampNeg (if v.1 = 0 then (0 : Int64) else 1))) (xot ca co) t) (va_A (xo ad ca o co σ fo) sz)) 0 0 (va_A (xo ad ca o co σ fo) sz) := by
  refine vq_ofW (cc := method_14_code) (maxL := 5) (ret := (Option.some Jvm.ClassFile.FieldType.int)) pl_L (vq_hisH k_718) ?_
  intro p e s m args below meth c s₁ B hml hv
  obtain ⟨rfl, hnc, hst, hsz, hP, hK, hD0⟩ := hv
  have hx := B.exec
  have hb := B.bytes
  have hr := B.returns
  have hts := atoms_spec (ws := WS) B.pre
  have hown : s.vm.findClass R_L = some m.cls := findClass_of_methodNamed B.named
  have hlocks := B.notSynchronized
  have htab := vq_hasH B (hts _ k_718)
  subst hsz
  have hN := vq_ns hP
  have hD := hD0.self (sz := s.heap.size)
  generalize hAe : va_A (xo ad ca o co σ fo) s.heap.size = A at hD hN ⊢
  have hA : ∀ q : Nat, s.heap.size ≤ q → A q := fun q h => by rw [← hAe]; exact Or.inr h
  have hS : va_S A s.heap s.heap [] := va_S.rf
  have hl := lv_entry ([.ref (ad 0), .int a0, .int a1, .ref o]) (n := 5) (Nat.le_of_ble_eq_true rfl)
  rw [lg_entry_eq]
  generalize (lg_sl ([.ref (ad 0), .int a0, .int a1, .ref o]) ++ List.replicate (5 - (lg_sl ([.ref (ad 0), .int a0, .int a1, .ref o])).length) Slot.unset).toArray = ls at hl ⊢
  have hl : lv_has ls 5 [(0, .ref (ad 0)), (1, .int a0), (2, .int a1), (3, .ref o)] := hl
  refine lv_aload_n hx hb d_L_knows_0 rfl (lv_at hl 3 rfl) ?_
  refine lv_iconst (v := 0) hx hb d_L_knows_1 (by decide) ?_
  refine lv_aload_n hx hb d_L_knows_2 rfl (lv_at hl 0 rfl) ?_
  refine lv_iload_n hx hb d_L_knows_3 rfl (lv_at hl 1 rfl) ?_
  refine lv_iload_n hx hb d_L_knows_4 rfl (lv_at hl 2 rfl) ?_
  obtain ⟨hPc, hDc⟩ := ws_sp hP hD
  have hKc := ws_kt hK
  have hFc := ws_fe hD hS hA
  refine va_calli (va_runV (As := [.int a0, .int a1]) (rest := [.int 0, .ref o]) ⟨hx, hb, hml, hown, hts⟩ (c_V_knows l htr dC dI ad ca N σ a0 a1 v h s.heap.size) (vq_cV WSk hts 2 rfl rfl ⟨by decide, by decide⟩ k_656 k_22 k_719 k_720 k_721 (by decide +kernel)) ⟨vq_blind, va_recv hKc hPc (ci := 0) (q0 := 0) rfl rfl, vq_here hst hS hN hPc hKc hDc⟩ rfl rfl hl.1 rfl (lv_room (Nat.le_of_ble_eq_true rfl)) d_L_knows_5 ⟨by decide, by decide⟩) hS (fun q _ h => hFc q h) hFc (fun r u t H1 locs ht hvm hw hB hz1 hk1 hS => ?_)
  have hw : r = v.1 := hw
  subst hw
  obtain ⟨hP1, -, hD1⟩ := hB
  rw [ht] at hP1
  obtain ⟨hP, hD⟩ := ws_jn hP hD hk1 hFc hP1 hD1
  generalize H1 = H at hP hS ⊢
  have hP : va_P (dC, dI) CL ([(o, .inl (co, 1, .inr (.inl fo)))] ++ Xw ad ca v.2) H := hP
  refine W.widen (k := 0) (n := 0) (by decide) (by decide) ?_
  refine lv_if_eq (tgt := 15) hx hb d_L_knows_8 (by decide) (fun hz => ?_) (fun hz => ?_)
  ·
    refine lv_lconst (v := 0) hx hb d_L_knows_15 (by decide) ?_
    rw [if_pos hz]
    refine va_last (n := 1) (f := fo) hx hb hK hP hD hS 0 27 rfl rfl (show ¬ ((0 : Int32) < 0 ∨ 1 ≤ Int32.toNatClampNeg 0) by decide) d_L_knows_16 (fun H locs hP hD hS => ?_)
    refine lv_goto (tgt := 24) hx hb d_L_knows_17 (by decide) ?_
    refine lv_iconst (v := 0) hx hb d_L_knows_24 (by decide) ?_
    obtain ⟨hP9, hD9⟩ := ws_pm (σ := v.2) (fo := (vp_updL fo (0 : Int32).toNatClampNeg 0)) hP hD
    exact W.iret (v := 0) hx hb hr (fun t ht hW => ⟨⟨0, (), rfl, rfl, by rw [ht]; exact hP9, va_K.moved hW.alike hK, hD9⟩, hS.F ht⟩) hS.2.2 d_L_knows_25
  ·
    refine lv_lconst (v := 1) hx hb d_L_knows_11 (by decide) ?_
    refine lv_goto (tgt := 16) hx hb d_L_knows_12 (by decide) ?_
    rw [if_neg hz]
    refine va_last (n := 1) (f := fo) hx hb hK hP hD hS 0 27 rfl rfl (show ¬ ((0 : Int32) < 0 ∨ 1 ≤ Int32.toNatClampNeg 0) by decide) d_L_knows_16 (fun H locs hP hD hS => ?_)
    refine lv_goto (tgt := 24) hx hb d_L_knows_17 (by decide) ?_
    refine lv_iconst (v := 0) hx hb d_L_knows_24 (by decide) ?_
    obtain ⟨hP9, hD9⟩ := ws_pm (σ := v.2) (fo := (vp_updL fo (0 : Int32).toNatClampNeg 1)) hP hD
    exact W.iret (v := 0) hx hb hr (fun t ht hW => ⟨⟨0, (), rfl, rfl, by rw [ht]; exact hP9, va_K.moved hW.alike hK, hD9⟩, hS.F ht⟩) hS.2.2 d_L_knows_25

set_option maxHeartbeats 4000000 in
set_option maxRecDepth 100000 in
theorem w_knows_3 (l : Launch) (htr : l.stackTraces = false) (dC : Nat → ClassId) (dI : Nat → Nat → Nat) (ad : Nat → Nat) (ca : Nat → ClassId) (o : Nat) (co : ClassId) (fo : Nat → Int64) (N : Nat) (σ : vS) (a0 : Int32) (a1 : Int32) (v : Int32 × vS) (h : f_V_knows N σ a0 a1 = some ((3, v.1), v.2)) (sz : Nat) : Met l y_L_knows WS ({ frames := 8, cells := 1, slots := 6, locals := 126 }) (va_Pc [.ref (ad 0), .int a0, .int a1, .ref o] (vq_PreN (dC, dI) CL sz (xo ad ca o co σ fo) (xot ca co))) (va_Qi (fun (r : Int32) (_ : Unit) => r = 1) (fun _ t => vq_Post (dC, dI) CL (va_A (xo ad ca o co σ fo) sz) (xo ad ca o co v.2 fo) (xot ca co) t) (va_A (xo ad ca o co σ fo) sz)) 1 6 (va_A (xo ad ca o co σ fo) sz) := by
  refine vq_ofW (cc := method_14_code) (maxL := 5) (ret := (Option.some Jvm.ClassFile.FieldType.int)) pl_L (vq_hisH k_718) ?_
  intro p e s m args below meth c s₁ B hml hv
  obtain ⟨rfl, hnc, hst, hsz, hP, hK, hD0⟩ := hv
  have hx := B.exec
  have hb := B.bytes
  have hr := B.returns
  have hts := atoms_spec (ws := WS) B.pre
  have hown : s.vm.findClass R_L = some m.cls := findClass_of_methodNamed B.named
  have hlocks := B.notSynchronized
  have htab := vq_hasH B (hts _ k_718)
  subst hsz
  have hN := vq_ns hP
  have hD := hD0.self (sz := s.heap.size)
  generalize hAe : va_A (xo ad ca o co σ fo) s.heap.size = A at hD hN ⊢
  have hA : ∀ q : Nat, s.heap.size ≤ q → A q := fun q h => by rw [← hAe]; exact Or.inr h
  have hS : va_S A s.heap s.heap [] := va_S.rf
  have hl := lv_entry ([.ref (ad 0), .int a0, .int a1, .ref o]) (n := 5) (Nat.le_of_ble_eq_true rfl)
  rw [lg_entry_eq]
  generalize (lg_sl ([.ref (ad 0), .int a0, .int a1, .ref o]) ++ List.replicate (5 - (lg_sl ([.ref (ad 0), .int a0, .int a1, .ref o])).length) Slot.unset).toArray = ls at hl ⊢
  have hl : lv_has ls 5 [(0, .ref (ad 0)), (1, .int a0), (2, .int a1), (3, .ref o)] := hl
  refine lv_aload_n hx hb d_L_knows_0 rfl (lv_at hl 3 rfl) ?_
  refine lv_iconst (v := 0) hx hb d_L_knows_1 (by decide) ?_
  refine lv_aload_n hx hb d_L_knows_2 rfl (lv_at hl 0 rfl) ?_
  refine lv_iload_n hx hb d_L_knows_3 rfl (lv_at hl 1 rfl) ?_
  refine lv_iload_n hx hb d_L_knows_4 rfl (lv_at hl 2 rfl) ?_
  obtain ⟨hPc, hDc⟩ := ws_sp hP hD
  have hKc := ws_kt hK
  have hFc := ws_fe hD hS hA
  refine vq_catch2 (E := "java/lang/IndexOutOfBoundsException") (name := "java/lang/IndexOutOfBoundsException") (vq_runT2 (As := [.int a0, .int a1]) (rest := [.int 0, .ref o]) ⟨hx, hb, hml, hown, hts⟩ (t_V_knows_3 l htr dC dI ad ca N σ a0 a1 v h s.heap.size) (vq_cV WSk hts 2 rfl rfl ⟨by decide, by decide⟩ k_656 k_22 k_719 k_720 k_721 (by decide +kernel)) ⟨vq_blind, va_recv hKc hPc (ci := 0) (q0 := 0) rfl rfl, vq_here hst hS hN hPc hKc hDc⟩ rfl rfl hl.1 rfl (lv_room (Nat.le_of_ble_eq_true rfl)) d_L_knows_5 ⟨by decide, by decide⟩) hS hFc hown [] ⟨0, 17, 20, 25⟩ [] htab (by intro z hz; cases hz) (by decide) (by decide) (hts _ k_682) (hts _ k_683) (fun q9 t H1 locs ht hvm hB hz1 hk1 hS => ?_)
  obtain ⟨hP1, -, hD1⟩ := hB
  rw [ht] at hP1
  obtain ⟨hP, hD⟩ := ws_jn hP hD hk1 hFc hP1 hD1
  generalize H1 = H at hP hS ⊢
  have hP : va_P (dC, dI) CL ([(o, .inl (co, 1, .inr (.inl fo)))] ++ Xw ad ca v.2) H := hP
  refine W.widen (k := 1) (n := 6) (by decide) (by decide) ?_
  refine W.eq (g2 := F0 m 20 ls [.ref q9]) rfl ?_
  refine lv_astore (lv' := [(4, .ref q9), (0, .ref (ad 0)), (1, .int a0), (2, .int a1), (3, .ref o)]) hx hb d_L_knows_20 hl (by decide) rfl (fun ls hl => ?_)
  refine lv_iconst (v := 1) hx hb d_L_knows_22 (by decide) ?_
  obtain ⟨hP9, hD9⟩ := ws_pm (σ := v.2) (fo := fo) hP hD
  exact W.iret (v := 1) hx hb hr (fun t ht hW => ⟨⟨1, (), rfl, rfl, by rw [ht]; exact hP9, va_K.moved hW.alike hK, hD9⟩, hS.F ht⟩) hS.2.2 d_L_knows_23

set_option maxHeartbeats 4000000 in
set_option maxRecDepth 100000 in
theorem w_value_0 (l : Launch) (htr : l.stackTraces = false) (dC : Nat → ClassId) (dI : Nat → Nat → Nat) (ad : Nat → Nat) (ca : Nat → ClassId) (o : Nat) (co : ClassId) (fo : Nat → Int64) (N : Nat) (σ : vS) (a0 : Int32) (a1 : Int32) (v : Int32 × vS) (h : f_V_value N σ a0 a1 = some ((0, v.1), v.2)) (sz : Nat) : Met l y_L_value WS ({ frames := 8, cells := 0, slots := 0, locals := 126 }) (va_Pc [.ref (ad 0), .int a0, .int a1, .ref o] (vq_PreN (dC, dI) CL sz (xo ad ca o co σ fo) (xot ca co))) (va_Qi (fun (r : Int32) (_ : Unit) => r = 0) (fun _ t => vq_Post (dC, dI) CL (va_A (xo ad ca o co σ fo) sz) (xo ad ca o co v.2 (vp_updL fo (0 : Int32).toNatClampNeg v.1.toInt64)) (xot ca co) t) (va_A (xo ad ca o co σ fo) sz)) 0 0 (va_A (xo ad ca o co σ fo) sz) := by
  refine vq_ofW (cc := method_15_code) (maxL := 5) (ret := (Option.some Jvm.ClassFile.FieldType.int)) pl_L (vq_hisH k_722) ?_
  intro p e s m args below meth c s₁ B hml hv
  obtain ⟨rfl, hnc, hst, hsz, hP, hK, hD0⟩ := hv
  have hx := B.exec
  have hb := B.bytes
  have hr := B.returns
  have hts := atoms_spec (ws := WS) B.pre
  have hown : s.vm.findClass R_L = some m.cls := findClass_of_methodNamed B.named
  have hlocks := B.notSynchronized
  have htab := vq_hasH B (hts _ k_722)
  subst hsz
  have hN := vq_ns hP
  have hD := hD0.self (sz := s.heap.size)
  generalize hAe : va_A (xo ad ca o co σ fo) s.heap.size = A at hD hN ⊢
  have hA : ∀ q : Nat, s.heap.size ≤ q → A q := fun q h => by rw [← hAe]; exact Or.inr h
  have hS : va_S A s.heap s.heap [] := va_S.rf
  have hl := lv_entry ([.ref (ad 0), .int a0, .int a1, .ref o]) (n := 5) (Nat.le_of_ble_eq_true rfl)
  rw [lg_entry_eq]
  generalize (lg_sl ([.ref (ad 0), .int a0, .int a1, .ref o]) ++ List.replicate (5 - (lg_sl ([.ref (ad 0), .int a0, .int a1, .ref o])).length) Slot.unset).toArray = ls at hl ⊢
  have hl : lv_has ls 5 [(0, .ref (ad 0)), (1, .int a0), (2, .int a1), (3, .ref o)] := hl
  refine lv_aload_n hx hb d_L_value_0 rfl (lv_at hl 3 rfl) ?_
  refine lv_iconst (v := 0) hx hb d_L_value_1 (by decide) ?_
  refine lv_aload_n hx hb d_L_value_2 rfl (lv_at hl 0 rfl) ?_
  refine lv_iload_n hx hb d_L_value_3 rfl (lv_at hl 1 rfl) ?_
  refine lv_iload_n hx hb d_L_value_4 rfl (lv_at hl 2 rfl) ?_
  obtain ⟨hPc, hDc⟩ := ws_sp hP hD
  have hKc := ws_kt hK
  have hFc := ws_fe hD hS hA
  refine va_calli (va_runV (As := [.int a0, .int a1]) (rest := [.int 0, .ref o]) ⟨hx, hb, hml, hown, hts⟩ (c_V_value l htr dC dI ad ca N σ a0 a1 v h s.heap.size) (vq_cV WSk hts 2 rfl rfl ⟨by decide, by decide⟩ k_663 k_22 k_723 k_724 k_725 (by decide +kernel)) ⟨vq_blind, va_recv hKc hPc (ci := 0) (q0 := 0) rfl rfl, vq_here hst hS hN hPc hKc hDc⟩ rfl rfl hl.1 rfl (lv_room (Nat.le_of_ble_eq_true rfl)) d_L_value_5 ⟨by decide, by decide⟩) hS (fun q _ h => hFc q h) hFc (fun r u t H1 locs ht hvm hw hB hz1 hk1 hS => ?_)
  have hw : r = v.1 := hw
  subst hw
  obtain ⟨hP1, -, hD1⟩ := hB
  rw [ht] at hP1
  obtain ⟨hP, hD⟩ := ws_jn hP hD hk1 hFc hP1 hD1
  generalize H1 = H at hP hS ⊢
  have hP : va_P (dC, dI) CL ([(o, .inl (co, 1, .inr (.inl fo)))] ++ Xw ad ca v.2) H := hP
  refine W.widen (k := 0) (n := 0) (by decide) (by decide) ?_
  refine lv_i2l hx hb d_L_value_8 rfl ?_
  refine va_last (n := 1) (f := fo) hx hb hK hP hD hS 0 27 rfl rfl (show ¬ ((0 : Int32) < 0 ∨ 1 ≤ Int32.toNatClampNeg 0) by decide) d_L_value_9 (fun H locs hP hD hS => ?_)
  refine lv_goto (tgt := 21) hx hb d_L_value_10 (by decide) ?_
  refine lv_iconst (v := 0) hx hb d_L_value_21 (by decide) ?_
  obtain ⟨hP9, hD9⟩ := ws_pm (σ := v.2) (fo := (vp_updL fo (0 : Int32).toNatClampNeg v.1.toInt64)) hP hD
  exact W.iret (v := 0) hx hb hr (fun t ht hW => ⟨⟨0, (), rfl, rfl, by rw [ht]; exact hP9, va_K.moved hW.alike hK, hD9⟩, hS.F ht⟩) hS.2.2 d_L_value_22

set_option maxHeartbeats 4000000 in
set_option maxRecDepth 100000 in
theorem w_value_2 (l : Launch) (htr : l.stackTraces = false) (dC : Nat → ClassId) (dI : Nat → Nat → Nat) (ad : Nat → Nat) (ca : Nat → ClassId) (o : Nat) (co : ClassId) (fo : Nat → Int64) (N : Nat) (σ : vS) (a0 : Int32) (a1 : Int32) (v : Int32 × vS) (h : f_V_value N σ a0 a1 = some ((2, v.1), v.2)) (sz : Nat) : Met l y_L_value WS ({ frames := 8, cells := 1, slots := 6, locals := 126 }) (va_Pc [.ref (ad 0), .int a0, .int a1, .ref o] (vq_PreN (dC, dI) CL sz (xo ad ca o co σ fo) (xot ca co))) (va_Qi (fun (r : Int32) (_ : Unit) => r = 2) (fun _ t => vq_Post (dC, dI) CL (va_A (xo ad ca o co σ fo) sz) (xo ad ca o co v.2 fo) (xot ca co) t) (va_A (xo ad ca o co σ fo) sz)) 1 6 (va_A (xo ad ca o co σ fo) sz) := by
  refine vq_ofW (cc := method_15_code) (maxL := 5) (ret := (Option.some Jvm.ClassFile.FieldType.int)) pl_L (vq_hisH k_722) ?_
  intro p e s m args below meth c s₁ B hml hv
  obtain ⟨rfl, hnc, hst, hsz, hP, hK, hD0⟩ := hv
  have hx := B.exec
  have hb := B.bytes
  have hr := B.returns
  have hts := atoms_spec (ws := WS) B.pre
  have hown : s.vm.findClass R_L = some m.cls := findClass_of_methodNamed B.named
  have hlocks := B.notSynchronized
  have htab := vq_hasH B (hts _ k_722)
  subst hsz
  have hN := vq_ns hP
  have hD := hD0.self (sz := s.heap.size)
  generalize hAe : va_A (xo ad ca o co σ fo) s.heap.size = A at hD hN ⊢
  have hA : ∀ q : Nat, s.heap.size ≤ q → A q := fun q h => by rw [← hAe]; exact Or.inr h
  have hS : va_S A s.heap s.heap [] := va_S.rf
  have hl := lv_entry ([.ref (ad 0), .int a0, .int a1, .ref o]) (n := 5) (Nat.le_of_ble_eq_true rfl)
  rw [lg_entry_eq]
  generalize (lg_sl ([.ref (ad 0), .int a0, .int a1, .ref o]) ++ List.replicate (5 - (lg_sl ([.ref (ad 0), .int a0, .int a1, .ref o])).length) Slot.unset).toArray = ls at hl ⊢
  have hl : lv_has ls 5 [(0, .ref (ad 0)), (1, .int a0), (2, .int a1), (3, .ref o)] := hl
  refine lv_aload_n hx hb d_L_value_0 rfl (lv_at hl 3 rfl) ?_
  refine lv_iconst (v := 0) hx hb d_L_value_1 (by decide) ?_
  refine lv_aload_n hx hb d_L_value_2 rfl (lv_at hl 0 rfl) ?_
  refine lv_iload_n hx hb d_L_value_3 rfl (lv_at hl 1 rfl) ?_
  refine lv_iload_n hx hb d_L_value_4 rfl (lv_at hl 2 rfl) ?_
  obtain ⟨hPc, hDc⟩ := ws_sp hP hD
  have hKc := ws_kt hK
  have hFc := ws_fe hD hS hA
  refine vq_catch2 (E := "java/lang/IllegalStateException") (name := "java/lang/IllegalStateException") (vq_runT2 (As := [.int a0, .int a1]) (rest := [.int 0, .ref o]) ⟨hx, hb, hml, hown, hts⟩ (t_V_value_2 l htr dC dI ad ca N σ a0 a1 v h s.heap.size) (vq_cV WSk hts 2 rfl rfl ⟨by decide, by decide⟩ k_663 k_22 k_723 k_724 k_725 (by decide +kernel)) ⟨vq_blind, va_recv hKc hPc (ci := 0) (q0 := 0) rfl rfl, vq_here hst hS hN hPc hKc hDc⟩ rfl rfl hl.1 rfl (lv_room (Nat.le_of_ble_eq_true rfl)) d_L_value_5 ⟨by decide, by decide⟩) hS hFc hown [⟨0, 10, 13, 25⟩] ⟨0, 10, 17, 15⟩ [] htab (by intro z hz; rw [List.mem_singleton] at hz; subst hz; exact Or.inr ⟨by decide, "java/lang/IndexOutOfBoundsException", hts _ k_682, hnc ("java/lang/IllegalStateException", "java/lang/IndexOutOfBoundsException") (by decide)⟩) (by decide) (by decide) (hts _ k_672) (hts _ k_673) (fun q9 t H1 locs ht hvm hB hz1 hk1 hS => ?_)
  obtain ⟨hP1, -, hD1⟩ := hB
  rw [ht] at hP1
  obtain ⟨hP, hD⟩ := ws_jn hP hD hk1 hFc hP1 hD1
  generalize H1 = H at hP hS ⊢
  have hP : va_P (dC, dI) CL ([(o, .inl (co, 1, .inr (.inl fo)))] ++ Xw ad ca v.2) H := hP
  refine W.widen (k := 1) (n := 6) (by decide) (by decide) ?_
  refine W.eq (g2 := F0 m 17 ls [.ref q9]) rfl ?_
  refine lv_astore (lv' := [(4, .ref q9), (0, .ref (ad 0)), (1, .int a0), (2, .int a1), (3, .ref o)]) hx hb d_L_value_17 hl (by decide) rfl (fun ls hl => ?_)
  refine lv_iconst (v := 2) hx hb d_L_value_19 (by decide) ?_
  obtain ⟨hP9, hD9⟩ := ws_pm (σ := v.2) (fo := fo) hP hD
  exact W.iret (v := 2) hx hb hr (fun t ht hW => ⟨⟨2, (), rfl, rfl, by rw [ht]; exact hP9, va_K.moved hW.alike hK, hD9⟩, hS.F ht⟩) hS.2.2 d_L_value_20

set_option maxHeartbeats 4000000 in
set_option maxRecDepth 100000 in
theorem w_value_3 (l : Launch) (htr : l.stackTraces = false) (dC : Nat → ClassId) (dI : Nat → Nat → Nat) (ad : Nat → Nat) (ca : Nat → ClassId) (o : Nat) (co : ClassId) (fo : Nat → Int64) (N : Nat) (σ : vS) (a0 : Int32) (a1 : Int32) (v : Int32 × vS) (h : f_V_value N σ a0 a1 = some ((3, v.1), v.2)) (sz : Nat) : Met l y_L_value WS ({ frames := 8, cells := 1, slots := 6, locals := 126 }) (va_Pc [.ref (ad 0), .int a0, .int a1, .ref o] (vq_PreN (dC, dI) CL sz (xo ad ca o co σ fo) (xot ca co))) (va_Qi (fun (r : Int32) (_ : Unit) => r = 1) (fun _ t => vq_Post (dC, dI) CL (va_A (xo ad ca o co σ fo) sz) (xo ad ca o co v.2 fo) (xot ca co) t) (va_A (xo ad ca o co σ fo) sz)) 1 6 (va_A (xo ad ca o co σ fo) sz) := by
  refine vq_ofW (cc := method_15_code) (maxL := 5) (ret := (Option.some Jvm.ClassFile.FieldType.int)) pl_L (vq_hisH k_722) ?_
  intro p e s m args below meth c s₁ B hml hv
  obtain ⟨rfl, hnc, hst, hsz, hP, hK, hD0⟩ := hv
  have hx := B.exec
  have hb := B.bytes
  have hr := B.returns
  have hts := atoms_spec (ws := WS) B.pre
  have hown : s.vm.findClass R_L = some m.cls := findClass_of_methodNamed B.named
  have hlocks := B.notSynchronized
  have htab := vq_hasH B (hts _ k_722)
  subst hsz
  have hN := vq_ns hP
  have hD := hD0.self (sz := s.heap.size)
  generalize hAe : va_A (xo ad ca o co σ fo) s.heap.size = A at hD hN ⊢
  have hA : ∀ q : Nat, s.heap.size ≤ q → A q := fun q h => by rw [← hAe]; exact Or.inr h
  have hS : va_S A s.heap s.heap [] := va_S.rf
  have hl := lv_entry ([.ref (ad 0), .int a0, .int a1, .ref o]) (n := 5) (Nat.le_of_ble_eq_true rfl)
  rw [lg_entry_eq]
  generalize (lg_sl ([.ref (ad 0), .int a0, .int a1, .ref o]) ++ List.replicate (5 - (lg_sl ([.ref (ad 0), .int a0, .int a1, .ref o])).length) Slot.unset).toArray = ls at hl ⊢
  have hl : lv_has ls 5 [(0, .ref (ad 0)), (1, .int a0), (2, .int a1), (3, .ref o)] := hl
  refine lv_aload_n hx hb d_L_value_0 rfl (lv_at hl 3 rfl) ?_
  refine lv_iconst (v := 0) hx hb d_L_value_1 (by decide) ?_
  refine lv_aload_n hx hb d_L_value_2 rfl (lv_at hl 0 rfl) ?_
  refine lv_iload_n hx hb d_L_value_3 rfl (lv_at hl 1 rfl) ?_
  refine lv_iload_n hx hb d_L_value_4 rfl (lv_at hl 2 rfl) ?_
  obtain ⟨hPc, hDc⟩ := ws_sp hP hD
  have hKc := ws_kt hK
  have hFc := ws_fe hD hS hA
  refine vq_catch2 (E := "java/lang/IndexOutOfBoundsException") (name := "java/lang/IndexOutOfBoundsException") (vq_runT2 (As := [.int a0, .int a1]) (rest := [.int 0, .ref o]) ⟨hx, hb, hml, hown, hts⟩ (t_V_value_3 l htr dC dI ad ca N σ a0 a1 v h s.heap.size) (vq_cV WSk hts 2 rfl rfl ⟨by decide, by decide⟩ k_663 k_22 k_723 k_724 k_725 (by decide +kernel)) ⟨vq_blind, va_recv hKc hPc (ci := 0) (q0 := 0) rfl rfl, vq_here hst hS hN hPc hKc hDc⟩ rfl rfl hl.1 rfl (lv_room (Nat.le_of_ble_eq_true rfl)) d_L_value_5 ⟨by decide, by decide⟩) hS hFc hown [] ⟨0, 10, 13, 25⟩ [⟨0, 10, 17, 15⟩] htab (by intro z hz; cases hz) (by decide) (by decide) (hts _ k_682) (hts _ k_683) (fun q9 t H1 locs ht hvm hB hz1 hk1 hS => ?_)
  obtain ⟨hP1, -, hD1⟩ := hB
  rw [ht] at hP1
  obtain ⟨hP, hD⟩ := ws_jn hP hD hk1 hFc hP1 hD1
  generalize H1 = H at hP hS ⊢
  have hP : va_P (dC, dI) CL ([(o, .inl (co, 1, .inr (.inl fo)))] ++ Xw ad ca v.2) H := hP
  refine W.widen (k := 1) (n := 6) (by decide) (by decide) ?_
  refine W.eq (g2 := F0 m 13 ls [.ref q9]) rfl ?_
  refine lv_astore (lv' := [(4, .ref q9), (0, .ref (ad 0)), (1, .int a0), (2, .int a1), (3, .ref o)]) hx hb d_L_value_13 hl (by decide) rfl (fun ls hl => ?_)
  refine lv_iconst (v := 1) hx hb d_L_value_15 (by decide) ?_
  obtain ⟨hP9, hD9⟩ := ws_pm (σ := v.2) (fo := fo) hP hD
  exact W.iret (v := 1) hx hb hr (fun t ht hW => ⟨⟨1, (), rfl, rfl, by rw [ht]; exact hP9, va_K.moved hW.alike hK, hD9⟩, hS.F ht⟩) hS.2.2 d_L_value_16
