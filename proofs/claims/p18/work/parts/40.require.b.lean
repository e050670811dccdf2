set_option maxHeartbeats 4000000 in
set_option maxRecDepth 100000 in
theorem c_V_dropAnalysis (l : Launch) (htr : l.stackTraces = false) (dC : Nat → ClassId) (dI : Nat → Nat → Nat) (ad : Nat → Nat) (ca : Nat → ClassId) (N : Nat) (σ : vS) (v : Int32 × vS) (h : f_V_dropAnalysis N σ = some v) (sz : Nat) : Met l y_V_dropAnalysis WS ({ frames := 1, cells := 0, slots := 0, locals := 20 }) (va_Pc [.ref (ad 0)] (vq_Pre (dC, dI) CL sz (Xw ad ca σ) (Xt ca))) (va_Qv (fun _ : Unit => True) (fun _ t => vq_Post (dC, dI) CL (va_A (Xw ad ca σ) sz) (Xw ad ca v.2) (Xt ca) t) (va_A (Xw ad ca σ) sz)) 0 0 (va_A (Xw ad ca σ) sz) := by
  refine vq_ofW (cc := prog_1_method_19_code) (maxL := 1) (ret := (Option.none : Option Jvm.ClassFile.FieldType)) pl_V (vq_his k_530) ?_
  intro p e s m args below meth c s₁ B hml hv
  obtain ⟨rfl, hst, hsz, hP, hK, hD0⟩ := hv
  have hx := B.exec
  have hb := B.bytes
  have hr := B.returns
  have hts := atoms_spec (ws := WS) B.pre
  have hown : s.vm.findClass R_V = some m.cls := findClass_of_methodNamed B.named
  have hlocks := B.notSynchronized
  have hno := vq_noH B (hts _ k_530)
  subst hsz
  have hN := vq_ns hP
  have hD := hD0.self (sz := s.heap.size)
  generalize hAe : va_A (Xw ad ca σ) s.heap.size = A at hD hN ⊢
  have hA : ∀ q : Nat, s.heap.size ≤ q → A q := fun q h => by rw [← hAe]; exact Or.inr h
  have hS : va_S A s.heap s.heap [] := va_S.rf
  have hl := lv_entry ([.ref (ad 0)]) (n := 1) (Nat.le_of_ble_eq_true rfl)
  rw [lg_entry_eq]
  generalize (lg_sl ([.ref (ad 0)]) ++ List.replicate (1 - (lg_sl ([.ref (ad 0)])).length) Slot.unset).toArray = ls at hl ⊢
  have hl : lv_has ls 1 [(0, .ref (ad 0))] := hl
  unfold f_V_dropAnalysis at h
  refine lv_aload_n hx hb d_V_dropAnalysis_0 rfl (lv_at hl 0 rfl) ?_
  refine g_V_analysis dC dI ad ca σ hx hb hts hown hK hP k_531 d_V_dropAnalysis_1 ?_
  refine lv_iconst (v := 0) hx hb d_V_dropAnalysis_4 (by decide) ?_
  refine pN_A_present dC dI ad ca σ hx hb hts hown hK hP hD hS k_532 (by decide) d_V_dropAnalysis_5 (fun H locs hP hD hS => ?_)
  obtain ⟨σ1, eσ1, h⟩ := vq_let h
  rw [← eσ1] at hP hD
  refine lv_aload_n hx hb d_V_dropAnalysis_8 rfl (lv_at hl 0 rfl) ?_
  refine g_V_walk dC dI ad ca σ1 hx hb hts hown hK hP k_533 d_V_dropAnalysis_9 ?_
  obtain ⟨q2, h3, h⟩ := vq_bi h
  have hFc := vq_freeAll hD hS hA
  refine va_callv (va_runV (As := []) (rest := []) ⟨hx, hb, hml, hown, hts⟩ (c_U_end l htr dC dI ad ca N σ1 q2 h3 H.size) (vq_cV WSk hts 0 rfl rfl ⟨by decide, by decide⟩ k_262 k_279 k_534 k_535 k_536 (by decide +kernel)) ⟨vq_blind, va_recv hK hP (ci := 7) (q0 := 7) rfl rfl, vq_here hst hS hN hP hK hD⟩ rfl rfl hl.1 rfl (lv_room (Nat.le_of_ble_eq_true rfl)) d_V_dropAnalysis_12 ⟨by decide, by decide⟩) hS (fun q _ h => hFc q h) hFc (fun u t H1 locs ht hvm hw hB hz1 hk1 hS => ?_)
  obtain ⟨hP, -, hD1⟩ := hB
  rw [ht] at hP
  have hD := hD1.weaken (fun _ _ _ h => hFc _ h)
  generalize H1 = H at hP hS ⊢
  refine W.widen (k := 0) (n := 0) (by decide) (by decide) ?_
  have h9 := Option.some.inj h
  rw [← h9]
  exact W.vret hx hb hr (fun t ht hW => ⟨⟨(), rfl, trivial, by rw [ht]; exact hP, va_K.moved hW.alike hK, hD⟩, hS.F ht⟩) hS.2.2 d_V_dropAnalysis_15

set_option maxHeartbeats 4000000 in
set_option maxRecDepth 100000 in
theorem c_V_requireAnalysis (l : Launch) (htr : l.stackTraces = false) (dC : Nat → ClassId) (dI : Nat → Nat → Nat) (ad : Nat → Nat) (ca : Nat → ClassId) (N : Nat) (σ : vS) (v : Int32 × vS) (h : f_V_requireAnalysis N σ = some ((0, v.1), v.2)) (sz : Nat) : Met l y_V_requireAnalysis WS ({ frames := 6, cells := 0, slots := 0, locals := 82 }) (va_Pc [.ref (ad 0)] (vq_Pre (dC, dI) CL sz (Xw ad ca σ) (Xt ca))) (va_Qv (fun _ : Unit => True) (fun _ t => vq_Post (dC, dI) CL (va_A (Xw ad ca σ) sz) (Xw ad ca v.2) (Xt ca) t) (va_A (Xw ad ca σ) sz)) 0 0 (va_A (Xw ad ca σ) sz) := by
  refine vq_ofW (cc := prog_1_method_20_code) (maxL := 1) (ret := (Option.none : Option Jvm.ClassFile.FieldType)) pl_V (vq_his k_537) ?_
  intro p e s m args below meth c s₁ B hml hv
  obtain ⟨rfl, hst, hsz, hP, hK, hD0⟩ := hv
  have hx := B.exec
  have hb := B.bytes
  have hr := B.returns
  have hts := atoms_spec (ws := WS) B.pre
  have hown : s.vm.findClass R_V = some m.cls := findClass_of_methodNamed B.named
  have hlocks := B.notSynchronized
  have hno := vq_noH B (hts _ k_537)
  subst hsz
  have hN := vq_ns hP
  have hD := hD0.self (sz := s.heap.size)
  generalize hAe : va_A (Xw ad ca σ) s.heap.size = A at hD hN ⊢
  have hA : ∀ q : Nat, s.heap.size ≤ q → A q := fun q h => by rw [← hAe]; exact Or.inr h
  have hS : va_S A s.heap s.heap [] := va_S.rf
  have hl := lv_entry ([.ref (ad 0)]) (n := 1) (Nat.le_of_ble_eq_true rfl)
  rw [lg_entry_eq]
  generalize (lg_sl ([.ref (ad 0)]) ++ List.replicate (1 - (lg_sl ([.ref (ad 0)])).length) Slot.unset).toArray = ls at hl ⊢
  have hl : lv_has ls 1 [(0, .ref (ad 0))] := hl
  unfold f_V_requireAnalysis at h
  refine lv_aload_n hx hb d_V_requireAnalysis_0 rfl (lv_at hl 0 rfl) ?_
  refine g_V_analysis dC dI ad ca σ hx hb hts hown hK hP k_531 d_V_requireAnalysis_1 ?_
  refine gN_A_present dC dI ad ca σ hx hb hts hown hK hP k_532 d_V_requireAnalysis_4 ?_
  refine lv_if_ne (tgt := 20) hx hb d_V_requireAnalysis_7 (by decide) (fun hc1 => ?_) (fun hc1 => ?_)
  ·
    rw [if_neg hc1] at h
    have h9 : ((0 : Int32), σ) = v := by have h8 := Option.some.inj h; simp only [Prod.mk.injEq, true_and] at h8; exact Prod.ext h8.1 h8.2
    rw [← h9]
    exact W.vret hx hb hr (fun t ht hW => ⟨⟨(), rfl, trivial, by rw [ht]; exact hP, va_K.moved hW.alike hK, hD⟩, hS.F ht⟩) hS.2.2 d_V_requireAnalysis_20
  ·
    rw [if_pos hc1] at h
    simp at h

set_option maxHeartbeats 4000000 in
set_option maxRecDepth 100000 in
theorem t_V_requireAnalysis_2 (l : Launch) (htr : l.stackTraces = false) (dC : Nat → ClassId) (dI : Nat → Nat → Nat) (ad : Nat → Nat) (ca : Nat → ClassId) (N : Nat) (σ : vS) (v : Int32 × vS) (h : f_V_requireAnalysis N σ = some ((2, v.1), v.2)) (sz : Nat) : vq_T2 l y_V_requireAnalysis WS ({ frames := 6, cells := 1, slots := 6, locals := 82 }) (va_Pc [.ref (ad 0)] (vq_Pre (dC, dI) CL sz (Xw ad ca σ) (Xt ca))) "java/lang/IllegalStateException" (va_A (Xw ad ca σ) sz) (fun t => vq_Post (dC, dI) CL (va_A (Xw ad ca σ) sz) (Xw ad ca v.2) (Xt ca) t) 1 6 := by
  refine vq_ofT2 (cc := prog_1_method_20_code) (maxL := 1) (ret := (Option.none : Option Jvm.ClassFile.FieldType)) pl_V (vq_his k_537) ?_
  intro p e s m args below meth c s₁ B hml hv
  obtain ⟨rfl, hst, hsz, hP, hK, hD0⟩ := hv
  have hx := B.exec
  have hb := B.bytes
  have hr := B.returns
  have hts := atoms_spec (ws := WS) B.pre
  have hown : s.vm.findClass R_V = some m.cls := findClass_of_methodNamed B.named
  have hlocks := B.notSynchronized
  have hno := vq_noH B (hts _ k_537)
  subst hsz
  have hN := vq_ns hP
  have hD := hD0.self (sz := s.heap.size)
  generalize hAe : va_A (Xw ad ca σ) s.heap.size = A at hD hN ⊢
  have hA : ∀ q : Nat, s.heap.size ≤ q → A q := fun q h => by rw [← hAe]; exact Or.inr h
  have hS : va_S A s.heap s.heap [] := va_S.rf
  have hl := lv_entry ([.ref (ad 0)]) (n := 1) (Nat.le_of_ble_eq_true rfl)
  rw [lg_entry_eq]
  generalize (lg_sl ([.ref (ad 0)]) ++ List.replicate (1 - (lg_sl ([.ref (ad 0)])).length) Slot.unset).toArray = ls at hl ⊢
  have hl : lv_has ls 1 [(0, .ref (ad 0))] := hl
  unfold f_V_requireAnalysis at h
  refine lv_aload_n hx hb d_V_requireAnalysis_0 rfl (lv_at hl 0 rfl) ?_
  refine g_V_analysis dC dI ad ca σ hx hb hts hown hK hP k_531 d_V_requireAnalysis_1 ?_
  refine gN_A_present dC dI ad ca σ hx hb hts hown hK hP k_532 d_V_requireAnalysis_4 ?_
  refine lv_if_ne (tgt := 20) hx hb d_V_requireAnalysis_7 (by decide) (fun hc1 => ?_) (fun hc1 => ?_)
  ·
    rw [if_neg hc1] at h
    simp at h
  ·
    rw [if_pos hc1] at h
    have h9 : (0, σ) = v := by have h8 := Option.some.inj h; simp only [Prod.mk.injEq, true_and] at h8; exact Prod.ext h8.1 h8.2
    rw [← h9]
    have hws := vq_all WSk hts
    have hwu : ∀ u : State, u.vm = s.vm → s.WarmedH u.vm := fun u hu => by rw [hu]; exact State.WarmedH.refl s
    exact vq_throw2 (names := up_names) hx hb htr hown (by decide +kernel) (by decide +kernel) (fun u hu hsu => at_V_IllegalStateException (fun w hw => hws w hw _ u (hwu u hu)) hsu) hst (fun u hu => ⟨hws _ k_539 _ u (hwu u hu), hws _ k_540 _ u (hwu u hu), hws _ k_541 _ u (hwu u hu)⟩) hS hA hN hno hlocks (by decide) (hl.1.trans hml.symm) (fun t hz9 hk9 hW9 => ⟨hP.kept (fun k x hx9 => by have h7 := (hP k x hx9).lt; rw [Array.getElem?_eq_getElem h7]; exact hk9 _ _ (Array.getElem?_eq_getElem h7)), va_K.moved hW9.alike hK, hD⟩) d_V_requireAnalysis_10 d_V_requireAnalysis_13 d_V_requireAnalysis_14 d_V_requireAnalysis_16 d_V_requireAnalysis_19

set_option maxHeartbeats 4000000 in
set_option maxRecDepth 100000 in
theorem c_V_requireAttribute (l : Launch) (htr : l.stackTraces = false) (dC : Nat → ClassId) (dI : Nat → Nat → Nat) (ad : Nat → Nat) (ca : Nat → ClassId) (N : Nat) (σ : vS) (a0 : Int32) (a1 : Int32) (v : Int32 × vS) (h : f_V_requireAttribute N σ a0 a1 = some ((0, v.1), v.2)) (sz : Nat) : Met l y_V_requireAttribute WS ({ frames := 6, cells := 0, slots := 0, locals := 82 }) (va_Pc [.ref (ad 0), .int a0, .int a1] (vq_Pre (dC, dI) CL sz (Xw ad ca σ) (Xt ca))) (va_Qv (fun _ : Unit => True) (fun _ t => vq_Post (dC, dI) CL (va_A (Xw ad ca σ) sz) (Xw ad ca v.2) (Xt ca) t) (va_A (Xw ad ca σ) sz)) 0 0 (va_A (Xw ad ca σ) sz) := by
  refine vq_ofW (cc := prog_1_method_21_code) (maxL := 3) (ret := (Option.none : Option Jvm.ClassFile.FieldType)) pl_V (vq_his k_542) ?_
  intro p e s m args below meth c s₁ B hml hv
  obtain ⟨rfl, hst, hsz, hP, hK, hD0⟩ := hv
  have hx := B.exec
  have hb := B.bytes
  have hr := B.returns
  have hts := atoms_spec (ws := WS) B.pre
  have hown : s.vm.findClass R_V = some m.cls := findClass_of_methodNamed B.named
  have hlocks := B.notSynchronized
  have hno := vq_noH B (hts _ k_542)
  subst hsz
  have hN := vq_ns hP
  have hD := hD0.self (sz := s.heap.size)
  generalize hAe : va_A (Xw ad ca σ) s.heap.size = A at hD hN ⊢
  have hA : ∀ q : Nat, s.heap.size ≤ q → A q := fun q h => by rw [← hAe]; exact Or.inr h
  have hS : va_S A s.heap s.heap [] := va_S.rf
  have hl := lv_entry ([.ref (ad 0), .int a0, .int a1]) (n := 3) (Nat.le_of_ble_eq_true rfl)
  rw [lg_entry_eq]
  generalize (lg_sl ([.ref (ad 0), .int a0, .int a1]) ++ List.replicate (3 - (lg_sl ([.ref (ad 0), .int a0, .int a1])).length) Slot.unset).toArray = ls at hl ⊢
  have hl : lv_has ls 3 [(0, .ref (ad 0)), (1, .int a0), (2, .int a1)] := hl
  unfold f_V_requireAttribute at h
  refine lv_aload_n hx hb d_V_requireAttribute_0 rfl (lv_at hl 0 rfl) ?_
  refine g_V_tree dC dI ad ca σ hx hb hts hown hK hP k_543 d_V_requireAttribute_1 ?_
  refine lv_iload_n hx hb d_V_requireAttribute_4 rfl (lv_at hl 1 rfl) ?_
  obtain ⟨q1, h2, h⟩ := vq_bi h
  have hFc := vq_freeAll hD hS hA
  refine va_calli (va_runV (As := [.int a0]) (rest := []) ⟨hx, hb, hml, hown, hts⟩ (c_Z_hasNode l htr dC dI ad ca N σ a0 q1 h2 s.heap.size) (vq_cV WSk hts 1 rfl rfl ⟨by decide, by decide⟩ k_216 k_226 k_544 k_228 k_229 (by decide +kernel)) ⟨vq_blind, va_recv hK hP (ci := 6) (q0 := 6) rfl rfl, vq_here hst hS hN hP hK hD⟩ rfl rfl hl.1 rfl (lv_room (Nat.le_of_ble_eq_true rfl)) d_V_requireAttribute_5 ⟨by decide, by decide⟩) hS (fun q _ h => hFc q h) hFc (fun r u t H1 locs ht hvm hw hB hz1 hk1 hS => ?_)
  obtain ⟨hP, -, hD1⟩ := hB
  rw [ht] at hP
  have hD := hD1.weaken (fun _ _ _ h => hFc _ h)
  have hw : r = q1.1 := hw
  subst hw
  generalize H1 = H at hP hS ⊢
  refine W.widen (k := 0) (n := 0) (by decide) (by decide) ?_
  have J30 : ∀ (τ : vS) (H : Heap) (locs : List Loc) (ls : Array Slot), f_V_requireAttribute_30 N τ = some ((0, v.1), v.2) → lv_has ls 3 [] → va_P (dC, dI) CL (Xw ad ca τ) H → va_D A (Xw ad ca τ) → va_S A s.heap H locs → W p l e (headSpec WS ({ frames := 6, cells := 0, slots := 0, locals := 82 })).room s m ([.ref (ad 0), .int a0, .int a1] : List Value).toArray below meth c H locs 0 0 (MQ below (va_Qv (fun _ : Unit => True) (fun _ t => vq_Post (dC, dI) CL A (Xw ad ca v.2) (Xt ca) t) A) ([.ref (ad 0), .int a0, .int a1] : List Value).toArray s 0 0 A) (F0 m 30 ls []) := by
    intro τ H locs ls h hl hP hD hS
    unfold f_V_requireAttribute_30 at h
    simp at h
  refine lv_if_eq (tgt := 30) hx hb d_V_requireAttribute_8 (by decide) (fun hc3 => ?_) (fun hc3 => ?_)
  ·
    rw [if_pos hc3] at h
    exact J30 _ _ _ _ h (lv_sub hl [] rfl) hP hD hS
  ·
    rw [if_neg hc3] at h
    refine lv_aload_n hx hb d_V_requireAttribute_11 rfl (lv_at hl 0 rfl) ?_
    refine g_V_grammar dC dI ad ca q1.2 hx hb hts hown hK hP k_546 d_V_requireAttribute_12 ?_
    refine lv_aload_n hx hb d_V_requireAttribute_15 rfl (lv_at hl 0 rfl) ?_
    refine g_V_tree dC dI ad ca q1.2 hx hb hts hown hK hP k_543 d_V_requireAttribute_16 ?_
    refine lv_iload_n hx hb d_V_requireAttribute_19 rfl (lv_at hl 1 rfl) ?_
    obtain ⟨q4, h5, h⟩ := vq_bi h
    have hFc := vq_freeAll hD hS hA
    refine va_calli (va_runV (As := [.int a0]) (rest := [.ref (ad 1)]) ⟨hx, hb, hml, hown, hts⟩ (c_Z_symbolOf l htr dC dI ad ca N q1.2 a0 q4 h5 H.size) (vq_cV WSk hts 1 rfl rfl ⟨by decide, by decide⟩ k_218 k_226 k_547 k_232 k_233 (by decide +kernel)) ⟨vq_blind, va_recv hK hP (ci := 6) (q0 := 6) rfl rfl, vq_here hst hS hN hP hK hD⟩ rfl rfl hl.1 rfl (lv_room (Nat.le_of_ble_eq_true rfl)) d_V_requireAttribute_20 ⟨by decide, by decide⟩) hS (fun q _ h => hFc q h) hFc (fun r u t H1 locs ht hvm hw hB hz1 hk1 hS => ?_)
    obtain ⟨hP, -, hD1⟩ := hB
    rw [ht] at hP
    have hD := hD1.weaken (fun _ _ _ h => hFc _ h)
    have hw : r = q4.1 := hw
    subst hw
    generalize H1 = H at hP hS ⊢
    refine W.widen (k := 0) (n := 0) (by decide) (by decide) ?_
    refine lv_iload_n hx hb d_V_requireAttribute_23 rfl (lv_at hl 2 rfl) ?_
    obtain ⟨q6, h7, h⟩ := vq_bi h
    have hFc := vq_freeAll hD hS hA
    refine va_calli (va_runV (As := [.int (q4.1), .int a1]) (rest := []) ⟨hx, hb, hml, hown, hts⟩ (c_G_hasAttribute l htr dC dI ad ca N q4.2 (q4.1) a1 q6 h7 H.size) (vq_cV WSk hts 2 rfl rfl ⟨by decide, by decide⟩ k_16 k_26 k_548 k_549 k_550 (by decide +kernel)) ⟨vq_blind, va_recv hK hP (ci := 1) (q0 := 1) rfl rfl, vq_here hst hS hN hP hK hD⟩ rfl rfl hl.1 rfl (lv_room (Nat.le_of_ble_eq_true rfl)) d_V_requireAttribute_24 ⟨by decide, by decide⟩) hS (fun q _ h => hFc q h) hFc (fun r u t H1 locs ht hvm hw hB hz1 hk1 hS => ?_)
    obtain ⟨hP, -, hD1⟩ := hB
    rw [ht] at hP
    have hD := hD1.weaken (fun _ _ _ h => hFc _ h)
    have hw : r = q6.1 := hw
    subst hw
    generalize H1 = H at hP hS ⊢
    refine W.widen (k := 0) (n := 0) (by decide) (by decide) ?_
    refine lv_if_ne (tgt := 40) hx hb d_V_requireAttribute_27 (by decide) (fun hc8 => ?_) (fun hc8 => ?_)
    ·
      rw [if_neg hc8] at h
      have h9 : ((0 : Int32), q6.2) = v := by have h8 := Option.some.inj h; simp only [Prod.mk.injEq, true_and] at h8; exact Prod.ext h8.1 h8.2
      rw [← h9]
      exact W.vret hx hb hr (fun t ht hW => ⟨⟨(), rfl, trivial, by rw [ht]; exact hP, va_K.moved hW.alike hK, hD⟩, hS.F ht⟩) hS.2.2 d_V_requireAttribute_40
    ·
      rw [if_pos hc8] at h
      exact J30 _ _ _ _ h (lv_sub hl [] rfl) hP hD hS

set_option maxHeartbeats 4000000 in
set_option maxRecDepth 100000 in
theorem t_V_requireAttribute_3 (l : Launch) (htr : l.stackTraces = false) (dC : Nat → ClassId) (dI : Nat → Nat → Nat) (ad : Nat → Nat) (ca : Nat → ClassId) (N : Nat) (σ : vS) (a0 : Int32) (a1 : Int32) (v : Int32 × vS) (h : f_V_requireAttribute N σ a0 a1 = some ((3, v.1), v.2)) (sz : Nat) : vq_T2 l y_V_requireAttribute WS ({ frames := 6, cells := 1, slots := 6, locals := 82 }) (va_Pc [.ref (ad 0), .int a0, .int a1] (vq_Pre (dC, dI) CL sz (Xw ad ca σ) (Xt ca))) "java/lang/IndexOutOfBoundsException" (va_A (Xw ad ca σ) sz) (fun t => vq_Post (dC, dI) CL (va_A (Xw ad ca σ) sz) (Xw ad ca v.2) (Xt ca) t) 1 6 := by
  refine vq_ofT2 (cc := prog_1_method_21_code) (maxL := 3) (ret := (Option.none : Option Jvm.ClassFile.FieldType)) pl_V (vq_his k_542) ?_
  intro p e s m args below meth c s₁ B hml hv
  obtain ⟨rfl, hst, hsz, hP, hK, hD0⟩ := hv
  have hx := B.exec
  have hb := B.bytes
  have hr := B.returns
  have hts := atoms_spec (ws := WS) B.pre
  have hown : s.vm.findClass R_V = some m.cls := findClass_of_methodNamed B.named
  have hlocks := B.notSynchronized
  have hno := vq_noH B (hts _ k_542)
  subst hsz
  have hN := vq_ns hP
  have hD := hD0.self (sz := s.heap.size)
  generalize hAe : va_A (Xw ad ca σ) s.heap.size = A at hD hN ⊢
  have hA : ∀ q : Nat, s.heap.size ≤ q → A q := fun q h => by rw [← hAe]; exact Or.inr h
  have hS : va_S A s.heap s.heap [] := va_S.rf
  have hl := lv_entry ([.ref (ad 0), .int a0, .int a1]) (n := 3) (Nat.le_of_ble_eq_true rfl)
  rw [lg_entry_eq]
  generalize (lg_sl ([.ref (ad 0), .int a0, .int a1]) ++ List.replicate (3 - (lg_sl ([.ref (ad 0), .int a0, .int a1])).length) Slot.unset).toArray = ls at hl ⊢
  have hl : lv_has ls 3 [(0, .ref (ad 0)), (1, .int a0), (2, .int a1)] := hl
  unfold f_V_requireAttribute at h
  refine lv_aload_n hx hb d_V_requireAttribute_0 rfl (lv_at hl 0 rfl) ?_
  refine g_V_tree dC dI ad ca σ hx hb hts hown hK hP k_543 d_V_requireAttribute_1 ?_
  refine lv_iload_n hx hb d_V_requireAttribute_4 rfl (lv_at hl 1 rfl) ?_
  obtain ⟨q1, h2, h⟩ := vq_bi h
  have hFc := vq_freeAll hD hS hA
  refine va_calli (va_runV (As := [.int a0]) (rest := []) ⟨hx, hb, hml, hown, hts⟩ (c_Z_hasNode l htr dC dI ad ca N σ a0 q1 h2 s.heap.size) (vq_cV WSk hts 1 rfl rfl ⟨by decide, by decide⟩ k_216 k_226 k_544 k_228 k_229 (by decide +kernel)) ⟨vq_blind, va_recv hK hP (ci := 6) (q0 := 6) rfl rfl, vq_here hst hS hN hP hK hD⟩ rfl rfl hl.1 rfl (lv_room (Nat.le_of_ble_eq_true rfl)) d_V_requireAttribute_5 ⟨by decide, by decide⟩) hS (fun q _ h => hFc q h) hFc (fun r u t H1 locs ht hvm hw hB hz1 hk1 hS => ?_)
  obtain ⟨hP, -, hD1⟩ := hB
  rw [ht] at hP
  have hD := hD1.weaken (fun _ _ _ h => hFc _ h)
  have hw : r = q1.1 := hw
  subst hw
  generalize H1 = H at hP hS ⊢
  refine W.widen (k := 0) (n := 0) (by decide) (by decide) ?_
  have J30 : ∀ (τ : vS) (H : Heap) (locs : List Loc) (ls : Array Slot), f_V_requireAttribute_30 N τ = some ((3, v.1), v.2) → lv_has ls 3 [] → va_P (dC, dI) CL (Xw ad ca τ) H → va_D A (Xw ad ca τ) → va_S A s.heap H locs → W p l e (headSpec WS ({ frames := 6, cells := 1, slots := 6, locals := 82 })).room s m ([.ref (ad 0), .int a0, .int a1] : List Value).toArray below meth c H locs 0 0 (vq_MQ2 below "java/lang/IndexOutOfBoundsException" A (fun t => vq_Post (dC, dI) CL A (Xw ad ca v.2) (Xt ca) t) s 1 6) (F0 m 30 ls []) := by
    intro τ H locs ls h hl hP hD hS
    unfold f_V_requireAttribute_30 at h
    have h9 : (0, τ) = v := by have h8 := Option.some.inj h; simp only [Prod.mk.injEq, true_and] at h8; exact Prod.ext h8.1 h8.2
    rw [← h9]
    have hws := vq_all WSk hts
    have hwu : ∀ u : State, u.vm = s.vm → s.WarmedH u.vm := fun u hu => by rw [hu]; exact State.WarmedH.refl s
    exact vq_throw2 (names := up_names) hx hb htr hown (by decide +kernel) (by decide +kernel) (fun u hu hsu => at_V_IndexOutOfBoundsException (fun w hw => hws w hw _ u (hwu u hu)) hsu) hst (fun u hu => ⟨hws _ k_551 _ u (hwu u hu), hws _ k_552 _ u (hwu u hu), hws _ k_553 _ u (hwu u hu)⟩) hS hA hN hno hlocks (by decide) (hl.1.trans hml.symm) (fun t hz9 hk9 hW9 => ⟨hP.kept (fun k x hx9 => by have h7 := (hP k x hx9).lt; rw [Array.getElem?_eq_getElem h7]; exact hk9 _ _ (Array.getElem?_eq_getElem h7)), va_K.moved hW9.alike hK, hD⟩) d_V_requireAttribute_30 d_V_requireAttribute_33 d_V_requireAttribute_34 d_V_requireAttribute_36 d_V_requireAttribute_39
  refine lv_if_eq (tgt := 30) hx hb d_V_requireAttribute_8 (by decide) (fun hc3 => ?_) (fun hc3 => ?_)
  ·
    rw [if_pos hc3] at h
    exact J30 _ _ _ _ h (lv_sub hl [] rfl) hP hD hS
  ·
    rw [if_neg hc3] at h
    refine lv_aload_n hx hb d_V_requireAttribute_11 rfl (lv_at hl 0 rfl) ?_
    refine g_V_grammar dC dI ad ca q1.2 hx hb hts hown hK hP k_546 d_V_requireAttribute_12 ?_
    refine lv_aload_n hx hb d_V_requireAttribute_15 rfl (lv_at hl 0 rfl) ?_
    refine g_V_tree dC dI ad ca q1.2 hx hb hts hown hK hP k_543 d_V_requireAttribute_16 ?_
    refine lv_iload_n hx hb d_V_requireAttribute_19 rfl (lv_at hl 1 rfl) ?_
    obtain ⟨q4, h5, h⟩ := vq_bi h
    have hFc := vq_freeAll hD hS hA
    refine va_calli (va_runV (As := [.int a0]) (rest := [.ref (ad 1)]) ⟨hx, hb, hml, hown, hts⟩ (c_Z_symbolOf l htr dC dI ad ca N q1.2 a0 q4 h5 H.size) (vq_cV WSk hts 1 rfl rfl ⟨by decide, by decide⟩ k_218 k_226 k_547 k_232 k_233 (by decide +kernel)) ⟨vq_blind, va_recv hK hP (ci := 6) (q0 := 6) rfl rfl, vq_here hst hS hN hP hK hD⟩ rfl rfl hl.1 rfl (lv_room (Nat.le_of_ble_eq_true rfl)) d_V_requireAttribute_20 ⟨by decide, by decide⟩) hS (fun q _ h => hFc q h) hFc (fun r u t H1 locs ht hvm hw hB hz1 hk1 hS => ?_)
    obtain ⟨hP, -, hD1⟩ := hB
    rw [ht] at hP
    have hD := hD1.weaken (fun _ _ _ h => hFc _ h)
    have hw : r = q4.1 := hw
    subst hw
    generalize H1 = H at hP hS ⊢
    refine W.widen (k := 0) (n := 0) (by decide) (by decide) ?_
    refine lv_iload_n hx hb d_V_requireAttribute_23 rfl (lv_at hl 2 rfl) ?_
    obtain ⟨q6, h7, h⟩ := vq_bi h
    have hFc := vq_freeAll hD hS hA
    refine va_calli (va_runV (As := [.int (q4.1), .int a1]) (rest := []) ⟨hx, hb, hml, hown, hts⟩ (c_G_hasAttribute l htr dC dI ad ca N q4.2 (q4.1) a1 q6 h7 H.size) (vq_cV WSk hts 2 rfl rfl ⟨by decide, by decide⟩ k_16 k_26 k_548 k_549 k_550 (by decide +kernel)) ⟨vq_blind, va_recv hK hP (ci := 1) (q0 := 1) rfl rfl, vq_here hst hS hN hP hK hD⟩ rfl rfl hl.1 rfl (lv_room (Nat.le_of_ble_eq_true rfl)) d_V_requireAttribute_24 ⟨by decide, by decide⟩) hS (fun q _ h => hFc q h) hFc (fun r u t H1 locs ht hvm hw hB hz1 hk1 hS => ?_)
    obtain ⟨hP, -, hD1⟩ := hB
    rw [ht] at hP
    have hD := hD1.weaken (fun _ _ _ h => hFc _ h)
    have hw : r = q6.1 := hw
    subst hw
    generalize H1 = H at hP hS ⊢
    refine W.widen (k := 0) (n := 0) (by decide) (by decide) ?_
    refine lv_if_ne (tgt := 40) hx hb d_V_requireAttribute_27 (by decide) (fun hc8 => ?_) (fun hc8 => ?_)
    ·
      rw [if_neg hc8] at h
      simp at h
    ·
      rw [if_pos hc8] at h
      exact J30 _ _ _ _ h (lv_sub hl [] rfl) hP hD hS
