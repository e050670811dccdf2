set_option maxHeartbeats 4000000 in
set_option maxRecDepth 100000 in
theorem c_E_takeRule (l : Launch) (htr : l.stackTraces = false) (dC : Nat → ClassId) (dI : Nat → Nat → Nat) (ad : Nat → Nat) (ca : Nat → ClassId) (N : Nat) (σ : vS) (a0 : Int32) (a1 : Int32) (a2 : Int32) (v : Int32 × vS) (h : f_E_takeRule N σ a0 a1 a2 = some v) (sz : Nat) : Met l y_E_takeRule WS ({ frames := 1, cells := 0, slots := 0, locals := 21 }) (va_Pc [.ref (ad 3), .int a0, .int a1, .int a2] (vq_Pre (dC, dI) CL sz (Xw ad ca σ) (Xt ca))) (va_Qv (fun _ : Unit => True) (fun _ t => vq_Post (dC, dI) CL (va_A (Xw ad ca σ) sz) (Xw ad ca v.2) (Xt ca) t) (va_A (Xw ad ca σ) sz)) 0 0 (va_A (Xw ad ca σ) sz) := by
  refine vq_ofW (cc := prog_4_method_6_code) (maxL := 5) (ret := (Option.none : Option Jvm.ClassFile.FieldType)) pl_E (vq_his k_63) ?_
  intro p e s m args below meth c s₁ B hml hv
  obtain ⟨rfl, hst, hsz, hP, hK, hD0⟩ := hv
  have hx := B.exec
  have hb := B.bytes
  have hr := B.returns
  have hts := atoms_spec (ws := WS) B.pre
  have hown : s.vm.findClass R_E = some m.cls := findClass_of_methodNamed B.named
  have hlocks := B.notSynchronized
  have hno := vq_noH B (hts _ k_63)
  subst hsz
  have hN := vq_ns hP
  have hD := hD0.self (sz := s.heap.size)
  generalize hAe : va_A (Xw ad ca σ) s.heap.size = A at hD hN ⊢
  have hA : ∀ q : Nat, s.heap.size ≤ q → A q := fun q h => by rw [← hAe]; exact Or.inr h
  have hS : va_S A s.heap s.heap [] := va_S.rf
  have hl := lv_entry ([.ref (ad 3), .int a0, .int a1, .int a2]) (n := 5) (Nat.le_of_ble_eq_true rfl)
  rw [lg_entry_eq]
  generalize (lg_sl ([.ref (ad 3), .int a0, .int a1, .int a2]) ++ List.replicate (5 - (lg_sl ([.ref (ad 3), .int a0, .int a1, .int a2])).length) Slot.unset).toArray = ls at hl ⊢
  have hl : lv_has ls 5 [(0, .ref (ad 3)), (1, .int a0), (2, .int a1), (3, .int a2)] := hl
  unfold f_E_takeRule at h
  refine lv_iconst (v := 0) hx hb d_E_takeRule_0 (by decide) ?_
  refine lv_istore (lv' := [(4, .int 0), (0, .ref (ad 3)), (1, .int a0), (2, .int a1), (3, .int a2)]) hx hb d_E_takeRule_1 hl (by decide) rfl (fun ls hl => ?_)
  have L3 : ∀ n3 : Nat, ∀ (τ : vS) (x1 : Int32) (x2 : Int32) (x3 : Int32) (x4 : Int32) (H : Heap) (locs : List Loc) (ls : Array Slot), f_E_takeRule_3 N n3 τ x1 x2 x3 x4 = some v → lv_has ls 5 [(0, .ref (ad 3)), (1, .int x1), (2, .int x2), (3, .int x3), (4, .int x4)] → va_P (dC, dI) CL (Xw ad ca τ) H → va_D A (Xw ad ca τ) → va_S A s.heap H locs → W p l e (headSpec WS ({ frames := 1, cells := 0, slots := 0, locals := 21 })).room s m ([.ref (ad 3), .int a0, .int a1, .int a2] : List Value).toArray below meth c H locs 0 0 (MQ below (va_Qv (fun _ : Unit => True) (fun _ t => vq_Post (dC, dI) CL A (Xw ad ca v.2) (Xt ca) t) A) ([.ref (ad 3), .int a0, .int a1, .int a2] : List Value).toArray s 0 0 A) (F0 m 3 ls []) := by
    intro n3
    induction n3 with
    | zero =>
      intro τ x1 x2 x3 x4 H locs ls h hl hP hD hS
      rw [f_E_takeRule_3] at h
      cases h
    | succ n3 ih3 =>
      intro τ x1 x2 x3 x4 H locs ls h hl hP hD hS
      rw [f_E_takeRule_3] at h
      dsimp only at h
      refine lv_iload_n hx hb d_E_takeRule_3 rfl (lv_at hl 3 rfl) ?_
      refine lv_if_eq (tgt := 44) hx hb d_E_takeRule_4 (by decide) (fun hc1 => ?_) (fun hc1 => ?_)
      ·
        rw [if_pos hc1] at h
        have h9 := Option.some.inj h
        rw [← h9]
        exact W.vret hx hb hr (fun t ht hW => ⟨⟨(), rfl, trivial, by rw [ht]; exact hP, va_K.moved hW.alike hK, hD⟩, hS.F ht⟩) hS.2.2 d_E_takeRule_44
      ·
        rw [if_neg hc1] at h
        refine lv_iload hx hb d_E_takeRule_7 (lv_at hl 4 rfl) ?_
        refine lv_bipush (v := 16) hx hb d_E_takeRule_9 (by decide) ?_
        refine lv_icmp_ge (tgt := 44) hx hb d_E_takeRule_11 (by decide) (fun hc2 => ?_) (fun hc2 => ?_)
        ·
          rw [if_pos hc2] at h
          have h9 := Option.some.inj h
          rw [← h9]
          exact W.vret hx hb hr (fun t ht hW => ⟨⟨(), rfl, trivial, by rw [ht]; exact hP, va_K.moved hW.alike hK, hD⟩, hS.F ht⟩) hS.2.2 d_E_takeRule_44
        ·
          rw [if_neg hc2] at h
          refine lv_iload_n hx hb d_E_takeRule_14 rfl (lv_at hl 3 rfl) ?_
          refine lv_iload hx hb d_E_takeRule_15 (lv_at hl 4 rfl) ?_
          obtain ⟨q3, h4, h⟩ := vq_bi h
          have hKe := hK.sub (tys' := []) [] rfl
          refine va_calli (va_runSN (As := [.int x3, .int x4]) (rest := []) ⟨hx, hb, hml, hown, hts⟩ (c_V_holds l htr dC dI N x3 x4 q3 h4 H.size) (vq_cSN WSk hts 2 rfl rfl ⟨by decide, by decide⟩ k_0 k_22 k_64 k_24 (by decide +kernel)) ⟨vq_blind, vq_here hst hS hN vq_P0 hKe vq_D0⟩ rfl rfl hl.1 rfl (lv_room (Nat.le_of_ble_eq_true rfl)) d_E_takeRule_17 ⟨by decide, by decide⟩) hS (fun q _ h => vq_keepA h (fun hz => hA q (Nat.le_trans hS.1 hz))) (fun q h => vq_keepA h (fun hz => hA q (Nat.le_trans hS.1 hz))) (fun r u t H1 locs ht hvm hw hB hz1 hk1 hS => ?_)
          have hw : r = q3 := hw
          rw [hw]
          have hP := vq_keepP hP hk1
          generalize H1 = H at hP hS ⊢
          refine W.widen (k := 0) (n := 0) (by decide) (by decide) ?_
          have J38 : ∀ (τ : vS) (x1 : Int32) (x2 : Int32) (x3 : Int32) (x4 : Int32) (H : Heap) (locs : List Loc) (ls : Array Slot), f_E_takeRule_38 N (f_E_takeRule_3 N n3) τ x1 x2 x3 x4 = some v → lv_has ls 5 [(0, .ref (ad 3)), (1, .int x1), (2, .int x2), (3, .int x3), (4, .int x4)] → va_P (dC, dI) CL (Xw ad ca τ) H → va_D A (Xw ad ca τ) → va_S A s.heap H locs → W p l e (headSpec WS ({ frames := 1, cells := 0, slots := 0, locals := 21 })).room s m ([.ref (ad 3), .int a0, .int a1, .int a2] : List Value).toArray below meth c H locs 0 0 (MQ below (va_Qv (fun _ : Unit => True) (fun _ t => vq_Post (dC, dI) CL A (Xw ad ca v.2) (Xt ca) t) A) ([.ref (ad 3), .int a0, .int a1, .int a2] : List Value).toArray s 0 0 A) (F0 m 38 ls []) := by
            intro τ x1 x2 x3 x4 H locs ls h hl hP hD hS
            unfold f_E_takeRule_38 at h
            refine lv_iinc (k := 4) (v := (x4 + 1)) (lv' := [(4, .int (x4 + 1)), (0, .ref (ad 3)), (1, .int x1), (2, .int x2), (3, .int x3)]) hx hb d_E_takeRule_38 hl rfl rfl (by decide) rfl (fun ls hl => ?_)
            refine lv_goto (tgt := 3) hx hb d_E_takeRule_41 (by decide) ?_
            exact ih3 _ _ _ _ _ _ _ _ h (lv_sub hl [1, 2, 3, 4, 0] rfl) hP hD hS
          refine lv_if_eq (tgt := 38) hx hb d_E_takeRule_20 (by decide) (fun hc5 => ?_) (fun hc5 => ?_)
          ·
            rw [if_pos hc5] at h
            exact J38 _ _ _ _ _ _ _ _ h (lv_sub hl [0, 1, 2, 3, 4] rfl) hP hD hS
          ·
            rw [if_neg hc5] at h
            refine lv_aload_n hx hb d_E_takeRule_23 rfl (lv_at hl 0 rfl) ?_
            refine g_E_ofOccurrences dC dI ad ca τ hx hb hts hown hK hP k_65 d_E_takeRule_24 ?_
            refine lv_iload_n hx hb d_E_takeRule_27 rfl (lv_at hl 1 rfl) ?_
            refine lv_iload hx hb d_E_takeRule_28 (lv_at hl 4 rfl) ?_
            refine lv_iadd hx hb d_E_takeRule_30 ?_
            refine lv_dup2_11 hx hb d_E_takeRule_31 rfl rfl ?_
            obtain ⟨hi6, h⟩ := vq_bd h
            refine al_X11 dC dI ad ca τ hx hb hts hown hK hP hi6 d_E_takeRule_32 ?_
            obtain ⟨i7, ei7, h⟩ := vq_let h
            refine vq_top ei7.symm ?_
            refine lv_iconst (v := 1) hx hb d_E_takeRule_33 (by decide) ?_
            refine lv_iload_n hx hb d_E_takeRule_34 rfl (lv_at hl 2 rfl) ?_
            refine lv_ishl hx hb d_E_takeRule_35 ?_
            refine lv_ior hx hb d_E_takeRule_36 ?_
            obtain ⟨i8, ei8, h⟩ := vq_let h
            refine vq_top ei8.symm ?_
            obtain ⟨hi9, h⟩ := vq_bd h
            refine as_X11 dC dI ad ca τ hx hb hts hown hK hP hD hS hi9 d_E_takeRule_37 (fun H locs hP hD hS => ?_)
            obtain ⟨σ10, eσ10, h⟩ := vq_let h
            rw [← eσ10] at hP hD
            exact J38 _ _ _ _ _ _ _ _ h (lv_sub hl [0, 1, 2, 3, 4] rfl) hP hD hS
  exact L3 N _ _ _ _ _ _ _ _ h (lv_sub hl [1, 2, 3, 4, 0] rfl) hP hD hS

set_option maxHeartbeats 4000000 in
set_option maxRecDepth 100000 in
theorem c_E_takeRules (l : Launch) (htr : l.stackTraces = false) (dC : Nat → ClassId) (dI : Nat → Nat → Nat) (ad : Nat → Nat) (ca : Nat → ClassId) (N : Nat) (σ : vS) (v : Int32 × vS) (h : f_E_takeRules N σ = some v) (sz : Nat) : Met l y_E_takeRules WS ({ frames := 2, cells := 0, slots := 0, locals := 45 }) (va_Pc [.ref (ad 3)] (vq_Pre (dC, dI) CL sz (Xw ad ca σ) (Xt ca))) (va_Qv (fun _ : Unit => True) (fun _ t => vq_Post (dC, dI) CL (va_A (Xw ad ca σ) sz) (Xw ad ca v.2) (Xt ca) t) (va_A (Xw ad ca σ) sz)) 0 0 (va_A (Xw ad ca σ) sz) := by
  refine vq_ofW (cc := prog_4_method_5_code) (maxL := 4) (ret := (Option.none : Option Jvm.ClassFile.FieldType)) pl_E (vq_his k_66) ?_
  intro p e s m args below meth c s₁ B hml hv
  obtain ⟨rfl, hst, hsz, hP, hK, hD0⟩ := hv
  have hx := B.exec
  have hb := B.bytes
  have hr := B.returns
  have hts := atoms_spec (ws := WS) B.pre
  have hown : s.vm.findClass R_E = some m.cls := findClass_of_methodNamed B.named
  have hlocks := B.notSynchronized
  have hno := vq_noH B (hts _ k_66)
  subst hsz
  have hN := vq_ns hP
  have hD := hD0.self (sz := s.heap.size)
  generalize hAe : va_A (Xw ad ca σ) s.heap.size = A at hD hN ⊢
  have hA : ∀ q : Nat, s.heap.size ≤ q → A q := fun q h => by rw [← hAe]; exact Or.inr h
  have hS : va_S A s.heap s.heap [] := va_S.rf
  have hl := lv_entry ([.ref (ad 3)]) (n := 4) (Nat.le_of_ble_eq_true rfl)
  rw [lg_entry_eq]
  generalize (lg_sl ([.ref (ad 3)]) ++ List.replicate (4 - (lg_sl ([.ref (ad 3)])).length) Slot.unset).toArray = ls at hl ⊢
  have hl : lv_has ls 4 [(0, .ref (ad 3))] := hl
  unfold f_E_takeRules at h
  refine lv_aload_n hx hb d_E_takeRules_0 rfl (lv_at hl 0 rfl) ?_
  refine g_E_ofOccurrences dC dI ad ca σ hx hb hts hown hK hP k_65 d_E_takeRules_1 ?_
  refine lv_iconst (v := 0) hx hb d_E_takeRules_4 (by decide) ?_
  have hPc := hP.sub (ws' := [((ad 19), .inl (ca 19, 160, .inl (σ.2 11)))]) [19] rfl
  have hDc := hD.sub (ws' := [((ad 19), .inl (ca 19, 160, .inl (σ.2 11)))]) [19] (by decide) rfl
  have hKc := hK.sub (tys' := [(ca 19, .int)]) [11] rfl
  have hFc := va_free (wc := [((ad 19), .inl (ca 19, 160, .inl (σ.2 11)))]) hD hS hA [19] rfl
  refine va_callv (va_runS (As := [.ref (ad 19), .int 0]) (rest := []) ⟨hx, hb, hml, hown, hts⟩ (c_R_fill l htr dC dI (ad 19) (ca 19) 160 (by decide) (σ.2 11) 0 s.heap.size) (vq_cS WSk hts 2 rfl rfl ⟨by decide, by decide⟩ k_67 k_68 k_69 k_70 (by decide +kernel)) ⟨vq_blind, vq_here hst hS hN hPc hKc hDc⟩ rfl rfl hl.1 rfl (lv_room (Nat.le_of_ble_eq_true rfl)) d_E_takeRules_5 ⟨by decide, by decide⟩) hS (fun q _ h => hFc q h) hFc (fun u t H1 locs ht hvm hw hB hz1 hk1 hS => ?_)
  obtain ⟨hP1, -, hD1⟩ := hB
  rw [ht] at hP1
  obtain ⟨hP, hD⟩ := va_join (wr := X19r ad ca σ) (w1 := [((ad 19), .inl (ca 19, 160, .inl (fun _ => 0)))]) hP hD [19] [0, 1, 2, 3, 4, 5, 6, 7, 8, 9, 10, 11, 12, 13, 14, 15, 16, 17, 18, 20, 21, 22, 23, 24, 25, 26, 27, 28, 29, 30, 31, 32, 33, 34] rfl rfl (by decide) (by decide) hk1 hFc hP1 hD1
  have hP := hP.sub (ws' := (Xw ad ca (sfill σ 11 0))) [0, 1, 2, 3, 4, 5, 6, 7, 8, 9, 10, 11, 12, 13, 14, 15, 16, 17, 18, 34, 19, 20, 21, 22, 23, 24, 25, 26, 27, 28, 29, 30, 31, 32, 33] rfl
  have hD := hD.sub (ws' := (Xw ad ca (sfill σ 11 0))) [0, 1, 2, 3, 4, 5, 6, 7, 8, 9, 10, 11, 12, 13, 14, 15, 16, 17, 18, 34, 19, 20, 21, 22, 23, 24, 25, 26, 27, 28, 29, 30, 31, 32, 33] (by decide) rfl
  generalize H1 = H at hP hS ⊢
  refine W.widen (k := 0) (n := 0) (by decide) (by decide) ?_
  obtain ⟨σ1, eσ1, h⟩ := vq_let h
  rw [← eσ1] at hP hD
  refine lv_iconst (v := 0) hx hb d_E_takeRules_8 (by decide) ?_
  refine lv_istore_n (lv' := [(1, .int 0), (0, .ref (ad 3))]) hx hb d_E_takeRules_9 rfl hl (by decide) rfl (fun ls hl => ?_)
  have L10 : ∀ n10 : Nat, ∀ (τ : vS) (x1 : Int32) (H : Heap) (locs : List Loc) (ls : Array Slot), f_E_takeRules_10 N n10 τ x1 = some v → lv_has ls 4 [(0, .ref (ad 3)), (1, .int x1)] → va_P (dC, dI) CL (Xw ad ca τ) H → va_D A (Xw ad ca τ) → va_S A s.heap H locs → W p l e (headSpec WS ({ frames := 2, cells := 0, slots := 0, locals := 45 })).room s m ([.ref (ad 3)] : List Value).toArray below meth c H locs 0 0 (MQ below (va_Qv (fun _ : Unit => True) (fun _ t => vq_Post (dC, dI) CL A (Xw ad ca v.2) (Xt ca) t) A) ([.ref (ad 3)] : List Value).toArray s 0 0 A) (F0 m 10 ls []) := by
    intro n10
    induction n10 with
    | zero =>
      intro τ x1 H locs ls h hl hP hD hS
      rw [f_E_takeRules_10] at h
      cases h
    | succ n10 ih10 =>
      intro τ x1 H locs ls h hl hP hD hS
      rw [f_E_takeRules_10] at h
      dsimp only at h
      refine lv_iload_n hx hb d_E_takeRules_10 rfl (lv_at hl 1 rfl) ?_
      refine lv_aload_n hx hb d_E_takeRules_11 rfl (lv_at hl 0 rfl) ?_
      refine g_E_grammar dC dI ad ca τ hx hb hts hown hK hP k_71 d_E_takeRules_12 ?_
      refine gN_G_productionCount dC dI ad ca τ hx hb hts hown hK hP k_72 d_E_takeRules_15 ?_
      refine lv_icmp_ge (tgt := 63) hx hb d_E_takeRules_18 (by decide) (fun hc2 => ?_) (fun hc2 => ?_)
      ·
        rw [if_pos hc2] at h
        have h9 := Option.some.inj h
        rw [← h9]
        exact W.vret hx hb hr (fun t ht hW => ⟨⟨(), rfl, trivial, by rw [ht]; exact hP, va_K.moved hW.alike hK, hD⟩, hS.F ht⟩) hS.2.2 d_E_takeRules_63
      ·
        rw [if_neg hc2] at h
        refine lv_iload_n hx hb d_E_takeRules_21 rfl (lv_at hl 1 rfl) ?_
        refine lv_bipush (v := 16) hx hb d_E_takeRules_22 (by decide) ?_
        refine lv_imul hx hb d_E_takeRules_24 ?_
        refine lv_istore_n (lv' := [(2, .int (x1 * 16)), (0, .ref (ad 3)), (1, .int x1)]) hx hb d_E_takeRules_25 rfl hl (by decide) rfl (fun ls hl => ?_)
        refine lv_iconst (v := 0) hx hb d_E_takeRules_26 (by decide) ?_
        refine lv_istore_n (lv' := [(3, .int 0), (2, .int (x1 * 16)), (0, .ref (ad 3)), (1, .int x1)]) hx hb d_E_takeRules_27 rfl hl (by decide) rfl (fun ls hl => ?_)
        have L28 : ∀ n28 : Nat, ∀ (τ : vS) (x1 : Int32) (x2 : Int32) (x3 : Int32) (H : Heap) (locs : List Loc) (ls : Array Slot), f_E_takeRules_28 N (f_E_takeRules_10 N n10) n28 τ x1 x2 x3 = some v → lv_has ls 4 [(0, .ref (ad 3)), (1, .int x1), (2, .int x2), (3, .int x3)] → va_P (dC, dI) CL (Xw ad ca τ) H → va_D A (Xw ad ca τ) → va_S A s.heap H locs → W p l e (headSpec WS ({ frames := 2, cells := 0, slots := 0, locals := 45 })).room s m ([.ref (ad 3)] : List Value).toArray below meth c H locs 0 0 (MQ below (va_Qv (fun _ : Unit => True) (fun _ t => vq_Post (dC, dI) CL A (Xw ad ca v.2) (Xt ca) t) A) ([.ref (ad 3)] : List Value).toArray s 0 0 A) (F0 m 28 ls []) := by
          intro n28
          induction n28 with
          | zero =>
            intro τ x1 x2 x3 H locs ls h hl hP hD hS
            rw [f_E_takeRules_28] at h
            cases h
          | succ n28 ih28 =>
            intro τ x1 x2 x3 H locs ls h hl hP hD hS
            rw [f_E_takeRules_28] at h
            dsimp only at h
            refine lv_iload_n hx hb d_E_takeRules_28 rfl (lv_at hl 3 rfl) ?_
            refine lv_bipush (v := 16) hx hb d_E_takeRules_29 (by decide) ?_
            refine lv_icmp_ge (tgt := 57) hx hb d_E_takeRules_31 (by decide) (fun hc3 => ?_) (fun hc3 => ?_)
            ·
              rw [if_pos hc3] at h
              refine lv_iinc (k := 1) (v := (x1 + 1)) (lv' := [(1, .int (x1 + 1)), (0, .ref (ad 3)), (2, .int x2), (3, .int x3)]) hx hb d_E_takeRules_57 hl rfl rfl (by decide) rfl (fun ls hl => ?_)
              refine lv_goto (tgt := 10) hx hb d_E_takeRules_60 (by decide) ?_
              exact ih10 _ _ _ _ _ h (lv_sub hl [1, 0] rfl) hP hD hS
            ·
              rw [if_neg hc3] at h
              refine lv_aload_n hx hb d_E_takeRules_34 rfl (lv_at hl 0 rfl) ?_
              refine lv_iload_n hx hb d_E_takeRules_35 rfl (lv_at hl 2 rfl) ?_
              refine lv_iload_n hx hb d_E_takeRules_36 rfl (lv_at hl 3 rfl) ?_
              refine lv_aload_n hx hb d_E_takeRules_37 rfl (lv_at hl 0 rfl) ?_
              refine g_E_grammar dC dI ad ca τ hx hb hts hown hK hP k_71 d_E_takeRules_38 ?_
              refine gN_G_usedBits dC dI ad ca τ hx hb hts hown hK hP k_73 d_E_takeRules_41 ?_
              refine lv_iload_n hx hb d_E_takeRules_44 rfl (lv_at hl 2 rfl) ?_
              refine lv_iload_n hx hb d_E_takeRules_45 rfl (lv_at hl 3 rfl) ?_
              refine lv_iadd hx hb d_E_takeRules_46 ?_
              obtain ⟨hi4, h⟩ := vq_bd h
              refine al_X10 dC dI ad ca τ hx hb hts hown hK hP hi4 d_E_takeRules_47 ?_
              obtain ⟨i5, ei5, h⟩ := vq_let h
              refine vq_top ei5.symm ?_
              obtain ⟨q6, h7, h⟩ := vq_bi h
              have hFc := vq_freeAll hD hS hA
              refine va_callv (va_runV (As := [.int x2, .int x3, .int i5]) (rest := []) ⟨hx, hb, hml, hown, hts⟩ (c_E_takeRule l htr dC dI ad ca N τ x2 x3 i5 q6 h7 H.size) (vq_cV WSk hts 3 rfl rfl ⟨by decide, by decide⟩ k_63 k_74 k_75 k_76 k_77 (by decide +kernel)) ⟨vq_blind, va_recv hK hP (ci := 3) (q0 := 3) rfl rfl, vq_here hst hS hN hP hK hD⟩ rfl rfl hl.1 rfl (lv_room (Nat.le_of_ble_eq_true rfl)) d_E_takeRules_48 ⟨by decide, by decide⟩) hS (fun q _ h => hFc q h) hFc (fun u t H1 locs ht hvm hw hB hz1 hk1 hS => ?_)
              obtain ⟨hP, -, hD1⟩ := hB
              rw [ht] at hP
              have hD := hD1.weaken (fun _ _ _ h => hFc _ h)
              generalize H1 = H at hP hS ⊢
              refine W.widen (k := 0) (n := 0) (by decide) (by decide) ?_
              refine lv_iinc (k := 3) (v := (x3 + 1)) (lv' := [(3, .int (x3 + 1)), (0, .ref (ad 3)), (1, .int x1), (2, .int x2)]) hx hb d_E_takeRules_51 hl rfl rfl (by decide) rfl (fun ls hl => ?_)
              refine lv_goto (tgt := 28) hx hb d_E_takeRules_54 (by decide) ?_
              exact ih28 _ _ _ _ _ _ _ h (lv_sub hl [1, 2, 3, 0] rfl) hP hD hS
        exact L28 N _ _ _ _ _ _ _ h (lv_sub hl [2, 3, 1, 0] rfl) hP hD hS
  exact L10 N _ _ _ _ _ h (lv_sub hl [1, 0] rfl) hP hD hS

set_option maxHeartbeats 4000000 in
set_option maxRecDepth 100000 in
theorem c_E_takeFromSymbols (l : Launch) (htr : l.stackTraces = false) (dC : Nat → ClassId) (dI : Nat → Nat → Nat) (ad : Nat → Nat) (ca : Nat → ClassId) (N : Nat) (σ : vS) (a0 : Int32) (v : Int32 × vS) (h : f_E_takeFromSymbols N σ a0 = some v) (sz : Nat) : Met l y_E_takeFromSymbols WS ({ frames := 1, cells := 0, slots := 0, locals := 22 }) (va_Pc [.ref (ad 3), .int a0] (vq_Pre (dC, dI) CL sz (Xw ad ca σ) (Xt ca))) (va_Qv (fun _ : Unit => True) (fun _ t => vq_Post (dC, dI) CL (va_A (Xw ad ca σ) sz) (Xw ad ca v.2) (Xt ca) t) (va_A (Xw ad ca σ) sz)) 0 0 (va_A (Xw ad ca σ) sz) := by
  refine vq_ofW (cc := prog_4_method_7_code) (maxL := 7) (ret := (Option.none : Option Jvm.ClassFile.FieldType)) pl_E (vq_his k_78) ?_
  intro p e s m args below meth c s₁ B hml hv
  obtain ⟨rfl, hst, hsz, hP, hK, hD0⟩ := hv
  have hx := B.exec
  have hb := B.bytes
  have hr := B.returns
  have hts := atoms_spec (ws := WS) B.pre
  have hown : s.vm.findClass R_E = some m.cls := findClass_of_methodNamed B.named
  have hlocks := B.notSynchronized
  have hno := vq_noH B (hts _ k_78)
  subst hsz
  have hN := vq_ns hP
  have hD := hD0.self (sz := s.heap.size)
  generalize hAe : va_A (Xw ad ca σ) s.heap.size = A at hD hN ⊢
  have hA : ∀ q : Nat, s.heap.size ≤ q → A q := fun q h => by rw [← hAe]; exact Or.inr h
  have hS : va_S A s.heap s.heap [] := va_S.rf
  have hl := lv_entry ([.ref (ad 3), .int a0]) (n := 7) (Nat.le_of_ble_eq_true rfl)
  rw [lg_entry_eq]
  generalize (lg_sl ([.ref (ad 3), .int a0]) ++ List.replicate (7 - (lg_sl ([.ref (ad 3), .int a0])).length) Slot.unset).toArray = ls at hl ⊢
  have hl : lv_has ls 7 [(0, .ref (ad 3)), (1, .int a0)] := hl
  unfold f_E_takeFromSymbols at h
  refine lv_iconst (v := 0) hx hb d_E_takeFromSymbols_0 (by decide) ?_
  refine lv_istore_n (lv' := [(2, .int 0), (0, .ref (ad 3)), (1, .int a0)]) hx hb d_E_takeFromSymbols_1 rfl hl (by decide) rfl (fun ls hl => ?_)
  have L2 : ∀ n2 : Nat, ∀ (τ : vS) (x1 : Int32) (x2 : Int32) (H : Heap) (locs : List Loc) (ls : Array Slot), f_E_takeFromSymbols_2 N n2 τ x1 x2 = some v → lv_has ls 7 [(0, .ref (ad 3)), (1, .int x1), (2, .int x2)] → va_P (dC, dI) CL (Xw ad ca τ) H → va_D A (Xw ad ca τ) → va_S A s.heap H locs → W p l e (headSpec WS ({ frames := 1, cells := 0, slots := 0, locals := 22 })).room s m ([.ref (ad 3), .int a0] : List Value).toArray below meth c H locs 0 0 (MQ below (va_Qv (fun _ : Unit => True) (fun _ t => vq_Post (dC, dI) CL A (Xw ad ca v.2) (Xt ca) t) A) ([.ref (ad 3), .int a0] : List Value).toArray s 0 0 A) (F0 m 2 ls []) := by
    intro n2
    induction n2 with
    | zero =>
      intro τ x1 x2 H locs ls h hl hP hD hS
      rw [f_E_takeFromSymbols_2] at h
      cases h
    | succ n2 ih2 =>
      intro τ x1 x2 H locs ls h hl hP hD hS
      rw [f_E_takeFromSymbols_2] at h
      dsimp only at h
      refine lv_iload_n hx hb d_E_takeFromSymbols_2 rfl (lv_at hl 2 rfl) ?_
      refine lv_aload_n hx hb d_E_takeFromSymbols_3 rfl (lv_at hl 0 rfl) ?_
      refine g_E_grammar dC dI ad ca τ hx hb hts hown hK hP k_71 d_E_takeFromSymbols_4 ?_
      refine gN_G_lastPositions dC dI ad ca τ hx hb hts hown hK hP k_79 d_E_takeFromSymbols_7 ?_
      refine lv_iload_n hx hb d_E_takeFromSymbols_10 rfl (lv_at hl 1 rfl) ?_
      obtain ⟨hi1, h⟩ := vq_bd h
      refine al_X3 dC dI ad ca τ hx hb hts hown hK hP hi1 d_E_takeFromSymbols_11 ?_
      obtain ⟨i2, ei2, h⟩ := vq_let h
      refine vq_top ei2.symm ?_
      refine lv_icmp_gt (tgt := 87) hx hb d_E_takeFromSymbols_12 (by decide) (fun hc3 => ?_) (fun hc3 => ?_)
      ·
        rw [if_pos hc3] at h
        have h9 := Option.some.inj h
        rw [← h9]
        exact W.vret hx hb hr (fun t ht hW => ⟨⟨(), rfl, trivial, by rw [ht]; exact hP, va_K.moved hW.alike hK, hD⟩, hS.F ht⟩) hS.2.2 d_E_takeFromSymbols_87
      ·
        rw [if_neg hc3] at h
        refine lv_aload_n hx hb d_E_takeFromSymbols_15 rfl (lv_at hl 0 rfl) ?_
        refine g_E_grammar dC dI ad ca τ hx hb hts hown hK hP k_71 d_E_takeFromSymbols_16 ?_
        refine lv_iload_n hx hb d_E_takeFromSymbols_19 rfl (lv_at hl 1 rfl) ?_
        refine lv_iload_n hx hb d_E_takeFromSymbols_20 rfl (lv_at hl 2 rfl) ?_
        obtain ⟨q4, h5, h⟩ := vq_bi h
        have hFc := vq_freeAll hD hS hA
        refine va_calli (va_runV (As := [.int x1, .int x2]) (rest := []) ⟨hx, hb, hml, hown, hts⟩ (c_G_symbolAt l htr dC dI ad ca N τ x1 x2 q4 h5 H.size) (vq_cV WSk hts 2 rfl rfl ⟨by decide, by decide⟩ k_40 k_26 k_80 k_81 k_82 (by decide +kernel)) ⟨vq_blind, va_recv hK hP (ci := 1) (q0 := 1) rfl rfl, vq_here hst hS hN hP hK hD⟩ rfl rfl hl.1 rfl (lv_room (Nat.le_of_ble_eq_true rfl)) d_E_takeFromSymbols_21 ⟨by decide, by decide⟩) hS (fun q _ h => hFc q h) hFc (fun r u t H1 locs ht hvm hw hB hz1 hk1 hS => ?_)
        obtain ⟨hP, -, hD1⟩ := hB
        rw [ht] at hP
        have hD := hD1.weaken (fun _ _ _ h => hFc _ h)
        have hw : r = q4.1 := hw
        subst hw
        generalize H1 = H at hP hS ⊢
        refine W.widen (k := 0) (n := 0) (by decide) (by decide) ?_
        refine lv_iconst (v := 4) hx hb d_E_takeFromSymbols_24 (by decide) ?_
        refine lv_imul hx hb d_E_takeFromSymbols_25 ?_
        refine lv_istore_n (lv' := [(3, .int ((q4.1) * 4)), (0, .ref (ad 3)), (1, .int x1), (2, .int x2)]) hx hb d_E_takeFromSymbols_26 rfl hl (by decide) rfl (fun ls hl => ?_)
        refine lv_iload_n hx hb d_E_takeFromSymbols_27 rfl (lv_at hl 3 rfl) ?_
        refine lv_iconst (v := 4) hx hb d_E_takeFromSymbols_28 (by decide) ?_
        refine lv_imul hx hb d_E_takeFromSymbols_29 ?_
        refine lv_istore (lv' := [(4, .int (x2 * 4)), (3, .int ((q4.1) * 4)), (0, .ref (ad 3)), (1, .int x1), (2, .int x2)]) hx hb d_E_takeFromSymbols_30 hl (by decide) rfl (fun ls hl => ?_)
        refine lv_iload_n hx hb d_E_takeFromSymbols_32 rfl (lv_at hl 3 rfl) ?_
        refine lv_bipush (v := 16) hx hb d_E_takeFromSymbols_33 (by decide) ?_
        refine lv_imul hx hb d_E_takeFromSymbols_35 ?_
        refine lv_iload hx hb d_E_takeFromSymbols_36 (lv_at hl 0 rfl) ?_
        refine lv_iadd hx hb d_E_takeFromSymbols_38 ?_
        refine lv_istore (lv' := [(5, .int ((x1 * 16) + (x2 * 4))), (4, .int (x2 * 4)), (3, .int ((q4.1) * 4)), (0, .ref (ad 3)), (1, .int x1), (2, .int x2)]) hx hb d_E_takeFromSymbols_39 hl (by decide) rfl (fun ls hl => ?_)
        refine lv_iconst (v := 0) hx hb d_E_takeFromSymbols_41 (by decide) ?_
        refine lv_istore (lv' := [(6, .int 0), (5, .int ((x1 * 16) + (x2 * 4))), (4, .int (x2 * 4)), (3, .int ((q4.1) * 4)), (0, .ref (ad 3)), (1, .int x1), (2, .int x2)]) hx hb d_E_takeFromSymbols_42 hl (by decide) rfl (fun ls hl => ?_)
        have L44 : ∀ n44 : Nat, ∀ (τ : vS) (x1 : Int32) (x2 : Int32) (x3 : Int32) (x4 : Int32) (x5 : Int32) (x6 : Int32) (H : Heap) (locs : List Loc) (ls : Array Slot), f_E_takeFromSymbols_44 N (f_E_takeFromSymbols_2 N n2) n44 τ x1 x2 x3 x4 x5 x6 = some v → lv_has ls 7 [(0, .ref (ad 3)), (1, .int x1), (2, .int x2), (3, .int x3), (4, .int x4), (5, .int x5), (6, .int x6)] → va_P (dC, dI) CL (Xw ad ca τ) H → va_D A (Xw ad ca τ) → va_S A s.heap H locs → W p l e (headSpec WS ({ frames := 1, cells := 0, slots := 0, locals := 22 })).room s m ([.ref (ad 3), .int a0] : List Value).toArray below meth c H locs 0 0 (MQ below (va_Qv (fun _ : Unit => True) (fun _ t => vq_Post (dC, dI) CL A (Xw ad ca v.2) (Xt ca) t) A) ([.ref (ad 3), .int a0] : List Value).toArray s 0 0 A) (F0 m 44 ls []) := by
          intro n44
          induction n44 with
          | zero =>
            intro τ x1 x2 x3 x4 x5 x6 H locs ls h hl hP hD hS
            rw [f_E_takeFromSymbols_44] at h
            cases h
          | succ n44 ih44 =>
            intro τ x1 x2 x3 x4 x5 x6 H locs ls h hl hP hD hS
            rw [f_E_takeFromSymbols_44] at h
            dsimp only at h
            refine lv_iload hx hb d_E_takeFromSymbols_44 (lv_at hl 6 rfl) ?_
            refine lv_iconst (v := 4) hx hb d_E_takeFromSymbols_46 (by decide) ?_
            refine lv_icmp_ge (tgt := 81) hx hb d_E_takeFromSymbols_47 (by decide) (fun hc6 => ?_) (fun hc6 => ?_)
            ·
              rw [if_pos hc6] at h
              refine lv_iinc (k := 2) (v := (x2 + 1)) (lv' := [(2, .int (x2 + 1)), (0, .ref (ad 3)), (1, .int x1), (3, .int x3), (4, .int x4), (5, .int x5), (6, .int x6)]) hx hb d_E_takeFromSymbols_81 hl rfl rfl (by decide) rfl (fun ls hl => ?_)
              refine lv_goto (tgt := 2) hx hb d_E_takeFromSymbols_84 (by decide) ?_
              exact ih2 _ _ _ _ _ _ h (lv_sub hl [1, 2, 0] rfl) hP hD hS
            ·
              rw [if_neg hc6] at h
              refine lv_aload_n hx hb d_E_takeFromSymbols_50 rfl (lv_at hl 0 rfl) ?_
              refine g_E_ofOccurrences dC dI ad ca τ hx hb hts hown hK hP k_65 d_E_takeFromSymbols_51 ?_
              refine lv_iload hx hb d_E_takeFromSymbols_54 (lv_at hl 5 rfl) ?_
              refine lv_iload hx hb d_E_takeFromSymbols_56 (lv_at hl 6 rfl) ?_
              refine lv_iadd hx hb d_E_takeFromSymbols_58 ?_
              refine lv_dup2_11 hx hb d_E_takeFromSymbols_59 rfl rfl ?_
              obtain ⟨hi7, h⟩ := vq_bd h
              refine al_X11 dC dI ad ca τ hx hb hts hown hK hP hi7 d_E_takeFromSymbols_60 ?_
              obtain ⟨i8, ei8, h⟩ := vq_let h
              refine vq_top ei8.symm ?_
              refine lv_aload_n hx hb d_E_takeFromSymbols_61 rfl (lv_at hl 0 rfl) ?_
              refine g_E_ofAttributes dC dI ad ca τ hx hb hts hown hK hP k_83 d_E_takeFromSymbols_62 ?_
              refine lv_iload_n hx hb d_E_takeFromSymbols_65 rfl (lv_at hl 3 rfl) ?_
              refine lv_iload hx hb d_E_takeFromSymbols_66 (lv_at hl 6 rfl) ?_
              refine lv_iadd hx hb d_E_takeFromSymbols_68 ?_
              obtain ⟨hi9, h⟩ := vq_bd h
              refine al_X12 dC dI ad ca τ hx hb hts hown hK hP hi9 d_E_takeFromSymbols_69 ?_
              obtain ⟨i10, ei10, h⟩ := vq_let h
              refine vq_top ei10.symm ?_
              refine lv_iload hx hb d_E_takeFromSymbols_70 (lv_at hl 4 rfl) ?_
              refine lv_ishl hx hb d_E_takeFromSymbols_72 ?_
              refine lv_ior hx hb d_E_takeFromSymbols_73 ?_
              obtain ⟨hi11, h⟩ := vq_bd h
              refine as_X11 dC dI ad ca τ hx hb hts hown hK hP hD hS hi11 d_E_takeFromSymbols_74 (fun H locs hP hD hS => ?_)
              obtain ⟨σ12, eσ12, h⟩ := vq_let h
              rw [← eσ12] at hP hD
              refine lv_iinc (k := 6) (v := (x6 + 1)) (lv' := [(6, .int (x6 + 1)), (0, .ref (ad 3)), (1, .int x1), (2, .int x2), (3, .int x3), (4, .int x4), (5, .int x5)]) hx hb d_E_takeFromSymbols_75 hl rfl rfl (by decide) rfl (fun ls hl => ?_)
              refine lv_goto (tgt := 44) hx hb d_E_takeFromSymbols_78 (by decide) ?_
              exact ih44 _ _ _ _ _ _ _ _ _ _ h (lv_sub hl [1, 2, 3, 4, 5, 6, 0] rfl) hP hD hS
        exact L44 N _ _ _ _ _ _ _ _ _ _ h (lv_sub hl [4, 5, 6, 3, 2, 1, 0] rfl) hP hD hS
  exact L2 N _ _ _ _ _ _ h (lv_sub hl [1, 2, 0] rfl) hP hD hS

set_option maxHeartbeats 4000000 in
set_option maxRecDepth 100000 in
theorem c_E_close (l : Launch) (htr : l.stackTraces = false) (dC : Nat → ClassId) (dI : Nat → Nat → Nat) (ad : Nat → Nat) (ca : Nat → ClassId) (N : Nat) (σ : vS) (a0 : Int32) (v : Int32 × vS) (h : f_E_close N σ a0 = some v) (sz : Nat) : Met l y_E_close WS ({ frames := 1, cells := 0, slots := 0, locals := 21 }) (va_Pc [.ref (ad 3), .int a0] (vq_Pre (dC, dI) CL sz (Xw ad ca σ) (Xt ca))) (va_Qv (fun _ : Unit => True) (fun _ t => vq_Post (dC, dI) CL (va_A (Xw ad ca σ) sz) (Xw ad ca v.2) (Xt ca) t) (va_A (Xw ad ca σ) sz)) 0 0 (va_A (Xw ad ca σ) sz) := by
  refine vq_ofW (cc := prog_4_method_8_code) (maxL := 6) (ret := (Option.none : Option Jvm.ClassFile.FieldType)) pl_E (vq_his k_84) ?_
  intro p e s m args below meth c s₁ B hml hv
  obtain ⟨rfl, hst, hsz, hP, hK, hD0⟩ := hv
  have hx := B.exec
  have hb := B.bytes
  have hr := B.returns
  have hts := atoms_spec (ws := WS) B.pre
  have hown : s.vm.findClass R_E = some m.cls := findClass_of_methodNamed B.named
  have hlocks := B.notSynchronized
  have hno := vq_noH B (hts _ k_84)
  subst hsz
  have hN := vq_ns hP
  have hD := hD0.self (sz := s.heap.size)
  generalize hAe : va_A (Xw ad ca σ) s.heap.size = A at hD hN ⊢
  have hA : ∀ q : Nat, s.heap.size ≤ q → A q := fun q h => by rw [← hAe]; exact Or.inr h
  have hS : va_S A s.heap s.heap [] := va_S.rf
  have hl := lv_entry ([.ref (ad 3), .int a0]) (n := 6) (Nat.le_of_ble_eq_true rfl)
  rw [lg_entry_eq]
  generalize (lg_sl ([.ref (ad 3), .int a0]) ++ List.replicate (6 - (lg_sl ([.ref (ad 3), .int a0])).length) Slot.unset).toArray = ls at hl ⊢
  have hl : lv_has ls 6 [(0, .ref (ad 3)), (1, .int a0)] := hl
  unfold f_E_close at h
  refine lv_iload_n hx hb d_E_close_0 rfl (lv_at hl 1 rfl) ?_
  refine lv_bipush (v := 16) hx hb d_E_close_1 (by decide) ?_
  refine lv_imul hx hb d_E_close_3 ?_
  refine lv_istore_n (lv' := [(2, .int (a0 * 16)), (0, .ref (ad 3)), (1, .int a0)]) hx hb d_E_close_4 rfl hl (by decide) rfl (fun ls hl => ?_)
  refine lv_iconst (v := 0) hx hb d_E_close_5 (by decide) ?_
  refine lv_istore_n (lv' := [(3, .int 0), (2, .int (a0 * 16)), (0, .ref (ad 3)), (1, .int a0)]) hx hb d_E_close_6 rfl hl (by decide) rfl (fun ls hl => ?_)
  have L7 : ∀ n7 : Nat, ∀ (τ : vS) (x2 : Int32) (x3 : Int32) (H : Heap) (locs : List Loc) (ls : Array Slot), f_E_close_7 N n7 τ x2 x3 = some v → lv_has ls 6 [(0, .ref (ad 3)), (2, .int x2), (3, .int x3)] → va_P (dC, dI) CL (Xw ad ca τ) H → va_D A (Xw ad ca τ) → va_S A s.heap H locs → W p l e (headSpec WS ({ frames := 1, cells := 0, slots := 0, locals := 21 })).room s m ([.ref (ad 3), .int a0] : List Value).toArray below meth c H locs 0 0 (MQ below (va_Qv (fun _ : Unit => True) (fun _ t => vq_Post (dC, dI) CL A (Xw ad ca v.2) (Xt ca) t) A) ([.ref (ad 3), .int a0] : List Value).toArray s 0 0 A) (F0 m 7 ls []) := by
    intro n7
    induction n7 with
    | zero =>
      intro τ x2 x3 H locs ls h hl hP hD hS
      rw [f_E_close_7] at h
      cases h
    | succ n7 ih7 =>
      intro τ x2 x3 H locs ls h hl hP hD hS
      rw [f_E_close_7] at h
      dsimp only at h
      refine lv_iload_n hx hb d_E_close_7 rfl (lv_at hl 2 rfl) ?_
      refine lv_bipush (v := 16) hx hb d_E_close_8 (by decide) ?_
      refine lv_icmp_ge (tgt := 80) hx hb d_E_close_10 (by decide) (fun hc1 => ?_) (fun hc1 => ?_)
      ·
        rw [if_pos hc1] at h
        have h9 := Option.some.inj h
        rw [← h9]
        exact W.vret hx hb hr (fun t ht hW => ⟨⟨(), rfl, trivial, by rw [ht]; exact hP, va_K.moved hW.alike hK, hD⟩, hS.F ht⟩) hS.2.2 d_E_close_80
      ·
        rw [if_neg hc1] at h
        refine lv_aload_n hx hb d_E_close_13 rfl (lv_at hl 0 rfl) ?_
        refine g_E_ofOccurrences dC dI ad ca τ hx hb hts hown hK hP k_65 d_E_close_14 ?_
        refine lv_iload_n hx hb d_E_close_17 rfl (lv_at hl 1 rfl) ?_
        refine lv_iload_n hx hb d_E_close_18 rfl (lv_at hl 2 rfl) ?_
        refine lv_iadd hx hb d_E_close_19 ?_
        obtain ⟨hi2, h⟩ := vq_bd h
        refine al_X11 dC dI ad ca τ hx hb hts hown hK hP hi2 d_E_close_20 ?_
        obtain ⟨i3, ei3, h⟩ := vq_let h
        refine vq_top ei3.symm ?_
        refine lv_istore (lv' := [(4, .int i3), (0, .ref (ad 3)), (2, .int x2), (3, .int x3)]) hx hb d_E_close_21 hl (by decide) rfl (fun ls hl => ?_)
        refine lv_iconst (v := 0) hx hb d_E_close_23 (by decide) ?_
        refine lv_istore (lv' := [(5, .int 0), (4, .int i3), (0, .ref (ad 3)), (2, .int x2), (3, .int x3)]) hx hb d_E_close_24 hl (by decide) rfl (fun ls hl => ?_)
        have L26 : ∀ n26 : Nat, ∀ (τ : vS) (x2 : Int32) (x3 : Int32) (x4 : Int32) (x5 : Int32) (H : Heap) (locs : List Loc) (ls : Array Slot), f_E_close_26 N (f_E_close_7 N n7) n26 τ x2 x3 x4 x5 = some v → lv_has ls 6 [(0, .ref (ad 3)), (2, .int x2), (3, .int x3), (4, .int x4), (5, .int x5)] → va_P (dC, dI) CL (Xw ad ca τ) H → va_D A (Xw ad ca τ) → va_S A s.heap H locs → W p l e (headSpec WS ({ frames := 1, cells := 0, slots := 0, locals := 21 })).room s m ([.ref (ad 3), .int a0] : List Value).toArray below meth c H locs 0 0 (MQ below (va_Qv (fun _ : Unit => True) (fun _ t => vq_Post (dC, dI) CL A (Xw ad ca v.2) (Xt ca) t) A) ([.ref (ad 3), .int a0] : List Value).toArray s 0 0 A) (F0 m 26 ls []) := by
          intro n26
          induction n26 with
          | zero =>
            intro τ x2 x3 x4 x5 H locs ls h hl hP hD hS
            rw [f_E_close_26] at h
            cases h
          | succ n26 ih26 =>
            intro τ x2 x3 x4 x5 H locs ls h hl hP hD hS
            rw [f_E_close_26] at h
            dsimp only at h
            refine lv_iload hx hb d_E_close_26 (lv_at hl 3 rfl) ?_
            have J74 : ∀ (τ : vS) (x2 : Int32) (x3 : Int32) (H : Heap) (locs : List Loc) (ls : Array Slot), f_E_close_74 N (f_E_close_7 N n7) τ x2 x3 = some v → lv_has ls 6 [(0, .ref (ad 3)), (2, .int x2), (3, .int x3)] → va_P (dC, dI) CL (Xw ad ca τ) H → va_D A (Xw ad ca τ) → va_S A s.heap H locs → W p l e (headSpec WS ({ frames := 1, cells := 0, slots := 0, locals := 21 })).room s m ([.ref (ad 3), .int a0] : List Value).toArray below meth c H locs 0 0 (MQ below (va_Qv (fun _ : Unit => True) (fun _ t => vq_Post (dC, dI) CL A (Xw ad ca v.2) (Xt ca) t) A) ([.ref (ad 3), .int a0] : List Value).toArray s 0 0 A) (F0 m 74 ls []) := by
              intro τ x2 x3 H locs ls h hl hP hD hS
              unfold f_E_close_74 at h
              refine lv_iinc (k := 2) (v := (x3 + 1)) (lv' := [(3, .int (x3 + 1)), (0, .ref (ad 3)), (2, .int x2)]) hx hb d_E_close_74 hl rfl rfl (by decide) rfl (fun ls hl => ?_)
              refine lv_goto (tgt := 7) hx hb d_E_close_77 (by decide) ?_
              exact ih7 _ _ _ _ _ _ h (lv_sub hl [1, 2, 0] rfl) hP hD hS
            refine lv_if_eq (tgt := 74) hx hb d_E_close_28 (by decide) (fun hc4 => ?_) (fun hc4 => ?_)
            ·
              rw [if_pos hc4] at h
              exact J74 _ _ _ _ _ _ h (lv_sub hl [0, 1, 2] rfl) hP hD hS
            ·
              rw [if_neg hc4] at h
              refine lv_iload hx hb d_E_close_31 (lv_at hl 4 rfl) ?_
              refine lv_bipush (v := 16) hx hb d_E_close_33 (by decide) ?_
              refine lv_icmp_ge (tgt := 74) hx hb d_E_close_35 (by decide) (fun hc5 => ?_) (fun hc5 => ?_)
              ·
                rw [if_pos hc5] at h
                exact J74 _ _ _ _ _ _ h (lv_sub hl [0, 1, 2] rfl) hP hD hS
              ·
                rw [if_neg hc5] at h
                refine lv_aload_n hx hb d_E_close_38 rfl (lv_at hl 0 rfl) ?_
                refine g_E_ofOccurrences dC dI ad ca τ hx hb hts hown hK hP k_65 d_E_close_39 ?_
                refine lv_iload_n hx hb d_E_close_42 rfl (lv_at hl 1 rfl) ?_
                refine lv_iload hx hb d_E_close_43 (lv_at hl 4 rfl) ?_
                refine lv_iadd hx hb d_E_close_45 ?_
                obtain ⟨hi6, h⟩ := vq_bd h
                refine al_X11 dC dI ad ca τ hx hb hts hown hK hP hi6 d_E_close_46 ?_
                obtain ⟨i7, ei7, h⟩ := vq_let h
                refine vq_top ei7.symm ?_
                refine lv_iload_n hx hb d_E_close_47 rfl (lv_at hl 2 rfl) ?_
                obtain ⟨q8, h9, h⟩ := vq_bi h
                have hKe := hK.sub (tys' := []) [] rfl
                refine va_calli (va_runSN (As := [.int i7, .int x3]) (rest := []) ⟨hx, hb, hml, hown, hts⟩ (c_V_holds l htr dC dI N i7 x3 q8 h9 H.size) (vq_cSN WSk hts 2 rfl rfl ⟨by decide, by decide⟩ k_0 k_22 k_64 k_24 (by decide +kernel)) ⟨vq_blind, vq_here hst hS hN vq_P0 hKe vq_D0⟩ rfl rfl hl.1 rfl (lv_room (Nat.le_of_ble_eq_true rfl)) d_E_close_48 ⟨by decide, by decide⟩) hS (fun q _ h => vq_keepA h (fun hz => hA q (Nat.le_trans hS.1 hz))) (fun q h => vq_keepA h (fun hz => hA q (Nat.le_trans hS.1 hz))) (fun r u t H1 locs ht hvm hw hB hz1 hk1 hS => ?_)
                have hw : r = q8 := hw
                rw [hw]
                have hP := vq_keepP hP hk1
                generalize H1 = H at hP hS ⊢
                refine W.widen (k := 0) (n := 0) (by decide) (by decide) ?_
                have J68 : ∀ (τ : vS) (x2 : Int32) (x3 : Int32) (x4 : Int32) (x5 : Int32) (H : Heap) (locs : List Loc) (ls : Array Slot), f_E_close_68 N (f_E_close_7 N n7) (f_E_close_26 N (f_E_close_7 N n7) n26) τ x2 x3 x4 x5 = some v → lv_has ls 6 [(0, .ref (ad 3)), (2, .int x2), (3, .int x3), (4, .int x4), (5, .int x5)] → va_P (dC, dI) CL (Xw ad ca τ) H → va_D A (Xw ad ca τ) → va_S A s.heap H locs → W p l e (headSpec WS ({ frames := 1, cells := 0, slots := 0, locals := 21 })).room s m ([.ref (ad 3), .int a0] : List Value).toArray below meth c H locs 0 0 (MQ below (va_Qv (fun _ : Unit => True) (fun _ t => vq_Post (dC, dI) CL A (Xw ad ca v.2) (Xt ca) t) A) ([.ref (ad 3), .int a0] : List Value).toArray s 0 0 A) (F0 m 68 ls []) := by
                  intro τ x2 x3 x4 x5 H locs ls h hl hP hD hS
                  unfold f_E_close_68 at h
                  refine lv_iinc (k := 4) (v := (x5 + 1)) (lv' := [(5, .int (x5 + 1)), (0, .ref (ad 3)), (2, .int x2), (3, .int x3), (4, .int x4)]) hx hb d_E_close_68 hl rfl rfl (by decide) rfl (fun ls hl => ?_)
                  refine lv_goto (tgt := 26) hx hb d_E_close_71 (by decide) ?_
                  exact ih26 _ _ _ _ _ _ _ _ h (lv_sub hl [1, 2, 3, 4, 0] rfl) hP hD hS
                refine lv_if_eq (tgt := 68) hx hb d_E_close_51 (by decide) (fun hc10 => ?_) (fun hc10 => ?_)
                ·
                  rw [if_pos hc10] at h
                  exact J68 _ _ _ _ _ _ _ _ h (lv_sub hl [0, 1, 2, 3, 4] rfl) hP hD hS
                ·
                  rw [if_neg hc10] at h
                  refine lv_aload_n hx hb d_E_close_54 rfl (lv_at hl 0 rfl) ?_
                  refine g_E_ofOccurrences dC dI ad ca τ hx hb hts hown hK hP k_65 d_E_close_55 ?_
                  refine lv_iload_n hx hb d_E_close_58 rfl (lv_at hl 1 rfl) ?_
                  refine lv_iload hx hb d_E_close_59 (lv_at hl 4 rfl) ?_
                  refine lv_iadd hx hb d_E_close_61 ?_
                  refine lv_dup2_11 hx hb d_E_close_62 rfl rfl ?_
                  obtain ⟨hi11, h⟩ := vq_bd h
                  refine al_X11 dC dI ad ca τ hx hb hts hown hK hP hi11 d_E_close_63 ?_
                  obtain ⟨i12, ei12, h⟩ := vq_let h
                  refine vq_top ei12.symm ?_
                  refine lv_iload hx hb d_E_close_64 (lv_at hl 3 rfl) ?_
                  refine lv_ior hx hb d_E_close_66 ?_
                  obtain ⟨hi13, h⟩ := vq_bd h
                  refine as_X11 dC dI ad ca τ hx hb hts hown hK hP hD hS hi13 d_E_close_67 (fun H locs hP hD hS => ?_)
                  obtain ⟨σ14, eσ14, h⟩ := vq_let h
                  rw [← eσ14] at hP hD
                  exact J68 _ _ _ _ _ _ _ _ h (lv_sub hl [0, 1, 2, 3, 4] rfl) hP hD hS
        exact L26 N _ _ _ _ _ _ _ _ h (lv_sub hl [2, 3, 4, 1, 0] rfl) hP hD hS
  exact L7 N _ _ _ _ _ _ h (lv_sub hl [2, 1, 0] rfl) hP hD hS

set_option maxHeartbeats 4000000 in
set_option maxRecDepth 100000 in
theorem c_E_giveToSymbols (l : Launch) (htr : l.stackTraces = false) (dC : Nat → ClassId) (dI : Nat → Nat → Nat) (ad : Nat → Nat) (ca : Nat → ClassId) (N : Nat) (σ : vS) (a0 : Int32) (v : Int32 × vS) (h : f_E_giveToSymbols N σ a0 = some v) (sz : Nat) : Met l y_E_giveToSymbols WS ({ frames := 1, cells := 0, slots := 0, locals := 23 }) (va_Pc [.ref (ad 3), .int a0] (vq_Pre (dC, dI) CL sz (Xw ad ca σ) (Xt ca))) (va_Qi (fun (r : Int32) (_ : Unit) => r = v.1) (fun _ t => vq_Post (dC, dI) CL (va_A (Xw ad ca σ) sz) (Xw ad ca v.2) (Xt ca) t) (va_A (Xw ad ca σ) sz)) 0 0 (va_A (Xw ad ca σ) sz) := by
  refine vq_ofW (cc := prog_4_method_9_code) (maxL := 9) (ret := (Option.some Jvm.ClassFile.FieldType.boolean)) pl_E (vq_his k_85) ?_
  intro p e s m args below meth c s₁ B hml hv
  obtain ⟨rfl, hst, hsz, hP, hK, hD0⟩ := hv
  have hx := B.exec
  have hb := B.bytes
  have hr := B.returns
  have hts := atoms_spec (ws := WS) B.pre
  have hown : s.vm.findClass R_E = some m.cls := findClass_of_methodNamed B.named
  have hlocks := B.notSynchronized
  have hno := vq_noH B (hts _ k_85)
  subst hsz
  have hN := vq_ns hP
  have hD := hD0.self (sz := s.heap.size)
  generalize hAe : va_A (Xw ad ca σ) s.heap.size = A at hD hN ⊢
  have hA : ∀ q : Nat, s.heap.size ≤ q → A q := fun q h => by rw [← hAe]; exact Or.inr h
  have hS : va_S A s.heap s.heap [] := va_S.rf
  have hl := lv_entry ([.ref (ad 3), .int a0]) (n := 9) (Nat.le_of_ble_eq_true rfl)
  rw [lg_entry_eq]
  generalize (lg_sl ([.ref (ad 3), .int a0]) ++ List.replicate (9 - (lg_sl ([.ref (ad 3), .int a0])).length) Slot.unset).toArray = ls at hl ⊢
  have hl : lv_has ls 9 [(0, .ref (ad 3)), (1, .int a0)] := hl
  unfold f_E_giveToSymbols at h
  refine lv_iconst (v := 0) hx hb d_E_giveToSymbols_0 (by decide) ?_
  refine lv_istore_n (lv' := [(2, .int 0), (0, .ref (ad 3)), (1, .int a0)]) hx hb d_E_giveToSymbols_1 rfl hl (by decide) rfl (fun ls hl => ?_)
  refine lv_iconst (v := 0) hx hb d_E_giveToSymbols_2 (by decide) ?_
  refine lv_istore_n (lv' := [(3, .int 0), (2, .int 0), (0, .ref (ad 3)), (1, .int a0)]) hx hb d_E_giveToSymbols_3 rfl hl (by decide) rfl (fun ls hl => ?_)
  have L4 : ∀ n4 : Nat, ∀ (τ : vS) (x1 : Int32) (x2 : Int32) (x3 : Int32) (H : Heap) (locs : List Loc) (ls : Array Slot), f_E_giveToSymbols_4 N n4 τ x1 x2 x3 = some v → lv_has ls 9 [(0, .ref (ad 3)), (1, .int x1), (2, .int x2), (3, .int x3)] → va_P (dC, dI) CL (Xw ad ca τ) H → va_D A (Xw ad ca τ) → va_S A s.heap H locs → W p l e (headSpec WS ({ frames := 1, cells := 0, slots := 0, locals := 23 })).room s m ([.ref (ad 3), .int a0] : List Value).toArray below meth c H locs 0 0 (MQ below (va_Qi (fun (r : Int32) (_ : Unit) => r = v.1) (fun _ t => vq_Post (dC, dI) CL A (Xw ad ca v.2) (Xt ca) t) A) ([.ref (ad 3), .int a0] : List Value).toArray s 0 0 A) (F0 m 4 ls []) := by
    intro n4
    induction n4 with
    | zero =>
      intro τ x1 x2 x3 H locs ls h hl hP hD hS
      rw [f_E_giveToSymbols_4] at h
      cases h
    | succ n4 ih4 =>
      intro τ x1 x2 x3 H locs ls h hl hP hD hS
      rw [f_E_giveToSymbols_4] at h
      dsimp only at h
      refine lv_iload_n hx hb d_E_giveToSymbols_4 rfl (lv_at hl 3 rfl) ?_
      refine lv_aload_n hx hb d_E_giveToSymbols_5 rfl (lv_at hl 0 rfl) ?_
      refine g_E_grammar dC dI ad ca τ hx hb hts hown hK hP k_71 d_E_giveToSymbols_6 ?_
      refine gN_G_lastPositions dC dI ad ca τ hx hb hts hown hK hP k_79 d_E_giveToSymbols_9 ?_
      refine lv_iload_n hx hb d_E_giveToSymbols_12 rfl (lv_at hl 1 rfl) ?_
      obtain ⟨hi1, h⟩ := vq_bd h
      refine al_X3 dC dI ad ca τ hx hb hts hown hK hP hi1 d_E_giveToSymbols_13 ?_
      obtain ⟨i2, ei2, h⟩ := vq_let h
      refine vq_top ei2.symm ?_
      refine lv_icmp_gt (tgt := 119) hx hb d_E_giveToSymbols_14 (by decide) (fun hc3 => ?_) (fun hc3 => ?_)
      ·
        rw [if_pos hc3] at h
        refine lv_iload_n hx hb d_E_giveToSymbols_119 rfl (lv_at hl 2 rfl) ?_
        have h9 := Option.some.inj h
        rw [← h9]
        exact vq_zret hx hb hr (fun t ht hW => ⟨⟨_, (), rfl, rfl, by rw [ht]; exact hP, va_K.moved hW.alike hK, hD⟩, hS.F ht⟩) hS.2.2 d_E_giveToSymbols_120
      ·
        rw [if_neg hc3] at h
        refine lv_aload_n hx hb d_E_giveToSymbols_17 rfl (lv_at hl 0 rfl) ?_
        refine g_E_grammar dC dI ad ca τ hx hb hts hown hK hP k_71 d_E_giveToSymbols_18 ?_
        refine lv_iload_n hx hb d_E_giveToSymbols_21 rfl (lv_at hl 1 rfl) ?_
        refine lv_iload_n hx hb d_E_giveToSymbols_22 rfl (lv_at hl 3 rfl) ?_
        obtain ⟨q4, h5, h⟩ := vq_bi h
        have hFc := vq_freeAll hD hS hA
        refine va_calli (va_runV (As := [.int x1, .int x3]) (rest := []) ⟨hx, hb, hml, hown, hts⟩ (c_G_symbolAt l htr dC dI ad ca N τ x1 x3 q4 h5 H.size) (vq_cV WSk hts 2 rfl rfl ⟨by decide, by decide⟩ k_40 k_26 k_80 k_81 k_82 (by decide +kernel)) ⟨vq_blind, va_recv hK hP (ci := 1) (q0 := 1) rfl rfl, vq_here hst hS hN hP hK hD⟩ rfl rfl hl.1 rfl (lv_room (Nat.le_of_ble_eq_true rfl)) d_E_giveToSymbols_23 ⟨by decide, by decide⟩) hS (fun q _ h => hFc q h) hFc (fun r u t H1 locs ht hvm hw hB hz1 hk1 hS => ?_)
        obtain ⟨hP, -, hD1⟩ := hB
        rw [ht] at hP
        have hD := hD1.weaken (fun _ _ _ h => hFc _ h)
        have hw : r = q4.1 := hw
        subst hw
        generalize H1 = H at hP hS ⊢
        refine W.widen (k := 0) (n := 0) (by decide) (by decide) ?_
        refine lv_iconst (v := 4) hx hb d_E_giveToSymbols_26 (by decide) ?_
        refine lv_imul hx hb d_E_giveToSymbols_27 ?_
        refine lv_istore (lv' := [(4, .int ((q4.1) * 4)), (0, .ref (ad 3)), (1, .int x1), (2, .int x2), (3, .int x3)]) hx hb d_E_giveToSymbols_28 hl (by decide) rfl (fun ls hl => ?_)
        refine lv_iload_n hx hb d_E_giveToSymbols_30 rfl (lv_at hl 4 rfl) ?_
        refine lv_iconst (v := 4) hx hb d_E_giveToSymbols_31 (by decide) ?_
        refine lv_imul hx hb d_E_giveToSymbols_32 ?_
        refine lv_istore (lv' := [(5, .int (x3 * 4)), (4, .int ((q4.1) * 4)), (0, .ref (ad 3)), (1, .int x1), (2, .int x2), (3, .int x3)]) hx hb d_E_giveToSymbols_33 hl (by decide) rfl (fun ls hl => ?_)
        refine lv_iload_n hx hb d_E_giveToSymbols_35 rfl (lv_at hl 3 rfl) ?_
        refine lv_bipush (v := 16) hx hb d_E_giveToSymbols_36 (by decide) ?_
        refine lv_imul hx hb d_E_giveToSymbols_38 ?_
        refine lv_iload hx hb d_E_giveToSymbols_39 (lv_at hl 0 rfl) ?_
        refine lv_iadd hx hb d_E_giveToSymbols_41 ?_
        refine lv_istore (lv' := [(6, .int ((x1 * 16) + (x3 * 4))), (5, .int (x3 * 4)), (4, .int ((q4.1) * 4)), (0, .ref (ad 3)), (1, .int x1), (2, .int x2), (3, .int x3)]) hx hb d_E_giveToSymbols_42 hl (by decide) rfl (fun ls hl => ?_)
        refine lv_iconst (v := 0) hx hb d_E_giveToSymbols_44 (by decide) ?_
        refine lv_istore (lv' := [(7, .int 0), (6, .int ((x1 * 16) + (x3 * 4))), (5, .int (x3 * 4)), (4, .int ((q4.1) * 4)), (0, .ref (ad 3)), (1, .int x1), (2, .int x2), (3, .int x3)]) hx hb d_E_giveToSymbols_45 hl (by decide) rfl (fun ls hl => ?_)
        have L47 : ∀ n47 : Nat, ∀ (τ : vS) (x1 : Int32) (x2 : Int32) (x3 : Int32) (x4 : Int32) (x5 : Int32) (x6 : Int32) (x7 : Int32) (H : Heap) (locs : List Loc) (ls : Array Slot), f_E_giveToSymbols_47 N (f_E_giveToSymbols_4 N n4) n47 τ x1 x2 x3 x4 x5 x6 x7 = some v → lv_has ls 9 [(0, .ref (ad 3)), (1, .int x1), (2, .int x2), (3, .int x3), (4, .int x4), (5, .int x5), (6, .int x6), (7, .int x7)] → va_P (dC, dI) CL (Xw ad ca τ) H → va_D A (Xw ad ca τ) → va_S A s.heap H locs → W p l e (headSpec WS ({ frames := 1, cells := 0, slots := 0, locals := 23 })).room s m ([.ref (ad 3), .int a0] : List Value).toArray below meth c H locs 0 0 (MQ below (va_Qi (fun (r : Int32) (_ : Unit) => r = v.1) (fun _ t => vq_Post (dC, dI) CL A (Xw ad ca v.2) (Xt ca) t) A) ([.ref (ad 3), .int a0] : List Value).toArray s 0 0 A) (F0 m 47 ls []) := by
          intro n47
          induction n47 with
          | zero =>
            intro τ x1 x2 x3 x4 x5 x6 x7 H locs ls h hl hP hD hS
            rw [f_E_giveToSymbols_47] at h
            cases h
          | succ n47 ih47 =>
            intro τ x1 x2 x3 x4 x5 x6 x7 H locs ls h hl hP hD hS
            rw [f_E_giveToSymbols_47] at h
            dsimp only at h
            refine lv_iload hx hb d_E_giveToSymbols_47 (lv_at hl 7 rfl) ?_
            refine lv_iconst (v := 4) hx hb d_E_giveToSymbols_49 (by decide) ?_
            refine lv_icmp_ge (tgt := 113) hx hb d_E_giveToSymbols_50 (by decide) (fun hc6 => ?_) (fun hc6 => ?_)
            ·
              rw [if_pos hc6] at h
              refine lv_iinc (k := 3) (v := (x3 + 1)) (lv' := [(3, .int (x3 + 1)), (0, .ref (ad 3)), (1, .int x1), (2, .int x2), (4, .int x4), (5, .int x5), (6, .int x6), (7, .int x7)]) hx hb d_E_giveToSymbols_113 hl rfl rfl (by decide) rfl (fun ls hl => ?_)
              refine lv_goto (tgt := 4) hx hb d_E_giveToSymbols_116 (by decide) ?_
              exact ih4 _ _ _ _ _ _ _ h (lv_sub hl [1, 2, 3, 0] rfl) hP hD hS
            ·
              rw [if_neg hc6] at h
              refine lv_iload hx hb d_E_giveToSymbols_53 (lv_at hl 5 rfl) ?_
              refine lv_iload hx hb d_E_giveToSymbols_55 (lv_at hl 7 rfl) ?_
              refine lv_aload_n hx hb d_E_giveToSymbols_57 rfl (lv_at hl 0 rfl) ?_
              refine g_E_ofOccurrences dC dI ad ca τ hx hb hts hown hK hP k_65 d_E_giveToSymbols_58 ?_
              refine lv_iload hx hb d_E_giveToSymbols_61 (lv_at hl 6 rfl) ?_
              refine lv_iload hx hb d_E_giveToSymbols_63 (lv_at hl 7 rfl) ?_
              refine lv_iadd hx hb d_E_giveToSymbols_65 ?_
              obtain ⟨hi7, h⟩ := vq_bd h
              refine al_X11 dC dI ad ca τ hx hb hts hown hK hP hi7 d_E_giveToSymbols_66 ?_
              obtain ⟨i8, ei8, h⟩ := vq_let h
              refine vq_top ei8.symm ?_
              obtain ⟨q9, h10, h⟩ := vq_bi h
              have hKe := hK.sub (tys' := []) [] rfl
              refine va_calli (va_runS (As := [.int x5, .int x7, .int i8]) (rest := []) ⟨hx, hb, hml, hown, hts⟩ (c_E_othersAt l htr dC dI N x5 x7 i8 q9 h10 H.size) (vq_cS WSk hts 3 rfl rfl ⟨by decide, by decide⟩ k_4 k_74 k_86 k_87 (by decide +kernel)) ⟨vq_blind, vq_here hst hS hN vq_P0 hKe vq_D0⟩ rfl rfl hl.1 rfl (lv_room (Nat.le_of_ble_eq_true rfl)) d_E_giveToSymbols_67 ⟨by decide, by decide⟩) hS (fun q _ h => vq_keepA h (fun hz => hA q (Nat.le_trans hS.1 hz))) (fun q h => vq_keepA h (fun hz => hA q (Nat.le_trans hS.1 hz))) (fun r u t H1 locs ht hvm hw hB hz1 hk1 hS => ?_)
              have hw : r = q9 := hw
              rw [hw]
              have hP := vq_keepP hP hk1
              generalize H1 = H at hP hS ⊢
              refine W.widen (k := 0) (n := 0) (by decide) (by decide) ?_
              refine lv_istore (lv' := [(8, .int q9), (0, .ref (ad 3)), (1, .int x1), (2, .int x2), (3, .int x3), (4, .int x4), (5, .int x5), (6, .int x6), (7, .int x7)]) hx hb d_E_giveToSymbols_70 hl (by decide) rfl (fun ls hl => ?_)
              refine lv_aload_n hx hb d_E_giveToSymbols_72 rfl (lv_at hl 1 rfl) ?_
              refine g_E_ofAttributes dC dI ad ca τ hx hb hts hown hK hP k_83 d_E_giveToSymbols_73 ?_
              refine lv_iload hx hb d_E_giveToSymbols_76 (lv_at hl 5 rfl) ?_
              refine lv_iload hx hb d_E_giveToSymbols_78 (lv_at hl 8 rfl) ?_
              refine lv_iadd hx hb d_E_giveToSymbols_80 ?_
              obtain ⟨hi11, h⟩ := vq_bd h
              refine al_X12 dC dI ad ca τ hx hb hts hown hK hP hi11 d_E_giveToSymbols_81 ?_
              obtain ⟨i12, ei12, h⟩ := vq_let h
              refine vq_top ei12.symm ?_
              refine lv_iload hx hb d_E_giveToSymbols_82 (lv_at hl 0 rfl) ?_
              obtain ⟨q13, h14, h⟩ := vq_bi h
              have hKe := hK.sub (tys' := []) [] rfl
              refine va_calli (va_runSN (As := [.int i12, .int q9]) (rest := []) ⟨hx, hb, hml, hown, hts⟩ (c_V_holdsAll l htr dC dI N i12 q9 q13 h14 H.size) (vq_cSN WSk hts 2 rfl rfl ⟨by decide, by decide⟩ k_1 k_22 k_88 k_89 (by decide +kernel)) ⟨vq_blind, vq_here hst hS hN vq_P0 hKe vq_D0⟩ rfl rfl hl.1 rfl (lv_room (Nat.le_of_ble_eq_true rfl)) d_E_giveToSymbols_84 ⟨by decide, by decide⟩) hS (fun q _ h => vq_keepA h (fun hz => hA q (Nat.le_trans hS.1 hz))) (fun q h => vq_keepA h (fun hz => hA q (Nat.le_trans hS.1 hz))) (fun r u t H1 locs ht hvm hw hB hz1 hk1 hS => ?_)
              have hw : r = q13 := hw
              rw [hw]
              have hP := vq_keepP hP hk1
              generalize H1 = H at hP hS ⊢
              refine W.widen (k := 0) (n := 0) (by decide) (by decide) ?_
              have J107 : ∀ (τ : vS) (x1 : Int32) (x2 : Int32) (x3 : Int32) (x4 : Int32) (x5 : Int32) (x6 : Int32) (x7 : Int32) (H : Heap) (locs : List Loc) (ls : Array Slot), f_E_giveToSymbols_107 N (f_E_giveToSymbols_4 N n4) (f_E_giveToSymbols_47 N (f_E_giveToSymbols_4 N n4) n47) τ x1 x2 x3 x4 x5 x6 x7 = some v → lv_has ls 9 [(0, .ref (ad 3)), (1, .int x1), (2, .int x2), (3, .int x3), (4, .int x4), (5, .int x5), (6, .int x6), (7, .int x7)] → va_P (dC, dI) CL (Xw ad ca τ) H → va_D A (Xw ad ca τ) → va_S A s.heap H locs → W p l e (headSpec WS ({ frames := 1, cells := 0, slots := 0, locals := 23 })).room s m ([.ref (ad 3), .int a0] : List Value).toArray below meth c H locs 0 0 (MQ below (va_Qi (fun (r : Int32) (_ : Unit) => r = v.1) (fun _ t => vq_Post (dC, dI) CL A (Xw ad ca v.2) (Xt ca) t) A) ([.ref (ad 3), .int a0] : List Value).toArray s 0 0 A) (F0 m 107 ls []) := by
                intro τ x1 x2 x3 x4 x5 x6 x7 H locs ls h hl hP hD hS
                unfold f_E_giveToSymbols_107 at h
                refine lv_iinc (k := 7) (v := (x7 + 1)) (lv' := [(7, .int (x7 + 1)), (0, .ref (ad 3)), (1, .int x1), (2, .int x2), (3, .int x3), (4, .int x4), (5, .int x5), (6, .int x6)]) hx hb d_E_giveToSymbols_107 hl rfl rfl (by decide) rfl (fun ls hl => ?_)
                refine lv_goto (tgt := 47) hx hb d_E_giveToSymbols_110 (by decide) ?_
                exact ih47 _ _ _ _ _ _ _ _ _ _ _ h (lv_sub hl [1, 2, 3, 4, 5, 6, 7, 0] rfl) hP hD hS
              refine lv_if_ne (tgt := 107) hx hb d_E_giveToSymbols_87 (by decide) (fun hc15 => ?_) (fun hc15 => ?_)
              ·
                rw [if_neg hc15] at h
                exact J107 _ _ _ _ _ _ _ _ _ _ _ h (lv_sub hl [1, 2, 3, 4, 5, 6, 7, 8] rfl) hP hD hS
              ·
                rw [if_pos hc15] at h
                refine lv_aload_n hx hb d_E_giveToSymbols_90 rfl (lv_at hl 1 rfl) ?_
                refine g_E_ofAttributes dC dI ad ca τ hx hb hts hown hK hP k_83 d_E_giveToSymbols_91 ?_
                refine lv_iload hx hb d_E_giveToSymbols_94 (lv_at hl 5 rfl) ?_
                refine lv_iload hx hb d_E_giveToSymbols_96 (lv_at hl 8 rfl) ?_
                refine lv_iadd hx hb d_E_giveToSymbols_98 ?_
                refine lv_dup2_11 hx hb d_E_giveToSymbols_99 rfl rfl ?_
                obtain ⟨hi16, h⟩ := vq_bd h
                refine al_X12 dC dI ad ca τ hx hb hts hown hK hP hi16 d_E_giveToSymbols_100 ?_
                obtain ⟨i17, ei17, h⟩ := vq_let h
                refine vq_top ei17.symm ?_
                refine lv_iload hx hb d_E_giveToSymbols_101 (lv_at hl 0 rfl) ?_
                refine lv_ior hx hb d_E_giveToSymbols_103 ?_
                obtain ⟨hi18, h⟩ := vq_bd h
                refine as_X12 dC dI ad ca τ hx hb hts hown hK hP hD hS hi18 d_E_giveToSymbols_104 (fun H locs hP hD hS => ?_)
                obtain ⟨σ19, eσ19, h⟩ := vq_let h
                rw [← eσ19] at hP hD
                refine lv_iconst (v := 1) hx hb d_E_giveToSymbols_105 (by decide) ?_
                refine lv_istore_n (lv' := [(2, .int 1), (8, .int q9), (0, .ref (ad 3)), (1, .int x1), (3, .int x3), (4, .int x4), (5, .int x5), (6, .int x6), (7, .int x7)]) hx hb d_E_giveToSymbols_106 rfl hl (by decide) rfl (fun ls hl => ?_)
                exact J107 _ _ _ _ _ _ _ _ _ _ _ h (lv_sub hl [2, 3, 0, 4, 5, 6, 7, 8] rfl) hP hD hS
        exact L47 N _ _ _ _ _ _ _ _ _ _ _ h (lv_sub hl [4, 5, 6, 7, 3, 2, 1, 0] rfl) hP hD hS
  exact L4 N _ _ _ _ _ _ _ h (lv_sub hl [2, 3, 1, 0] rfl) hP hD hS

set_option maxHeartbeats 4000000 in
set_option maxRecDepth 100000 in
theorem c_E_takeOrder (l : Launch) (htr : l.stackTraces = false) (dC : Nat → ClassId) (dI : Nat → Nat → Nat) (ad : Nat → Nat) (ca : Nat → ClassId) (N : Nat) (σ : vS) (v : Int32 × vS) (h : f_E_takeOrder N σ = some v) (sz : Nat) : Met l y_E_takeOrder WS ({ frames := 2, cells := 0, slots := 0, locals := 48 }) (va_Pc [.ref (ad 3)] (vq_Pre (dC, dI) CL sz (Xw ad ca σ) (Xt ca))) (va_Qv (fun _ : Unit => True) (fun _ t => vq_Post (dC, dI) CL (va_A (Xw ad ca σ) sz) (Xw ad ca v.2) (Xt ca) t) (va_A (Xw ad ca σ) sz)) 0 0 (va_A (Xw ad ca σ) sz) := by
  refine vq_ofW (cc := prog_4_method_3_code) (maxL := 2) (ret := (Option.none : Option Jvm.ClassFile.FieldType)) pl_E (vq_his k_90) ?_
  intro p e s m args below meth c s₁ B hml hv
  obtain ⟨rfl, hst, hsz, hP, hK, hD0⟩ := hv
  have hx := B.exec
  have hb := B.bytes
  have hr := B.returns
  have hts := atoms_spec (ws := WS) B.pre
  have hown : s.vm.findClass R_E = some m.cls := findClass_of_methodNamed B.named
  have hlocks := B.notSynchronized
  have hno := vq_noH B (hts _ k_90)
  subst hsz
  have hN := vq_ns hP
  have hD := hD0.self (sz := s.heap.size)
  generalize hAe : va_A (Xw ad ca σ) s.heap.size = A at hD hN ⊢
  have hA : ∀ q : Nat, s.heap.size ≤ q → A q := fun q h => by rw [← hAe]; exact Or.inr h
  have hS : va_S A s.heap s.heap [] := va_S.rf
  have hl := lv_entry ([.ref (ad 3)]) (n := 2) (Nat.le_of_ble_eq_true rfl)
  rw [lg_entry_eq]
  generalize (lg_sl ([.ref (ad 3)]) ++ List.replicate (2 - (lg_sl ([.ref (ad 3)])).length) Slot.unset).toArray = ls at hl ⊢
  have hl : lv_has ls 2 [(0, .ref (ad 3))] := hl
  unfold f_E_takeOrder at h
  refine lv_iconst (v := 0) hx hb d_E_takeOrder_0 (by decide) ?_
  refine lv_istore_n (lv' := [(1, .int 0), (0, .ref (ad 3))]) hx hb d_E_takeOrder_1 rfl hl (by decide) rfl (fun ls hl => ?_)
  have L2 : ∀ n2 : Nat, ∀ (τ : vS) (x1 : Int32) (H : Heap) (locs : List Loc) (ls : Array Slot), f_E_takeOrder_2 N n2 τ x1 = some v → lv_has ls 2 [(0, .ref (ad 3)), (1, .int x1)] → va_P (dC, dI) CL (Xw ad ca τ) H → va_D A (Xw ad ca τ) → va_S A s.heap H locs → W p l e (headSpec WS ({ frames := 2, cells := 0, slots := 0, locals := 48 })).room s m ([.ref (ad 3)] : List Value).toArray below meth c H locs 0 0 (MQ below (va_Qv (fun _ : Unit => True) (fun _ t => vq_Post (dC, dI) CL A (Xw ad ca v.2) (Xt ca) t) A) ([.ref (ad 3)] : List Value).toArray s 0 0 A) (F0 m 2 ls []) := by
    intro n2
    induction n2 with
    | zero =>
      intro τ x1 H locs ls h hl hP hD hS
      rw [f_E_takeOrder_2] at h
      cases h
    | succ n2 ih2 =>
      intro τ x1 H locs ls h hl hP hD hS
      rw [f_E_takeOrder_2] at h
      dsimp only at h
      refine lv_iload_n hx hb d_E_takeOrder_2 rfl (lv_at hl 1 rfl) ?_
      refine lv_aload_n hx hb d_E_takeOrder_3 rfl (lv_at hl 0 rfl) ?_
      refine g_E_grammar dC dI ad ca τ hx hb hts hown hK hP k_71 d_E_takeOrder_4 ?_
      refine gN_G_productionCount dC dI ad ca τ hx hb hts hown hK hP k_72 d_E_takeOrder_7 ?_
      refine lv_icmp_ge (tgt := 29) hx hb d_E_takeOrder_10 (by decide) (fun hc1 => ?_) (fun hc1 => ?_)
      ·
        rw [if_pos hc1] at h
        have h9 := Option.some.inj h
        rw [← h9]
        exact W.vret hx hb hr (fun t ht hW => ⟨⟨(), rfl, trivial, by rw [ht]; exact hP, va_K.moved hW.alike hK, hD⟩, hS.F ht⟩) hS.2.2 d_E_takeOrder_29
      ·
        rw [if_neg hc1] at h
        refine lv_aload_n hx hb d_E_takeOrder_13 rfl (lv_at hl 0 rfl) ?_
        refine lv_iload_n hx hb d_E_takeOrder_14 rfl (lv_at hl 1 rfl) ?_
        obtain ⟨q2, h3, h⟩ := vq_bi h
        have hFc := vq_freeAll hD hS hA
        refine va_callv (va_runV (As := [.int x1]) (rest := []) ⟨hx, hb, hml, hown, hts⟩ (c_E_takeFromSymbols l htr dC dI ad ca N τ x1 q2 h3 H.size) (vq_cV WSk hts 1 rfl rfl ⟨by decide, by decide⟩ k_78 k_74 k_91 k_92 k_93 (by decide +kernel)) ⟨vq_blind, va_recv hK hP (ci := 3) (q0 := 3) rfl rfl, vq_here hst hS hN hP hK hD⟩ rfl rfl hl.1 rfl (lv_room (Nat.le_of_ble_eq_true rfl)) d_E_takeOrder_15 ⟨by decide, by decide⟩) hS (fun q _ h => hFc q h) hFc (fun u t H1 locs ht hvm hw hB hz1 hk1 hS => ?_)
        obtain ⟨hP, -, hD1⟩ := hB
        rw [ht] at hP
        have hD := hD1.weaken (fun _ _ _ h => hFc _ h)
        generalize H1 = H at hP hS ⊢
        refine W.widen (k := 0) (n := 0) (by decide) (by decide) ?_
        refine lv_aload_n hx hb d_E_takeOrder_18 rfl (lv_at hl 0 rfl) ?_
        refine lv_iload_n hx hb d_E_takeOrder_19 rfl (lv_at hl 1 rfl) ?_
        obtain ⟨q4, h5, h⟩ := vq_bi h
        have hFc := vq_freeAll hD hS hA
        refine va_callv (va_runV (As := [.int x1]) (rest := []) ⟨hx, hb, hml, hown, hts⟩ (c_E_close l htr dC dI ad ca N q2.2 x1 q4 h5 H.size) (vq_cV WSk hts 1 rfl rfl ⟨by decide, by decide⟩ k_84 k_74 k_94 k_95 k_96 (by decide +kernel)) ⟨vq_blind, va_recv hK hP (ci := 3) (q0 := 3) rfl rfl, vq_here hst hS hN hP hK hD⟩ rfl rfl hl.1 rfl (lv_room (Nat.le_of_ble_eq_true rfl)) d_E_takeOrder_20 ⟨by decide, by decide⟩) hS (fun q _ h => hFc q h) hFc (fun u t H1 locs ht hvm hw hB hz1 hk1 hS => ?_)
        obtain ⟨hP, -, hD1⟩ := hB
        rw [ht] at hP
        have hD := hD1.weaken (fun _ _ _ h => hFc _ h)
        generalize H1 = H at hP hS ⊢
        refine W.widen (k := 0) (n := 0) (by decide) (by decide) ?_
        refine lv_iinc (k := 1) (v := (x1 + 1)) (lv' := [(1, .int (x1 + 1)), (0, .ref (ad 3))]) hx hb d_E_takeOrder_23 hl rfl rfl (by decide) rfl (fun ls hl => ?_)
        refine lv_goto (tgt := 2) hx hb d_E_takeOrder_26 (by decide) ?_
        exact ih2 _ _ _ _ _ h (lv_sub hl [1, 0] rfl) hP hD hS
  exact L2 N _ _ _ _ _ h (lv_sub hl [1, 0] rfl) hP hD hS

set_option maxHeartbeats 4000000 in
set_option maxRecDepth 100000 in
theorem c_E_leastLeadingToItself (l : Launch) (htr : l.stackTraces = false) (dC : Nat → ClassId) (dI : Nat → Nat → Nat) (ad : Nat → Nat) (ca : Nat → ClassId) (N : Nat) (σ : vS) (a0 : Int32) (v : Int32 × vS) (h : f_E_leastLeadingToItself N σ a0 = some v) (sz : Nat) : Met l y_E_leastLeadingToItself WS ({ frames := 1, cells := 0, slots := 0, locals := 21 }) (va_Pc [.ref (ad 3), .int a0] (vq_Pre (dC, dI) CL sz (Xw ad ca σ) (Xt ca))) (va_Qi (fun (r : Int32) (_ : Unit) => r = v.1) (fun _ t => vq_Post (dC, dI) CL (va_A (Xw ad ca σ) sz) (Xw ad ca v.2) (Xt ca) t) (va_A (Xw ad ca σ) sz)) 0 0 (va_A (Xw ad ca σ) sz) := by
  refine vq_ofW (cc := prog_4_method_4_code) (maxL := 4) (ret := (Option.some Jvm.ClassFile.FieldType.int)) pl_E (vq_his k_97) ?_
  intro p e s m args below meth c s₁ B hml hv
  obtain ⟨rfl, hst, hsz, hP, hK, hD0⟩ := hv
  have hx := B.exec
  have hb := B.bytes
  have hr := B.returns
  have hts := atoms_spec (ws := WS) B.pre
  have hown : s.vm.findClass R_E = some m.cls := findClass_of_methodNamed B.named
  have hlocks := B.notSynchronized
  have hno := vq_noH B (hts _ k_97)
  subst hsz
  have hN := vq_ns hP
  have hD := hD0.self (sz := s.heap.size)
  generalize hAe : va_A (Xw ad ca σ) s.heap.size = A at hD hN ⊢
  have hA : ∀ q : Nat, s.heap.size ≤ q → A q := fun q h => by rw [← hAe]; exact Or.inr h
  have hS : va_S A s.heap s.heap [] := va_S.rf
  have hl := lv_entry ([.ref (ad 3), .int a0]) (n := 4) (Nat.le_of_ble_eq_true rfl)
  rw [lg_entry_eq]
  generalize (lg_sl ([.ref (ad 3), .int a0]) ++ List.replicate (4 - (lg_sl ([.ref (ad 3), .int a0])).length) Slot.unset).toArray = ls at hl ⊢
  have hl : lv_has ls 4 [(0, .ref (ad 3)), (1, .int a0)] := hl
  unfold f_E_leastLeadingToItself at h
  refine lv_iload_n hx hb d_E_leastLeadingToItself_0 rfl (lv_at hl 1 rfl) ?_
  refine lv_bipush (v := 16) hx hb d_E_leastLeadingToItself_1 (by decide) ?_
  refine lv_imul hx hb d_E_leastLeadingToItself_3 ?_
  refine lv_istore_n (lv' := [(2, .int (a0 * 16)), (0, .ref (ad 3)), (1, .int a0)]) hx hb d_E_leastLeadingToItself_4 rfl hl (by decide) rfl (fun ls hl => ?_)
  refine lv_iconst (v := 0) hx hb d_E_leastLeadingToItself_5 (by decide) ?_
  refine lv_istore_n (lv' := [(3, .int 0), (2, .int (a0 * 16)), (0, .ref (ad 3)), (1, .int a0)]) hx hb d_E_leastLeadingToItself_6 rfl hl (by decide) rfl (fun ls hl => ?_)
  have L7 : ∀ n7 : Nat, ∀ (τ : vS) (x2 : Int32) (x3 : Int32) (H : Heap) (locs : List Loc) (ls : Array Slot), f_E_leastLeadingToItself_7 N n7 τ x2 x3 = some v → lv_has ls 4 [(0, .ref (ad 3)), (2, .int x2), (3, .int x3)] → va_P (dC, dI) CL (Xw ad ca τ) H → va_D A (Xw ad ca τ) → va_S A s.heap H locs → W p l e (headSpec WS ({ frames := 1, cells := 0, slots := 0, locals := 21 })).room s m ([.ref (ad 3), .int a0] : List Value).toArray below meth c H locs 0 0 (MQ below (va_Qi (fun (r : Int32) (_ : Unit) => r = v.1) (fun _ t => vq_Post (dC, dI) CL A (Xw ad ca v.2) (Xt ca) t) A) ([.ref (ad 3), .int a0] : List Value).toArray s 0 0 A) (F0 m 7 ls []) := by
    intro n7
    induction n7 with
    | zero =>
      intro τ x2 x3 H locs ls h hl hP hD hS
      rw [f_E_leastLeadingToItself_7] at h
      cases h
    | succ n7 ih7 =>
      intro τ x2 x3 H locs ls h hl hP hD hS
      rw [f_E_leastLeadingToItself_7] at h
      dsimp only at h
      refine lv_iload_n hx hb d_E_leastLeadingToItself_7 rfl (lv_at hl 2 rfl) ?_
      refine lv_bipush (v := 16) hx hb d_E_leastLeadingToItself_8 (by decide) ?_
      refine lv_icmp_ge (tgt := 36) hx hb d_E_leastLeadingToItself_10 (by decide) (fun hc1 => ?_) (fun hc1 => ?_)
      ·
        rw [if_pos hc1] at h
        refine lv_iconst (v := (-1)) hx hb d_E_leastLeadingToItself_36 (by decide) ?_
        have h9 := Option.some.inj h
        rw [← h9]
        exact W.iret (v := ((-1) : Int32)) hx hb hr (fun t ht hW => ⟨⟨((-1) : Int32), (), rfl, rfl, by rw [ht]; exact hP, va_K.moved hW.alike hK, hD⟩, hS.F ht⟩) hS.2.2 d_E_leastLeadingToItself_37
      ·
        rw [if_neg hc1] at h
        refine lv_aload_n hx hb d_E_leastLeadingToItself_13 rfl (lv_at hl 0 rfl) ?_
        refine g_E_ofOccurrences dC dI ad ca τ hx hb hts hown hK hP k_65 d_E_leastLeadingToItself_14 ?_
        refine lv_iload_n hx hb d_E_leastLeadingToItself_17 rfl (lv_at hl 1 rfl) ?_
        refine lv_iload_n hx hb d_E_leastLeadingToItself_18 rfl (lv_at hl 2 rfl) ?_
        refine lv_iadd hx hb d_E_leastLeadingToItself_19 ?_
        obtain ⟨hi2, h⟩ := vq_bd h
        refine al_X11 dC dI ad ca τ hx hb hts hown hK hP hi2 d_E_leastLeadingToItself_20 ?_
        obtain ⟨i3, ei3, h⟩ := vq_let h
        refine vq_top ei3.symm ?_
        refine lv_iload_n hx hb d_E_leastLeadingToItself_21 rfl (lv_at hl 2 rfl) ?_
        obtain ⟨q4, h5, h⟩ := vq_bi h
        have hKe := hK.sub (tys' := []) [] rfl
        refine va_calli (va_runSN (As := [.int i3, .int x3]) (rest := []) ⟨hx, hb, hml, hown, hts⟩ (c_V_holds l htr dC dI N i3 x3 q4 h5 H.size) (vq_cSN WSk hts 2 rfl rfl ⟨by decide, by decide⟩ k_0 k_22 k_64 k_24 (by decide +kernel)) ⟨vq_blind, vq_here hst hS hN vq_P0 hKe vq_D0⟩ rfl rfl hl.1 rfl (lv_room (Nat.le_of_ble_eq_true rfl)) d_E_leastLeadingToItself_22 ⟨by decide, by decide⟩) hS (fun q _ h => vq_keepA h (fun hz => hA q (Nat.le_trans hS.1 hz))) (fun q h => vq_keepA h (fun hz => hA q (Nat.le_trans hS.1 hz))) (fun r u t H1 locs ht hvm hw hB hz1 hk1 hS => ?_)
        have hw : r = q4 := hw
        rw [hw]
        have hP := vq_keepP hP hk1
        generalize H1 = H at hP hS ⊢
        refine W.widen (k := 0) (n := 0) (by decide) (by decide) ?_
        refine lv_if_eq (tgt := 30) hx hb d_E_leastLeadingToItself_25 (by decide) (fun hc6 => ?_) (fun hc6 => ?_)
        ·
          rw [if_pos hc6] at h
          refine lv_iinc (k := 2) (v := (x3 + 1)) (lv' := [(3, .int (x3 + 1)), (0, .ref (ad 3)), (2, .int x2)]) hx hb d_E_leastLeadingToItself_30 hl rfl rfl (by decide) rfl (fun ls hl => ?_)
          refine lv_goto (tgt := 7) hx hb d_E_leastLeadingToItself_33 (by decide) ?_
          exact ih7 _ _ _ _ _ _ h (lv_sub hl [1, 2, 0] rfl) hP hD hS
        ·
          rw [if_neg hc6] at h
          refine lv_iload_n hx hb d_E_leastLeadingToItself_28 rfl (lv_at hl 2 rfl) ?_
          have h9 := Option.some.inj h
          rw [← h9]
          exact W.iret (v := x3) hx hb hr (fun t ht hW => ⟨⟨x3, (), rfl, rfl, by rw [ht]; exact hP, va_K.moved hW.alike hK, hD⟩, hS.F ht⟩) hS.2.2 d_E_leastLeadingToItself_29
  exact L7 N _ _ _ _ _ _ h (lv_sub hl [2, 1, 0] rfl) hP hD hS

set_option maxHeartbeats 4000000 in
set_option maxRecDepth 100000 in
theorem c_E_spread (l : Launch) (htr : l.stackTraces = false) (dC : Nat → ClassId) (dI : Nat → Nat → Nat) (ad : Nat → Nat) (ca : Nat → ClassId) (N : Nat) (σ : vS) (v : Int32 × vS) (h : f_E_spread N σ = some v) (sz : Nat) : Met l y_E_spread WS ({ frames := 3, cells := 0, slots := 0, locals := 68 }) (va_Pc [.ref (ad 3)] (vq_Pre (dC, dI) CL sz (Xw ad ca σ) (Xt ca))) (va_Qv (fun _ : Unit => True) (fun _ t => vq_Post (dC, dI) CL (va_A (Xw ad ca σ) sz) (Xw ad ca v.2) (Xt ca) t) (va_A (Xw ad ca σ) sz)) 0 0 (va_A (Xw ad ca σ) sz) := by
  refine vq_ofW (cc := prog_4_method_2_code) (maxL := 4) (ret := (Option.none : Option Jvm.ClassFile.FieldType)) pl_E (vq_his k_98) ?_
  intro p e s m args below meth c s₁ B hml hv
  obtain ⟨rfl, hst, hsz, hP, hK, hD0⟩ := hv
  have hx := B.exec
  have hb := B.bytes
  have hr := B.returns
  have hts := atoms_spec (ws := WS) B.pre
  have hown : s.vm.findClass R_E = some m.cls := findClass_of_methodNamed B.named
  have hlocks := B.notSynchronized
  have hno := vq_noH B (hts _ k_98)
  subst hsz
  have hN := vq_ns hP
  have hD := hD0.self (sz := s.heap.size)
  generalize hAe : va_A (Xw ad ca σ) s.heap.size = A at hD hN ⊢
  have hA : ∀ q : Nat, s.heap.size ≤ q → A q := fun q h => by rw [← hAe]; exact Or.inr h
  have hS : va_S A s.heap s.heap [] := va_S.rf
  have hl := lv_entry ([.ref (ad 3)]) (n := 4) (Nat.le_of_ble_eq_true rfl)
  rw [lg_entry_eq]
  generalize (lg_sl ([.ref (ad 3)]) ++ List.replicate (4 - (lg_sl ([.ref (ad 3)])).length) Slot.unset).toArray = ls at hl ⊢
  have hl : lv_has ls 4 [(0, .ref (ad 3))] := hl
  unfold f_E_spread at h
  refine lv_aload_n hx hb d_E_spread_0 rfl (lv_at hl 0 rfl) ?_
  refine g_E_ofAttributes dC dI ad ca σ hx hb hts hown hK hP k_83 d_E_spread_1 ?_
  refine lv_iconst (v := 0) hx hb d_E_spread_4 (by decide) ?_
  have hPc := hP.sub (ws' := [((ad 20), .inl (ca 20, 24, .inl (σ.2 12)))]) [20] rfl
  have hDc := hD.sub (ws' := [((ad 20), .inl (ca 20, 24, .inl (σ.2 12)))]) [20] (by decide) rfl
  have hKc := hK.sub (tys' := [(ca 20, .int)]) [12] rfl
  have hFc := va_free (wc := [((ad 20), .inl (ca 20, 24, .inl (σ.2 12)))]) hD hS hA [20] rfl
  refine va_callv (va_runS (As := [.ref (ad 20), .int 0]) (rest := []) ⟨hx, hb, hml, hown, hts⟩ (c_R_fill l htr dC dI (ad 20) (ca 20) 24 (by decide) (σ.2 12) 0 s.heap.size) (vq_cS WSk hts 2 rfl rfl ⟨by decide, by decide⟩ k_67 k_68 k_69 k_70 (by decide +kernel)) ⟨vq_blind, vq_here hst hS hN hPc hKc hDc⟩ rfl rfl hl.1 rfl (lv_room (Nat.le_of_ble_eq_true rfl)) d_E_spread_5 ⟨by decide, by decide⟩) hS (fun q _ h => hFc q h) hFc (fun u t H1 locs ht hvm hw hB hz1 hk1 hS => ?_)
  obtain ⟨hP1, -, hD1⟩ := hB
  rw [ht] at hP1
  obtain ⟨hP, hD⟩ := va_join (wr := X20r ad ca σ) (w1 := [((ad 20), .inl (ca 20, 24, .inl (fun _ => 0)))]) hP hD [20] [0, 1, 2, 3, 4, 5, 6, 7, 8, 9, 10, 11, 12, 13, 14, 15, 16, 17, 18, 19, 21, 22, 23, 24, 25, 26, 27, 28, 29, 30, 31, 32, 33, 34] rfl rfl (by decide) (by decide) hk1 hFc hP1 hD1
  have hP := hP.sub (ws' := (Xw ad ca (sfill σ 12 0))) [0, 1, 2, 3, 4, 5, 6, 7, 8, 9, 10, 11, 12, 13, 14, 15, 16, 17, 18, 19, 34, 20, 21, 22, 23, 24, 25, 26, 27, 28, 29, 30, 31, 32, 33] rfl
  have hD := hD.sub (ws' := (Xw ad ca (sfill σ 12 0))) [0, 1, 2, 3, 4, 5, 6, 7, 8, 9, 10, 11, 12, 13, 14, 15, 16, 17, 18, 19, 34, 20, 21, 22, 23, 24, 25, 26, 27, 28, 29, 30, 31, 32, 33] (by decide) rfl
  generalize H1 = H at hP hS ⊢
  refine W.widen (k := 0) (n := 0) (by decide) (by decide) ?_
  obtain ⟨σ1, eσ1, h⟩ := vq_let h
  rw [← eσ1] at hP hD
  refine lv_aload_n hx hb d_E_spread_8 rfl (lv_at hl 0 rfl) ?_
  obtain ⟨q2, h3, h⟩ := vq_bi h
  have hFc := vq_freeAll hD hS hA
  refine va_callv (va_runV (As := []) (rest := []) ⟨hx, hb, hml, hown, hts⟩ (c_E_takeRules l htr dC dI ad ca N σ1 q2 h3 H.size) (vq_cV WSk hts 0 rfl rfl ⟨by decide, by decide⟩ k_66 k_74 k_99 k_100 k_101 (by decide +kernel)) ⟨vq_blind, va_recv hK hP (ci := 3) (q0 := 3) rfl rfl, vq_here hst hS hN hP hK hD⟩ rfl rfl hl.1 rfl (lv_room (Nat.le_of_ble_eq_true rfl)) d_E_spread_9 ⟨by decide, by decide⟩) hS (fun q _ h => hFc q h) hFc (fun u t H1 locs ht hvm hw hB hz1 hk1 hS => ?_)
  obtain ⟨hP, -, hD1⟩ := hB
  rw [ht] at hP
  have hD := hD1.weaken (fun _ _ _ h => hFc _ h)
  generalize H1 = H at hP hS ⊢
  refine W.widen (k := 0) (n := 0) (by decide) (by decide) ?_
  refine lv_iconst (v := 1) hx hb d_E_spread_12 (by decide) ?_
  refine lv_istore_n (lv' := [(1, .int 1), (0, .ref (ad 3))]) hx hb d_E_spread_13 rfl hl (by decide) rfl (fun ls hl => ?_)
  refine lv_iconst (v := 0) hx hb d_E_spread_14 (by decide) ?_
  refine lv_istore_n (lv' := [(2, .int 0), (1, .int 1), (0, .ref (ad 3))]) hx hb d_E_spread_15 rfl hl (by decide) rfl (fun ls hl => ?_)
  have L16 : ∀ n16 : Nat, ∀ (τ : vS) (x1 : Int32) (x2 : Int32) (H : Heap) (locs : List Loc) (ls : Array Slot), f_E_spread_16 N n16 τ x1 x2 = some v → lv_has ls 4 [(0, .ref (ad 3)), (1, .int x1), (2, .int x2)] → va_P (dC, dI) CL (Xw ad ca τ) H → va_D A (Xw ad ca τ) → va_S A s.heap H locs → W p l e (headSpec WS ({ frames := 3, cells := 0, slots := 0, locals := 68 })).room s m ([.ref (ad 3)] : List Value).toArray below meth c H locs 0 0 (MQ below (va_Qv (fun _ : Unit => True) (fun _ t => vq_Post (dC, dI) CL A (Xw ad ca v.2) (Xt ca) t) A) ([.ref (ad 3)] : List Value).toArray s 0 0 A) (F0 m 16 ls []) := by
    intro n16
    induction n16 with
    | zero =>
      intro τ x1 x2 H locs ls h hl hP hD hS
      rw [f_E_spread_16] at h
      cases h
    | succ n16 ih16 =>
      intro τ x1 x2 H locs ls h hl hP hD hS
      rw [f_E_spread_16] at h
      dsimp only at h
      refine lv_iload_n hx hb d_E_spread_16 rfl (lv_at hl 1 rfl) ?_
      refine lv_if_eq (tgt := 73) hx hb d_E_spread_17 (by decide) (fun hc4 => ?_) (fun hc4 => ?_)
      ·
        rw [if_pos hc4] at h
        have h9 := Option.some.inj h
        rw [← h9]
        exact W.vret hx hb hr (fun t ht hW => ⟨⟨(), rfl, trivial, by rw [ht]; exact hP, va_K.moved hW.alike hK, hD⟩, hS.F ht⟩) hS.2.2 d_E_spread_73
      ·
        rw [if_neg hc4] at h
        refine lv_iload_n hx hb d_E_spread_20 rfl (lv_at hl 2 rfl) ?_
        refine lv_bipush (v := 97) hx hb d_E_spread_21 (by decide) ?_
        refine lv_icmp_ge (tgt := 73) hx hb d_E_spread_23 (by decide) (fun hc5 => ?_) (fun hc5 => ?_)
        ·
          rw [if_pos hc5] at h
          have h9 := Option.some.inj h
          rw [← h9]
          exact W.vret hx hb hr (fun t ht hW => ⟨⟨(), rfl, trivial, by rw [ht]; exact hP, va_K.moved hW.alike hK, hD⟩, hS.F ht⟩) hS.2.2 d_E_spread_73
        ·
          rw [if_neg hc5] at h
          refine lv_iconst (v := 0) hx hb d_E_spread_26 (by decide) ?_
          refine lv_istore_n (lv' := [(1, .int 0), (0, .ref (ad 3)), (2, .int x2)]) hx hb d_E_spread_27 rfl hl (by decide) rfl (fun ls hl => ?_)
          refine lv_iconst (v := 0) hx hb d_E_spread_28 (by decide) ?_
          refine lv_istore_n (lv' := [(3, .int 0), (1, .int 0), (0, .ref (ad 3)), (2, .int x2)]) hx hb d_E_spread_29 rfl hl (by decide) rfl (fun ls hl => ?_)
          have L30 : ∀ n30 : Nat, ∀ (τ : vS) (x1 : Int32) (x2 : Int32) (x3 : Int32) (H : Heap) (locs : List Loc) (ls : Array Slot), f_E_spread_30 N (f_E_spread_16 N n16) n30 τ x1 x2 x3 = some v → lv_has ls 4 [(0, .ref (ad 3)), (1, .int x1), (2, .int x2), (3, .int x3)] → va_P (dC, dI) CL (Xw ad ca τ) H → va_D A (Xw ad ca τ) → va_S A s.heap H locs → W p l e (headSpec WS ({ frames := 3, cells := 0, slots := 0, locals := 68 })).room s m ([.ref (ad 3)] : List Value).toArray below meth c H locs 0 0 (MQ below (va_Qv (fun _ : Unit => True) (fun _ t => vq_Post (dC, dI) CL A (Xw ad ca v.2) (Xt ca) t) A) ([.ref (ad 3)] : List Value).toArray s 0 0 A) (F0 m 30 ls []) := by
            intro n30
            induction n30 with
            | zero =>
              intro τ x1 x2 x3 H locs ls h hl hP hD hS
              rw [f_E_spread_30] at h
              cases h
            | succ n30 ih30 =>
              intro τ x1 x2 x3 H locs ls h hl hP hD hS
              rw [f_E_spread_30] at h
              dsimp only at h
              refine lv_iload_n hx hb d_E_spread_30 rfl (lv_at hl 3 rfl) ?_
              refine lv_aload_n hx hb d_E_spread_31 rfl (lv_at hl 0 rfl) ?_
              refine g_E_grammar dC dI ad ca τ hx hb hts hown hK hP k_71 d_E_spread_32 ?_
              refine gN_G_productionCount dC dI ad ca τ hx hb hts hown hK hP k_72 d_E_spread_35 ?_
              refine lv_icmp_ge (tgt := 67) hx hb d_E_spread_38 (by decide) (fun hc6 => ?_) (fun hc6 => ?_)
              ·
                rw [if_pos hc6] at h
                refine lv_iinc (k := 2) (v := (x2 + 1)) (lv' := [(2, .int (x2 + 1)), (0, .ref (ad 3)), (1, .int x1), (3, .int x3)]) hx hb d_E_spread_67 hl rfl rfl (by decide) rfl (fun ls hl => ?_)
                refine lv_goto (tgt := 16) hx hb d_E_spread_70 (by decide) ?_
                exact ih16 _ _ _ _ _ _ h (lv_sub hl [1, 2, 0] rfl) hP hD hS
              ·
                rw [if_neg hc6] at h
                refine lv_aload_n hx hb d_E_spread_41 rfl (lv_at hl 0 rfl) ?_
                refine lv_iload_n hx hb d_E_spread_42 rfl (lv_at hl 3 rfl) ?_
                obtain ⟨q7, h8, h⟩ := vq_bi h
                have hFc := vq_freeAll hD hS hA
                refine va_callv (va_runV (As := [.int x3]) (rest := []) ⟨hx, hb, hml, hown, hts⟩ (c_E_takeFromSymbols l htr dC dI ad ca N τ x3 q7 h8 H.size) (vq_cV WSk hts 1 rfl rfl ⟨by decide, by decide⟩ k_78 k_74 k_91 k_92 k_93 (by decide +kernel)) ⟨vq_blind, va_recv hK hP (ci := 3) (q0 := 3) rfl rfl, vq_here hst hS hN hP hK hD⟩ rfl rfl hl.1 rfl (lv_room (Nat.le_of_ble_eq_true rfl)) d_E_spread_43 ⟨by decide, by decide⟩) hS (fun q _ h => hFc q h) hFc (fun u t H1 locs ht hvm hw hB hz1 hk1 hS => ?_)
                obtain ⟨hP, -, hD1⟩ := hB
                rw [ht] at hP
                have hD := hD1.weaken (fun _ _ _ h => hFc _ h)
                generalize H1 = H at hP hS ⊢
                refine W.widen (k := 0) (n := 0) (by decide) (by decide) ?_
                refine lv_aload_n hx hb d_E_spread_46 rfl (lv_at hl 0 rfl) ?_
                refine lv_iload_n hx hb d_E_spread_47 rfl (lv_at hl 3 rfl) ?_
                obtain ⟨q9, h10, h⟩ := vq_bi h
                have hFc := vq_freeAll hD hS hA
                refine va_callv (va_runV (As := [.int x3]) (rest := []) ⟨hx, hb, hml, hown, hts⟩ (c_E_close l htr dC dI ad ca N q7.2 x3 q9 h10 H.size) (vq_cV WSk hts 1 rfl rfl ⟨by decide, by decide⟩ k_84 k_74 k_94 k_95 k_96 (by decide +kernel)) ⟨vq_blind, va_recv hK hP (ci := 3) (q0 := 3) rfl rfl, vq_here hst hS hN hP hK hD⟩ rfl rfl hl.1 rfl (lv_room (Nat.le_of_ble_eq_true rfl)) d_E_spread_48 ⟨by decide, by decide⟩) hS (fun q _ h => hFc q h) hFc (fun u t H1 locs ht hvm hw hB hz1 hk1 hS => ?_)
                obtain ⟨hP, -, hD1⟩ := hB
                rw [ht] at hP
                have hD := hD1.weaken (fun _ _ _ h => hFc _ h)
                generalize H1 = H at hP hS ⊢
                refine W.widen (k := 0) (n := 0) (by decide) (by decide) ?_
                refine lv_aload_n hx hb d_E_spread_51 rfl (lv_at hl 0 rfl) ?_
                refine lv_iload_n hx hb d_E_spread_52 rfl (lv_at hl 3 rfl) ?_
                obtain ⟨q11, h12, h⟩ := vq_bi h
                have hFc := vq_freeAll hD hS hA
                refine va_calli (va_runV (As := [.int x3]) (rest := []) ⟨hx, hb, hml, hown, hts⟩ (c_E_giveToSymbols l htr dC dI ad ca N q9.2 x3 q11 h12 H.size) (vq_cV WSk hts 1 rfl rfl ⟨by decide, by decide⟩ k_85 k_74 k_102 k_103 k_104 (by decide +kernel)) ⟨vq_blind, va_recv hK hP (ci := 3) (q0 := 3) rfl rfl, vq_here hst hS hN hP hK hD⟩ rfl rfl hl.1 rfl (lv_room (Nat.le_of_ble_eq_true rfl)) d_E_spread_53 ⟨by decide, by decide⟩) hS (fun q _ h => hFc q h) hFc (fun r u t H1 locs ht hvm hw hB hz1 hk1 hS => ?_)
                obtain ⟨hP, -, hD1⟩ := hB
                rw [ht] at hP
                have hD := hD1.weaken (fun _ _ _ h => hFc _ h)
                have hw : r = q11.1 := hw
                subst hw
                generalize H1 = H at hP hS ⊢
                refine W.widen (k := 0) (n := 0) (by decide) (by decide) ?_
                have J61 : ∀ (τ : vS) (x1 : Int32) (x2 : Int32) (x3 : Int32) (H : Heap) (locs : List Loc) (ls : Array Slot), f_E_spread_61 N (f_E_spread_16 N n16) (f_E_spread_30 N (f_E_spread_16 N n16) n30) τ x1 x2 x3 = some v → lv_has ls 4 [(0, .ref (ad 3)), (1, .int x1), (2, .int x2), (3, .int x3)] → va_P (dC, dI) CL (Xw ad ca τ) H → va_D A (Xw ad ca τ) → va_S A s.heap H locs → W p l e (headSpec WS ({ frames := 3, cells := 0, slots := 0, locals := 68 })).room s m ([.ref (ad 3)] : List Value).toArray below meth c H locs 0 0 (MQ below (va_Qv (fun _ : Unit => True) (fun _ t => vq_Post (dC, dI) CL A (Xw ad ca v.2) (Xt ca) t) A) ([.ref (ad 3)] : List Value).toArray s 0 0 A) (F0 m 61 ls []) := by
                  intro τ x1 x2 x3 H locs ls h hl hP hD hS
                  unfold f_E_spread_61 at h
                  refine lv_iinc (k := 3) (v := (x3 + 1)) (lv' := [(3, .int (x3 + 1)), (0, .ref (ad 3)), (1, .int x1), (2, .int x2)]) hx hb d_E_spread_61 hl rfl rfl (by decide) rfl (fun ls hl => ?_)
                  refine lv_goto (tgt := 30) hx hb d_E_spread_64 (by decide) ?_
                  exact ih30 _ _ _ _ _ _ _ h (lv_sub hl [1, 2, 3, 0] rfl) hP hD hS
                refine lv_if_eq (tgt := 61) hx hb d_E_spread_56 (by decide) (fun hc13 => ?_) (fun hc13 => ?_)
                ·
                  rw [if_pos hc13] at h
                  exact J61 _ _ _ _ _ _ _ h (lv_sub hl [0, 1, 2, 3] rfl) hP hD hS
                ·
                  rw [if_neg hc13] at h
                  refine lv_iconst (v := 1) hx hb d_E_spread_59 (by decide) ?_
                  refine lv_istore_n (lv' := [(1, .int 1), (0, .ref (ad 3)), (2, .int x2), (3, .int x3)]) hx hb d_E_spread_60 rfl hl (by decide) rfl (fun ls hl => ?_)
                  exact J61 _ _ _ _ _ _ _ h (lv_sub hl [1, 0, 2, 3] rfl) hP hD hS
          exact L30 N _ _ _ _ _ _ _ h (lv_sub hl [2, 1, 3, 0] rfl) hP hD hS
  exact L16 N _ _ _ _ _ _ h (lv_sub hl [2, 1, 0] rfl) hP hD hS
