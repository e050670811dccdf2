set_option maxHeartbeats 4000000 in
set_option maxRecDepth 100000 in
theorem c_M_learn (l : Launch) (htr : l.stackTraces = false) (dC : Nat → ClassId) (dI : Nat → Nat → Nat) (bd : Nat → Nat) (cb : Nat → ClassId) (N : Nat) (σ : vS) (a0 : Int32) (v : Int32 × vS) (h : f_M_learn N σ a0 = some v) (sz : Nat) : Met l y_M_learn WS ({ frames := 0, cells := 0, slots := 0, locals := 0 }) (va_Pc [.ref (bd 0), .int a0] (vq_Pre (dC, dI) CL sz (Mw bd cb σ) (Mt cb))) (va_Qi (fun (r : Int32) (_ : Unit) => r = v.1) (fun _ t => vq_Post (dC, dI) CL (va_A (Mw bd cb σ) sz) (Mw bd cb v.2) (Mt cb) t) (va_A (Mw bd cb σ) sz)) 0 0 (va_A (Mw bd cb σ) sz) := by
  refine vq_ofW (cc := prog_10_method_18_code) (maxL := 8) (ret := (Option.some Jvm.ClassFile.FieldType.boolean)) pl_M (vq_his k_420) ?_
  intro p e s m args below meth c s₁ B hml hv
  obtain ⟨rfl, hst, hsz, hP, hK, hD0⟩ := hv
  have hx := B.exec
  have hb := B.bytes
  have hr := B.returns
  have hts := atoms_spec (ws := WS) B.pre
  have hown : s.vm.findClass R_M = some m.cls := findClass_of_methodNamed B.named
  have hlocks := B.notSynchronized
  have hno := vq_noH B (hts _ k_420)
  subst hsz
  have hN := vq_ns hP
  have hD := hD0.self (sz := s.heap.size)
  generalize hAe : va_A (Mw bd cb σ) s.heap.size = A at hD hN ⊢
  have hA : ∀ q : Nat, s.heap.size ≤ q → A q := fun q h => by rw [← hAe]; exact Or.inr h
  have hS : va_S A s.heap s.heap [] := va_S.rf
  have hl := lv_entry ([.ref (bd 0), .int a0]) (n := 8) (Nat.le_of_ble_eq_true rfl)
  rw [lg_entry_eq]
  generalize (lg_sl ([.ref (bd 0), .int a0]) ++ List.replicate (8 - (lg_sl ([.ref (bd 0), .int a0])).length) Slot.unset).toArray = ls at hl ⊢
  have hl : lv_has ls 8 [(0, .ref (bd 0)), (1, .int a0)] := hl
  unfold f_M_learn at h
  refine lv_sipush (v := 256) hx hb d_M_learn_0 (by decide) ?_
  refine lv_iload_n hx hb d_M_learn_3 rfl (lv_at hl 1 rfl) ?_
  refine lv_imul hx hb d_M_learn_4 ?_
  refine lv_istore_n (lv' := [(2, .int ((256 : Int32) * a0)), (0, .ref (bd 0)), (1, .int a0)]) hx hb d_M_learn_5 rfl hl (by decide) rfl (fun ls hl => ?_)
  refine lv_iconst (v := 0) hx hb d_M_learn_6 (by decide) ?_
  refine lv_istore_n (lv' := [(3, .int 0), (2, .int ((256 : Int32) * a0)), (0, .ref (bd 0)), (1, .int a0)]) hx hb d_M_learn_7 rfl hl (by decide) rfl (fun ls hl => ?_)
  have L8 : ∀ n8 : Nat, ∀ (τ : vS) (x1 : Int32) (x2 : Int32) (x3 : Int32) (H : Heap) (locs : List Loc) (ls : Array Slot), f_M_learn_8 N n8 τ x1 x2 x3 = some v → lv_has ls 8 [(0, .ref (bd 0)), (1, .int x1), (2, .int x2), (3, .int x3)] → va_P (dC, dI) CL (Mw bd cb τ) H → va_D A (Mw bd cb τ) → va_S A s.heap H locs → W p l e (headSpec WS ({ frames := 0, cells := 0, slots := 0, locals := 0 })).room s m ([.ref (bd 0), .int a0] : List Value).toArray below meth c H locs 0 0 (MQ below (va_Qi (fun (r : Int32) (_ : Unit) => r = v.1) (fun _ t => vq_Post (dC, dI) CL A (Mw bd cb v.2) (Mt cb) t) A) ([.ref (bd 0), .int a0] : List Value).toArray s 0 0 A) (F0 m 8 ls []) := by
    intro n8
    induction n8 with
    | zero =>
      intro τ x1 x2 x3 H locs ls h hl hP hD hS
      rw [f_M_learn_8] at h
      cases h
    | succ n8 ih8 =>
      intro τ x1 x2 x3 H locs ls h hl hP hD hS
      rw [f_M_learn_8] at h
      dsimp only at h
      refine lv_iload_n hx hb d_M_learn_8 rfl (lv_at hl 3 rfl) ?_
      refine lv_aload_n hx hb d_M_learn_9 rfl (lv_at hl 0 rfl) ?_
      refine g_M_positions dC dI bd cb τ hx hb hts hown hK hP k_385 d_M_learn_10 ?_
      refine lv_iload_n hx hb d_M_learn_13 rfl (lv_at hl 1 rfl) ?_
      obtain ⟨hi1, h⟩ := vq_bd h
      refine al_M2 dC dI bd cb τ hx hb hts hown hK hP hi1 d_M_learn_14 ?_
      obtain ⟨i2, ei2, h⟩ := vq_let h
      refine vq_top ei2.symm ?_
      refine lv_icmp_ge (tgt := 110) hx hb d_M_learn_15 (by decide) (fun hc3 => ?_) (fun hc3 => ?_)
      ·
        rw [if_pos hc3] at h
        refine lv_iconst (v := 0) hx hb d_M_learn_110 (by decide) ?_
        refine lv_istore_n (lv' := [(3, .int 0), (0, .ref (bd 0)), (1, .int x1), (2, .int x2)]) hx hb d_M_learn_111 rfl hl (by decide) rfl (fun ls hl => ?_)
        have L112 : ∀ n112 : Nat, ∀ (τ : vS) (x1 : Int32) (x2 : Int32) (x3 : Int32) (H : Heap) (locs : List Loc) (ls : Array Slot), f_M_learn_112 N n112 τ x1 x2 x3 = some v → lv_has ls 8 [(0, .ref (bd 0)), (1, .int x1), (2, .int x2), (3, .int x3)] → va_P (dC, dI) CL (Mw bd cb τ) H → va_D A (Mw bd cb τ) → va_S A s.heap H locs → W p l e (headSpec WS ({ frames := 0, cells := 0, slots := 0, locals := 0 })).room s m ([.ref (bd 0), .int a0] : List Value).toArray below meth c H locs 0 0 (MQ below (va_Qi (fun (r : Int32) (_ : Unit) => r = v.1) (fun _ t => vq_Post (dC, dI) CL A (Mw bd cb v.2) (Mt cb) t) A) ([.ref (bd 0), .int a0] : List Value).toArray s 0 0 A) (F0 m 112 ls []) := by
          intro n112
          induction n112 with
          | zero =>
            intro τ x1 x2 x3 H locs ls h hl hP hD hS
            rw [f_M_learn_112] at h
            cases h
          | succ n112 ih112 =>
            intro τ x1 x2 x3 H locs ls h hl hP hD hS
            rw [f_M_learn_112] at h
            dsimp only at h
            refine lv_iload_n hx hb d_M_learn_112 rfl (lv_at hl 3 rfl) ?_
            refine lv_bipush (v := 16) hx hb d_M_learn_113 (by decide) ?_
            refine lv_icmp_ge (tgt := 207) hx hb d_M_learn_115 (by decide) (fun hc4 => ?_) (fun hc4 => ?_)
            ·
              rw [if_pos hc4] at h
              refine lv_iconst (v := 0) hx hb d_M_learn_207 (by decide) ?_
              refine lv_istore_n (lv' := [(3, .int 0), (0, .ref (bd 0)), (1, .int x1), (2, .int x2)]) hx hb d_M_learn_208 rfl hl (by decide) rfl (fun ls hl => ?_)
              refine lv_iconst (v := 0) hx hb d_M_learn_209 (by decide) ?_
              refine lv_istore (lv' := [(4, .int 0), (3, .int 0), (0, .ref (bd 0)), (1, .int x1), (2, .int x2)]) hx hb d_M_learn_210 hl (by decide) rfl (fun ls hl => ?_)
              have L212 : ∀ n212 : Nat, ∀ (τ : vS) (x1 : Int32) (x2 : Int32) (x3 : Int32) (x4 : Int32) (H : Heap) (locs : List Loc) (ls : Array Slot), f_M_learn_212 N n212 τ x1 x2 x3 x4 = some v → lv_has ls 8 [(0, .ref (bd 0)), (1, .int x1), (2, .int x2), (3, .int x3), (4, .int x4)] → va_P (dC, dI) CL (Mw bd cb τ) H → va_D A (Mw bd cb τ) → va_S A s.heap H locs → W p l e (headSpec WS ({ frames := 0, cells := 0, slots := 0, locals := 0 })).room s m ([.ref (bd 0), .int a0] : List Value).toArray below meth c H locs 0 0 (MQ below (va_Qi (fun (r : Int32) (_ : Unit) => r = v.1) (fun _ t => vq_Post (dC, dI) CL A (Mw bd cb v.2) (Mt cb) t) A) ([.ref (bd 0), .int a0] : List Value).toArray s 0 0 A) (F0 m 212 ls []) := by
                intro n212
                induction n212 with
                | zero =>
                  intro τ x1 x2 x3 x4 H locs ls h hl hP hD hS
                  rw [f_M_learn_212] at h
                  cases h
                | succ n212 ih212 =>
                  intro τ x1 x2 x3 x4 H locs ls h hl hP hD hS
                  rw [f_M_learn_212] at h
                  dsimp only at h
                  refine lv_iload hx hb d_M_learn_212 (lv_at hl 4 rfl) ?_
                  refine lv_aload_n hx hb d_M_learn_214 rfl (lv_at hl 0 rfl) ?_
                  refine g_M_positions dC dI bd cb τ hx hb hts hown hK hP k_385 d_M_learn_215 ?_
                  refine lv_iload_n hx hb d_M_learn_218 rfl (lv_at hl 1 rfl) ?_
                  obtain ⟨hi5, h⟩ := vq_bd h
                  refine al_M2 dC dI bd cb τ hx hb hts hown hK hP hi5 d_M_learn_219 ?_
                  obtain ⟨i6, ei6, h⟩ := vq_let h
                  refine vq_top ei6.symm ?_
                  refine lv_icmp_ge (tgt := 347) hx hb d_M_learn_220 (by decide) (fun hc7 => ?_) (fun hc7 => ?_)
                  ·
                    rw [if_pos hc7] at h
                    refine lv_iload_n hx hb d_M_learn_347 rfl (lv_at hl 3 rfl) ?_
                    have h9 := Option.some.inj h
                    rw [← h9]
                    exact vq_zret hx hb hr (fun t ht hW => ⟨⟨_, (), rfl, rfl, by rw [ht]; exact hP, va_K.moved hW.alike hK, hD⟩, hS.F ht⟩) hS.2.2 d_M_learn_348
                  ·
                    rw [if_neg hc7] at h
                    refine lv_iconst (v := 0) hx hb d_M_learn_223 (by decide) ?_
                    refine lv_istore (lv' := [(5, .int 0), (0, .ref (bd 0)), (1, .int x1), (2, .int x2), (3, .int x3), (4, .int x4)]) hx hb d_M_learn_224 hl (by decide) rfl (fun ls hl => ?_)
                    have L226 : ∀ n226 : Nat, ∀ (τ : vS) (x1 : Int32) (x2 : Int32) (x3 : Int32) (x4 : Int32) (x5 : Int32) (H : Heap) (locs : List Loc) (ls : Array Slot), f_M_learn_226 N (f_M_learn_212 N n212) n226 τ x1 x2 x3 x4 x5 = some v → lv_has ls 8 [(0, .ref (bd 0)), (1, .int x1), (2, .int x2), (3, .int x3), (4, .int x4), (5, .int x5)] → va_P (dC, dI) CL (Mw bd cb τ) H → va_D A (Mw bd cb τ) → va_S A s.heap H locs → W p l e (headSpec WS ({ frames := 0, cells := 0, slots := 0, locals := 0 })).room s m ([.ref (bd 0), .int a0] : List Value).toArray below meth c H locs 0 0 (MQ below (va_Qi (fun (r : Int32) (_ : Unit) => r = v.1) (fun _ t => vq_Post (dC, dI) CL A (Mw bd cb v.2) (Mt cb) t) A) ([.ref (bd 0), .int a0] : List Value).toArray s 0 0 A) (F0 m 226 ls []) := by
                      intro n226
                      induction n226 with
                      | zero =>
                        intro τ x1 x2 x3 x4 x5 H locs ls h hl hP hD hS
                        rw [f_M_learn_226] at h
                        cases h
                      | succ n226 ih226 =>
                        intro τ x1 x2 x3 x4 x5 H locs ls h hl hP hD hS
                        rw [f_M_learn_226] at h
                        dsimp only at h
                        refine lv_iload hx hb d_M_learn_226 (lv_at hl 5 rfl) ?_
                        refine lv_bipush (v := 16) hx hb d_M_learn_228 (by decide) ?_
                        refine lv_icmp_ge (tgt := 341) hx hb d_M_learn_230 (by decide) (fun hc8 => ?_) (fun hc8 => ?_)
                        ·
                          rw [if_pos hc8] at h
                          refine lv_iinc (k := 4) (v := (x4 + 1)) (lv' := [(4, .int (x4 + 1)), (0, .ref (bd 0)), (1, .int x1), (2, .int x2), (3, .int x3), (5, .int x5)]) hx hb d_M_learn_341 hl rfl rfl (by decide) rfl (fun ls hl => ?_)
                          refine lv_goto (tgt := 212) hx hb d_M_learn_344 (by decide) ?_
                          exact ih212 _ _ _ _ _ _ _ _ h (lv_sub hl [1, 2, 3, 4, 0] rfl) hP hD hS
                        ·
                          rw [if_neg hc8] at h
                          refine lv_bipush (v := 16) hx hb d_M_learn_233 (by decide) ?_
                          refine lv_aload_n hx hb d_M_learn_235 rfl (lv_at hl 0 rfl) ?_
                          refine g_M_symbolAt dC dI bd cb τ hx hb hts hown hK hP k_384 d_M_learn_236 ?_
                          refine lv_iconst (v := 4) hx hb d_M_learn_239 (by decide) ?_
                          refine lv_iload_n hx hb d_M_learn_240 rfl (lv_at hl 1 rfl) ?_
                          refine lv_imul hx hb d_M_learn_241 ?_
                          refine lv_iload hx hb d_M_learn_242 (lv_at hl 4 rfl) ?_
                          refine lv_iadd hx hb d_M_learn_244 ?_
                          obtain ⟨hi9, h⟩ := vq_bd h
                          refine al_M3 dC dI bd cb τ hx hb hts hown hK hP hi9 d_M_learn_245 ?_
                          obtain ⟨i10, ei10, h⟩ := vq_let h
                          refine vq_top ei10.symm ?_
                          refine lv_imul hx hb d_M_learn_246 ?_
                          refine lv_iload hx hb d_M_learn_247 (lv_at hl 5 rfl) ?_
                          refine lv_iadd hx hb d_M_learn_249 ?_
                          refine lv_istore (lv' := [(6, .int (((16 : Int32) * i10) + x5)), (0, .ref (bd 0)), (1, .int x1), (2, .int x2), (3, .int x3), (4, .int x4), (5, .int x5)]) hx hb d_M_learn_250 hl (by decide) rfl (fun ls hl => ?_)
                          refine lv_aload_n hx hb d_M_learn_252 rfl (lv_at hl 1 rfl) ?_
                          refine g_M_leads dC dI bd cb τ hx hb hts hown hK hP k_415 d_M_learn_253 ?_
                          refine lv_iload_n hx hb d_M_learn_256 rfl (lv_at hl 3 rfl) ?_
                          refine lv_bipush (v := 16) hx hb d_M_learn_257 (by decide) ?_
                          refine lv_iconst (v := 4) hx hb d_M_learn_259 (by decide) ?_
                          refine lv_iload hx hb d_M_learn_260 (lv_at hl 5 rfl) ?_
                          refine lv_imul hx hb d_M_learn_262 ?_
                          refine lv_iload hx hb d_M_learn_263 (lv_at hl 6 rfl) ?_
                          refine lv_iconst (v := 4) hx hb d_M_learn_265 (by decide) ?_
                          refine lv_idiv hx hb d_M_learn_266 (by decide) ?_
                          refine lv_iadd hx hb d_M_learn_267 ?_
                          refine lv_imul hx hb d_M_learn_268 ?_
                          obtain ⟨i11, ei11, h⟩ := vq_let h
                          refine vq_top ei11.symm ?_
                          refine lv_iadd hx hb d_M_learn_269 ?_
                          refine lv_iconst (v := 4) hx hb d_M_learn_270 (by decide) ?_
                          refine lv_iload hx hb d_M_learn_271 (lv_at hl 5 rfl) ?_
                          refine lv_imul hx hb d_M_learn_273 ?_
                          refine lv_iadd hx hb d_M_learn_274 ?_
                          obtain ⟨i12, ei12, h⟩ := vq_let h
                          refine vq_top ei12.symm ?_
                          refine lv_iload hx hb d_M_learn_275 (lv_at hl 6 rfl) ?_
                          refine lv_iconst (v := 4) hx hb d_M_learn_277 (by decide) ?_
                          refine lv_irem hx hb d_M_learn_278 (by decide) ?_
                          refine lv_iadd hx hb d_M_learn_279 ?_
                          obtain ⟨hi13, h⟩ := vq_bd h
                          refine al_M8 dC dI bd cb τ hx hb hts hown hK hP hi13 d_M_learn_280 ?_
                          obtain ⟨i14, ei14, h⟩ := vq_let h
                          refine vq_top ei14.symm ?_
                          refine lv_istore (lv' := [(7, .int i14), (6, .int (((16 : Int32) * i10) + x5)), (0, .ref (bd 0)), (1, .int x1), (2, .int x2), (3, .int x3), (4, .int x4), (5, .int x5)]) hx hb d_M_learn_281 hl (by decide) rfl (fun ls hl => ?_)
                          refine lv_iload_n hx hb d_M_learn_283 rfl (lv_at hl 5 rfl) ?_
                          have J307 : ∀ (τ : vS) (x1 : Int32) (x2 : Int32) (x4 : Int32) (x5 : Int32) (x6 : Int32) (x7 : Int32) (y0 : Int32) (H : Heap) (locs : List Loc) (ls : Array Slot), f_M_learn_307 N (f_M_learn_212 N n212) (f_M_learn_226 N (f_M_learn_212 N n212) n226) τ x1 x2 x4 x5 x6 x7 y0 = some v → lv_has ls 8 [(0, .ref (bd 0)), (1, .int x1), (2, .int x2), (4, .int x4), (5, .int x5), (6, .int x6), (7, .int x7)] → va_P (dC, dI) CL (Mw bd cb τ) H → va_D A (Mw bd cb τ) → va_S A s.heap H locs → W p l e (headSpec WS ({ frames := 0, cells := 0, slots := 0, locals := 0 })).room s m ([.ref (bd 0), .int a0] : List Value).toArray below meth c H locs 0 0 (MQ below (va_Qi (fun (r : Int32) (_ : Unit) => r = v.1) (fun _ t => vq_Post (dC, dI) CL A (Mw bd cb v.2) (Mt cb) t) A) ([.ref (bd 0), .int a0] : List Value).toArray s 0 0 A) (F0 m 307 ls [.int y0]) := by
                            intro τ x1 x2 x4 x5 x6 x7 y0 H locs ls h hl hP hD hS
                            unfold f_M_learn_307 at h
                            refine lv_istore_n (lv' := [(3, .int y0), (0, .ref (bd 0)), (1, .int x1), (2, .int x2), (4, .int x4), (5, .int x5), (6, .int x6), (7, .int x7)]) hx hb d_M_learn_307 rfl hl (by decide) rfl (fun ls hl => ?_)
                            refine lv_aload_n hx hb d_M_learn_308 rfl (lv_at hl 1 rfl) ?_
                            refine g_M_symbolLeads dC dI bd cb τ hx hb hts hown hK hP k_419 d_M_learn_309 ?_
                            refine lv_iload hx hb d_M_learn_312 (lv_at hl 6 rfl) ?_
                            refine lv_aload_n hx hb d_M_learn_314 rfl (lv_at hl 1 rfl) ?_
                            refine g_M_symbolLeads dC dI bd cb τ hx hb hts hown hK hP k_419 d_M_learn_315 ?_
                            refine lv_iload hx hb d_M_learn_318 (lv_at hl 6 rfl) ?_
                            obtain ⟨hi15, h⟩ := vq_bd h
                            refine al_M9 dC dI bd cb τ hx hb hts hown hK hP hi15 d_M_learn_320 ?_
                            obtain ⟨i16, ei16, h⟩ := vq_let h
                            refine vq_top ei16.symm ?_
                            have J334 : ∀ (τ : vS) (x1 : Int32) (x2 : Int32) (x3 : Int32) (x4 : Int32) (x5 : Int32) (y0 : Int32) (y1 : Int32) (H : Heap) (locs : List Loc) (ls : Array Slot), f_M_learn_334 N (f_M_learn_212 N n212) (f_M_learn_226 N (f_M_learn_212 N n212) n226) τ x1 x2 x3 x4 x5 y0 y1 = some v → lv_has ls 8 [(0, .ref (bd 0)), (1, .int x1), (2, .int x2), (3, .int x3), (4, .int x4), (5, .int x5)] → va_P (dC, dI) CL (Mw bd cb τ) H → va_D A (Mw bd cb τ) → va_S A s.heap H locs → W p l e (headSpec WS ({ frames := 0, cells := 0, slots := 0, locals := 0 })).room s m ([.ref (bd 0), .int a0] : List Value).toArray below meth c H locs 0 0 (MQ below (va_Qi (fun (r : Int32) (_ : Unit) => r = v.1) (fun _ t => vq_Post (dC, dI) CL A (Mw bd cb v.2) (Mt cb) t) A) ([.ref (bd 0), .int a0] : List Value).toArray s 0 0 A) (F0 m 334 ls [.int y0, .int y1, .ref (bd 10)]) := by
                              intro τ x1 x2 x3 x4 x5 y0 y1 H locs ls h hl hP hD hS
                              unfold f_M_learn_334 at h
                              obtain ⟨hi17, h⟩ := vq_bd h
                              refine as_M9 dC dI bd cb τ hx hb hts hown hK hP hD hS hi17 d_M_learn_334 (fun H locs hP hD hS => ?_)
                              obtain ⟨σ18, eσ18, h⟩ := vq_let h
                              rw [← eσ18] at hP hD
                              refine lv_iinc (k := 5) (v := (x5 + 1)) (lv' := [(5, .int (x5 + 1)), (0, .ref (bd 0)), (1, .int x1), (2, .int x2), (3, .int x3), (4, .int x4)]) hx hb d_M_learn_335 hl rfl rfl (by decide) rfl (fun ls hl => ?_)
                              refine lv_goto (tgt := 226) hx hb d_M_learn_338 (by decide) ?_
                              exact ih226 _ _ _ _ _ _ _ _ _ h (lv_sub hl [1, 2, 3, 4, 5, 0] rfl) hP hD hS
                            have J329 : ∀ (τ : vS) (x1 : Int32) (x2 : Int32) (x3 : Int32) (x4 : Int32) (x5 : Int32) (y0 : Int32) (H : Heap) (locs : List Loc) (ls : Array Slot), f_M_learn_329 N (f_M_learn_212 N n212) (f_M_learn_226 N (f_M_learn_212 N n212) n226) τ x1 x2 x3 x4 x5 y0 = some v → lv_has ls 8 [(0, .ref (bd 0)), (1, .int x1), (2, .int x2), (3, .int x3), (4, .int x4), (5, .int x5)] → va_P (dC, dI) CL (Mw bd cb τ) H → va_D A (Mw bd cb τ) → va_S A s.heap H locs → W p l e (headSpec WS ({ frames := 0, cells := 0, slots := 0, locals := 0 })).room s m ([.ref (bd 0), .int a0] : List Value).toArray below meth c H locs 0 0 (MQ below (va_Qi (fun (r : Int32) (_ : Unit) => r = v.1) (fun _ t => vq_Post (dC, dI) CL A (Mw bd cb v.2) (Mt cb) t) A) ([.ref (bd 0), .int a0] : List Value).toArray s 0 0 A) (F0 m 329 ls [.int y0, .ref (bd 10)]) := by
                              intro τ x1 x2 x3 x4 x5 y0 H locs ls h hl hP hD hS
                              unfold f_M_learn_329 at h
                              refine lv_iconst (v := 1) hx hb d_M_learn_329 (by decide) ?_
                              refine lv_goto (tgt := 334) hx hb d_M_learn_330 (by decide) ?_
                              exact J334 _ _ _ _ _ _ _ _ _ _ _ h (lv_sub hl [0, 1, 2, 3, 4, 5] rfl) hP hD hS
                            refine lv_if_ne (tgt := 329) hx hb d_M_learn_321 (by decide) (fun hc19 => ?_) (fun hc19 => ?_)
                            ·
                              rw [if_neg hc19] at h
                              exact J329 _ _ _ _ _ _ _ _ _ _ h (lv_sub hl [1, 2, 3, 0, 4, 5] rfl) hP hD hS
                            ·
                              rw [if_pos hc19] at h
                              refine lv_iload hx hb d_M_learn_324 (lv_at hl 7 rfl) ?_
                              refine lv_if_eq (tgt := 333) hx hb d_M_learn_326 (by decide) (fun hc20 => ?_) (fun hc20 => ?_)
                              ·
                                rw [if_pos hc20] at h
                                refine lv_iconst (v := 0) hx hb d_M_learn_333 (by decide) ?_
                                exact J334 _ _ _ _ _ _ _ _ _ _ _ h (lv_sub hl [1, 2, 3, 0, 4, 5] rfl) hP hD hS
                              ·
                                rw [if_neg hc20] at h
                                exact J329 _ _ _ _ _ _ _ _ _ _ h (lv_sub hl [1, 2, 3, 0, 4, 5] rfl) hP hD hS
                          have J302 : ∀ (τ : vS) (x1 : Int32) (x2 : Int32) (x4 : Int32) (x5 : Int32) (x6 : Int32) (x7 : Int32) (H : Heap) (locs : List Loc) (ls : Array Slot), f_M_learn_302 N (f_M_learn_212 N n212) (f_M_learn_226 N (f_M_learn_212 N n212) n226) τ x1 x2 x4 x5 x6 x7 = some v → lv_has ls 8 [(0, .ref (bd 0)), (1, .int x1), (2, .int x2), (4, .int x4), (5, .int x5), (6, .int x6), (7, .int x7)] → va_P (dC, dI) CL (Mw bd cb τ) H → va_D A (Mw bd cb τ) → va_S A s.heap H locs → W p l e (headSpec WS ({ frames := 0, cells := 0, slots := 0, locals := 0 })).room s m ([.ref (bd 0), .int a0] : List Value).toArray below meth c H locs 0 0 (MQ below (va_Qi (fun (r : Int32) (_ : Unit) => r = v.1) (fun _ t => vq_Post (dC, dI) CL A (Mw bd cb v.2) (Mt cb) t) A) ([.ref (bd 0), .int a0] : List Value).toArray s 0 0 A) (F0 m 302 ls []) := by
                            intro τ x1 x2 x4 x5 x6 x7 H locs ls h hl hP hD hS
                            unfold f_M_learn_302 at h
                            refine lv_iconst (v := 1) hx hb d_M_learn_302 (by decide) ?_
                            refine lv_goto (tgt := 307) hx hb d_M_learn_303 (by decide) ?_
                            exact J307 _ _ _ _ _ _ _ _ _ _ _ h (lv_sub hl [0, 1, 2, 3, 4, 5, 6] rfl) hP hD hS
                          refine lv_if_ne (tgt := 302) hx hb d_M_learn_284 (by decide) (fun hc21 => ?_) (fun hc21 => ?_)
                          ·
                            rw [if_neg hc21] at h
                            exact J302 _ _ _ _ _ _ _ _ _ _ h (lv_sub hl [2, 3, 4, 6, 7, 1, 0] rfl) hP hD hS
                          ·
                            rw [if_pos hc21] at h
                            refine lv_iload hx hb d_M_learn_287 (lv_at hl 0 rfl) ?_
                            have J306 : ∀ (τ : vS) (x1 : Int32) (x2 : Int32) (x4 : Int32) (x5 : Int32) (x6 : Int32) (x7 : Int32) (H : Heap) (locs : List Loc) (ls : Array Slot), f_M_learn_306 N (f_M_learn_212 N n212) (f_M_learn_226 N (f_M_learn_212 N n212) n226) τ x1 x2 x4 x5 x6 x7 = some v → lv_has ls 8 [(0, .ref (bd 0)), (1, .int x1), (2, .int x2), (4, .int x4), (5, .int x5), (6, .int x6), (7, .int x7)] → va_P (dC, dI) CL (Mw bd cb τ) H → va_D A (Mw bd cb τ) → va_S A s.heap H locs → W p l e (headSpec WS ({ frames := 0, cells := 0, slots := 0, locals := 0 })).room s m ([.ref (bd 0), .int a0] : List Value).toArray below meth c H locs 0 0 (MQ below (va_Qi (fun (r : Int32) (_ : Unit) => r = v.1) (fun _ t => vq_Post (dC, dI) CL A (Mw bd cb v.2) (Mt cb) t) A) ([.ref (bd 0), .int a0] : List Value).toArray s 0 0 A) (F0 m 306 ls []) := by
                              intro τ x1 x2 x4 x5 x6 x7 H locs ls h hl hP hD hS
                              unfold f_M_learn_306 at h
                              refine lv_iconst (v := 0) hx hb d_M_learn_306 (by decide) ?_
                              exact J307 _ _ _ _ _ _ _ _ _ _ _ h (lv_sub hl [0, 1, 2, 3, 4, 5, 6] rfl) hP hD hS
                            refine lv_if_eq (tgt := 306) hx hb d_M_learn_289 (by decide) (fun hc22 => ?_) (fun hc22 => ?_)
                            ·
                              rw [if_pos hc22] at h
                              exact J306 _ _ _ _ _ _ _ _ _ _ h (lv_sub hl [2, 3, 4, 6, 7, 1, 0] rfl) hP hD hS
                            ·
                              rw [if_neg hc22] at h
                              refine lv_aload_n hx hb d_M_learn_292 rfl (lv_at hl 2 rfl) ?_
                              refine g_M_symbolLeads dC dI bd cb τ hx hb hts hown hK hP k_419 d_M_learn_293 ?_
                              refine lv_iload hx hb d_M_learn_296 (lv_at hl 1 rfl) ?_
                              obtain ⟨hi23, h⟩ := vq_bd h
                              refine al_M9 dC dI bd cb τ hx hb hts hown hK hP hi23 d_M_learn_298 ?_
                              obtain ⟨i24, ei24, h⟩ := vq_let h
                              refine vq_top ei24.symm ?_
                              refine lv_if_ne (tgt := 306) hx hb d_M_learn_299 (by decide) (fun hc25 => ?_) (fun hc25 => ?_)
                              ·
                                rw [if_neg hc25] at h
                                exact J306 _ _ _ _ _ _ _ _ _ _ h (lv_sub hl [2, 3, 4, 6, 7, 1, 0] rfl) hP hD hS
                              ·
                                rw [if_pos hc25] at h
                                exact J302 _ _ _ _ _ _ _ _ _ _ h (lv_sub hl [2, 3, 4, 6, 7, 1, 0] rfl) hP hD hS
                    exact L226 N _ _ _ _ _ _ _ _ _ h (lv_sub hl [1, 2, 3, 4, 5, 0] rfl) hP hD hS
              exact L212 N _ _ _ _ _ _ _ _ h (lv_sub hl [2, 3, 4, 1, 0] rfl) hP hD hS
            ·
              rw [if_neg hc4] at h
              refine lv_iconst (v := 0) hx hb d_M_learn_118 (by decide) ?_
              refine lv_istore (lv' := [(4, .int 0), (0, .ref (bd 0)), (1, .int x1), (2, .int x2), (3, .int x3)]) hx hb d_M_learn_119 hl (by decide) rfl (fun ls hl => ?_)
              have L121 : ∀ n121 : Nat, ∀ (τ : vS) (x1 : Int32) (x2 : Int32) (x3 : Int32) (x4 : Int32) (H : Heap) (locs : List Loc) (ls : Array Slot), f_M_learn_121 N (f_M_learn_112 N n112) n121 τ x1 x2 x3 x4 = some v → lv_has ls 8 [(0, .ref (bd 0)), (1, .int x1), (2, .int x2), (3, .int x3), (4, .int x4)] → va_P (dC, dI) CL (Mw bd cb τ) H → va_D A (Mw bd cb τ) → va_S A s.heap H locs → W p l e (headSpec WS ({ frames := 0, cells := 0, slots := 0, locals := 0 })).room s m ([.ref (bd 0), .int a0] : List Value).toArray below meth c H locs 0 0 (MQ below (va_Qi (fun (r : Int32) (_ : Unit) => r = v.1) (fun _ t => vq_Post (dC, dI) CL A (Mw bd cb v.2) (Mt cb) t) A) ([.ref (bd 0), .int a0] : List Value).toArray s 0 0 A) (F0 m 121 ls []) := by
                intro n121
                induction n121 with
                | zero =>
                  intro τ x1 x2 x3 x4 H locs ls h hl hP hD hS
                  rw [f_M_learn_121] at h
                  cases h
                | succ n121 ih121 =>
                  intro τ x1 x2 x3 x4 H locs ls h hl hP hD hS
                  rw [f_M_learn_121] at h
                  dsimp only at h
                  refine lv_iload hx hb d_M_learn_121 (lv_at hl 4 rfl) ?_
                  refine lv_sipush (v := 256) hx hb d_M_learn_123 (by decide) ?_
                  refine lv_icmp_ge (tgt := 201) hx hb d_M_learn_126 (by decide) (fun hc26 => ?_) (fun hc26 => ?_)
                  ·
                    rw [if_pos hc26] at h
                    refine lv_iinc (k := 3) (v := (x3 + 1)) (lv' := [(3, .int (x3 + 1)), (0, .ref (bd 0)), (1, .int x1), (2, .int x2), (4, .int x4)]) hx hb d_M_learn_201 hl rfl rfl (by decide) rfl (fun ls hl => ?_)
                    refine lv_goto (tgt := 112) hx hb d_M_learn_204 (by decide) ?_
                    exact ih112 _ _ _ _ _ _ _ h (lv_sub hl [1, 2, 3, 0] rfl) hP hD hS
                  ·
                    rw [if_neg hc26] at h
                    refine lv_aload_n hx hb d_M_learn_129 rfl (lv_at hl 0 rfl) ?_
                    refine g_M_leads dC dI bd cb τ hx hb hts hown hK hP k_415 d_M_learn_130 ?_
                    refine lv_iload_n hx hb d_M_learn_133 rfl (lv_at hl 2 rfl) ?_
                    refine lv_iload hx hb d_M_learn_134 (lv_at hl 4 rfl) ?_
                    refine lv_iadd hx hb d_M_learn_136 ?_
                    refine lv_aload_n hx hb d_M_learn_137 rfl (lv_at hl 0 rfl) ?_
                    refine g_M_leads dC dI bd cb τ hx hb hts hown hK hP k_415 d_M_learn_138 ?_
                    refine lv_iload_n hx hb d_M_learn_141 rfl (lv_at hl 2 rfl) ?_
                    refine lv_iload hx hb d_M_learn_142 (lv_at hl 4 rfl) ?_
                    refine lv_iadd hx hb d_M_learn_144 ?_
                    obtain ⟨hi27, h⟩ := vq_bd h
                    refine al_M8 dC dI bd cb τ hx hb hts hown hK hP hi27 d_M_learn_145 ?_
                    obtain ⟨i28, ei28, h⟩ := vq_let h
                    refine vq_top ei28.symm ?_
                    have J194 : ∀ (τ : vS) (x1 : Int32) (x2 : Int32) (x3 : Int32) (x4 : Int32) (y0 : Int32) (y1 : Int32) (H : Heap) (locs : List Loc) (ls : Array Slot), f_M_learn_194 N (f_M_learn_112 N n112) (f_M_learn_121 N (f_M_learn_112 N n112) n121) τ x1 x2 x3 x4 y0 y1 = some v → lv_has ls 8 [(0, .ref (bd 0)), (1, .int x1), (2, .int x2), (3, .int x3), (4, .int x4)] → va_P (dC, dI) CL (Mw bd cb τ) H → va_D A (Mw bd cb τ) → va_S A s.heap H locs → W p l e (headSpec WS ({ frames := 0, cells := 0, slots := 0, locals := 0 })).room s m ([.ref (bd 0), .int a0] : List Value).toArray below meth c H locs 0 0 (MQ below (va_Qi (fun (r : Int32) (_ : Unit) => r = v.1) (fun _ t => vq_Post (dC, dI) CL A (Mw bd cb v.2) (Mt cb) t) A) ([.ref (bd 0), .int a0] : List Value).toArray s 0 0 A) (F0 m 194 ls [.int y0, .int y1, .ref (bd 9)]) := by
                      intro τ x1 x2 x3 x4 y0 y1 H locs ls h hl hP hD hS
                      unfold f_M_learn_194 at h
                      obtain ⟨hi29, h⟩ := vq_bd h
                      refine as_M8 dC dI bd cb τ hx hb hts hown hK hP hD hS hi29 d_M_learn_194 (fun H locs hP hD hS => ?_)
                      obtain ⟨σ30, eσ30, h⟩ := vq_let h
                      rw [← eσ30] at hP hD
                      refine lv_iinc (k := 4) (v := (x4 + 1)) (lv' := [(4, .int (x4 + 1)), (0, .ref (bd 0)), (1, .int x1), (2, .int x2), (3, .int x3)]) hx hb d_M_learn_195 hl rfl rfl (by decide) rfl (fun ls hl => ?_)
                      refine lv_goto (tgt := 121) hx hb d_M_learn_198 (by decide) ?_
                      exact ih121 _ _ _ _ _ _ _ _ h (lv_sub hl [1, 2, 3, 4, 0] rfl) hP hD hS
                    have J189 : ∀ (τ : vS) (x1 : Int32) (x2 : Int32) (x3 : Int32) (x4 : Int32) (y0 : Int32) (H : Heap) (locs : List Loc) (ls : Array Slot), f_M_learn_189 N (f_M_learn_112 N n112) (f_M_learn_121 N (f_M_learn_112 N n112) n121) τ x1 x2 x3 x4 y0 = some v → lv_has ls 8 [(0, .ref (bd 0)), (1, .int x1), (2, .int x2), (3, .int x3), (4, .int x4)] → va_P (dC, dI) CL (Mw bd cb τ) H → va_D A (Mw bd cb τ) → va_S A s.heap H locs → W p l e (headSpec WS ({ frames := 0, cells := 0, slots := 0, locals := 0 })).room s m ([.ref (bd 0), .int a0] : List Value).toArray below meth c H locs 0 0 (MQ below (va_Qi (fun (r : Int32) (_ : Unit) => r = v.1) (fun _ t => vq_Post (dC, dI) CL A (Mw bd cb v.2) (Mt cb) t) A) ([.ref (bd 0), .int a0] : List Value).toArray s 0 0 A) (F0 m 189 ls [.int y0, .ref (bd 9)]) := by
                      intro τ x1 x2 x3 x4 y0 H locs ls h hl hP hD hS
                      unfold f_M_learn_189 at h
                      refine lv_iconst (v := 1) hx hb d_M_learn_189 (by decide) ?_
                      refine lv_goto (tgt := 194) hx hb d_M_learn_190 (by decide) ?_
                      exact J194 _ _ _ _ _ _ _ _ _ _ h (lv_sub hl [0, 1, 2, 3, 4] rfl) hP hD hS
                    refine lv_if_ne (tgt := 189) hx hb d_M_learn_146 (by decide) (fun hc31 => ?_) (fun hc31 => ?_)
                    ·
                      rw [if_neg hc31] at h
                      exact J189 _ _ _ _ _ _ _ _ _ h (lv_sub hl [0, 1, 2, 3, 4] rfl) hP hD hS
                    ·
                      rw [if_pos hc31] at h
                      refine lv_aload_n hx hb d_M_learn_149 rfl (lv_at hl 0 rfl) ?_
                      refine g_M_leads dC dI bd cb τ hx hb hts hown hK hP k_415 d_M_learn_150 ?_
                      refine lv_iload_n hx hb d_M_learn_153 rfl (lv_at hl 2 rfl) ?_
                      refine lv_iload hx hb d_M_learn_154 (lv_at hl 4 rfl) ?_
                      refine lv_bipush (v := 16) hx hb d_M_learn_156 (by decide) ?_
                      refine lv_idiv hx hb d_M_learn_158 (by decide) ?_
                      refine lv_bipush (v := 16) hx hb d_M_learn_159 (by decide) ?_
                      refine lv_imul hx hb d_M_learn_161 ?_
                      refine lv_iadd hx hb d_M_learn_162 ?_
                      refine lv_iload_n hx hb d_M_learn_163 rfl (lv_at hl 3 rfl) ?_
                      refine lv_iadd hx hb d_M_learn_164 ?_
                      obtain ⟨hi32, h⟩ := vq_bd h
                      refine al_M8 dC dI bd cb τ hx hb hts hown hK hP hi32 d_M_learn_165 ?_
                      obtain ⟨i33, ei33, h⟩ := vq_let h
                      refine vq_top ei33.symm ?_
                      have J193 : ∀ (τ : vS) (x1 : Int32) (x2 : Int32) (x3 : Int32) (x4 : Int32) (y0 : Int32) (H : Heap) (locs : List Loc) (ls : Array Slot), f_M_learn_193 N (f_M_learn_112 N n112) (f_M_learn_121 N (f_M_learn_112 N n112) n121) τ x1 x2 x3 x4 y0 = some v → lv_has ls 8 [(0, .ref (bd 0)), (1, .int x1), (2, .int x2), (3, .int x3), (4, .int x4)] → va_P (dC, dI) CL (Mw bd cb τ) H → va_D A (Mw bd cb τ) → va_S A s.heap H locs → W p l e (headSpec WS ({ frames := 0, cells := 0, slots := 0, locals := 0 })).room s m ([.ref (bd 0), .int a0] : List Value).toArray below meth c H locs 0 0 (MQ below (va_Qi (fun (r : Int32) (_ : Unit) => r = v.1) (fun _ t => vq_Post (dC, dI) CL A (Mw bd cb v.2) (Mt cb) t) A) ([.ref (bd 0), .int a0] : List Value).toArray s 0 0 A) (F0 m 193 ls [.int y0, .ref (bd 9)]) := by
                        intro τ x1 x2 x3 x4 y0 H locs ls h hl hP hD hS
                        unfold f_M_learn_193 at h
                        refine lv_iconst (v := 0) hx hb d_M_learn_193 (by decide) ?_
                        exact J194 _ _ _ _ _ _ _ _ _ _ h (lv_sub hl [0, 1, 2, 3, 4] rfl) hP hD hS
                      refine lv_if_eq (tgt := 193) hx hb d_M_learn_166 (by decide) (fun hc34 => ?_) (fun hc34 => ?_)
                      ·
                        rw [if_pos hc34] at h
                        exact J193 _ _ _ _ _ _ _ _ _ h (lv_sub hl [0, 1, 2, 3, 4] rfl) hP hD hS
                      ·
                        rw [if_neg hc34] at h
                        refine lv_aload_n hx hb d_M_learn_169 rfl (lv_at hl 0 rfl) ?_
                        refine g_M_leads dC dI bd cb τ hx hb hts hown hK hP k_415 d_M_learn_170 ?_
                        refine lv_iload_n hx hb d_M_learn_173 rfl (lv_at hl 2 rfl) ?_
                        refine lv_bipush (v := 16) hx hb d_M_learn_174 (by decide) ?_
                        refine lv_iload_n hx hb d_M_learn_176 rfl (lv_at hl 3 rfl) ?_
                        refine lv_imul hx hb d_M_learn_177 ?_
                        refine lv_iadd hx hb d_M_learn_178 ?_
                        refine lv_iload hx hb d_M_learn_179 (lv_at hl 4 rfl) ?_
                        refine lv_bipush (v := 16) hx hb d_M_learn_181 (by decide) ?_
                        refine lv_irem hx hb d_M_learn_183 (by decide) ?_
                        refine lv_iadd hx hb d_M_learn_184 ?_
                        obtain ⟨i35, ei35, h⟩ := vq_let h
                        refine vq_top ei35.symm ?_
                        obtain ⟨hi36, h⟩ := vq_bd h
                        refine al_M8 dC dI bd cb τ hx hb hts hown hK hP hi36 d_M_learn_185 ?_
                        obtain ⟨i37, ei37, h⟩ := vq_let h
                        refine vq_top ei37.symm ?_
                        refine lv_if_eq (tgt := 193) hx hb d_M_learn_186 (by decide) (fun hc38 => ?_) (fun hc38 => ?_)
                        ·
                          rw [if_pos hc38] at h
                          exact J193 _ _ _ _ _ _ _ _ _ h (lv_sub hl [0, 1, 2, 3, 4] rfl) hP hD hS
                        ·
                          rw [if_neg hc38] at h
                          exact J189 _ _ _ _ _ _ _ _ _ h (lv_sub hl [0, 1, 2, 3, 4] rfl) hP hD hS
              exact L121 N _ _ _ _ _ _ _ _ h (lv_sub hl [1, 2, 3, 4, 0] rfl) hP hD hS
        exact L112 N _ _ _ _ _ _ _ h (lv_sub hl [1, 2, 3, 0] rfl) hP hD hS
      ·
        rw [if_neg hc3] at h
        refine lv_iconst (v := 0) hx hb d_M_learn_18 (by decide) ?_
        refine lv_istore (lv' := [(4, .int 0), (0, .ref (bd 0)), (1, .int x1), (2, .int x2), (3, .int x3)]) hx hb d_M_learn_19 hl (by decide) rfl (fun ls hl => ?_)
        have L21 : ∀ n21 : Nat, ∀ (τ : vS) (x1 : Int32) (x2 : Int32) (x3 : Int32) (x4 : Int32) (H : Heap) (locs : List Loc) (ls : Array Slot), f_M_learn_21 N (f_M_learn_8 N n8) n21 τ x1 x2 x3 x4 = some v → lv_has ls 8 [(0, .ref (bd 0)), (1, .int x1), (2, .int x2), (3, .int x3), (4, .int x4)] → va_P (dC, dI) CL (Mw bd cb τ) H → va_D A (Mw bd cb τ) → va_S A s.heap H locs → W p l e (headSpec WS ({ frames := 0, cells := 0, slots := 0, locals := 0 })).room s m ([.ref (bd 0), .int a0] : List Value).toArray below meth c H locs 0 0 (MQ below (va_Qi (fun (r : Int32) (_ : Unit) => r = v.1) (fun _ t => vq_Post (dC, dI) CL A (Mw bd cb v.2) (Mt cb) t) A) ([.ref (bd 0), .int a0] : List Value).toArray s 0 0 A) (F0 m 21 ls []) := by
          intro n21
          induction n21 with
          | zero =>
            intro τ x1 x2 x3 x4 H locs ls h hl hP hD hS
            rw [f_M_learn_21] at h
            cases h
          | succ n21 ih21 =>
            intro τ x1 x2 x3 x4 H locs ls h hl hP hD hS
            rw [f_M_learn_21] at h
            dsimp only at h
            refine lv_iload hx hb d_M_learn_21 (lv_at hl 4 rfl) ?_
            refine lv_bipush (v := 16) hx hb d_M_learn_23 (by decide) ?_
            refine lv_icmp_ge (tgt := 104) hx hb d_M_learn_25 (by decide) (fun hc39 => ?_) (fun hc39 => ?_)
            ·
              rw [if_pos hc39] at h
              refine lv_iinc (k := 3) (v := (x3 + 1)) (lv' := [(3, .int (x3 + 1)), (0, .ref (bd 0)), (1, .int x1), (2, .int x2), (4, .int x4)]) hx hb d_M_learn_104 hl rfl rfl (by decide) rfl (fun ls hl => ?_)
              refine lv_goto (tgt := 8) hx hb d_M_learn_107 (by decide) ?_
              exact ih8 _ _ _ _ _ _ _ h (lv_sub hl [1, 2, 3, 0] rfl) hP hD hS
            ·
              rw [if_neg hc39] at h
              refine lv_iload_n hx hb d_M_learn_28 rfl (lv_at hl 2 rfl) ?_
              refine lv_bipush (v := 16) hx hb d_M_learn_29 (by decide) ?_
              refine lv_iconst (v := 4) hx hb d_M_learn_31 (by decide) ?_
              refine lv_iload_n hx hb d_M_learn_32 rfl (lv_at hl 3 rfl) ?_
              refine lv_imul hx hb d_M_learn_33 ?_
              refine lv_iload hx hb d_M_learn_34 (lv_at hl 4 rfl) ?_
              refine lv_iconst (v := 4) hx hb d_M_learn_36 (by decide) ?_
              refine lv_idiv hx hb d_M_learn_37 (by decide) ?_
              refine lv_iadd hx hb d_M_learn_38 ?_
              refine lv_imul hx hb d_M_learn_39 ?_
              obtain ⟨i40, ei40, h⟩ := vq_let h
              refine vq_top ei40.symm ?_
              refine lv_iadd hx hb d_M_learn_40 ?_
              refine lv_iconst (v := 4) hx hb d_M_learn_41 (by decide) ?_
              refine lv_iload_n hx hb d_M_learn_42 rfl (lv_at hl 3 rfl) ?_
              refine lv_imul hx hb d_M_learn_43 ?_
              refine lv_iadd hx hb d_M_learn_44 ?_
              obtain ⟨i41, ei41, h⟩ := vq_let h
              refine vq_top ei41.symm ?_
              refine lv_iload hx hb d_M_learn_45 (lv_at hl 4 rfl) ?_
              refine lv_iconst (v := 4) hx hb d_M_learn_47 (by decide) ?_
              refine lv_irem hx hb d_M_learn_48 (by decide) ?_
              refine lv_iadd hx hb d_M_learn_49 ?_
              refine lv_istore (lv' := [(5, .int (i41 + (x4 - x4 / 4 * 4))), (0, .ref (bd 0)), (1, .int x1), (2, .int x2), (3, .int x3), (4, .int x4)]) hx hb d_M_learn_50 hl (by decide) rfl (fun ls hl => ?_)
              refine lv_aload_n hx hb d_M_learn_52 rfl (lv_at hl 1 rfl) ?_
              refine g_M_leads dC dI bd cb τ hx hb hts hown hK hP k_415 d_M_learn_53 ?_
              refine lv_iload hx hb d_M_learn_56 (lv_at hl 0 rfl) ?_
              refine lv_aload_n hx hb d_M_learn_58 rfl (lv_at hl 1 rfl) ?_
              refine g_M_leads dC dI bd cb τ hx hb hts hown hK hP k_415 d_M_learn_59 ?_
              refine lv_iload hx hb d_M_learn_62 (lv_at hl 0 rfl) ?_
              obtain ⟨hi42, h⟩ := vq_bd h
              refine al_M8 dC dI bd cb τ hx hb hts hown hK hP hi42 d_M_learn_64 ?_
              obtain ⟨i43, ei43, h⟩ := vq_let h
              refine vq_top ei43.symm ?_
              have J97 : ∀ (τ : vS) (x1 : Int32) (x2 : Int32) (x3 : Int32) (x4 : Int32) (y0 : Int32) (y1 : Int32) (H : Heap) (locs : List Loc) (ls : Array Slot), f_M_learn_97 N (f_M_learn_8 N n8) (f_M_learn_21 N (f_M_learn_8 N n8) n21) τ x1 x2 x3 x4 y0 y1 = some v → lv_has ls 8 [(0, .ref (bd 0)), (1, .int x1), (2, .int x2), (3, .int x3), (4, .int x4)] → va_P (dC, dI) CL (Mw bd cb τ) H → va_D A (Mw bd cb τ) → va_S A s.heap H locs → W p l e (headSpec WS ({ frames := 0, cells := 0, slots := 0, locals := 0 })).room s m ([.ref (bd 0), .int a0] : List Value).toArray below meth c H locs 0 0 (MQ below (va_Qi (fun (r : Int32) (_ : Unit) => r = v.1) (fun _ t => vq_Post (dC, dI) CL A (Mw bd cb v.2) (Mt cb) t) A) ([.ref (bd 0), .int a0] : List Value).toArray s 0 0 A) (F0 m 97 ls [.int y0, .int y1, .ref (bd 9)]) := by
                intro τ x1 x2 x3 x4 y0 y1 H locs ls h hl hP hD hS
                unfold f_M_learn_97 at h
                obtain ⟨hi44, h⟩ := vq_bd h
                refine as_M8 dC dI bd cb τ hx hb hts hown hK hP hD hS hi44 d_M_learn_97 (fun H locs hP hD hS => ?_)
                obtain ⟨σ45, eσ45, h⟩ := vq_let h
                rw [← eσ45] at hP hD
                refine lv_iinc (k := 4) (v := (x4 + 1)) (lv' := [(4, .int (x4 + 1)), (0, .ref (bd 0)), (1, .int x1), (2, .int x2), (3, .int x3)]) hx hb d_M_learn_98 hl rfl rfl (by decide) rfl (fun ls hl => ?_)
                refine lv_goto (tgt := 21) hx hb d_M_learn_101 (by decide) ?_
                exact ih21 _ _ _ _ _ _ _ _ h (lv_sub hl [1, 2, 3, 4, 0] rfl) hP hD hS
              have J92 : ∀ (τ : vS) (x1 : Int32) (x2 : Int32) (x3 : Int32) (x4 : Int32) (y0 : Int32) (H : Heap) (locs : List Loc) (ls : Array Slot), f_M_learn_92 N (f_M_learn_8 N n8) (f_M_learn_21 N (f_M_learn_8 N n8) n21) τ x1 x2 x3 x4 y0 = some v → lv_has ls 8 [(0, .ref (bd 0)), (1, .int x1), (2, .int x2), (3, .int x3), (4, .int x4)] → va_P (dC, dI) CL (Mw bd cb τ) H → va_D A (Mw bd cb τ) → va_S A s.heap H locs → W p l e (headSpec WS ({ frames := 0, cells := 0, slots := 0, locals := 0 })).room s m ([.ref (bd 0), .int a0] : List Value).toArray below meth c H locs 0 0 (MQ below (va_Qi (fun (r : Int32) (_ : Unit) => r = v.1) (fun _ t => vq_Post (dC, dI) CL A (Mw bd cb v.2) (Mt cb) t) A) ([.ref (bd 0), .int a0] : List Value).toArray s 0 0 A) (F0 m 92 ls [.int y0, .ref (bd 9)]) := by
                intro τ x1 x2 x3 x4 y0 H locs ls h hl hP hD hS
                unfold f_M_learn_92 at h
                refine lv_iconst (v := 1) hx hb d_M_learn_92 (by decide) ?_
                refine lv_goto (tgt := 97) hx hb d_M_learn_93 (by decide) ?_
                exact J97 _ _ _ _ _ _ _ _ _ _ h (lv_sub hl [0, 1, 2, 3, 4] rfl) hP hD hS
              refine lv_if_ne (tgt := 92) hx hb d_M_learn_65 (by decide) (fun hc46 => ?_) (fun hc46 => ?_)
              ·
                rw [if_neg hc46] at h
                exact J92 _ _ _ _ _ _ _ _ _ h (lv_sub hl [1, 2, 3, 4, 5] rfl) hP hD hS
              ·
                rw [if_pos hc46] at h
                refine lv_aload_n hx hb d_M_learn_68 rfl (lv_at hl 1 rfl) ?_
                refine g_M_symbolLeads dC dI bd cb τ hx hb hts hown hK hP k_419 d_M_learn_69 ?_
                refine lv_bipush (v := 16) hx hb d_M_learn_72 (by decide) ?_
                refine lv_aload_n hx hb d_M_learn_74 rfl (lv_at hl 1 rfl) ?_
                refine g_M_symbolAt dC dI bd cb τ hx hb hts hown hK hP k_384 d_M_learn_75 ?_
                refine lv_iconst (v := 4) hx hb d_M_learn_78 (by decide) ?_
                refine lv_iload_n hx hb d_M_learn_79 rfl (lv_at hl 2 rfl) ?_
                refine lv_imul hx hb d_M_learn_80 ?_
                refine lv_iload_n hx hb d_M_learn_81 rfl (lv_at hl 4 rfl) ?_
                refine lv_iadd hx hb d_M_learn_82 ?_
                obtain ⟨hi47, h⟩ := vq_bd h
                refine al_M3 dC dI bd cb τ hx hb hts hown hK hP hi47 d_M_learn_83 ?_
                obtain ⟨i48, ei48, h⟩ := vq_let h
                refine vq_top ei48.symm ?_
                refine lv_imul hx hb d_M_learn_84 ?_
                refine lv_iload hx hb d_M_learn_85 (lv_at hl 5 rfl) ?_
                refine lv_iadd hx hb d_M_learn_87 ?_
                obtain ⟨hi49, h⟩ := vq_bd h
                refine al_M9 dC dI bd cb τ hx hb hts hown hK hP hi49 d_M_learn_88 ?_
                obtain ⟨i50, ei50, h⟩ := vq_let h
                refine vq_top ei50.symm ?_
                refine lv_if_eq (tgt := 96) hx hb d_M_learn_89 (by decide) (fun hc51 => ?_) (fun hc51 => ?_)
                ·
                  rw [if_pos hc51] at h
                  refine lv_iconst (v := 0) hx hb d_M_learn_96 (by decide) ?_
                  exact J97 _ _ _ _ _ _ _ _ _ _ h (lv_sub hl [1, 2, 3, 4, 5] rfl) hP hD hS
                ·
                  rw [if_neg hc51] at h
                  exact J92 _ _ _ _ _ _ _ _ _ h (lv_sub hl [1, 2, 3, 4, 5] rfl) hP hD hS
        exact L21 N _ _ _ _ _ _ _ _ h (lv_sub hl [1, 2, 3, 4, 0] rfl) hP hD hS
  exact L8 N _ _ _ _ _ _ _ h (lv_sub hl [2, 3, 1, 0] rfl) hP hD hS

set_option maxHeartbeats 4000000 in
set_option maxRecDepth 100000 in
theorem c_M_circles (l : Launch) (htr : l.stackTraces = false) (dC : Nat → ClassId) (dI : Nat → Nat → Nat) (bd : Nat → Nat) (cb : Nat → ClassId) (N : Nat) (σ : vS) (v : Int32 × vS) (h : f_M_circles N σ = some v) (sz : Nat) : Met l y_M_circles WS ({ frames := 1, cells := 0, slots := 0, locals := 27 }) (va_Pc [.ref (bd 0)] (vq_Pre (dC, dI) CL sz (Mw bd cb σ) (Mt cb))) (va_Qi (fun (r : Int32) (_ : Unit) => r = v.1) (fun _ t => vq_Post (dC, dI) CL (va_A (Mw bd cb σ) sz) (Mw bd cb v.2) (Mt cb) t) (va_A (Mw bd cb σ) sz)) 0 0 (va_A (Mw bd cb σ) sz) := by
  refine vq_ofW (cc := prog_10_method_19_code) (maxL := 4) (ret := (Option.some Jvm.ClassFile.FieldType.boolean)) pl_M (vq_his k_421) ?_
  intro p e s m args below meth c s₁ B hml hv
  obtain ⟨rfl, hst, hsz, hP, hK, hD0⟩ := hv
  have hx := B.exec
  have hb := B.bytes
  have hr := B.returns
  have hts := atoms_spec (ws := WS) B.pre
  have hown : s.vm.findClass R_M = some m.cls := findClass_of_methodNamed B.named
  have hlocks := B.notSynchronized
  have hno := vq_noH B (hts _ k_421)
  subst hsz
  have hN := vq_ns hP
  have hD := hD0.self (sz := s.heap.size)
  generalize hAe : va_A (Mw bd cb σ) s.heap.size = A at hD hN ⊢
  have hA : ∀ q : Nat, s.heap.size ≤ q → A q := fun q h => by rw [← hAe]; exact Or.inr h
  have hS : va_S A s.heap s.heap [] := va_S.rf
  have hl := lv_entry ([.ref (bd 0)]) (n := 4) (Nat.le_of_ble_eq_true rfl)
  rw [lg_entry_eq]
  generalize (lg_sl ([.ref (bd 0)]) ++ List.replicate (4 - (lg_sl ([.ref (bd 0)])).length) Slot.unset).toArray = ls at hl ⊢
  have hl : lv_has ls 4 [(0, .ref (bd 0))] := hl
  unfold f_M_circles at h
  refine lv_iconst (v := 1) hx hb d_M_circles_0 (by decide) ?_
  refine lv_istore_n (lv' := [(1, .int 1), (0, .ref (bd 0))]) hx hb d_M_circles_1 rfl hl (by decide) rfl (fun ls hl => ?_)
  have L2 : ∀ n2 : Nat, ∀ (τ : vS) (x1 : Int32) (H : Heap) (locs : List Loc) (ls : Array Slot), f_M_circles_2 N n2 τ x1 = some v → lv_has ls 4 [(0, .ref (bd 0)), (1, .int x1)] → va_P (dC, dI) CL (Mw bd cb τ) H → va_D A (Mw bd cb τ) → va_S A s.heap H locs → W p l e (headSpec WS ({ frames := 1, cells := 0, slots := 0, locals := 27 })).room s m ([.ref (bd 0)] : List Value).toArray below meth c H locs 0 0 (MQ below (va_Qi (fun (r : Int32) (_ : Unit) => r = v.1) (fun _ t => vq_Post (dC, dI) CL A (Mw bd cb v.2) (Mt cb) t) A) ([.ref (bd 0)] : List Value).toArray s 0 0 A) (F0 m 2 ls []) := by
    intro n2
    induction n2 with
    | zero =>
      intro τ x1 H locs ls h hl hP hD hS
      rw [f_M_circles_2] at h
      cases h
    | succ n2 ih2 =>
      intro τ x1 H locs ls h hl hP hD hS
      rw [f_M_circles_2] at h
      dsimp only at h
      refine lv_iload_n hx hb d_M_circles_2 rfl (lv_at hl 1 rfl) ?_
      refine lv_if_eq (tgt := 37) hx hb d_M_circles_3 (by decide) (fun hc1 => ?_) (fun hc1 => ?_)
      ·
        rw [if_pos hc1] at h
        refine lv_iconst (v := 0) hx hb d_M_circles_37 (by decide) ?_
        refine lv_istore_n (lv' := [(2, .int 0), (0, .ref (bd 0)), (1, .int x1)]) hx hb d_M_circles_38 rfl hl (by decide) rfl (fun ls hl => ?_)
        have L39 : ∀ n39 : Nat, ∀ (τ : vS) (x2 : Int32) (H : Heap) (locs : List Loc) (ls : Array Slot), f_M_circles_39 N n39 τ x2 = some v → lv_has ls 4 [(0, .ref (bd 0)), (2, .int x2)] → va_P (dC, dI) CL (Mw bd cb τ) H → va_D A (Mw bd cb τ) → va_S A s.heap H locs → W p l e (headSpec WS ({ frames := 1, cells := 0, slots := 0, locals := 27 })).room s m ([.ref (bd 0)] : List Value).toArray below meth c H locs 0 0 (MQ below (va_Qi (fun (r : Int32) (_ : Unit) => r = v.1) (fun _ t => vq_Post (dC, dI) CL A (Mw bd cb v.2) (Mt cb) t) A) ([.ref (bd 0)] : List Value).toArray s 0 0 A) (F0 m 39 ls []) := by
          intro n39
          induction n39 with
          | zero =>
            intro τ x2 H locs ls h hl hP hD hS
            rw [f_M_circles_39] at h
            cases h
          | succ n39 ih39 =>
            intro τ x2 H locs ls h hl hP hD hS
            rw [f_M_circles_39] at h
            dsimp only at h
            refine lv_iload_n hx hb d_M_circles_39 rfl (lv_at hl 1 rfl) ?_
            refine lv_aload_n hx hb d_M_circles_40 rfl (lv_at hl 0 rfl) ?_
            refine g_M_productions dC dI bd cb τ hx hb hts hown hK hP k_383 d_M_circles_41 ?_
            refine lv_icmp_ge (tgt := 93) hx hb d_M_circles_44 (by decide) (fun hc2 => ?_) (fun hc2 => ?_)
            ·
              rw [if_pos hc2] at h
              refine lv_iconst (v := 0) hx hb d_M_circles_93 (by decide) ?_
              have h9 := Option.some.inj h
              rw [← h9]
              exact W.zret (v := 0) (ty := .boolean) hx hb hr (by decide) (fun t ht hW => ⟨⟨0, (), rfl, rfl, by rw [ht]; exact hP, va_K.moved hW.alike hK, hD⟩, hS.F ht⟩) hS.2.2 d_M_circles_94
            ·
              rw [if_neg hc2] at h
              refine lv_iconst (v := 0) hx hb d_M_circles_47 (by decide) ?_
              refine lv_istore_n (lv' := [(3, .int 0), (0, .ref (bd 0)), (2, .int x2)]) hx hb d_M_circles_48 rfl hl (by decide) rfl (fun ls hl => ?_)
              have L49 : ∀ n49 : Nat, ∀ (τ : vS) (x2 : Int32) (x3 : Int32) (H : Heap) (locs : List Loc) (ls : Array Slot), f_M_circles_49 N (f_M_circles_39 N n39) n49 τ x2 x3 = some v → lv_has ls 4 [(0, .ref (bd 0)), (2, .int x2), (3, .int x3)] → va_P (dC, dI) CL (Mw bd cb τ) H → va_D A (Mw bd cb τ) → va_S A s.heap H locs → W p l e (headSpec WS ({ frames := 1, cells := 0, slots := 0, locals := 27 })).room s m ([.ref (bd 0)] : List Value).toArray below meth c H locs 0 0 (MQ below (va_Qi (fun (r : Int32) (_ : Unit) => r = v.1) (fun _ t => vq_Post (dC, dI) CL A (Mw bd cb v.2) (Mt cb) t) A) ([.ref (bd 0)] : List Value).toArray s 0 0 A) (F0 m 49 ls []) := by
                intro n49
                induction n49 with
                | zero =>
                  intro τ x2 x3 H locs ls h hl hP hD hS
                  rw [f_M_circles_49] at h
                  cases h
                | succ n49 ih49 =>
                  intro τ x2 x3 H locs ls h hl hP hD hS
                  rw [f_M_circles_49] at h
                  dsimp only at h
                  refine lv_iload_n hx hb d_M_circles_49 rfl (lv_at hl 2 rfl) ?_
                  refine lv_bipush (v := 16) hx hb d_M_circles_50 (by decide) ?_
                  refine lv_icmp_ge (tgt := 87) hx hb d_M_circles_52 (by decide) (fun hc3 => ?_) (fun hc3 => ?_)
                  ·
                    rw [if_pos hc3] at h
                    refine lv_iinc (k := 1) (v := (x2 + 1)) (lv' := [(2, .int (x2 + 1)), (0, .ref (bd 0)), (3, .int x3)]) hx hb d_M_circles_87 hl rfl rfl (by decide) rfl (fun ls hl => ?_)
                    refine lv_goto (tgt := 39) hx hb d_M_circles_90 (by decide) ?_
                    exact ih39 _ _ _ _ _ h (lv_sub hl [1, 0] rfl) hP hD hS
                  ·
                    rw [if_neg hc3] at h
                    refine lv_aload_n hx hb d_M_circles_55 rfl (lv_at hl 0 rfl) ?_
                    refine g_M_leads dC dI bd cb τ hx hb hts hown hK hP k_415 d_M_circles_56 ?_
                    refine lv_sipush (v := 256) hx hb d_M_circles_59 (by decide) ?_
                    refine lv_iload_n hx hb d_M_circles_62 rfl (lv_at hl 1 rfl) ?_
                    refine lv_imul hx hb d_M_circles_63 ?_
                    refine lv_bipush (v := 17) hx hb d_M_circles_64 (by decide) ?_
                    refine lv_iload_n hx hb d_M_circles_66 rfl (lv_at hl 2 rfl) ?_
                    refine lv_imul hx hb d_M_circles_67 ?_
                    refine lv_iadd hx hb d_M_circles_68 ?_
                    obtain ⟨i4, ei4, h⟩ := vq_let h
                    refine vq_top ei4.symm ?_
                    obtain ⟨hi5, h⟩ := vq_bd h
                    refine al_M8 dC dI bd cb τ hx hb hts hown hK hP hi5 d_M_circles_69 ?_
                    obtain ⟨i6, ei6, h⟩ := vq_let h
                    refine vq_top ei6.symm ?_
                    refine lv_if_eq (tgt := 81) hx hb d_M_circles_70 (by decide) (fun hc7 => ?_) (fun hc7 => ?_)
                    ·
                      rw [if_pos hc7] at h
                      refine lv_iinc (k := 2) (v := (x3 + 1)) (lv' := [(3, .int (x3 + 1)), (0, .ref (bd 0)), (2, .int x2)]) hx hb d_M_circles_81 hl rfl rfl (by decide) rfl (fun ls hl => ?_)
                      refine lv_goto (tgt := 49) hx hb d_M_circles_84 (by decide) ?_
                      exact ih49 _ _ _ _ _ _ h (lv_sub hl [1, 2, 0] rfl) hP hD hS
                    ·
                      rw [if_neg hc7] at h
                      refine lv_aload_n hx hb d_M_circles_73 rfl (lv_at hl 0 rfl) ?_
                      refine lv_iconst (v := 2) hx hb d_M_circles_74 (by decide) ?_
                      refine lv_iload_n hx hb d_M_circles_75 rfl (lv_at hl 1 rfl) ?_
                      refine lv_iload_n hx hb d_M_circles_76 rfl (lv_at hl 2 rfl) ?_
                      obtain ⟨q8, h9, h⟩ := vq_bi h
                      have hFc := vq_freeAll hD hS hA
                      refine va_calli (va_runV (As := [.int 2, .int x2, .int x3]) (rest := []) ⟨hx, hb, hml, hown, hts⟩ (c_M_blame l htr dC dI bd cb N τ 2 x2 x3 q8 h9 H.size) (vq_cV WSk hts 3 rfl rfl ⟨by decide, by decide⟩ k_405 k_367 k_410 k_411 k_412 (by decide +kernel)) ⟨vq_blind, va_recv hK hP (ci := 8) (q0 := 0) rfl rfl, vq_here hst hS hN hP hK hD⟩ rfl rfl hl.1 rfl (lv_room (Nat.le_of_ble_eq_true rfl)) d_M_circles_77 ⟨by decide, by decide⟩) hS (fun q _ h => hFc q h) hFc (fun r u t H1 locs ht hvm hw hB hz1 hk1 hS => ?_)
                      obtain ⟨hP, -, hD1⟩ := hB
                      rw [ht] at hP
                      have hD := hD1.weaken (fun _ _ _ h => hFc _ h)
                      have hw : r = q8.1 := hw
                      subst hw
                      generalize H1 = H at hP hS ⊢
                      refine W.widen (k := 0) (n := 0) (by decide) (by decide) ?_
                      have h9 := Option.some.inj h
                      rw [← h9]
                      exact vq_zret hx hb hr (fun t ht hW => ⟨⟨_, (), rfl, rfl, by rw [ht]; exact hP, va_K.moved hW.alike hK, hD⟩, hS.F ht⟩) hS.2.2 d_M_circles_80
              exact L49 N _ _ _ _ _ _ h (lv_sub hl [1, 2, 0] rfl) hP hD hS
        exact L39 N _ _ _ _ _ h (lv_sub hl [1, 0] rfl) hP hD hS
      ·
        rw [if_neg hc1] at h
        refine lv_iconst (v := 0) hx hb d_M_circles_6 (by decide) ?_
        refine lv_istore_n (lv' := [(1, .int 0), (0, .ref (bd 0))]) hx hb d_M_circles_7 rfl hl (by decide) rfl (fun ls hl => ?_)
        refine lv_iconst (v := 0) hx hb d_M_circles_8 (by decide) ?_
        refine lv_istore_n (lv' := [(2, .int 0), (1, .int 0), (0, .ref (bd 0))]) hx hb d_M_circles_9 rfl hl (by decide) rfl (fun ls hl => ?_)
        have L10 : ∀ n10 : Nat, ∀ (τ : vS) (x1 : Int32) (x2 : Int32) (H : Heap) (locs : List Loc) (ls : Array Slot), f_M_circles_10 N (f_M_circles_2 N n2) n10 τ x1 x2 = some v → lv_has ls 4 [(0, .ref (bd 0)), (1, .int x1), (2, .int x2)] → va_P (dC, dI) CL (Mw bd cb τ) H → va_D A (Mw bd cb τ) → va_S A s.heap H locs → W p l e (headSpec WS ({ frames := 1, cells := 0, slots := 0, locals := 27 })).room s m ([.ref (bd 0)] : List Value).toArray below meth c H locs 0 0 (MQ below (va_Qi (fun (r : Int32) (_ : Unit) => r = v.1) (fun _ t => vq_Post (dC, dI) CL A (Mw bd cb v.2) (Mt cb) t) A) ([.ref (bd 0)] : List Value).toArray s 0 0 A) (F0 m 10 ls []) := by
          intro n10
          induction n10 with
          | zero =>
            intro τ x1 x2 H locs ls h hl hP hD hS
            rw [f_M_circles_10] at h
            cases h
          | succ n10 ih10 =>
            intro τ x1 x2 H locs ls h hl hP hD hS
            rw [f_M_circles_10] at h
            dsimp only at h
            refine lv_iload_n hx hb d_M_circles_10 rfl (lv_at hl 2 rfl) ?_
            refine lv_aload_n hx hb d_M_circles_11 rfl (lv_at hl 0 rfl) ?_
            refine g_M_productions dC dI bd cb τ hx hb hts hown hK hP k_383 d_M_circles_12 ?_
            refine lv_icmp_ge (tgt := 34) hx hb d_M_circles_15 (by decide) (fun hc10 => ?_) (fun hc10 => ?_)
            ·
              rw [if_pos hc10] at h
              refine lv_goto (tgt := 2) hx hb d_M_circles_34 (by decide) ?_
              exact ih2 _ _ _ _ _ h (lv_sub hl [0, 1] rfl) hP hD hS
            ·
              rw [if_neg hc10] at h
              refine lv_aload_n hx hb d_M_circles_18 rfl (lv_at hl 0 rfl) ?_
              refine lv_iload_n hx hb d_M_circles_19 rfl (lv_at hl 2 rfl) ?_
              obtain ⟨q11, h12, h⟩ := vq_bi h
              have hFc := vq_freeAll hD hS hA
              refine va_calli (va_runV (As := [.int x2]) (rest := []) ⟨hx, hb, hml, hown, hts⟩ (c_M_learn l htr dC dI bd cb N τ x2 q11 h12 H.size) (vq_cV WSk hts 1 rfl rfl ⟨by decide, by decide⟩ k_420 k_367 k_422 k_423 k_424 (by decide +kernel)) ⟨vq_blind, va_recv hK hP (ci := 8) (q0 := 0) rfl rfl, vq_here hst hS hN hP hK hD⟩ rfl rfl hl.1 rfl (lv_room (Nat.le_of_ble_eq_true rfl)) d_M_circles_20 ⟨by decide, by decide⟩) hS (fun q _ h => hFc q h) hFc (fun r u t H1 locs ht hvm hw hB hz1 hk1 hS => ?_)
              obtain ⟨hP, -, hD1⟩ := hB
              rw [ht] at hP
              have hD := hD1.weaken (fun _ _ _ h => hFc _ h)
              have hw : r = q11.1 := hw
              subst hw
              generalize H1 = H at hP hS ⊢
              refine W.widen (k := 0) (n := 0) (by decide) (by decide) ?_
              have J28 : ∀ (τ : vS) (x1 : Int32) (x2 : Int32) (H : Heap) (locs : List Loc) (ls : Array Slot), f_M_circles_28 N (f_M_circles_2 N n2) (f_M_circles_10 N (f_M_circles_2 N n2) n10) τ x1 x2 = some v → lv_has ls 4 [(0, .ref (bd 0)), (1, .int x1), (2, .int x2)] → va_P (dC, dI) CL (Mw bd cb τ) H → va_D A (Mw bd cb τ) → va_S A s.heap H locs → W p l e (headSpec WS ({ frames := 1, cells := 0, slots := 0, locals := 27 })).room s m ([.ref (bd 0)] : List Value).toArray below meth c H locs 0 0 (MQ below (va_Qi (fun (r : Int32) (_ : Unit) => r = v.1) (fun _ t => vq_Post (dC, dI) CL A (Mw bd cb v.2) (Mt cb) t) A) ([.ref (bd 0)] : List Value).toArray s 0 0 A) (F0 m 28 ls []) := by
                intro τ x1 x2 H locs ls h hl hP hD hS
                unfold f_M_circles_28 at h
                refine lv_iinc (k := 2) (v := (x2 + 1)) (lv' := [(2, .int (x2 + 1)), (0, .ref (bd 0)), (1, .int x1)]) hx hb d_M_circles_28 hl rfl rfl (by decide) rfl (fun ls hl => ?_)
                refine lv_goto (tgt := 10) hx hb d_M_circles_31 (by decide) ?_
                exact ih10 _ _ _ _ _ _ h (lv_sub hl [1, 2, 0] rfl) hP hD hS
              refine lv_if_eq (tgt := 28) hx hb d_M_circles_23 (by decide) (fun hc13 => ?_) (fun hc13 => ?_)
              ·
                rw [if_pos hc13] at h
                exact J28 _ _ _ _ _ _ h (lv_sub hl [0, 1, 2] rfl) hP hD hS
              ·
                rw [if_neg hc13] at h
                refine lv_iconst (v := 1) hx hb d_M_circles_26 (by decide) ?_
                refine lv_istore_n (lv' := [(1, .int 1), (0, .ref (bd 0)), (2, .int x2)]) hx hb d_M_circles_27 rfl hl (by decide) rfl (fun ls hl => ?_)
                exact J28 _ _ _ _ _ _ h (lv_sub hl [1, 0, 2] rfl) hP hD hS
        exact L10 N _ _ _ _ _ _ h (lv_sub hl [2, 1, 0] rfl) hP hD hS
  exact L2 N _ _ _ _ _ h (lv_sub hl [1, 0] rfl) hP hD hS

set_option maxHeartbeats 4000000 in
set_option maxRecDepth 100000 in
theorem c_M_reach (l : Launch) (htr : l.stackTraces = false) (dC : Nat → ClassId) (dI : Nat → Nat → Nat) (bd : Nat → Nat) (cb : Nat → ClassId) (N : Nat) (σ : vS) (a0 : Int32) (a1 : Int32) (v : Int32 × vS) (h : f_M_reach N σ a0 a1 = some v) (sz : Nat) : Met l y_M_reach WS ({ frames := 0, cells := 0, slots := 0, locals := 0 }) (va_Pc [.ref (bd 0), .int a0, .int a1] (vq_Pre (dC, dI) CL sz (Mw bd cb σ) (Mt cb))) (va_Qi (fun (r : Int32) (_ : Unit) => r = v.1) (fun _ t => vq_Post (dC, dI) CL (va_A (Mw bd cb σ) sz) (Mw bd cb v.2) (Mt cb) t) (va_A (Mw bd cb σ) sz)) 0 0 (va_A (Mw bd cb σ) sz) := by
  refine vq_ofW (cc := prog_10_method_20_code) (maxL := 5) (ret := (Option.some Jvm.ClassFile.FieldType.int)) pl_M (vq_his k_425) ?_
  intro p e s m args below meth c s₁ B hml hv
  obtain ⟨rfl, hst, hsz, hP, hK, hD0⟩ := hv
  have hx := B.exec
  have hb := B.bytes
  have hr := B.returns
  have hts := atoms_spec (ws := WS) B.pre
  have hown : s.vm.findClass R_M = some m.cls := findClass_of_methodNamed B.named
  have hlocks := B.notSynchronized
  have hno := vq_noH B (hts _ k_425)
  subst hsz
  have hN := vq_ns hP
  have hD := hD0.self (sz := s.heap.size)
  generalize hAe : va_A (Mw bd cb σ) s.heap.size = A at hD hN ⊢
  have hA : ∀ q : Nat, s.heap.size ≤ q → A q := fun q h => by rw [← hAe]; exact Or.inr h
  have hS : va_S A s.heap s.heap [] := va_S.rf
  have hl := lv_entry ([.ref (bd 0), .int a0, .int a1]) (n := 5) (Nat.le_of_ble_eq_true rfl)
  rw [lg_entry_eq]
  generalize (lg_sl ([.ref (bd 0), .int a0, .int a1]) ++ List.replicate (5 - (lg_sl ([.ref (bd 0), .int a0, .int a1])).length) Slot.unset).toArray = ls at hl ⊢
  have hl : lv_has ls 5 [(0, .ref (bd 0)), (1, .int a0), (2, .int a1)] := hl
  unfold f_M_reach at h
  refine lv_iconst (v := 0) hx hb d_M_reach_0 (by decide) ?_
  refine lv_istore_n (lv' := [(3, .int 0), (0, .ref (bd 0)), (1, .int a0), (2, .int a1)]) hx hb d_M_reach_1 rfl hl (by decide) rfl (fun ls hl => ?_)
  refine lv_iconst (v := 0) hx hb d_M_reach_2 (by decide) ?_
  refine lv_istore (lv' := [(4, .int 0), (3, .int 0), (0, .ref (bd 0)), (1, .int a0), (2, .int a1)]) hx hb d_M_reach_3 hl (by decide) rfl (fun ls hl => ?_)
  have L5 : ∀ n5 : Nat, ∀ (τ : vS) (x1 : Int32) (x2 : Int32) (x3 : Int32) (x4 : Int32) (H : Heap) (locs : List Loc) (ls : Array Slot), f_M_reach_5 N n5 τ x1 x2 x3 x4 = some v → lv_has ls 5 [(0, .ref (bd 0)), (1, .int x1), (2, .int x2), (3, .int x3), (4, .int x4)] → va_P (dC, dI) CL (Mw bd cb τ) H → va_D A (Mw bd cb τ) → va_S A s.heap H locs → W p l e (headSpec WS ({ frames := 0, cells := 0, slots := 0, locals := 0 })).room s m ([.ref (bd 0), .int a0, .int a1] : List Value).toArray below meth c H locs 0 0 (MQ below (va_Qi (fun (r : Int32) (_ : Unit) => r = v.1) (fun _ t => vq_Post (dC, dI) CL A (Mw bd cb v.2) (Mt cb) t) A) ([.ref (bd 0), .int a0, .int a1] : List Value).toArray s 0 0 A) (F0 m 5 ls []) := by
    intro n5
    induction n5 with
    | zero =>
      intro τ x1 x2 x3 x4 H locs ls h hl hP hD hS
      rw [f_M_reach_5] at h
      cases h
    | succ n5 ih5 =>
      intro τ x1 x2 x3 x4 H locs ls h hl hP hD hS
      rw [f_M_reach_5] at h
      dsimp only at h
      refine lv_iload hx hb d_M_reach_5 (lv_at hl 4 rfl) ?_
      refine lv_iconst (v := 4) hx hb d_M_reach_7 (by decide) ?_
      refine lv_icmp_ge (tgt := 44) hx hb d_M_reach_8 (by decide) (fun hc1 => ?_) (fun hc1 => ?_)
      ·
        rw [if_pos hc1] at h
        refine lv_iload_n hx hb d_M_reach_44 rfl (lv_at hl 3 rfl) ?_
        have h9 := Option.some.inj h
        rw [← h9]
        exact W.iret (v := x3) hx hb hr (fun t ht hW => ⟨⟨x3, (), rfl, rfl, by rw [ht]; exact hP, va_K.moved hW.alike hK, hD⟩, hS.F ht⟩) hS.2.2 d_M_reach_45
      ·
        rw [if_neg hc1] at h
        refine lv_iload_n hx hb d_M_reach_11 rfl (lv_at hl 3 rfl) ?_
        refine lv_aload_n hx hb d_M_reach_12 rfl (lv_at hl 0 rfl) ?_
        refine g_M_symbolLeads dC dI bd cb τ hx hb hts hown hK hP k_419 d_M_reach_13 ?_
        refine lv_bipush (v := 16) hx hb d_M_reach_16 (by decide) ?_
        refine lv_iload_n hx hb d_M_reach_18 rfl (lv_at hl 1 rfl) ?_
        refine lv_imul hx hb d_M_reach_19 ?_
        refine lv_iconst (v := 4) hx hb d_M_reach_20 (by decide) ?_
        refine lv_iload_n hx hb d_M_reach_21 rfl (lv_at hl 2 rfl) ?_
        refine lv_imul hx hb d_M_reach_22 ?_
        refine lv_iadd hx hb d_M_reach_23 ?_
        obtain ⟨i2, ei2, h⟩ := vq_let h
        refine vq_top ei2.symm ?_
        refine lv_iload hx hb d_M_reach_24 (lv_at hl 4 rfl) ?_
        refine lv_iadd hx hb d_M_reach_26 ?_
        obtain ⟨hi3, h⟩ := vq_bd h
        refine al_M9 dC dI bd cb τ hx hb hts hown hK hP hi3 d_M_reach_27 ?_
        obtain ⟨i4, ei4, h⟩ := vq_let h
        refine vq_top ei4.symm ?_
        have J36 : ∀ (τ : vS) (x1 : Int32) (x2 : Int32) (x4 : Int32) (y0 : Int32) (y1 : Int32) (H : Heap) (locs : List Loc) (ls : Array Slot), f_M_reach_36 N (f_M_reach_5 N n5) τ x1 x2 x4 y0 y1 = some v → lv_has ls 5 [(0, .ref (bd 0)), (1, .int x1), (2, .int x2), (4, .int x4)] → va_P (dC, dI) CL (Mw bd cb τ) H → va_D A (Mw bd cb τ) → va_S A s.heap H locs → W p l e (headSpec WS ({ frames := 0, cells := 0, slots := 0, locals := 0 })).room s m ([.ref (bd 0), .int a0, .int a1] : List Value).toArray below meth c H locs 0 0 (MQ below (va_Qi (fun (r : Int32) (_ : Unit) => r = v.1) (fun _ t => vq_Post (dC, dI) CL A (Mw bd cb v.2) (Mt cb) t) A) ([.ref (bd 0), .int a0, .int a1] : List Value).toArray s 0 0 A) (F0 m 36 ls [.int y0, .int y1]) := by
          intro τ x1 x2 x4 y0 y1 H locs ls h hl hP hD hS
          unfold f_M_reach_36 at h
          refine lv_iadd hx hb d_M_reach_36 ?_
          refine lv_istore_n (lv' := [(3, .int (y1 + y0)), (0, .ref (bd 0)), (1, .int x1), (2, .int x2), (4, .int x4)]) hx hb d_M_reach_37 rfl hl (by decide) rfl (fun ls hl => ?_)
          refine lv_iinc (k := 4) (v := (x4 + 1)) (lv' := [(4, .int (x4 + 1)), (3, .int (y1 + y0)), (0, .ref (bd 0)), (1, .int x1), (2, .int x2)]) hx hb d_M_reach_38 hl rfl rfl (by decide) rfl (fun ls hl => ?_)
          refine lv_goto (tgt := 5) hx hb d_M_reach_41 (by decide) ?_
          exact ih5 _ _ _ _ _ _ _ _ h (lv_sub hl [2, 3, 4, 1, 0] rfl) hP hD hS
        refine lv_if_eq (tgt := 35) hx hb d_M_reach_28 (by decide) (fun hc5 => ?_) (fun hc5 => ?_)
        ·
          rw [if_pos hc5] at h
          refine lv_iconst (v := 0) hx hb d_M_reach_35 (by decide) ?_
          exact J36 _ _ _ _ _ _ _ _ _ h (lv_sub hl [0, 1, 2, 4] rfl) hP hD hS
        ·
          rw [if_neg hc5] at h
          refine lv_iconst (v := 1) hx hb d_M_reach_31 (by decide) ?_
          refine lv_goto (tgt := 36) hx hb d_M_reach_32 (by decide) ?_
          exact J36 _ _ _ _ _ _ _ _ _ h (lv_sub hl [0, 1, 2, 4] rfl) hP hD hS
  exact L5 N _ _ _ _ _ _ _ _ h (lv_sub hl [2, 3, 4, 1, 0] rfl) hP hD hS

set_option maxHeartbeats 4000000 in
set_option maxRecDepth 100000 in
theorem c_M_rankAll (l : Launch) (htr : l.stackTraces = false) (dC : Nat → ClassId) (dI : Nat → Nat → Nat) (bd : Nat → Nat) (cb : Nat → ClassId) (N : Nat) (σ : vS) (a0 : Int32) (v : Int32 × vS) (h : f_M_rankAll N σ a0 = some v) (sz : Nat) : Met l y_M_rankAll WS ({ frames := 1, cells := 0, slots := 0, locals := 24 }) (va_Pc [.ref (bd 0), .int a0] (vq_Pre (dC, dI) CL sz (Mw bd cb σ) (Mt cb))) (va_Qv (fun _ : Unit => True) (fun _ t => vq_Post (dC, dI) CL (va_A (Mw bd cb σ) sz) (Mw bd cb v.2) (Mt cb) t) (va_A (Mw bd cb σ) sz)) 0 0 (va_A (Mw bd cb σ) sz) := by
  refine vq_ofW (cc := prog_10_method_21_code) (maxL := 7) (ret := (Option.none : Option Jvm.ClassFile.FieldType)) pl_M (vq_his k_426) ?_
  intro p e s m args below meth c s₁ B hml hv
  obtain ⟨rfl, hst, hsz, hP, hK, hD0⟩ := hv
  have hx := B.exec
  have hb := B.bytes
  have hr := B.returns
  have hts := atoms_spec (ws := WS) B.pre
  have hown : s.vm.findClass R_M = some m.cls := findClass_of_methodNamed B.named
  have hlocks := B.notSynchronized
  have hno := vq_noH B (hts _ k_426)
  subst hsz
  have hN := vq_ns hP
  have hD := hD0.self (sz := s.heap.size)
  generalize hAe : va_A (Mw bd cb σ) s.heap.size = A at hD hN ⊢
  have hA : ∀ q : Nat, s.heap.size ≤ q → A q := fun q h => by rw [← hAe]; exact Or.inr h
  have hS : va_S A s.heap s.heap [] := va_S.rf
  have hl := lv_entry ([.ref (bd 0), .int a0]) (n := 7) (Nat.le_of_ble_eq_true rfl)
  rw [lg_entry_eq]
  generalize (lg_sl ([.ref (bd 0), .int a0]) ++ List.replicate (7 - (lg_sl ([.ref (bd 0), .int a0])).length) Slot.unset).toArray = ls at hl ⊢
  have hl : lv_has ls 7 [(0, .ref (bd 0)), (1, .int a0)] := hl
  unfold f_M_rankAll at h
  refine lv_iconst (v := 1) hx hb d_M_rankAll_0 (by decide) ?_
  refine lv_istore_n (lv' := [(2, .int 1), (0, .ref (bd 0)), (1, .int a0)]) hx hb d_M_rankAll_1 rfl hl (by decide) rfl (fun ls hl => ?_)
  refine lv_iconst (v := 0) hx hb d_M_rankAll_2 (by decide) ?_
  refine lv_istore_n (lv' := [(3, .int 0), (2, .int 1), (0, .ref (bd 0)), (1, .int a0)]) hx hb d_M_rankAll_3 rfl hl (by decide) rfl (fun ls hl => ?_)
  have L4 : ∀ n4 : Nat, ∀ (τ : vS) (x1 : Int32) (x2 : Int32) (x3 : Int32) (H : Heap) (locs : List Loc) (ls : Array Slot), f_M_rankAll_4 N n4 τ x1 x2 x3 = some v → lv_has ls 7 [(0, .ref (bd 0)), (1, .int x1), (2, .int x2), (3, .int x3)] → va_P (dC, dI) CL (Mw bd cb τ) H → va_D A (Mw bd cb τ) → va_S A s.heap H locs → W p l e (headSpec WS ({ frames := 1, cells := 0, slots := 0, locals := 24 })).room s m ([.ref (bd 0), .int a0] : List Value).toArray below meth c H locs 0 0 (MQ below (va_Qv (fun _ : Unit => True) (fun _ t => vq_Post (dC, dI) CL A (Mw bd cb v.2) (Mt cb) t) A) ([.ref (bd 0), .int a0] : List Value).toArray s 0 0 A) (F0 m 4 ls []) := by
    intro n4
    induction n4 with
    | zero =>
      intro τ x1 x2 x3 H locs ls h hl hP hD hS
      rw [f_M_rankAll_4] at h
      cases h
    | succ n4 ih4 =>
      intro τ x1 x2 x3 H locs ls h hl hP hD hS
      rw [f_M_rankAll_4] at h
      dsimp only at h
      refine lv_iload_n hx hb d_M_rankAll_4 rfl (lv_at hl 3 rfl) ?_
      refine lv_iconst (v := 4) hx hb d_M_rankAll_5 (by decide) ?_
      refine lv_icmp_ge (tgt := 211) hx hb d_M_rankAll_6 (by decide) (fun hc1 => ?_) (fun hc1 => ?_)
      ·
        rw [if_pos hc1] at h
        refine lv_aload_n hx hb d_M_rankAll_211 rfl (lv_at hl 0 rfl) ?_
        refine g_M_visits dC dI bd cb τ hx hb hts hown hK hP k_427 d_M_rankAll_212 ?_
        refine lv_iload_n hx hb d_M_rankAll_215 rfl (lv_at hl 1 rfl) ?_
        refine lv_iload_n hx hb d_M_rankAll_216 rfl (lv_at hl 2 rfl) ?_
        refine lv_iconst (v := 1) hx hb d_M_rankAll_217 (by decide) ?_
        refine lv_iadd hx hb d_M_rankAll_218 ?_
        refine lv_iconst (v := 2) hx hb d_M_rankAll_219 (by decide) ?_
        refine lv_idiv hx hb d_M_rankAll_220 (by decide) ?_
        obtain ⟨hi2, h⟩ := vq_bd h
        refine as_M12 dC dI bd cb τ hx hb hts hown hK hP hD hS hi2 d_M_rankAll_221 (fun H locs hP hD hS => ?_)
        obtain ⟨σ3, eσ3, h⟩ := vq_let h
        rw [← eσ3] at hP hD
        have h9 := Option.some.inj h
        rw [← h9]
        exact W.vret hx hb hr (fun t ht hW => ⟨⟨(), rfl, trivial, by rw [ht]; exact hP, va_K.moved hW.alike hK, hD⟩, hS.F ht⟩) hS.2.2 d_M_rankAll_222
      ·
        rw [if_neg hc1] at h
        refine lv_iconst (v := 0) hx hb d_M_rankAll_9 (by decide) ?_
        refine lv_istore (lv' := [(4, .int 0), (0, .ref (bd 0)), (1, .int x1), (2, .int x2), (3, .int x3)]) hx hb d_M_rankAll_10 hl (by decide) rfl (fun ls hl => ?_)
        have L12 : ∀ n12 : Nat, ∀ (τ : vS) (x1 : Int32) (x2 : Int32) (x3 : Int32) (x4 : Int32) (H : Heap) (locs : List Loc) (ls : Array Slot), f_M_rankAll_12 N (f_M_rankAll_4 N n4) n12 τ x1 x2 x3 x4 = some v → lv_has ls 7 [(0, .ref (bd 0)), (1, .int x1), (2, .int x2), (3, .int x3), (4, .int x4)] → va_P (dC, dI) CL (Mw bd cb τ) H → va_D A (Mw bd cb τ) → va_S A s.heap H locs → W p l e (headSpec WS ({ frames := 1, cells := 0, slots := 0, locals := 24 })).room s m ([.ref (bd 0), .int a0] : List Value).toArray below meth c H locs 0 0 (MQ below (va_Qv (fun _ : Unit => True) (fun _ t => vq_Post (dC, dI) CL A (Mw bd cb v.2) (Mt cb) t) A) ([.ref (bd 0), .int a0] : List Value).toArray s 0 0 A) (F0 m 12 ls []) := by
          intro n12
          induction n12 with
          | zero =>
            intro τ x1 x2 x3 x4 H locs ls h hl hP hD hS
            rw [f_M_rankAll_12] at h
            cases h
          | succ n12 ih12 =>
            intro τ x1 x2 x3 x4 H locs ls h hl hP hD hS
            rw [f_M_rankAll_12] at h
            dsimp only at h
            refine lv_iload hx hb d_M_rankAll_12 (lv_at hl 4 rfl) ?_
            refine lv_aload_n hx hb d_M_rankAll_14 rfl (lv_at hl 0 rfl) ?_
            refine g_M_attributes dC dI bd cb τ hx hb hts hown hK hP k_372 d_M_rankAll_15 ?_
            refine lv_iload_n hx hb d_M_rankAll_18 rfl (lv_at hl 1 rfl) ?_
            obtain ⟨hi4, h⟩ := vq_bd h
            refine al_M0 dC dI bd cb τ hx hb hts hown hK hP hi4 d_M_rankAll_19 ?_
            obtain ⟨i5, ei5, h⟩ := vq_let h
            refine vq_top ei5.symm ?_
            refine lv_icmp_ge (tgt := 205) hx hb d_M_rankAll_20 (by decide) (fun hc6 => ?_) (fun hc6 => ?_)
            ·
              rw [if_pos hc6] at h
              refine lv_iinc (k := 3) (v := (x3 + 1)) (lv' := [(3, .int (x3 + 1)), (0, .ref (bd 0)), (1, .int x1), (2, .int x2), (4, .int x4)]) hx hb d_M_rankAll_205 hl rfl rfl (by decide) rfl (fun ls hl => ?_)
              refine lv_goto (tgt := 4) hx hb d_M_rankAll_208 (by decide) ?_
              exact ih4 _ _ _ _ _ _ _ h (lv_sub hl [1, 2, 3, 0] rfl) hP hD hS
            ·
              rw [if_neg hc6] at h
              refine lv_aload_n hx hb d_M_rankAll_23 rfl (lv_at hl 0 rfl) ?_
              refine lv_iload_n hx hb d_M_rankAll_24 rfl (lv_at hl 1 rfl) ?_
              refine lv_iload hx hb d_M_rankAll_25 (lv_at hl 4 rfl) ?_
              obtain ⟨q7, h8, h⟩ := vq_bi h
              have hFc := vq_freeAll hD hS hA
              refine va_calli (va_runV (As := [.int x1, .int x4]) (rest := []) ⟨hx, hb, hml, hown, hts⟩ (c_M_reach l htr dC dI bd cb N τ x1 x4 q7 h8 H.size) (vq_cV WSk hts 2 rfl rfl ⟨by decide, by decide⟩ k_425 k_367 k_428 k_429 k_430 (by decide +kernel)) ⟨vq_blind, va_recv hK hP (ci := 8) (q0 := 0) rfl rfl, vq_here hst hS hN hP hK hD⟩ rfl rfl hl.1 rfl (lv_room (Nat.le_of_ble_eq_true rfl)) d_M_rankAll_27 ⟨by decide, by decide⟩) hS (fun q _ h => hFc q h) hFc (fun r u t H1 locs ht hvm hw hB hz1 hk1 hS => ?_)
              obtain ⟨hP, -, hD1⟩ := hB
              rw [ht] at hP
              have hD := hD1.weaken (fun _ _ _ h => hFc _ h)
              have hw : r = q7.1 := hw
              subst hw
              generalize H1 = H at hP hS ⊢
              refine W.widen (k := 0) (n := 0) (by decide) (by decide) ?_
              refine lv_iload_n hx hb d_M_rankAll_30 rfl (lv_at hl 3 rfl) ?_
              have J199 : ∀ (τ : vS) (x1 : Int32) (x2 : Int32) (x3 : Int32) (x4 : Int32) (H : Heap) (locs : List Loc) (ls : Array Slot), f_M_rankAll_199 N (f_M_rankAll_4 N n4) (f_M_rankAll_12 N (f_M_rankAll_4 N n4) n12) τ x1 x2 x3 x4 = some v → lv_has ls 7 [(0, .ref (bd 0)), (1, .int x1), (2, .int x2), (3, .int x3), (4, .int x4)] → va_P (dC, dI) CL (Mw bd cb τ) H → va_D A (Mw bd cb τ) → va_S A s.heap H locs → W p l e (headSpec WS ({ frames := 1, cells := 0, slots := 0, locals := 24 })).room s m ([.ref (bd 0), .int a0] : List Value).toArray below meth c H locs 0 0 (MQ below (va_Qv (fun _ : Unit => True) (fun _ t => vq_Post (dC, dI) CL A (Mw bd cb v.2) (Mt cb) t) A) ([.ref (bd 0), .int a0] : List Value).toArray s 0 0 A) (F0 m 199 ls []) := by
                intro τ x1 x2 x3 x4 H locs ls h hl hP hD hS
                unfold f_M_rankAll_199 at h
                refine lv_iinc (k := 4) (v := (x4 + 1)) (lv' := [(4, .int (x4 + 1)), (0, .ref (bd 0)), (1, .int x1), (2, .int x2), (3, .int x3)]) hx hb d_M_rankAll_199 hl rfl rfl (by decide) rfl (fun ls hl => ?_)
                refine lv_goto (tgt := 12) hx hb d_M_rankAll_202 (by decide) ?_
                exact ih12 _ _ _ _ _ _ _ _ h (lv_sub hl [1, 2, 3, 4, 0] rfl) hP hD hS
              refine lv_icmp_eq (tgt := 37) hx hb d_M_rankAll_31 (by decide) (fun hc9 => ?_) (fun hc9 => ?_)
              ·
                rw [if_pos hc9] at h
                refine lv_iconst (v := 1) hx hb d_M_rankAll_37 (by decide) ?_
                refine lv_istore (lv' := [(5, .int 1), (0, .ref (bd 0)), (1, .int x1), (2, .int x2), (3, .int x3), (4, .int x4)]) hx hb d_M_rankAll_38 hl (by decide) rfl (fun ls hl => ?_)
                refine lv_iconst (v := 0) hx hb d_M_rankAll_40 (by decide) ?_
                refine lv_istore (lv' := [(6, .int 0), (5, .int 1), (0, .ref (bd 0)), (1, .int x1), (2, .int x2), (3, .int x3), (4, .int x4)]) hx hb d_M_rankAll_41 hl (by decide) rfl (fun ls hl => ?_)
                have L43 : ∀ n43 : Nat, ∀ (τ : vS) (x1 : Int32) (x2 : Int32) (x3 : Int32) (x4 : Int32) (x5 : Int32) (x6 : Int32) (H : Heap) (locs : List Loc) (ls : Array Slot), f_M_rankAll_43 N (f_M_rankAll_4 N n4) (f_M_rankAll_12 N (f_M_rankAll_4 N n4) n12) n43 τ x1 x2 x3 x4 x5 x6 = some v → lv_has ls 7 [(0, .ref (bd 0)), (1, .int x1), (2, .int x2), (3, .int x3), (4, .int x4), (5, .int x5), (6, .int x6)] → va_P (dC, dI) CL (Mw bd cb τ) H → va_D A (Mw bd cb τ) → va_S A s.heap H locs → W p l e (headSpec WS ({ frames := 1, cells := 0, slots := 0, locals := 24 })).room s m ([.ref (bd 0), .int a0] : List Value).toArray below meth c H locs 0 0 (MQ below (va_Qv (fun _ : Unit => True) (fun _ t => vq_Post (dC, dI) CL A (Mw bd cb v.2) (Mt cb) t) A) ([.ref (bd 0), .int a0] : List Value).toArray s 0 0 A) (F0 m 43 ls []) := by
                  intro n43
                  induction n43 with
                  | zero =>
                    intro τ x1 x2 x3 x4 x5 x6 H locs ls h hl hP hD hS
                    rw [f_M_rankAll_43] at h
                    cases h
                  | succ n43 ih43 =>
                    intro τ x1 x2 x3 x4 x5 x6 H locs ls h hl hP hD hS
                    rw [f_M_rankAll_43] at h
                    dsimp only at h
                    refine lv_iload hx hb d_M_rankAll_43 (lv_at hl 6 rfl) ?_
                    refine lv_iconst (v := 4) hx hb d_M_rankAll_45 (by decide) ?_
                    refine lv_icmp_ge (tgt := 109) hx hb d_M_rankAll_46 (by decide) (fun hc10 => ?_) (fun hc10 => ?_)
                    ·
                      rw [if_pos hc10] at h
                      refine lv_aload_n hx hb d_M_rankAll_109 rfl (lv_at hl 0 rfl) ?_
                      refine g_M_inherits dC dI bd cb τ hx hb hts hown hK hP k_377 d_M_rankAll_110 ?_
                      refine lv_iconst (v := 4) hx hb d_M_rankAll_113 (by decide) ?_
                      refine lv_iload_n hx hb d_M_rankAll_114 rfl (lv_at hl 1 rfl) ?_
                      refine lv_imul hx hb d_M_rankAll_115 ?_
                      refine lv_iload hx hb d_M_rankAll_116 (lv_at hl 4 rfl) ?_
                      refine lv_iadd hx hb d_M_rankAll_118 ?_
                      obtain ⟨hi11, h⟩ := vq_bd h
                      refine al_M1 dC dI bd cb τ hx hb hts hown hK hP hi11 d_M_rankAll_119 ?_
                      obtain ⟨i12, ei12, h⟩ := vq_let h
                      refine vq_top ei12.symm ?_
                      have J128 : ∀ (τ : vS) (x1 : Int32) (x2 : Int32) (x3 : Int32) (x4 : Int32) (x5 : Int32) (y0 : Int32) (H : Heap) (locs : List Loc) (ls : Array Slot), f_M_rankAll_128 N (f_M_rankAll_4 N n4) (f_M_rankAll_12 N (f_M_rankAll_4 N n4) n12) τ x1 x2 x3 x4 x5 y0 = some v → lv_has ls 7 [(0, .ref (bd 0)), (1, .int x1), (2, .int x2), (3, .int x3), (4, .int x4), (5, .int x5)] → va_P (dC, dI) CL (Mw bd cb τ) H → va_D A (Mw bd cb τ) → va_S A s.heap H locs → W p l e (headSpec WS ({ frames := 1, cells := 0, slots := 0, locals := 24 })).room s m ([.ref (bd 0), .int a0] : List Value).toArray below meth c H locs 0 0 (MQ below (va_Qv (fun _ : Unit => True) (fun _ t => vq_Post (dC, dI) CL A (Mw bd cb v.2) (Mt cb) t) A) ([.ref (bd 0), .int a0] : List Value).toArray s 0 0 A) (F0 m 128 ls [.int y0]) := by
                        intro τ x1 x2 x3 x4 x5 y0 H locs ls h hl hP hD hS
                        unfold f_M_rankAll_128 at h
                        refine lv_istore (lv' := [(6, .int y0), (0, .ref (bd 0)), (1, .int x1), (2, .int x2), (3, .int x3), (4, .int x4), (5, .int x5)]) hx hb d_M_rankAll_128 hl (by decide) rfl (fun ls hl => ?_)
                        refine lv_aload_n hx hb d_M_rankAll_130 rfl (lv_at hl 1 rfl) ?_
                        refine g_M_rank dC dI bd cb τ hx hb hts hown hK hP k_431 d_M_rankAll_131 ?_
                        refine lv_iconst (v := 4) hx hb d_M_rankAll_134 (by decide) ?_
                        refine lv_iload_n hx hb d_M_rankAll_135 rfl (lv_at hl 2 rfl) ?_
                        refine lv_imul hx hb d_M_rankAll_136 ?_
                        refine lv_iload hx hb d_M_rankAll_137 (lv_at hl 5 rfl) ?_
                        refine lv_iadd hx hb d_M_rankAll_139 ?_
                        refine lv_iload hx hb d_M_rankAll_140 (lv_at hl 6 rfl) ?_
                        refine lv_iconst (v := 2) hx hb d_M_rankAll_142 (by decide) ?_
                        refine lv_irem hx hb d_M_rankAll_143 (by decide) ?_
                        refine lv_iconst (v := 1) hx hb d_M_rankAll_144 (by decide) ?_
                        have J153 : ∀ (τ : vS) (x1 : Int32) (x2 : Int32) (x3 : Int32) (x4 : Int32) (x5 : Int32) (x6 : Int32) (y0 : Int32) (y1 : Int32) (H : Heap) (locs : List Loc) (ls : Array Slot), f_M_rankAll_153 N (f_M_rankAll_4 N n4) (f_M_rankAll_12 N (f_M_rankAll_4 N n4) n12) τ x1 x2 x3 x4 x5 x6 y0 y1 = some v → lv_has ls 7 [(0, .ref (bd 0)), (1, .int x1), (2, .int x2), (3, .int x3), (4, .int x4), (5, .int x5), (6, .int x6)] → va_P (dC, dI) CL (Mw bd cb τ) H → va_D A (Mw bd cb τ) → va_S A s.heap H locs → W p l e (headSpec WS ({ frames := 1, cells := 0, slots := 0, locals := 24 })).room s m ([.ref (bd 0), .int a0] : List Value).toArray below meth c H locs 0 0 (MQ below (va_Qv (fun _ : Unit => True) (fun _ t => vq_Post (dC, dI) CL A (Mw bd cb v.2) (Mt cb) t) A) ([.ref (bd 0), .int a0] : List Value).toArray s 0 0 A) (F0 m 153 ls [.int y0, .int y1, .ref (bd 12)]) := by
                          intro τ x1 x2 x3 x4 x5 x6 y0 y1 H locs ls h hl hP hD hS
                          unfold f_M_rankAll_153 at h
                          refine lv_iload hx hb d_M_rankAll_153 (lv_at hl 6 rfl) ?_
                          have J167 : ∀ (τ : vS) (x1 : Int32) (x2 : Int32) (x3 : Int32) (x4 : Int32) (y0 : Int32) (y1 : Int32) (H : Heap) (locs : List Loc) (ls : Array Slot), f_M_rankAll_167 N (f_M_rankAll_4 N n4) (f_M_rankAll_12 N (f_M_rankAll_4 N n4) n12) τ x1 x2 x3 x4 y0 y1 = some v → lv_has ls 7 [(0, .ref (bd 0)), (1, .int x1), (2, .int x2), (3, .int x3), (4, .int x4)] → va_P (dC, dI) CL (Mw bd cb τ) H → va_D A (Mw bd cb τ) → va_S A s.heap H locs → W p l e (headSpec WS ({ frames := 1, cells := 0, slots := 0, locals := 24 })).room s m ([.ref (bd 0), .int a0] : List Value).toArray below meth c H locs 0 0 (MQ below (va_Qv (fun _ : Unit => True) (fun _ t => vq_Post (dC, dI) CL A (Mw bd cb v.2) (Mt cb) t) A) ([.ref (bd 0), .int a0] : List Value).toArray s 0 0 A) (F0 m 167 ls [.int y0, .int y1, .ref (bd 12)]) := by
                            intro τ x1 x2 x3 x4 y0 y1 H locs ls h hl hP hD hS
                            unfold f_M_rankAll_167 at h
                            obtain ⟨hi13, h⟩ := vq_bd h
                            refine as_M11 dC dI bd cb τ hx hb hts hown hK hP hD hS hi13 d_M_rankAll_167 (fun H locs hP hD hS => ?_)
                            obtain ⟨σ14, eσ14, h⟩ := vq_let h
                            rw [← eσ14] at hP hD
                            refine lv_aload_n hx hb d_M_rankAll_168 rfl (lv_at hl 0 rfl) ?_
                            refine g_M_rank dC dI bd cb σ14 hx hb hts hown hK hP k_431 d_M_rankAll_169 ?_
                            refine lv_iconst (v := 4) hx hb d_M_rankAll_172 (by decide) ?_
                            refine lv_iload_n hx hb d_M_rankAll_173 rfl (lv_at hl 1 rfl) ?_
                            refine lv_imul hx hb d_M_rankAll_174 ?_
                            refine lv_iload hx hb d_M_rankAll_175 (lv_at hl 4 rfl) ?_
                            refine lv_iadd hx hb d_M_rankAll_177 ?_
                            obtain ⟨hi15, h⟩ := vq_bd h
                            refine al_M11 dC dI bd cb σ14 hx hb hts hown hK hP hi15 d_M_rankAll_178 ?_
                            obtain ⟨i16, ei16, h⟩ := vq_let h
                            refine vq_top ei16.symm ?_
                            refine lv_iload_n hx hb d_M_rankAll_179 rfl (lv_at hl 2 rfl) ?_
                            have J198 : ∀ (τ : vS) (x1 : Int32) (x3 : Int32) (x4 : Int32) (y0 : Int32) (H : Heap) (locs : List Loc) (ls : Array Slot), f_M_rankAll_198 N (f_M_rankAll_4 N n4) (f_M_rankAll_12 N (f_M_rankAll_4 N n4) n12) τ x1 x3 x4 y0 = some v → lv_has ls 7 [(0, .ref (bd 0)), (1, .int x1), (3, .int x3), (4, .int x4)] → va_P (dC, dI) CL (Mw bd cb τ) H → va_D A (Mw bd cb τ) → va_S A s.heap H locs → W p l e (headSpec WS ({ frames := 1, cells := 0, slots := 0, locals := 24 })).room s m ([.ref (bd 0), .int a0] : List Value).toArray below meth c H locs 0 0 (MQ below (va_Qv (fun _ : Unit => True) (fun _ t => vq_Post (dC, dI) CL A (Mw bd cb v.2) (Mt cb) t) A) ([.ref (bd 0), .int a0] : List Value).toArray s 0 0 A) (F0 m 198 ls [.int y0]) := by
                              intro τ x1 x3 x4 y0 H locs ls h hl hP hD hS
                              unfold f_M_rankAll_198 at h
                              refine lv_istore_n (lv' := [(2, .int y0), (0, .ref (bd 0)), (1, .int x1), (3, .int x3), (4, .int x4)]) hx hb d_M_rankAll_198 rfl hl (by decide) rfl (fun ls hl => ?_)
                              exact J199 _ _ _ _ _ _ _ _ h (lv_sub hl [1, 2, 0, 3, 4] rfl) hP hD hS
                            refine lv_icmp_le (tgt := 197) hx hb d_M_rankAll_180 (by decide) (fun hc17 => ?_) (fun hc17 => ?_)
                            ·
                              rw [if_pos hc17] at h
                              refine lv_iload_n hx hb d_M_rankAll_197 rfl (lv_at hl 2 rfl) ?_
                              exact J198 _ _ _ _ _ _ _ _ h (lv_sub hl [0, 1, 3, 4] rfl) hP hD hS
                            ·
                              rw [if_neg hc17] at h
                              refine lv_aload_n hx hb d_M_rankAll_183 rfl (lv_at hl 0 rfl) ?_
                              refine g_M_rank dC dI bd cb σ14 hx hb hts hown hK hP k_431 d_M_rankAll_184 ?_
                              refine lv_iconst (v := 4) hx hb d_M_rankAll_187 (by decide) ?_
                              refine lv_iload_n hx hb d_M_rankAll_188 rfl (lv_at hl 1 rfl) ?_
                              refine lv_imul hx hb d_M_rankAll_189 ?_
                              refine lv_iload hx hb d_M_rankAll_190 (lv_at hl 4 rfl) ?_
                              refine lv_iadd hx hb d_M_rankAll_192 ?_
                              obtain ⟨hi18, h⟩ := vq_bd h
                              refine al_M11 dC dI bd cb σ14 hx hb hts hown hK hP hi18 d_M_rankAll_193 ?_
                              obtain ⟨i19, ei19, h⟩ := vq_let h
                              refine vq_top ei19.symm ?_
                              refine lv_goto (tgt := 198) hx hb d_M_rankAll_194 (by decide) ?_
                              exact J198 _ _ _ _ _ _ _ _ h (lv_sub hl [0, 1, 3, 4] rfl) hP hD hS
                          refine lv_icmp_ne (tgt := 163) hx hb d_M_rankAll_155 (by decide) (fun hc20 => ?_) (fun hc20 => ?_)
                          ·
                            rw [if_neg hc20] at h
                            refine lv_iload hx hb d_M_rankAll_163 (lv_at hl 5 rfl) ?_
                            refine lv_iconst (v := 1) hx hb d_M_rankAll_165 (by decide) ?_
                            refine lv_iadd hx hb d_M_rankAll_166 ?_
                            exact J167 _ _ _ _ _ _ _ _ _ _ h (lv_sub hl [0, 1, 2, 3, 4] rfl) hP hD hS
                          ·
                            rw [if_pos hc20] at h
                            refine lv_iload hx hb d_M_rankAll_158 (lv_at hl 5 rfl) ?_
                            refine lv_goto (tgt := 167) hx hb d_M_rankAll_160 (by decide) ?_
                            exact J167 _ _ _ _ _ _ _ _ _ _ h (lv_sub hl [0, 1, 2, 3, 4] rfl) hP hD hS
                        refine lv_icmp_ne (tgt := 152) hx hb d_M_rankAll_145 (by decide) (fun hc21 => ?_) (fun hc21 => ?_)
                        ·
                          rw [if_neg hc21] at h
                          refine lv_iconst (v := 0) hx hb d_M_rankAll_152 (by decide) ?_
                          exact J153 _ _ _ _ _ _ _ _ _ _ _ _ h (lv_sub hl [1, 2, 3, 4, 5, 6, 0] rfl) hP hD hS
                        ·
                          rw [if_pos hc21] at h
                          refine lv_iconst (v := 1) hx hb d_M_rankAll_148 (by decide) ?_
                          refine lv_goto (tgt := 153) hx hb d_M_rankAll_149 (by decide) ?_
                          exact J153 _ _ _ _ _ _ _ _ _ _ _ _ h (lv_sub hl [1, 2, 3, 4, 5, 6, 0] rfl) hP hD hS
                      refine lv_if_ne (tgt := 127) hx hb d_M_rankAll_120 (by decide) (fun hc22 => ?_) (fun hc22 => ?_)
                      ·
                        rw [if_neg hc22] at h
                        refine lv_iconst (v := 0) hx hb d_M_rankAll_127 (by decide) ?_
                        exact J128 _ _ _ _ _ _ _ _ _ _ h (lv_sub hl [0, 1, 2, 3, 4, 5] rfl) hP hD hS
                      ·
                        rw [if_pos hc22] at h
                        refine lv_iconst (v := 1) hx hb d_M_rankAll_123 (by decide) ?_
                        refine lv_goto (tgt := 128) hx hb d_M_rankAll_124 (by decide) ?_
                        exact J128 _ _ _ _ _ _ _ _ _ _ h (lv_sub hl [0, 1, 2, 3, 4, 5] rfl) hP hD hS
                    ·
                      rw [if_neg hc10] at h
                      refine lv_aload_n hx hb d_M_rankAll_49 rfl (lv_at hl 0 rfl) ?_
                      refine g_M_symbolLeads dC dI bd cb τ hx hb hts hown hK hP k_419 d_M_rankAll_50 ?_
                      refine lv_bipush (v := 16) hx hb d_M_rankAll_53 (by decide) ?_
                      refine lv_iload_n hx hb d_M_rankAll_55 rfl (lv_at hl 1 rfl) ?_
                      refine lv_imul hx hb d_M_rankAll_56 ?_
                      refine lv_iconst (v := 4) hx hb d_M_rankAll_57 (by decide) ?_
                      refine lv_iload hx hb d_M_rankAll_58 (lv_at hl 4 rfl) ?_
                      refine lv_imul hx hb d_M_rankAll_60 ?_
                      refine lv_iadd hx hb d_M_rankAll_61 ?_
                      obtain ⟨i23, ei23, h⟩ := vq_let h
                      refine vq_top ei23.symm ?_
                      refine lv_iload hx hb d_M_rankAll_62 (lv_at hl 6 rfl) ?_
                      refine lv_iadd hx hb d_M_rankAll_64 ?_
                      obtain ⟨hi24, h⟩ := vq_bd h
                      refine al_M9 dC dI bd cb τ hx hb hts hown hK hP hi24 d_M_rankAll_65 ?_
                      obtain ⟨i25, ei25, h⟩ := vq_let h
                      refine vq_top ei25.symm ?_
                      have J101 : ∀ (τ : vS) (x1 : Int32) (x2 : Int32) (x3 : Int32) (x4 : Int32) (x6 : Int32) (y0 : Int32) (H : Heap) (locs : List Loc) (ls : Array Slot), f_M_rankAll_101 N (f_M_rankAll_4 N n4) (f_M_rankAll_12 N (f_M_rankAll_4 N n4) n12) (f_M_rankAll_43 N (f_M_rankAll_4 N n4) (f_M_rankAll_12 N (f_M_rankAll_4 N n4) n12) n43) τ x1 x2 x3 x4 x6 y0 = some v → lv_has ls 7 [(0, .ref (bd 0)), (1, .int x1), (2, .int x2), (3, .int x3), (4, .int x4), (6, .int x6)] → va_P (dC, dI) CL (Mw bd cb τ) H → va_D A (Mw bd cb τ) → va_S A s.heap H locs → W p l e (headSpec WS ({ frames := 1, cells := 0, slots := 0, locals := 24 })).room s m ([.ref (bd 0), .int a0] : List Value).toArray below meth c H locs 0 0 (MQ below (va_Qv (fun _ : Unit => True) (fun _ t => vq_Post (dC, dI) CL A (Mw bd cb v.2) (Mt cb) t) A) ([.ref (bd 0), .int a0] : List Value).toArray s 0 0 A) (F0 m 101 ls [.int y0]) := by
                        intro τ x1 x2 x3 x4 x6 y0 H locs ls h hl hP hD hS
                        unfold f_M_rankAll_101 at h
                        refine lv_istore (lv' := [(5, .int y0), (0, .ref (bd 0)), (1, .int x1), (2, .int x2), (3, .int x3), (4, .int x4), (6, .int x6)]) hx hb d_M_rankAll_101 hl (by decide) rfl (fun ls hl => ?_)
                        refine lv_iinc (k := 6) (v := (x6 + 1)) (lv' := [(6, .int (x6 + 1)), (5, .int y0), (0, .ref (bd 0)), (1, .int x1), (2, .int x2), (3, .int x3), (4, .int x4)]) hx hb d_M_rankAll_103 hl rfl rfl (by decide) rfl (fun ls hl => ?_)
                        refine lv_goto (tgt := 43) hx hb d_M_rankAll_106 (by decide) ?_
                        exact ih43 _ _ _ _ _ _ _ _ _ _ h (lv_sub hl [2, 3, 4, 5, 6, 1, 0] rfl) hP hD hS
                      have J99 : ∀ (τ : vS) (x1 : Int32) (x2 : Int32) (x3 : Int32) (x4 : Int32) (x5 : Int32) (x6 : Int32) (H : Heap) (locs : List Loc) (ls : Array Slot), f_M_rankAll_99 N (f_M_rankAll_4 N n4) (f_M_rankAll_12 N (f_M_rankAll_4 N n4) n12) (f_M_rankAll_43 N (f_M_rankAll_4 N n4) (f_M_rankAll_12 N (f_M_rankAll_4 N n4) n12) n43) τ x1 x2 x3 x4 x5 x6 = some v → lv_has ls 7 [(0, .ref (bd 0)), (1, .int x1), (2, .int x2), (3, .int x3), (4, .int x4), (5, .int x5), (6, .int x6)] → va_P (dC, dI) CL (Mw bd cb τ) H → va_D A (Mw bd cb τ) → va_S A s.heap H locs → W p l e (headSpec WS ({ frames := 1, cells := 0, slots := 0, locals := 24 })).room s m ([.ref (bd 0), .int a0] : List Value).toArray below meth c H locs 0 0 (MQ below (va_Qv (fun _ : Unit => True) (fun _ t => vq_Post (dC, dI) CL A (Mw bd cb v.2) (Mt cb) t) A) ([.ref (bd 0), .int a0] : List Value).toArray s 0 0 A) (F0 m 99 ls []) := by
                        intro τ x1 x2 x3 x4 x5 x6 H locs ls h hl hP hD hS
                        unfold f_M_rankAll_99 at h
                        refine lv_iload hx hb d_M_rankAll_99 (lv_at hl 5 rfl) ?_
                        exact J101 _ _ _ _ _ _ _ _ _ _ h (lv_sub hl [0, 1, 2, 3, 4, 6] rfl) hP hD hS
                      refine lv_if_eq (tgt := 99) hx hb d_M_rankAll_66 (by decide) (fun hc26 => ?_) (fun hc26 => ?_)
                      ·
                        rw [if_pos hc26] at h
                        exact J99 _ _ _ _ _ _ _ _ _ _ h (lv_sub hl [0, 1, 2, 3, 4, 5, 6] rfl) hP hD hS
                      ·
                        rw [if_neg hc26] at h
                        refine lv_aload_n hx hb d_M_rankAll_69 rfl (lv_at hl 0 rfl) ?_
                        refine g_M_rank dC dI bd cb τ hx hb hts hown hK hP k_431 d_M_rankAll_70 ?_
                        refine lv_iconst (v := 4) hx hb d_M_rankAll_73 (by decide) ?_
                        refine lv_iload_n hx hb d_M_rankAll_74 rfl (lv_at hl 1 rfl) ?_
                        refine lv_imul hx hb d_M_rankAll_75 ?_
                        refine lv_iload hx hb d_M_rankAll_76 (lv_at hl 6 rfl) ?_
                        refine lv_iadd hx hb d_M_rankAll_78 ?_
                        obtain ⟨hi27, h⟩ := vq_bd h
                        refine al_M11 dC dI bd cb τ hx hb hts hown hK hP hi27 d_M_rankAll_79 ?_
                        obtain ⟨i28, ei28, h⟩ := vq_let h
                        refine vq_top ei28.symm ?_
                        refine lv_iload hx hb d_M_rankAll_80 (lv_at hl 5 rfl) ?_
                        refine lv_icmp_le (tgt := 99) hx hb d_M_rankAll_82 (by decide) (fun hc29 => ?_) (fun hc29 => ?_)
                        ·
                          rw [if_pos hc29] at h
                          exact J99 _ _ _ _ _ _ _ _ _ _ h (lv_sub hl [0, 1, 2, 3, 4, 5, 6] rfl) hP hD hS
                        ·
                          rw [if_neg hc29] at h
                          refine lv_aload_n hx hb d_M_rankAll_85 rfl (lv_at hl 0 rfl) ?_
                          refine g_M_rank dC dI bd cb τ hx hb hts hown hK hP k_431 d_M_rankAll_86 ?_
                          refine lv_iconst (v := 4) hx hb d_M_rankAll_89 (by decide) ?_
                          refine lv_iload_n hx hb d_M_rankAll_90 rfl (lv_at hl 1 rfl) ?_
                          refine lv_imul hx hb d_M_rankAll_91 ?_
                          refine lv_iload hx hb d_M_rankAll_92 (lv_at hl 6 rfl) ?_
                          refine lv_iadd hx hb d_M_rankAll_94 ?_
                          obtain ⟨hi30, h⟩ := vq_bd h
                          refine al_M11 dC dI bd cb τ hx hb hts hown hK hP hi30 d_M_rankAll_95 ?_
                          obtain ⟨i31, ei31, h⟩ := vq_let h
                          refine vq_top ei31.symm ?_
                          refine lv_goto (tgt := 101) hx hb d_M_rankAll_96 (by decide) ?_
                          exact J101 _ _ _ _ _ _ _ _ _ _ h (lv_sub hl [0, 1, 2, 3, 4, 6] rfl) hP hD hS
                exact L43 N _ _ _ _ _ _ _ _ _ _ h (lv_sub hl [2, 3, 4, 5, 6, 1, 0] rfl) hP hD hS
              ·
                rw [if_neg hc9] at h
                refine lv_goto (tgt := 199) hx hb d_M_rankAll_34 (by decide) ?_
                exact J199 _ _ _ _ _ _ _ _ h (lv_sub hl [0, 1, 2, 3, 4] rfl) hP hD hS
        exact L12 N _ _ _ _ _ _ _ _ h (lv_sub hl [1, 2, 3, 4, 0] rfl) hP hD hS
  exact L4 N _ _ _ _ _ _ _ h (lv_sub hl [2, 3, 1, 0] rfl) hP hD hS

set_option maxHeartbeats 4000000 in
set_option maxRecDepth 100000 in
theorem c_M_isDemanded (l : Launch) (htr : l.stackTraces = false) (dC : Nat → ClassId) (dI : Nat → Nat → Nat) (bd : Nat → Nat) (cb : Nat → ClassId) (N : Nat) (σ : vS) (a0 : Int32) (a1 : Int32) (a2 : Int32) (v : Int32 × vS) (h : f_M_isDemanded N σ a0 a1 a2 = some v) (sz : Nat) : Met l y_M_isDemanded WS ({ frames := 1, cells := 0, slots := 0, locals := 22 }) (va_Pc [.ref (bd 0), .int a0, .int a1, .int a2] (vq_Pre (dC, dI) CL sz (Mw bd cb σ) (Mt cb))) (va_Qi (fun (r : Int32) (_ : Unit) => r = v.1) (fun _ t => vq_Post (dC, dI) CL (va_A (Mw bd cb σ) sz) (Mw bd cb v.2) (Mt cb) t) (va_A (Mw bd cb σ) sz)) 0 0 (va_A (Mw bd cb σ) sz) := by
  refine vq_ofW (cc := prog_10_method_22_code) (maxL := 5) (ret := (Option.some Jvm.ClassFile.FieldType.boolean)) pl_M (vq_his k_432) ?_
  intro p e s m args below meth c s₁ B hml hv
  obtain ⟨rfl, hst, hsz, hP, hK, hD0⟩ := hv
  have hx := B.exec
  have hb := B.bytes
  have hr := B.returns
  have hts := atoms_spec (ws := WS) B.pre
  have hown : s.vm.findClass R_M = some m.cls := findClass_of_methodNamed B.named
  have hlocks := B.notSynchronized
  have hno := vq_noH B (hts _ k_432)
  subst hsz
  have hN := vq_ns hP
  have hD := hD0.self (sz := s.heap.size)
  generalize hAe : va_A (Mw bd cb σ) s.heap.size = A at hD hN ⊢
  have hA : ∀ q : Nat, s.heap.size ≤ q → A q := fun q h => by rw [← hAe]; exact Or.inr h
  have hS : va_S A s.heap s.heap [] := va_S.rf
  have hl := lv_entry ([.ref (bd 0), .int a0, .int a1, .int a2]) (n := 5) (Nat.le_of_ble_eq_true rfl)
  rw [lg_entry_eq]
  generalize (lg_sl ([.ref (bd 0), .int a0, .int a1, .int a2]) ++ List.replicate (5 - (lg_sl ([.ref (bd 0), .int a0, .int a1, .int a2])).length) Slot.unset).toArray = ls at hl ⊢
  have hl : lv_has ls 5 [(0, .ref (bd 0)), (1, .int a0), (2, .int a1), (3, .int a2)] := hl
  unfold f_M_isDemanded at h
  refine lv_aload_n hx hb d_M_isDemanded_0 rfl (lv_at hl 0 rfl) ?_
  refine g_M_uses dC dI bd cb σ hx hb hts hown hK hP k_414 d_M_isDemanded_1 ?_
  refine lv_sipush (v := 256) hx hb d_M_isDemanded_4 (by decide) ?_
  refine lv_iload_n hx hb d_M_isDemanded_7 rfl (lv_at hl 1 rfl) ?_
  refine lv_imul hx hb d_M_isDemanded_8 ?_
  refine lv_bipush (v := 16) hx hb d_M_isDemanded_9 (by decide) ?_
  refine lv_iload_n hx hb d_M_isDemanded_11 rfl (lv_at hl 2 rfl) ?_
  refine lv_imul hx hb d_M_isDemanded_12 ?_
  refine lv_iadd hx hb d_M_isDemanded_13 ?_
  obtain ⟨i1, ei1, h⟩ := vq_let h
  refine vq_top ei1.symm ?_
  refine lv_iload_n hx hb d_M_isDemanded_14 rfl (lv_at hl 3 rfl) ?_
  refine lv_iadd hx hb d_M_isDemanded_15 ?_
  obtain ⟨hi2, h⟩ := vq_bd h
  refine al_M7 dC dI bd cb σ hx hb hts hown hK hP hi2 d_M_isDemanded_16 ?_
  obtain ⟨i3, ei3, h⟩ := vq_let h
  refine vq_top ei3.symm ?_
  refine lv_if_eq (tgt := 22) hx hb d_M_isDemanded_17 (by decide) (fun hc4 => ?_) (fun hc4 => ?_)
  ·
    rw [if_pos hc4] at h
    refine lv_iload_n hx hb d_M_isDemanded_22 rfl (lv_at hl 2 rfl) ?_
    refine lv_iconst (v := 4) hx hb d_M_isDemanded_23 (by decide) ?_
    refine lv_idiv hx hb d_M_isDemanded_24 (by decide) ?_
    refine lv_iload_n hx hb d_M_isDemanded_25 rfl (lv_at hl 3 rfl) ?_
    refine lv_iconst (v := 4) hx hb d_M_isDemanded_26 (by decide) ?_
    refine lv_idiv hx hb d_M_isDemanded_27 (by decide) ?_
    refine lv_icmp_ne (tgt := 49) hx hb d_M_isDemanded_28 (by decide) (fun hc5 => ?_) (fun hc5 => ?_)
    ·
      rw [if_neg hc5] at h
      refine lv_iconst (v := 0) hx hb d_M_isDemanded_49 (by decide) ?_
      have h9 := Option.some.inj h
      rw [← h9]
      exact W.zret (v := 0) (ty := .boolean) hx hb hr (by decide) (fun t ht hW => ⟨⟨0, (), rfl, rfl, by rw [ht]; exact hP, va_K.moved hW.alike hK, hD⟩, hS.F ht⟩) hS.2.2 d_M_isDemanded_50
    ·
      rw [if_pos hc5] at h
      refine lv_aload_n hx hb d_M_isDemanded_31 rfl (lv_at hl 0 rfl) ?_
      refine lv_iload_n hx hb d_M_isDemanded_32 rfl (lv_at hl 1 rfl) ?_
      refine lv_iload_n hx hb d_M_isDemanded_33 rfl (lv_at hl 2 rfl) ?_
      obtain ⟨q6, h7, h⟩ := vq_bi h
      have hFc := vq_freeAll hD hS hA
      refine va_calli (va_runV (As := [.int a0, .int a1]) (rest := []) ⟨hx, hb, hml, hown, hts⟩ (c_M_isOccurrence l htr dC dI bd cb N σ a0 a1 q6 h7 s.heap.size) (vq_cV WSk hts 2 rfl rfl ⟨by decide, by decide⟩ k_386 k_367 k_389 k_390 k_391 (by decide +kernel)) ⟨vq_blind, va_recv hK hP (ci := 8) (q0 := 0) rfl rfl, vq_here hst hS hN hP hK hD⟩ rfl rfl hl.1 rfl (lv_room (Nat.le_of_ble_eq_true rfl)) d_M_isDemanded_34 ⟨by decide, by decide⟩) hS (fun q _ h => hFc q h) hFc (fun r u t H1 locs ht hvm hw hB hz1 hk1 hS => ?_)
      obtain ⟨hP, -, hD1⟩ := hB
      rw [ht] at hP
      have hD := hD1.weaken (fun _ _ _ h => hFc _ h)
      have hw : r = q6.1 := hw
      subst hw
      generalize H1 = H at hP hS ⊢
      refine W.widen (k := 0) (n := 0) (by decide) (by decide) ?_
      refine lv_if_eq (tgt := 49) hx hb d_M_isDemanded_37 (by decide) (fun hc8 => ?_) (fun hc8 => ?_)
      ·
        rw [if_pos hc8] at h
        refine lv_iconst (v := 0) hx hb d_M_isDemanded_49 (by decide) ?_
        have h9 := Option.some.inj h
        rw [← h9]
        exact W.zret (v := 0) (ty := .boolean) hx hb hr (by decide) (fun t ht hW => ⟨⟨0, (), rfl, rfl, by rw [ht]; exact hP, va_K.moved hW.alike hK, hD⟩, hS.F ht⟩) hS.2.2 d_M_isDemanded_50
      ·
        rw [if_neg hc8] at h
        refine lv_aload_n hx hb d_M_isDemanded_40 rfl (lv_at hl 0 rfl) ?_
        refine lv_iload_n hx hb d_M_isDemanded_41 rfl (lv_at hl 1 rfl) ?_
        refine lv_iload_n hx hb d_M_isDemanded_42 rfl (lv_at hl 3 rfl) ?_
        obtain ⟨q9, h10, h⟩ := vq_bi h
        have hFc := vq_freeAll hD hS hA
        refine va_calli (va_runV (As := [.int a0, .int a2]) (rest := []) ⟨hx, hb, hml, hown, hts⟩ (c_M_isOccurrence l htr dC dI bd cb N q6.2 a0 a2 q9 h10 H.size) (vq_cV WSk hts 2 rfl rfl ⟨by decide, by decide⟩ k_386 k_367 k_389 k_390 k_391 (by decide +kernel)) ⟨vq_blind, va_recv hK hP (ci := 8) (q0 := 0) rfl rfl, vq_here hst hS hN hP hK hD⟩ rfl rfl hl.1 rfl (lv_room (Nat.le_of_ble_eq_true rfl)) d_M_isDemanded_43 ⟨by decide, by decide⟩) hS (fun q _ h => hFc q h) hFc (fun r u t H1 locs ht hvm hw hB hz1 hk1 hS => ?_)
        obtain ⟨hP, -, hD1⟩ := hB
        rw [ht] at hP
        have hD := hD1.weaken (fun _ _ _ h => hFc _ h)
        have hw : r = q9.1 := hw
        subst hw
        generalize H1 = H at hP hS ⊢
        refine W.widen (k := 0) (n := 0) (by decide) (by decide) ?_
        refine lv_if_ne (tgt := 51) hx hb d_M_isDemanded_46 (by decide) (fun hc11 => ?_) (fun hc11 => ?_)
        ·
          rw [if_neg hc11] at h
          refine lv_aload_n hx hb d_M_isDemanded_51 rfl (lv_at hl 0 rfl) ?_
          refine g_M_symbolAt dC dI bd cb q9.2 hx hb hts hown hK hP k_384 d_M_isDemanded_52 ?_
          refine lv_iconst (v := 4) hx hb d_M_isDemanded_55 (by decide) ?_
          refine lv_iload_n hx hb d_M_isDemanded_56 rfl (lv_at hl 1 rfl) ?_
          refine lv_imul hx hb d_M_isDemanded_57 ?_
          refine lv_iload_n hx hb d_M_isDemanded_58 rfl (lv_at hl 2 rfl) ?_
          refine lv_iconst (v := 4) hx hb d_M_isDemanded_59 (by decide) ?_
          refine lv_idiv hx hb d_M_isDemanded_60 (by decide) ?_
          refine lv_iadd hx hb d_M_isDemanded_61 ?_
          obtain ⟨hi12, h⟩ := vq_bd h
          refine al_M3 dC dI bd cb q9.2 hx hb hts hown hK hP hi12 d_M_isDemanded_62 ?_
          obtain ⟨i13, ei13, h⟩ := vq_let h
          refine vq_top ei13.symm ?_
          refine lv_istore (lv' := [(4, .int i13), (0, .ref (bd 0)), (1, .int a0), (2, .int a1), (3, .int a2)]) hx hb d_M_isDemanded_63 hl (by decide) rfl (fun ls hl => ?_)
          refine lv_aload_n hx hb d_M_isDemanded_65 rfl (lv_at hl 1 rfl) ?_
          refine g_M_symbolLeads dC dI bd cb q9.2 hx hb hts hown hK hP k_419 d_M_isDemanded_66 ?_
          refine lv_bipush (v := 16) hx hb d_M_isDemanded_69 (by decide) ?_
          refine lv_iload hx hb d_M_isDemanded_71 (lv_at hl 0 rfl) ?_
          refine lv_imul hx hb d_M_isDemanded_73 ?_
          refine lv_iconst (v := 4) hx hb d_M_isDemanded_74 (by decide) ?_
          refine lv_iload_n hx hb d_M_isDemanded_75 rfl (lv_at hl 3 rfl) ?_
          refine lv_iconst (v := 4) hx hb d_M_isDemanded_76 (by decide) ?_
          refine lv_irem hx hb d_M_isDemanded_77 (by decide) ?_
          refine lv_imul hx hb d_M_isDemanded_78 ?_
          obtain ⟨i14, ei14, h⟩ := vq_let h
          refine vq_top ei14.symm ?_
          refine lv_iadd hx hb d_M_isDemanded_79 ?_
          refine lv_iload_n hx hb d_M_isDemanded_80 rfl (lv_at hl 4 rfl) ?_
          refine lv_iconst (v := 4) hx hb d_M_isDemanded_81 (by decide) ?_
          refine lv_irem hx hb d_M_isDemanded_82 (by decide) ?_
          refine lv_iadd hx hb d_M_isDemanded_83 ?_
          obtain ⟨i15, ei15, h⟩ := vq_let h
          refine vq_top ei15.symm ?_
          obtain ⟨hi16, h⟩ := vq_bd h
          refine al_M9 dC dI bd cb q9.2 hx hb hts hown hK hP hi16 d_M_isDemanded_84 ?_
          obtain ⟨i17, ei17, h⟩ := vq_let h
          refine vq_top ei17.symm ?_
          have J113 : ∀ (τ : vS) (H : Heap) (locs : List Loc) (ls : Array Slot), f_M_isDemanded_113 N τ = some v → lv_has ls 5 [] → va_P (dC, dI) CL (Mw bd cb τ) H → va_D A (Mw bd cb τ) → va_S A s.heap H locs → W p l e (headSpec WS ({ frames := 1, cells := 0, slots := 0, locals := 22 })).room s m ([.ref (bd 0), .int a0, .int a1, .int a2] : List Value).toArray below meth c H locs 0 0 (MQ below (va_Qi (fun (r : Int32) (_ : Unit) => r = v.1) (fun _ t => vq_Post (dC, dI) CL A (Mw bd cb v.2) (Mt cb) t) A) ([.ref (bd 0), .int a0, .int a1, .int a2] : List Value).toArray s 0 0 A) (F0 m 113 ls []) := by
            intro τ H locs ls h hl hP hD hS
            unfold f_M_isDemanded_113 at h
            refine lv_iconst (v := 1) hx hb d_M_isDemanded_113 (by decide) ?_
            refine lv_goto (tgt := 118) hx hb d_M_isDemanded_114 (by decide) ?_
            have h9 := Option.some.inj h
            rw [← h9]
            exact W.zret (v := 1) (ty := .boolean) hx hb hr (by decide) (fun t ht hW => ⟨⟨1, (), rfl, rfl, by rw [ht]; exact hP, va_K.moved hW.alike hK, hD⟩, hS.F ht⟩) hS.2.2 d_M_isDemanded_118
          refine lv_if_ne (tgt := 113) hx hb d_M_isDemanded_85 (by decide) (fun hc18 => ?_) (fun hc18 => ?_)
          ·
            rw [if_neg hc18] at h
            exact J113 _ _ _ _ h (lv_sub hl [] rfl) hP hD hS
          ·
            rw [if_pos hc18] at h
            refine lv_aload_n hx hb d_M_isDemanded_88 rfl (lv_at hl 1 rfl) ?_
            refine g_M_rank dC dI bd cb q9.2 hx hb hts hown hK hP k_431 d_M_isDemanded_89 ?_
            refine lv_aload_n hx hb d_M_isDemanded_92 rfl (lv_at hl 1 rfl) ?_
            refine lv_iload_n hx hb d_M_isDemanded_93 rfl (lv_at hl 2 rfl) ?_
            refine lv_iload_n hx hb d_M_isDemanded_94 rfl (lv_at hl 3 rfl) ?_
            obtain ⟨q19, h20, h⟩ := vq_bi h
            have hFc := vq_freeAll hD hS hA
            refine va_calli (va_runV (As := [.int a0, .int a1]) (rest := [.ref (bd 12)]) ⟨hx, hb, hml, hown, hts⟩ (c_M_attributeOf l htr dC dI bd cb N q9.2 a0 a1 q19 h20 H.size) (vq_cV WSk hts 2 rfl rfl ⟨by decide, by decide⟩ k_387 k_367 k_392 k_393 k_394 (by decide +kernel)) ⟨vq_blind, va_recv hK hP (ci := 8) (q0 := 0) rfl rfl, vq_here hst hS hN hP hK hD⟩ rfl rfl hl.1 rfl (lv_room (Nat.le_of_ble_eq_true rfl)) d_M_isDemanded_95 ⟨by decide, by decide⟩) hS (fun q _ h => hFc q h) hFc (fun r u t H1 locs ht hvm hw hB hz1 hk1 hS => ?_)
            obtain ⟨hP, -, hD1⟩ := hB
            rw [ht] at hP
            have hD := hD1.weaken (fun _ _ _ h => hFc _ h)
            have hw : r = q19.1 := hw
            subst hw
            generalize H1 = H at hP hS ⊢
            refine W.widen (k := 0) (n := 0) (by decide) (by decide) ?_
            obtain ⟨hi21, h⟩ := vq_bd h
            refine al_M11 dC dI bd cb q19.2 hx hb hts hown hK hP hi21 d_M_isDemanded_98 ?_
            obtain ⟨i22, ei22, h⟩ := vq_let h
            refine vq_top ei22.symm ?_
            refine lv_aload_n hx hb d_M_isDemanded_99 rfl (lv_at hl 1 rfl) ?_
            refine g_M_rank dC dI bd cb q19.2 hx hb hts hown hK hP k_431 d_M_isDemanded_100 ?_
            refine lv_aload_n hx hb d_M_isDemanded_103 rfl (lv_at hl 1 rfl) ?_
            refine lv_iload_n hx hb d_M_isDemanded_104 rfl (lv_at hl 2 rfl) ?_
            refine lv_iload_n hx hb d_M_isDemanded_105 rfl (lv_at hl 4 rfl) ?_
            obtain ⟨q23, h24, h⟩ := vq_bi h
            have hFc := vq_freeAll hD hS hA
            refine va_calli (va_runV (As := [.int a0, .int a2]) (rest := [.ref (bd 12), .int i22]) ⟨hx, hb, hml, hown, hts⟩ (c_M_attributeOf l htr dC dI bd cb N q19.2 a0 a2 q23 h24 H.size) (vq_cV WSk hts 2 rfl rfl ⟨by decide, by decide⟩ k_387 k_367 k_392 k_393 k_394 (by decide +kernel)) ⟨vq_blind, va_recv hK hP (ci := 8) (q0 := 0) rfl rfl, vq_here hst hS hN hP hK hD⟩ rfl rfl hl.1 rfl (lv_room (Nat.le_of_ble_eq_true rfl)) d_M_isDemanded_106 ⟨by decide, by decide⟩) hS (fun q _ h => hFc q h) hFc (fun r u t H1 locs ht hvm hw hB hz1 hk1 hS => ?_)
            obtain ⟨hP, -, hD1⟩ := hB
            rw [ht] at hP
            have hD := hD1.weaken (fun _ _ _ h => hFc _ h)
            have hw : r = q23.1 := hw
            subst hw
            generalize H1 = H at hP hS ⊢
            refine W.widen (k := 0) (n := 0) (by decide) (by decide) ?_
            obtain ⟨hi25, h⟩ := vq_bd h
            refine al_M11 dC dI bd cb q23.2 hx hb hts hown hK hP hi25 d_M_isDemanded_109 ?_
            obtain ⟨i26, ei26, h⟩ := vq_let h
            refine vq_top ei26.symm ?_
            refine lv_icmp_le (tgt := 117) hx hb d_M_isDemanded_110 (by decide) (fun hc27 => ?_) (fun hc27 => ?_)
            ·
              rw [if_pos hc27] at h
              refine lv_iconst (v := 0) hx hb d_M_isDemanded_117 (by decide) ?_
              have h9 := Option.some.inj h
              rw [← h9]
              exact W.zret (v := 0) (ty := .boolean) hx hb hr (by decide) (fun t ht hW => ⟨⟨0, (), rfl, rfl, by rw [ht]; exact hP, va_K.moved hW.alike hK, hD⟩, hS.F ht⟩) hS.2.2 d_M_isDemanded_118
            ·
              rw [if_neg hc27] at h
              exact J113 _ _ _ _ h (lv_sub hl [] rfl) hP hD hS
        ·
          rw [if_pos hc11] at h
          refine lv_iconst (v := 0) hx hb d_M_isDemanded_49 (by decide) ?_
          have h9 := Option.some.inj h
          rw [← h9]
          exact W.zret (v := 0) (ty := .boolean) hx hb hr (by decide) (fun t ht hW => ⟨⟨0, (), rfl, rfl, by rw [ht]; exact hP, va_K.moved hW.alike hK, hD⟩, hS.F ht⟩) hS.2.2 d_M_isDemanded_50
  ·
    rw [if_neg hc4] at h
    refine lv_iconst (v := 1) hx hb d_M_isDemanded_20 (by decide) ?_
    have h9 := Option.some.inj h
    rw [← h9]
    exact W.zret (v := 1) (ty := .boolean) hx hb hr (by decide) (fun t ht hW => ⟨⟨1, (), rfl, rfl, by rw [ht]; exact hP, va_K.moved hW.alike hK, hD⟩, hS.F ht⟩) hS.2.2 d_M_isDemanded_21

set_option maxHeartbeats 4000000 in
set_option maxRecDepth 100000 in
theorem c_M_mixes (l : Launch) (htr : l.stackTraces = false) (dC : Nat → ClassId) (dI : Nat → Nat → Nat) (bd : Nat → Nat) (cb : Nat → ClassId) (N : Nat) (σ : vS) (v : Int32 × vS) (h : f_M_mixes N σ = some v) (sz : Nat) : Met l y_M_mixes WS ({ frames := 2, cells := 0, slots := 0, locals := 46 }) (va_Pc [.ref (bd 0)] (vq_Pre (dC, dI) CL sz (Mw bd cb σ) (Mt cb))) (va_Qi (fun (r : Int32) (_ : Unit) => r = v.1) (fun _ t => vq_Post (dC, dI) CL (va_A (Mw bd cb σ) sz) (Mw bd cb v.2) (Mt cb) t) (va_A (Mw bd cb σ) sz)) 0 0 (va_A (Mw bd cb σ) sz) := by
  refine vq_ofW (cc := prog_10_method_23_code) (maxL := 4) (ret := (Option.some Jvm.ClassFile.FieldType.boolean)) pl_M (vq_his k_433) ?_
  intro p e s m args below meth c s₁ B hml hv
  obtain ⟨rfl, hst, hsz, hP, hK, hD0⟩ := hv
  have hx := B.exec
  have hb := B.bytes
  have hr := B.returns
  have hts := atoms_spec (ws := WS) B.pre
  have hown : s.vm.findClass R_M = some m.cls := findClass_of_methodNamed B.named
  have hlocks := B.notSynchronized
  have hno := vq_noH B (hts _ k_433)
  subst hsz
  have hN := vq_ns hP
  have hD := hD0.self (sz := s.heap.size)
  generalize hAe : va_A (Mw bd cb σ) s.heap.size = A at hD hN ⊢
  have hA : ∀ q : Nat, s.heap.size ≤ q → A q := fun q h => by rw [← hAe]; exact Or.inr h
  have hS : va_S A s.heap s.heap [] := va_S.rf
  have hl := lv_entry ([.ref (bd 0)]) (n := 4) (Nat.le_of_ble_eq_true rfl)
  rw [lg_entry_eq]
  generalize (lg_sl ([.ref (bd 0)]) ++ List.replicate (4 - (lg_sl ([.ref (bd 0)])).length) Slot.unset).toArray = ls at hl ⊢
  have hl : lv_has ls 4 [(0, .ref (bd 0))] := hl
  unfold f_M_mixes at h
  refine lv_iconst (v := 0) hx hb d_M_mixes_0 (by decide) ?_
  refine lv_istore_n (lv' := [(1, .int 0), (0, .ref (bd 0))]) hx hb d_M_mixes_1 rfl hl (by decide) rfl (fun ls hl => ?_)
  have L2 : ∀ n2 : Nat, ∀ (τ : vS) (x1 : Int32) (H : Heap) (locs : List Loc) (ls : Array Slot), f_M_mixes_2 N n2 τ x1 = some v → lv_has ls 4 [(0, .ref (bd 0)), (1, .int x1)] → va_P (dC, dI) CL (Mw bd cb τ) H → va_D A (Mw bd cb τ) → va_S A s.heap H locs → W p l e (headSpec WS ({ frames := 2, cells := 0, slots := 0, locals := 46 })).room s m ([.ref (bd 0)] : List Value).toArray below meth c H locs 0 0 (MQ below (va_Qi (fun (r : Int32) (_ : Unit) => r = v.1) (fun _ t => vq_Post (dC, dI) CL A (Mw bd cb v.2) (Mt cb) t) A) ([.ref (bd 0)] : List Value).toArray s 0 0 A) (F0 m 2 ls []) := by
    intro n2
    induction n2 with
    | zero =>
      intro τ x1 H locs ls h hl hP hD hS
      rw [f_M_mixes_2] at h
      cases h
    | succ n2 ih2 =>
      intro τ x1 H locs ls h hl hP hD hS
      rw [f_M_mixes_2] at h
      dsimp only at h
      refine lv_iload_n hx hb d_M_mixes_2 rfl (lv_at hl 1 rfl) ?_
      refine lv_aload_n hx hb d_M_mixes_3 rfl (lv_at hl 0 rfl) ?_
      refine g_M_productions dC dI bd cb τ hx hb hts hown hK hP k_383 d_M_mixes_4 ?_
      refine lv_icmp_ge (tgt := 167) hx hb d_M_mixes_7 (by decide) (fun hc1 => ?_) (fun hc1 => ?_)
      ·
        rw [if_pos hc1] at h
        refine lv_iconst (v := 0) hx hb d_M_mixes_167 (by decide) ?_
        have h9 := Option.some.inj h
        rw [← h9]
        exact W.zret (v := 0) (ty := .boolean) hx hb hr (by decide) (fun t ht hW => ⟨⟨0, (), rfl, rfl, by rw [ht]; exact hP, va_K.moved hW.alike hK, hD⟩, hS.F ht⟩) hS.2.2 d_M_mixes_168
      ·
        rw [if_neg hc1] at h
        refine lv_iconst (v := 0) hx hb d_M_mixes_10 (by decide) ?_
        refine lv_istore_n (lv' := [(2, .int 0), (0, .ref (bd 0)), (1, .int x1)]) hx hb d_M_mixes_11 rfl hl (by decide) rfl (fun ls hl => ?_)
        have L12 : ∀ n12 : Nat, ∀ (τ : vS) (x1 : Int32) (x2 : Int32) (H : Heap) (locs : List Loc) (ls : Array Slot), f_M_mixes_12 N (f_M_mixes_2 N n2) n12 τ x1 x2 = some v → lv_has ls 4 [(0, .ref (bd 0)), (1, .int x1), (2, .int x2)] → va_P (dC, dI) CL (Mw bd cb τ) H → va_D A (Mw bd cb τ) → va_S A s.heap H locs → W p l e (headSpec WS ({ frames := 2, cells := 0, slots := 0, locals := 46 })).room s m ([.ref (bd 0)] : List Value).toArray below meth c H locs 0 0 (MQ below (va_Qi (fun (r : Int32) (_ : Unit) => r = v.1) (fun _ t => vq_Post (dC, dI) CL A (Mw bd cb v.2) (Mt cb) t) A) ([.ref (bd 0)] : List Value).toArray s 0 0 A) (F0 m 12 ls []) := by
          intro n12
          induction n12 with
          | zero =>
            intro τ x1 x2 H locs ls h hl hP hD hS
            rw [f_M_mixes_12] at h
            cases h
          | succ n12 ih12 =>
            intro τ x1 x2 H locs ls h hl hP hD hS
            rw [f_M_mixes_12] at h
            dsimp only at h
            refine lv_iload_n hx hb d_M_mixes_12 rfl (lv_at hl 2 rfl) ?_
            refine lv_sipush (v := 256) hx hb d_M_mixes_13 (by decide) ?_
            refine lv_icmp_ge (tgt := 44) hx hb d_M_mixes_16 (by decide) (fun hc2 => ?_) (fun hc2 => ?_)
            ·
              rw [if_pos hc2] at h
              refine lv_iconst (v := 0) hx hb d_M_mixes_44 (by decide) ?_
              refine lv_istore_n (lv' := [(2, .int 0), (0, .ref (bd 0)), (1, .int x1)]) hx hb d_M_mixes_45 rfl hl (by decide) rfl (fun ls hl => ?_)
              have L46 : ∀ n46 : Nat, ∀ (τ : vS) (x1 : Int32) (x2 : Int32) (H : Heap) (locs : List Loc) (ls : Array Slot), f_M_mixes_46 N (f_M_mixes_2 N n2) n46 τ x1 x2 = some v → lv_has ls 4 [(0, .ref (bd 0)), (1, .int x1), (2, .int x2)] → va_P (dC, dI) CL (Mw bd cb τ) H → va_D A (Mw bd cb τ) → va_S A s.heap H locs → W p l e (headSpec WS ({ frames := 2, cells := 0, slots := 0, locals := 46 })).room s m ([.ref (bd 0)] : List Value).toArray below meth c H locs 0 0 (MQ below (va_Qi (fun (r : Int32) (_ : Unit) => r = v.1) (fun _ t => vq_Post (dC, dI) CL A (Mw bd cb v.2) (Mt cb) t) A) ([.ref (bd 0)] : List Value).toArray s 0 0 A) (F0 m 46 ls []) := by
                intro n46
                induction n46 with
                | zero =>
                  intro τ x1 x2 H locs ls h hl hP hD hS
                  rw [f_M_mixes_46] at h
                  cases h
                | succ n46 ih46 =>
                  intro τ x1 x2 H locs ls h hl hP hD hS
                  rw [f_M_mixes_46] at h
                  dsimp only at h
                  refine lv_iload_n hx hb d_M_mixes_46 rfl (lv_at hl 2 rfl) ?_
                  refine lv_bipush (v := 16) hx hb d_M_mixes_47 (by decide) ?_
                  refine lv_icmp_ge (tgt := 127) hx hb d_M_mixes_49 (by decide) (fun hc3 => ?_) (fun hc3 => ?_)
                  ·
                    rw [if_pos hc3] at h
                    refine lv_iconst (v := 0) hx hb d_M_mixes_127 (by decide) ?_
                    refine lv_istore_n (lv' := [(2, .int 0), (0, .ref (bd 0)), (1, .int x1)]) hx hb d_M_mixes_128 rfl hl (by decide) rfl (fun ls hl => ?_)
                    have L129 : ∀ n129 : Nat, ∀ (τ : vS) (x1 : Int32) (x2 : Int32) (H : Heap) (locs : List Loc) (ls : Array Slot), f_M_mixes_129 N (f_M_mixes_2 N n2) n129 τ x1 x2 = some v → lv_has ls 4 [(0, .ref (bd 0)), (1, .int x1), (2, .int x2)] → va_P (dC, dI) CL (Mw bd cb τ) H → va_D A (Mw bd cb τ) → va_S A s.heap H locs → W p l e (headSpec WS ({ frames := 2, cells := 0, slots := 0, locals := 46 })).room s m ([.ref (bd 0)] : List Value).toArray below meth c H locs 0 0 (MQ below (va_Qi (fun (r : Int32) (_ : Unit) => r = v.1) (fun _ t => vq_Post (dC, dI) CL A (Mw bd cb v.2) (Mt cb) t) A) ([.ref (bd 0)] : List Value).toArray s 0 0 A) (F0 m 129 ls []) := by
                      intro n129
                      induction n129 with
                      | zero =>
                        intro τ x1 x2 H locs ls h hl hP hD hS
                        rw [f_M_mixes_129] at h
                        cases h
                      | succ n129 ih129 =>
                        intro τ x1 x2 H locs ls h hl hP hD hS
                        rw [f_M_mixes_129] at h
                        dsimp only at h
                        refine lv_iload_n hx hb d_M_mixes_129 rfl (lv_at hl 2 rfl) ?_
                        refine lv_bipush (v := 16) hx hb d_M_mixes_130 (by decide) ?_
                        refine lv_icmp_ge (tgt := 161) hx hb d_M_mixes_132 (by decide) (fun hc4 => ?_) (fun hc4 => ?_)
                        ·
                          rw [if_pos hc4] at h
                          refine lv_iinc (k := 1) (v := (x1 + 1)) (lv' := [(1, .int (x1 + 1)), (0, .ref (bd 0)), (2, .int x2)]) hx hb d_M_mixes_161 hl rfl rfl (by decide) rfl (fun ls hl => ?_)
                          refine lv_goto (tgt := 2) hx hb d_M_mixes_164 (by decide) ?_
                          exact ih2 _ _ _ _ _ h (lv_sub hl [1, 0] rfl) hP hD hS
                        ·
                          rw [if_neg hc4] at h
                          refine lv_aload_n hx hb d_M_mixes_135 rfl (lv_at hl 0 rfl) ?_
                          refine g_M_order dC dI bd cb τ hx hb hts hown hK hP k_434 d_M_mixes_136 ?_
                          refine lv_bipush (v := 17) hx hb d_M_mixes_139 (by decide) ?_
                          refine lv_iload_n hx hb d_M_mixes_141 rfl (lv_at hl 2 rfl) ?_
                          refine lv_imul hx hb d_M_mixes_142 ?_
                          obtain ⟨hi5, h⟩ := vq_bd h
                          refine al_M10 dC dI bd cb τ hx hb hts hown hK hP hi5 d_M_mixes_143 ?_
                          obtain ⟨i6, ei6, h⟩ := vq_let h
                          refine vq_top ei6.symm ?_
                          refine lv_if_eq (tgt := 155) hx hb d_M_mixes_144 (by decide) (fun hc7 => ?_) (fun hc7 => ?_)
                          ·
                            rw [if_pos hc7] at h
                            refine lv_iinc (k := 2) (v := (x2 + 1)) (lv' := [(2, .int (x2 + 1)), (0, .ref (bd 0)), (1, .int x1)]) hx hb d_M_mixes_155 hl rfl rfl (by decide) rfl (fun ls hl => ?_)
                            refine lv_goto (tgt := 129) hx hb d_M_mixes_158 (by decide) ?_
                            exact ih129 _ _ _ _ _ _ h (lv_sub hl [1, 2, 0] rfl) hP hD hS
                          ·
                            rw [if_neg hc7] at h
                            refine lv_aload_n hx hb d_M_mixes_147 rfl (lv_at hl 0 rfl) ?_
                            refine lv_iconst (v := 3) hx hb d_M_mixes_148 (by decide) ?_
                            refine lv_iload_n hx hb d_M_mixes_149 rfl (lv_at hl 1 rfl) ?_
                            refine lv_iload_n hx hb d_M_mixes_150 rfl (lv_at hl 2 rfl) ?_
                            obtain ⟨q8, h9, h⟩ := vq_bi h
                            have hFc := vq_freeAll hD hS hA
                            refine va_calli (va_runV (As := [.int 3, .int x1, .int x2]) (rest := []) ⟨hx, hb, hml, hown, hts⟩ (c_M_blame l htr dC dI bd cb N τ 3 x1 x2 q8 h9 H.size) (vq_cV WSk hts 3 rfl rfl ⟨by decide, by decide⟩ k_405 k_367 k_410 k_411 k_412 (by decide +kernel)) ⟨vq_blind, va_recv hK hP (ci := 8) (q0 := 0) rfl rfl, vq_here hst hS hN hP hK hD⟩ rfl rfl hl.1 rfl (lv_room (Nat.le_of_ble_eq_true rfl)) d_M_mixes_151 ⟨by decide, by decide⟩) hS (fun q _ h => hFc q h) hFc (fun r u t H1 locs ht hvm hw hB hz1 hk1 hS => ?_)
                            obtain ⟨hP, -, hD1⟩ := hB
                            rw [ht] at hP
                            have hD := hD1.weaken (fun _ _ _ h => hFc _ h)
                            have hw : r = q8.1 := hw
                            subst hw
                            generalize H1 = H at hP hS ⊢
                            refine W.widen (k := 0) (n := 0) (by decide) (by decide) ?_
                            have h9 := Option.some.inj h
                            rw [← h9]
                            exact vq_zret hx hb hr (fun t ht hW => ⟨⟨_, (), rfl, rfl, by rw [ht]; exact hP, va_K.moved hW.alike hK, hD⟩, hS.F ht⟩) hS.2.2 d_M_mixes_154
                    exact L129 N _ _ _ _ _ _ h (lv_sub hl [1, 2, 0] rfl) hP hD hS
                  ·
                    rw [if_neg hc3] at h
                    refine lv_iconst (v := 0) hx hb d_M_mixes_52 (by decide) ?_
                    refine lv_istore_n (lv' := [(3, .int 0), (0, .ref (bd 0)), (1, .int x1), (2, .int x2)]) hx hb d_M_mixes_53 rfl hl (by decide) rfl (fun ls hl => ?_)
                    have L54 : ∀ n54 : Nat, ∀ (τ : vS) (x1 : Int32) (x2 : Int32) (x3 : Int32) (H : Heap) (locs : List Loc) (ls : Array Slot), f_M_mixes_54 N (f_M_mixes_2 N n2) (f_M_mixes_46 N (f_M_mixes_2 N n2) n46) n54 τ x1 x2 x3 = some v → lv_has ls 4 [(0, .ref (bd 0)), (1, .int x1), (2, .int x2), (3, .int x3)] → va_P (dC, dI) CL (Mw bd cb τ) H → va_D A (Mw bd cb τ) → va_S A s.heap H locs → W p l e (headSpec WS ({ frames := 2, cells := 0, slots := 0, locals := 46 })).room s m ([.ref (bd 0)] : List Value).toArray below meth c H locs 0 0 (MQ below (va_Qi (fun (r : Int32) (_ : Unit) => r = v.1) (fun _ t => vq_Post (dC, dI) CL A (Mw bd cb v.2) (Mt cb) t) A) ([.ref (bd 0)] : List Value).toArray s 0 0 A) (F0 m 54 ls []) := by
                      intro n54
                      induction n54 with
                      | zero =>
                        intro τ x1 x2 x3 H locs ls h hl hP hD hS
                        rw [f_M_mixes_54] at h
                        cases h
                      | succ n54 ih54 =>
                        intro τ x1 x2 x3 H locs ls h hl hP hD hS
                        rw [f_M_mixes_54] at h
                        dsimp only at h
                        refine lv_iload_n hx hb d_M_mixes_54 rfl (lv_at hl 3 rfl) ?_
                        refine lv_sipush (v := 256) hx hb d_M_mixes_55 (by decide) ?_
                        refine lv_icmp_ge (tgt := 121) hx hb d_M_mixes_58 (by decide) (fun hc10 => ?_) (fun hc10 => ?_)
                        ·
                          rw [if_pos hc10] at h
                          refine lv_iinc (k := 2) (v := (x2 + 1)) (lv' := [(2, .int (x2 + 1)), (0, .ref (bd 0)), (1, .int x1), (3, .int x3)]) hx hb d_M_mixes_121 hl rfl rfl (by decide) rfl (fun ls hl => ?_)
                          refine lv_goto (tgt := 46) hx hb d_M_mixes_124 (by decide) ?_
                          exact ih46 _ _ _ _ _ _ h (lv_sub hl [1, 2, 0] rfl) hP hD hS
                        ·
                          rw [if_neg hc10] at h
                          refine lv_aload_n hx hb d_M_mixes_61 rfl (lv_at hl 0 rfl) ?_
                          refine g_M_order dC dI bd cb τ hx hb hts hown hK hP k_434 d_M_mixes_62 ?_
                          refine lv_iload_n hx hb d_M_mixes_65 rfl (lv_at hl 3 rfl) ?_
                          refine lv_aload_n hx hb d_M_mixes_66 rfl (lv_at hl 0 rfl) ?_
                          refine g_M_order dC dI bd cb τ hx hb hts hown hK hP k_434 d_M_mixes_67 ?_
                          refine lv_iload_n hx hb d_M_mixes_70 rfl (lv_at hl 3 rfl) ?_
                          obtain ⟨hi11, h⟩ := vq_bd h
                          refine al_M10 dC dI bd cb τ hx hb hts hown hK hP hi11 d_M_mixes_71 ?_
                          obtain ⟨i12, ei12, h⟩ := vq_let h
                          refine vq_top ei12.symm ?_
                          have J114 : ∀ (τ : vS) (x1 : Int32) (x2 : Int32) (x3 : Int32) (y0 : Int32) (y1 : Int32) (H : Heap) (locs : List Loc) (ls : Array Slot), f_M_mixes_114 N (f_M_mixes_2 N n2) (f_M_mixes_46 N (f_M_mixes_2 N n2) n46) (f_M_mixes_54 N (f_M_mixes_2 N n2) (f_M_mixes_46 N (f_M_mixes_2 N n2) n46) n54) τ x1 x2 x3 y0 y1 = some v → lv_has ls 4 [(0, .ref (bd 0)), (1, .int x1), (2, .int x2), (3, .int x3)] → va_P (dC, dI) CL (Mw bd cb τ) H → va_D A (Mw bd cb τ) → va_S A s.heap H locs → W p l e (headSpec WS ({ frames := 2, cells := 0, slots := 0, locals := 46 })).room s m ([.ref (bd 0)] : List Value).toArray below meth c H locs 0 0 (MQ below (va_Qi (fun (r : Int32) (_ : Unit) => r = v.1) (fun _ t => vq_Post (dC, dI) CL A (Mw bd cb v.2) (Mt cb) t) A) ([.ref (bd 0)] : List Value).toArray s 0 0 A) (F0 m 114 ls [.int y0, .int y1, .ref (bd 11)]) := by
                            intro τ x1 x2 x3 y0 y1 H locs ls h hl hP hD hS
                            unfold f_M_mixes_114 at h
                            obtain ⟨hi13, h⟩ := vq_bd h
                            refine as_M10 dC dI bd cb τ hx hb hts hown hK hP hD hS hi13 d_M_mixes_114 (fun H locs hP hD hS => ?_)
                            obtain ⟨σ14, eσ14, h⟩ := vq_let h
                            rw [← eσ14] at hP hD
                            refine lv_iinc (k := 3) (v := (x3 + 1)) (lv' := [(3, .int (x3 + 1)), (0, .ref (bd 0)), (1, .int x1), (2, .int x2)]) hx hb d_M_mixes_115 hl rfl rfl (by decide) rfl (fun ls hl => ?_)
                            refine lv_goto (tgt := 54) hx hb d_M_mixes_118 (by decide) ?_
                            exact ih54 _ _ _ _ _ _ _ h (lv_sub hl [1, 2, 3, 0] rfl) hP hD hS
                          have J109 : ∀ (τ : vS) (x1 : Int32) (x2 : Int32) (x3 : Int32) (y0 : Int32) (H : Heap) (locs : List Loc) (ls : Array Slot), f_M_mixes_109 N (f_M_mixes_2 N n2) (f_M_mixes_46 N (f_M_mixes_2 N n2) n46) (f_M_mixes_54 N (f_M_mixes_2 N n2) (f_M_mixes_46 N (f_M_mixes_2 N n2) n46) n54) τ x1 x2 x3 y0 = some v → lv_has ls 4 [(0, .ref (bd 0)), (1, .int x1), (2, .int x2), (3, .int x3)] → va_P (dC, dI) CL (Mw bd cb τ) H → va_D A (Mw bd cb τ) → va_S A s.heap H locs → W p l e (headSpec WS ({ frames := 2, cells := 0, slots := 0, locals := 46 })).room s m ([.ref (bd 0)] : List Value).toArray below meth c H locs 0 0 (MQ below (va_Qi (fun (r : Int32) (_ : Unit) => r = v.1) (fun _ t => vq_Post (dC, dI) CL A (Mw bd cb v.2) (Mt cb) t) A) ([.ref (bd 0)] : List Value).toArray s 0 0 A) (F0 m 109 ls [.int y0, .ref (bd 11)]) := by
                            intro τ x1 x2 x3 y0 H locs ls h hl hP hD hS
                            unfold f_M_mixes_109 at h
                            refine lv_iconst (v := 1) hx hb d_M_mixes_109 (by decide) ?_
                            refine lv_goto (tgt := 114) hx hb d_M_mixes_110 (by decide) ?_
                            exact J114 _ _ _ _ _ _ _ _ _ h (lv_sub hl [0, 1, 2, 3] rfl) hP hD hS
                          refine lv_if_ne (tgt := 109) hx hb d_M_mixes_72 (by decide) (fun hc15 => ?_) (fun hc15 => ?_)
                          ·
                            rw [if_neg hc15] at h
                            exact J109 _ _ _ _ _ _ _ _ h (lv_sub hl [0, 1, 2, 3] rfl) hP hD hS
                          ·
                            rw [if_pos hc15] at h
                            refine lv_aload_n hx hb d_M_mixes_75 rfl (lv_at hl 0 rfl) ?_
                            refine g_M_order dC dI bd cb τ hx hb hts hown hK hP k_434 d_M_mixes_76 ?_
                            refine lv_iload_n hx hb d_M_mixes_79 rfl (lv_at hl 3 rfl) ?_
                            refine lv_bipush (v := 16) hx hb d_M_mixes_80 (by decide) ?_
                            refine lv_idiv hx hb d_M_mixes_82 (by decide) ?_
                            refine lv_bipush (v := 16) hx hb d_M_mixes_83 (by decide) ?_
                            refine lv_imul hx hb d_M_mixes_85 ?_
                            refine lv_iload_n hx hb d_M_mixes_86 rfl (lv_at hl 2 rfl) ?_
                            refine lv_iadd hx hb d_M_mixes_87 ?_
                            obtain ⟨hi16, h⟩ := vq_bd h
                            refine al_M10 dC dI bd cb τ hx hb hts hown hK hP hi16 d_M_mixes_88 ?_
                            obtain ⟨i17, ei17, h⟩ := vq_let h
                            refine vq_top ei17.symm ?_
                            have J113 : ∀ (τ : vS) (x1 : Int32) (x2 : Int32) (x3 : Int32) (y0 : Int32) (H : Heap) (locs : List Loc) (ls : Array Slot), f_M_mixes_113 N (f_M_mixes_2 N n2) (f_M_mixes_46 N (f_M_mixes_2 N n2) n46) (f_M_mixes_54 N (f_M_mixes_2 N n2) (f_M_mixes_46 N (f_M_mixes_2 N n2) n46) n54) τ x1 x2 x3 y0 = some v → lv_has ls 4 [(0, .ref (bd 0)), (1, .int x1), (2, .int x2), (3, .int x3)] → va_P (dC, dI) CL (Mw bd cb τ) H → va_D A (Mw bd cb τ) → va_S A s.heap H locs → W p l e (headSpec WS ({ frames := 2, cells := 0, slots := 0, locals := 46 })).room s m ([.ref (bd 0)] : List Value).toArray below meth c H locs 0 0 (MQ below (va_Qi (fun (r : Int32) (_ : Unit) => r = v.1) (fun _ t => vq_Post (dC, dI) CL A (Mw bd cb v.2) (Mt cb) t) A) ([.ref (bd 0)] : List Value).toArray s 0 0 A) (F0 m 113 ls [.int y0, .ref (bd 11)]) := by
                              intro τ x1 x2 x3 y0 H locs ls h hl hP hD hS
                              unfold f_M_mixes_113 at h
                              refine lv_iconst (v := 0) hx hb d_M_mixes_113 (by decide) ?_
                              exact J114 _ _ _ _ _ _ _ _ _ h (lv_sub hl [0, 1, 2, 3] rfl) hP hD hS
                            refine lv_if_eq (tgt := 113) hx hb d_M_mixes_89 (by decide) (fun hc18 => ?_) (fun hc18 => ?_)
                            ·
                              rw [if_pos hc18] at h
                              exact J113 _ _ _ _ _ _ _ _ h (lv_sub hl [0, 1, 2, 3] rfl) hP hD hS
                            ·
                              rw [if_neg hc18] at h
                              refine lv_aload_n hx hb d_M_mixes_92 rfl (lv_at hl 0 rfl) ?_
                              refine g_M_order dC dI bd cb τ hx hb hts hown hK hP k_434 d_M_mixes_93 ?_
                              refine lv_bipush (v := 16) hx hb d_M_mixes_96 (by decide) ?_
                              refine lv_iload_n hx hb d_M_mixes_98 rfl (lv_at hl 2 rfl) ?_
                              refine lv_imul hx hb d_M_mixes_99 ?_
                              refine lv_iload_n hx hb d_M_mixes_100 rfl (lv_at hl 3 rfl) ?_
                              refine lv_bipush (v := 16) hx hb d_M_mixes_101 (by decide) ?_
                              refine lv_irem hx hb d_M_mixes_103 (by decide) ?_
                              refine lv_iadd hx hb d_M_mixes_104 ?_
                              obtain ⟨i19, ei19, h⟩ := vq_let h
                              refine vq_top ei19.symm ?_
                              obtain ⟨hi20, h⟩ := vq_bd h
                              refine al_M10 dC dI bd cb τ hx hb hts hown hK hP hi20 d_M_mixes_105 ?_
                              obtain ⟨i21, ei21, h⟩ := vq_let h
                              refine vq_top ei21.symm ?_
                              refine lv_if_eq (tgt := 113) hx hb d_M_mixes_106 (by decide) (fun hc22 => ?_) (fun hc22 => ?_)
                              ·
                                rw [if_pos hc22] at h
                                exact J113 _ _ _ _ _ _ _ _ h (lv_sub hl [0, 1, 2, 3] rfl) hP hD hS
                              ·
                                rw [if_neg hc22] at h
                                exact J109 _ _ _ _ _ _ _ _ h (lv_sub hl [0, 1, 2, 3] rfl) hP hD hS
                    exact L54 N _ _ _ _ _ _ _ h (lv_sub hl [1, 2, 3, 0] rfl) hP hD hS
              exact L46 N _ _ _ _ _ _ h (lv_sub hl [1, 2, 0] rfl) hP hD hS
            ·
              rw [if_neg hc2] at h
              refine lv_aload_n hx hb d_M_mixes_19 rfl (lv_at hl 0 rfl) ?_
              refine g_M_order dC dI bd cb τ hx hb hts hown hK hP k_434 d_M_mixes_20 ?_
              refine lv_iload_n hx hb d_M_mixes_23 rfl (lv_at hl 2 rfl) ?_
              refine lv_aload_n hx hb d_M_mixes_24 rfl (lv_at hl 0 rfl) ?_
              refine lv_iload_n hx hb d_M_mixes_25 rfl (lv_at hl 1 rfl) ?_
              refine lv_iload_n hx hb d_M_mixes_26 rfl (lv_at hl 2 rfl) ?_
              refine lv_bipush (v := 16) hx hb d_M_mixes_27 (by decide) ?_
              refine lv_idiv hx hb d_M_mixes_29 (by decide) ?_
              refine lv_iload_n hx hb d_M_mixes_30 rfl (lv_at hl 2 rfl) ?_
              refine lv_bipush (v := 16) hx hb d_M_mixes_31 (by decide) ?_
              refine lv_irem hx hb d_M_mixes_33 (by decide) ?_
              obtain ⟨q23, h24, h⟩ := vq_bi h
              have hFc := vq_freeAll hD hS hA
              refine va_calli (va_runV (As := [.int x1, .int (x2 / 16), .int (x2 - x2 / 16 * 16)]) (rest := [.int x2, .ref (bd 11)]) ⟨hx, hb, hml, hown, hts⟩ (c_M_isDemanded l htr dC dI bd cb N τ x1 (x2 / 16) (x2 - x2 / 16 * 16) q23 h24 H.size) (vq_cV WSk hts 3 rfl rfl ⟨by decide, by decide⟩ k_432 k_367 k_435 k_436 k_437 (by decide +kernel)) ⟨vq_blind, va_recv hK hP (ci := 8) (q0 := 0) rfl rfl, vq_here hst hS hN hP hK hD⟩ rfl rfl hl.1 rfl (lv_room (Nat.le_of_ble_eq_true rfl)) d_M_mixes_34 ⟨by decide, by decide⟩) hS (fun q _ h => hFc q h) hFc (fun r u t H1 locs ht hvm hw hB hz1 hk1 hS => ?_)
              obtain ⟨hP, -, hD1⟩ := hB
              rw [ht] at hP
              have hD := hD1.weaken (fun _ _ _ h => hFc _ h)
              have hw : r = q23.1 := hw
              subst hw
              generalize H1 = H at hP hS ⊢
              refine W.widen (k := 0) (n := 0) (by decide) (by decide) ?_
              obtain ⟨hi25, h⟩ := vq_bd h
              refine as_M10 dC dI bd cb q23.2 hx hb hts hown hK hP hD hS hi25 d_M_mixes_37 (fun H locs hP hD hS => ?_)
              obtain ⟨σ26, eσ26, h⟩ := vq_let h
              rw [← eσ26] at hP hD
              refine lv_iinc (k := 2) (v := (x2 + 1)) (lv' := [(2, .int (x2 + 1)), (0, .ref (bd 0)), (1, .int x1)]) hx hb d_M_mixes_38 hl rfl rfl (by decide) rfl (fun ls hl => ?_)
              refine lv_goto (tgt := 12) hx hb d_M_mixes_41 (by decide) ?_
              exact ih12 _ _ _ _ _ _ h (lv_sub hl [1, 2, 0] rfl) hP hD hS
        exact L12 N _ _ _ _ _ _ h (lv_sub hl [1, 2, 0] rfl) hP hD hS
  exact L2 N _ _ _ _ _ h (lv_sub hl [1, 0] rfl) hP hD hS
