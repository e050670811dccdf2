set_option maxHeartbeats 4000000 in
set_option maxRecDepth 100000 in
theorem c_G_init (l : Launch) (htr : l.stackTraces = false) (dC : Nat → ClassId) (dI : Nat → Nat → Nat) (h : Nat) (sz : Nat) : Met l y_G_init WS ({ frames := 1, cells := 11, slots := 732, locals := 12 }) (va_Pc [.ref h] (vq_Pre (dC, dI) CL sz [(h, .inr (1, [.null, .null, .int 0, .null, .null, .null, .null, .int 0, .null, .null, .null, .null, .null]))] [])) (va_Qv (fun _ : Unit => True) (fun _ t => ∃ q1 : Nat, ∃ q3 : Nat, ∃ q5 : Nat, ∃ q7 : Nat, ∃ q9 : Nat, ∃ q11 : Nat, ∃ q13 : Nat, ∃ q15 : Nat, ∃ q17 : Nat, ∃ q19 : Nat, ∃ q21 : Nat, ∃ c2 : ClassId, ∃ c4 : ClassId, vq_Post (dC, dI) CL (va_A [(h, .inr (1, [.null, .null, .int 0, .null, .null, .null, .null, .int 0, .null, .null, .null, .null, .null]))] sz) [(h, .inr (1, [.ref q1, .ref q3, .int 0, .ref q5, .ref q7, .ref q9, .ref q11, .int 0, .ref q13, .ref q15, .ref q17, .ref q19, .ref q21])), (q1, .inl (c2, 6, .inl ((fun _ => 0)))), (q3, .inl (c4, 6, .inl ((fun _ => 0))))] [(c2, .int), (c4, .int)] t) (va_A [(h, .inr (1, [.null, .null, .int 0, .null, .null, .null, .null, .int 0, .null, .null, .null, .null, .null]))] sz)) 11 732 (va_A [(h, .inr (1, [.null, .null, .int 0, .null, .null, .null, .null, .int 0, .null, .null, .null, .null, .null]))] sz) := by
  refine vq_ofW (cc := prog_3_method_1_code) (maxL := 1) (ret := (Option.none : Option Jvm.ClassFile.FieldType)) (by decide) (vq_his k_0) ?_
  intro p e s m args below meth c s₁ B hml hv
  obtain ⟨rfl, hst, hsz, hP, hK, hD0⟩ := hv
  have hx := B.exec
  have hb := B.bytes
  have hr := B.returns
  have hts := atoms_spec (ws := WS) B.pre
  have hown : s.vm.findClass R_G = some m.cls := findClass_of_methodNamed B.named
  have hlocks := B.notSynchronized
  have hin : meth.name = "<init>" := (name_of_methodNamed B.named B.method).1
  have hno := vq_noH B (hts _ k_0)
  subst hsz
  have hN := vq_ns hP
  have hD := hD0.self (sz := s.heap.size)
  generalize hAe : va_A [(h, .inr (1, [.null, .null, .int 0, .null, .null, .null, .null, .int 0, .null, .null, .null, .null, .null]))] s.heap.size = A at hD hN ⊢
  have hA : ∀ q : Nat, s.heap.size ≤ q → A q := fun q h => by rw [← hAe]; exact Or.inr h
  have hS : va_S A s.heap s.heap [] := va_S.rf
  have hP : va_P (dC, dI) CL [(h, .inr (1, [.null, .null, .int 0, .null, .null, .null, .null, .int 0, .null, .null, .null, .null, .null]))] s.heap := hP
  have hD : va_D A [(h, .inr (1, [.null, .null, .int 0, .null, .null, .null, .null, .int 0, .null, .null, .null, .null, .null]))] := hD
  have hl := lv_entry ([.ref h]) (n := 1) (Nat.le_of_ble_eq_true rfl)
  rw [lg_entry_eq]
  generalize (lg_sl ([.ref h]) ++ List.replicate (1 - (lg_sl ([.ref h])).length) Slot.unset).toArray = ls at hl ⊢
  have hl : lv_has ls 1 [(0, .ref h)] := hl
  refine lv_aload_n hx hb d_G_init_0 rfl (lv_at hl 0 rfl) ?_
  refine W.objInit hx hb hown (hts _ k_1) (hts _ k_2) (hts _ k_3) rfl (by rw [hml]; exact hl.1) rfl d_G_init_1 (Nat.le_of_ble_eq_true rfl) (Nat.le_of_ble_eq_true rfl) ?_
  refine W.eq (g2 := F0 m 4 ls []) rfl ?_
  refine lv_aload_n hx hb d_G_init_4 rfl (lv_at hl 0 rfl) ?_
  refine lv_bipush (v := 6) hx hb d_G_init_5 (by decide) ?_
  refine va_newa (D := (dC, dI)) (ty := .int) (N' := 6) (a0 := (6, .inl (fun _ => 0))) hx hb (hts _ k_4) rfl hK hP hD hS hA (fun _ => rfl) (by decide) (by decide) (by decide) (Nat.le_of_ble_eq_true rfl) (Nat.le_of_ble_eq_true rfl) d_G_init_7 (fun q1 c2 H hK hP hD hS => ?_)
  have hP : va_P (dC, dI) CL [(h, .inr (1, [.null, .null, .int 0, .null, .null, .null, .null, .int 0, .null, .null, .null, .null, .null])), (q1, .inl (c2, 6, .inl ((fun _ => 0))))] H := hP
  have hD : va_D A [(h, .inr (1, [.null, .null, .int 0, .null, .null, .null, .null, .int 0, .null, .null, .null, .null, .null])), (q1, .inl (c2, 6, .inl ((fun _ => 0))))] := hD
  have hK : va_K (dC, dI) CL [(c2, .int)] s := hK
  refine W.widen (k := 1) (n := 6) (by decide) (by decide) ?_
  refine va_putF (D := (dC, dI)) (ci := 1) (v := .ref q1) (ty := .array .int) (C := R_G) (T := F_G) (N := 13) hx hb hts u_G t_G t_G_ok n_G hown hK hP hD hS 0 rfl rfl 0 (by decide) (hts _ k_5) (fun _ h9 => h9) rfl hin rfl (by decide +kernel) rfl rfl (Nat.le_of_ble_eq_true rfl) d_G_init_9 (fun H locs hP hD hS => ?_)
  have hP : va_P (dC, dI) CL [(h, .inr (1, [.ref q1, .null, .int 0, .null, .null, .null, .null, .int 0, .null, .null, .null, .null, .null])), (q1, .inl (c2, 6, .inl ((fun _ => 0))))] H := hP
  have hD : va_D A [(h, .inr (1, [.ref q1, .null, .int 0, .null, .null, .null, .null, .int 0, .null, .null, .null, .null, .null])), (q1, .inl (c2, 6, .inl ((fun _ => 0))))] := hD
  refine lv_aload_n hx hb d_G_init_12 rfl (lv_at hl 0 rfl) ?_
  refine lv_bipush (v := 6) hx hb d_G_init_13 (by decide) ?_
  refine va_newa (D := (dC, dI)) (ty := .int) (N' := 6) (a0 := (6, .inl (fun _ => 0))) hx hb (hts _ k_4) rfl hK hP hD hS hA (fun _ => rfl) (by decide) (by decide) (by decide) (Nat.le_of_ble_eq_true rfl) (Nat.le_of_ble_eq_true rfl) d_G_init_15 (fun q3 c4 H hK hP hD hS => ?_)
  have hP : va_P (dC, dI) CL [(h, .inr (1, [.ref q1, .null, .int 0, .null, .null, .null, .null, .int 0, .null, .null, .null, .null, .null])), (q1, .inl (c2, 6, .inl ((fun _ => 0)))), (q3, .inl (c4, 6, .inl ((fun _ => 0))))] H := hP
  have hD : va_D A [(h, .inr (1, [.ref q1, .null, .int 0, .null, .null, .null, .null, .int 0, .null, .null, .null, .null, .null])), (q1, .inl (c2, 6, .inl ((fun _ => 0)))), (q3, .inl (c4, 6, .inl ((fun _ => 0))))] := hD
  have hK : va_K (dC, dI) CL [(c2, .int), (c4, .int)] s := hK
  refine W.widen (k := 2) (n := 12) (by decide) (by decide) ?_
  refine va_putF (D := (dC, dI)) (ci := 1) (v := .ref q3) (ty := .array .int) (C := R_G) (T := F_G) (N := 13) hx hb hts u_G t_G t_G_ok n_G hown hK hP hD hS 0 rfl rfl 1 (by decide) (hts _ k_6) (fun _ h9 => h9) rfl hin rfl (by decide +kernel) rfl rfl (Nat.le_of_ble_eq_true rfl) d_G_init_17 (fun H locs hP hD hS => ?_)
  have hP : va_P (dC, dI) CL [(h, .inr (1, [.ref q1, .ref q3, .int 0, .null, .null, .null, .null, .int 0, .null, .null, .null, .null, .null])), (q1, .inl (c2, 6, .inl ((fun _ => 0)))), (q3, .inl (c4, 6, .inl ((fun _ => 0))))] H := hP
  have hD : va_D A [(h, .inr (1, [.ref q1, .ref q3, .int 0, .null, .null, .null, .null, .int 0, .null, .null, .null, .null, .null])), (q1, .inl (c2, 6, .inl ((fun _ => 0)))), (q3, .inl (c4, 6, .inl ((fun _ => 0))))] := hD
  refine lv_aload_n hx hb d_G_init_20 rfl (lv_at hl 0 rfl) ?_
  refine lv_bipush (v := 40) hx hb d_G_init_21 (by decide) ?_
  refine va_newa (D := (dC, dI)) (ty := .int) (N' := 40) (a0 := (40, .inl (fun _ => 0))) hx hb (hts _ k_4) rfl hK hP hD hS hA (fun _ => rfl) (by decide) (by decide) (by decide) (Nat.le_of_ble_eq_true rfl) (Nat.le_of_ble_eq_true rfl) d_G_init_23 (fun q5 c6 H hK hP hD hS => ?_)
  have hP : va_P (dC, dI) CL [(h, .inr (1, [.ref q1, .ref q3, .int 0, .null, .null, .null, .null, .int 0, .null, .null, .null, .null, .null])), (q1, .inl (c2, 6, .inl ((fun _ => 0)))), (q3, .inl (c4, 6, .inl ((fun _ => 0)))), (q5, .inl (c6, 40, .inl ((fun _ => 0))))] H := hP
  have hD : va_D A [(h, .inr (1, [.ref q1, .ref q3, .int 0, .null, .null, .null, .null, .int 0, .null, .null, .null, .null, .null])), (q1, .inl (c2, 6, .inl ((fun _ => 0)))), (q3, .inl (c4, 6, .inl ((fun _ => 0)))), (q5, .inl (c6, 40, .inl ((fun _ => 0))))] := hD
  have hK : va_K (dC, dI) CL [(c2, .int), (c4, .int), (c6, .int)] s := hK
  refine W.widen (k := 3) (n := 52) (by decide) (by decide) ?_
  refine va_putF (D := (dC, dI)) (ci := 1) (v := .ref q5) (ty := .array .int) (C := R_G) (T := F_G) (N := 13) hx hb hts u_G t_G t_G_ok n_G hown hK hP hD hS 0 rfl rfl 3 (by decide) (hts _ k_7) (fun _ h9 => h9) rfl hin rfl (by decide +kernel) rfl rfl (Nat.le_of_ble_eq_true rfl) d_G_init_25 (fun H locs hP hD hS => ?_)
  have hP : va_P (dC, dI) CL [(h, .inr (1, [.ref q1, .ref q3, .int 0, .ref q5, .null, .null, .null, .int 0, .null, .null, .null, .null, .null])), (q1, .inl (c2, 6, .inl ((fun _ => 0)))), (q3, .inl (c4, 6, .inl ((fun _ => 0)))), (q5, .inl (c6, 40, .inl ((fun _ => 0))))] H := hP
  have hD : va_D A [(h, .inr (1, [.ref q1, .ref q3, .int 0, .ref q5, .null, .null, .null, .int 0, .null, .null, .null, .null, .null])), (q1, .inl (c2, 6, .inl ((fun _ => 0)))), (q3, .inl (c4, 6, .inl ((fun _ => 0)))), (q5, .inl (c6, 40, .inl ((fun _ => 0))))] := hD
  have hP := hP.sub (ws' := [(h, .inr (1, [.ref q1, .ref q3, .int 0, .ref q5, .null, .null, .null, .int 0, .null, .null, .null, .null, .null])), (q1, .inl (c2, 6, .inl ((fun _ => 0)))), (q3, .inl (c4, 6, .inl ((fun _ => 0))))]) [0, 1, 2] rfl
  have hD := hD.sub (ws' := [(h, .inr (1, [.ref q1, .ref q3, .int 0, .ref q5, .null, .null, .null, .int 0, .null, .null, .null, .null, .null])), (q1, .inl (c2, 6, .inl ((fun _ => 0)))), (q3, .inl (c4, 6, .inl ((fun _ => 0))))]) [0, 1, 2] (by decide) rfl
  have hK := hK.sub (tys' := [(c2, .int), (c4, .int)]) [0, 1] rfl
  refine lv_aload_n hx hb d_G_init_28 rfl (lv_at hl 0 rfl) ?_
  refine lv_bipush (v := 10) hx hb d_G_init_29 (by decide) ?_
  refine va_newa (D := (dC, dI)) (ty := .int) (N' := 10) (a0 := (10, .inl (fun _ => 0))) hx hb (hts _ k_4) rfl hK hP hD hS hA (fun _ => rfl) (by decide) (by decide) (by decide) (Nat.le_of_ble_eq_true rfl) (Nat.le_of_ble_eq_true rfl) d_G_init_31 (fun q7 c8 H hK hP hD hS => ?_)
  have hP : va_P (dC, dI) CL [(h, .inr (1, [.ref q1, .ref q3, .int 0, .ref q5, .null, .null, .null, .int 0, .null, .null, .null, .null, .null])), (q1, .inl (c2, 6, .inl ((fun _ => 0)))), (q3, .inl (c4, 6, .inl ((fun _ => 0)))), (q7, .inl (c8, 10, .inl ((fun _ => 0))))] H := hP
  have hD : va_D A [(h, .inr (1, [.ref q1, .ref q3, .int 0, .ref q5, .null, .null, .null, .int 0, .null, .null, .null, .null, .null])), (q1, .inl (c2, 6, .inl ((fun _ => 0)))), (q3, .inl (c4, 6, .inl ((fun _ => 0)))), (q7, .inl (c8, 10, .inl ((fun _ => 0))))] := hD
  have hK : va_K (dC, dI) CL [(c2, .int), (c4, .int), (c8, .int)] s := hK
  refine W.widen (k := 4) (n := 62) (by decide) (by decide) ?_
  refine va_putF (D := (dC, dI)) (ci := 1) (v := .ref q7) (ty := .array .int) (C := R_G) (T := F_G) (N := 13) hx hb hts u_G t_G t_G_ok n_G hown hK hP hD hS 0 rfl rfl 4 (by decide) (hts _ k_8) (fun _ h9 => h9) rfl hin rfl (by decide +kernel) rfl rfl (Nat.le_of_ble_eq_true rfl) d_G_init_33 (fun H locs hP hD hS => ?_)
  have hP : va_P (dC, dI) CL [(h, .inr (1, [.ref q1, .ref q3, .int 0, .ref q5, .ref q7, .null, .null, .int 0, .null, .null, .null, .null, .null])), (q1, .inl (c2, 6, .inl ((fun _ => 0)))), (q3, .inl (c4, 6, .inl ((fun _ => 0)))), (q7, .inl (c8, 10, .inl ((fun _ => 0))))] H := hP
  have hD : va_D A [(h, .inr (1, [.ref q1, .ref q3, .int 0, .ref q5, .ref q7, .null, .null, .int 0, .null, .null, .null, .null, .null])), (q1, .inl (c2, 6, .inl ((fun _ => 0)))), (q3, .inl (c4, 6, .inl ((fun _ => 0)))), (q7, .inl (c8, 10, .inl ((fun _ => 0))))] := hD
  have hP := hP.sub (ws' := [(h, .inr (1, [.ref q1, .ref q3, .int 0, .ref q5, .ref q7, .null, .null, .int 0, .null, .null, .null, .null, .null])), (q1, .inl (c2, 6, .inl ((fun _ => 0)))), (q3, .inl (c4, 6, .inl ((fun _ => 0))))]) [0, 1, 2] rfl
  have hD := hD.sub (ws' := [(h, .inr (1, [.ref q1, .ref q3, .int 0, .ref q5, .ref q7, .null, .null, .int 0, .null, .null, .null, .null, .null])), (q1, .inl (c2, 6, .inl ((fun _ => 0)))), (q3, .inl (c4, 6, .inl ((fun _ => 0))))]) [0, 1, 2] (by decide) rfl
  have hK := hK.sub (tys' := [(c2, .int), (c4, .int)]) [0, 1] rfl
  refine lv_aload_n hx hb d_G_init_36 rfl (lv_at hl 0 rfl) ?_
  refine lv_bipush (v := 10) hx hb d_G_init_37 (by decide) ?_
  refine va_newa (D := (dC, dI)) (ty := .int) (N' := 10) (a0 := (10, .inl (fun _ => 0))) hx hb (hts _ k_4) rfl hK hP hD hS hA (fun _ => rfl) (by decide) (by decide) (by decide) (Nat.le_of_ble_eq_true rfl) (Nat.le_of_ble_eq_true rfl) d_G_init_39 (fun q9 c10 H hK hP hD hS => ?_)
  have hP : va_P (dC, dI) CL [(h, .inr (1, [.ref q1, .ref q3, .int 0, .ref q5, .ref q7, .null, .null, .int 0, .null, .null, .null, .null, .null])), (q1, .inl (c2, 6, .inl ((fun _ => 0)))), (q3, .inl (c4, 6, .inl ((fun _ => 0)))), (q9, .inl (c10, 10, .inl ((fun _ => 0))))] H := hP
  have hD : va_D A [(h, .inr (1, [.ref q1, .ref q3, .int 0, .ref q5, .ref q7, .null, .null, .int 0, .null, .null, .null, .null, .null])), (q1, .inl (c2, 6, .inl ((fun _ => 0)))), (q3, .inl (c4, 6, .inl ((fun _ => 0)))), (q9, .inl (c10, 10, .inl ((fun _ => 0))))] := hD
  have hK : va_K (dC, dI) CL [(c2, .int), (c4, .int), (c10, .int)] s := hK
  refine W.widen (k := 5) (n := 72) (by decide) (by decide) ?_
  refine va_putF (D := (dC, dI)) (ci := 1) (v := .ref q9) (ty := .array .int) (C := R_G) (T := F_G) (N := 13) hx hb hts u_G t_G t_G_ok n_G hown hK hP hD hS 0 rfl rfl 5 (by decide) (hts _ k_9) (fun _ h9 => h9) rfl hin rfl (by decide +kernel) rfl rfl (Nat.le_of_ble_eq_true rfl) d_G_init_41 (fun H locs hP hD hS => ?_)
  have hP : va_P (dC, dI) CL [(h, .inr (1, [.ref q1, .ref q3, .int 0, .ref q5, .ref q7, .ref q9, .null, .int 0, .null, .null, .null, .null, .null])), (q1, .inl (c2, 6, .inl ((fun _ => 0)))), (q3, .inl (c4, 6, .inl ((fun _ => 0)))), (q9, .inl (c10, 10, .inl ((fun _ => 0))))] H := hP
  have hD : va_D A [(h, .inr (1, [.ref q1, .ref q3, .int 0, .ref q5, .ref q7, .ref q9, .null, .int 0, .null, .null, .null, .null, .null])), (q1, .inl (c2, 6, .inl ((fun _ => 0)))), (q3, .inl (c4, 6, .inl ((fun _ => 0)))), (q9, .inl (c10, 10, .inl ((fun _ => 0))))] := hD
  have hP := hP.sub (ws' := [(h, .inr (1, [.ref q1, .ref q3, .int 0, .ref q5, .ref q7, .ref q9, .null, .int 0, .null, .null, .null, .null, .null])), (q1, .inl (c2, 6, .inl ((fun _ => 0)))), (q3, .inl (c4, 6, .inl ((fun _ => 0))))]) [0, 1, 2] rfl
  have hD := hD.sub (ws' := [(h, .inr (1, [.ref q1, .ref q3, .int 0, .ref q5, .ref q7, .ref q9, .null, .int 0, .null, .null, .null, .null, .null])), (q1, .inl (c2, 6, .inl ((fun _ => 0)))), (q3, .inl (c4, 6, .inl ((fun _ => 0))))]) [0, 1, 2] (by decide) rfl
  have hK := hK.sub (tys' := [(c2, .int), (c4, .int)]) [0, 1] rfl
  refine lv_aload_n hx hb d_G_init_44 rfl (lv_at hl 0 rfl) ?_
  refine lv_bipush (v := 10) hx hb d_G_init_45 (by decide) ?_
  refine va_newa (D := (dC, dI)) (ty := .int) (N' := 10) (a0 := (10, .inl (fun _ => 0))) hx hb (hts _ k_4) rfl hK hP hD hS hA (fun _ => rfl) (by decide) (by decide) (by decide) (Nat.le_of_ble_eq_true rfl) (Nat.le_of_ble_eq_true rfl) d_G_init_47 (fun q11 c12 H hK hP hD hS => ?_)
  have hP : va_P (dC, dI) CL [(h, .inr (1, [.ref q1, .ref q3, .int 0, .ref q5, .ref q7, .ref q9, .null, .int 0, .null, .null, .null, .null, .null])), (q1, .inl (c2, 6, .inl ((fun _ => 0)))), (q3, .inl (c4, 6, .inl ((fun _ => 0)))), (q11, .inl (c12, 10, .inl ((fun _ => 0))))] H := hP
  have hD : va_D A [(h, .inr (1, [.ref q1, .ref q3, .int 0, .ref q5, .ref q7, .ref q9, .null, .int 0, .null, .null, .null, .null, .null])), (q1, .inl (c2, 6, .inl ((fun _ => 0)))), (q3, .inl (c4, 6, .inl ((fun _ => 0)))), (q11, .inl (c12, 10, .inl ((fun _ => 0))))] := hD
  have hK : va_K (dC, dI) CL [(c2, .int), (c4, .int), (c12, .int)] s := hK
  refine W.widen (k := 6) (n := 82) (by decide) (by decide) ?_
  refine va_putF (D := (dC, dI)) (ci := 1) (v := .ref q11) (ty := .array .int) (C := R_G) (T := F_G) (N := 13) hx hb hts u_G t_G t_G_ok n_G hown hK hP hD hS 0 rfl rfl 6 (by decide) (hts _ k_10) (fun _ h9 => h9) rfl hin rfl (by decide +kernel) rfl rfl (Nat.le_of_ble_eq_true rfl) d_G_init_49 (fun H locs hP hD hS => ?_)
  have hP : va_P (dC, dI) CL [(h, .inr (1, [.ref q1, .ref q3, .int 0, .ref q5, .ref q7, .ref q9, .ref q11, .int 0, .null, .null, .null, .null, .null])), (q1, .inl (c2, 6, .inl ((fun _ => 0)))), (q3, .inl (c4, 6, .inl ((fun _ => 0)))), (q11, .inl (c12, 10, .inl ((fun _ => 0))))] H := hP
  have hD : va_D A [(h, .inr (1, [.ref q1, .ref q3, .int 0, .ref q5, .ref q7, .ref q9, .ref q11, .int 0, .null, .null, .null, .null, .null])), (q1, .inl (c2, 6, .inl ((fun _ => 0)))), (q3, .inl (c4, 6, .inl ((fun _ => 0)))), (q11, .inl (c12, 10, .inl ((fun _ => 0))))] := hD
  have hP := hP.sub (ws' := [(h, .inr (1, [.ref q1, .ref q3, .int 0, .ref q5, .ref q7, .ref q9, .ref q11, .int 0, .null, .null, .null, .null, .null])), (q1, .inl (c2, 6, .inl ((fun _ => 0)))), (q3, .inl (c4, 6, .inl ((fun _ => 0))))]) [0, 1, 2] rfl
  have hD := hD.sub (ws' := [(h, .inr (1, [.ref q1, .ref q3, .int 0, .ref q5, .ref q7, .ref q9, .ref q11, .int 0, .null, .null, .null, .null, .null])), (q1, .inl (c2, 6, .inl ((fun _ => 0)))), (q3, .inl (c4, 6, .inl ((fun _ => 0))))]) [0, 1, 2] (by decide) rfl
  have hK := hK.sub (tys' := [(c2, .int), (c4, .int)]) [0, 1] rfl
  refine lv_aload_n hx hb d_G_init_52 rfl (lv_at hl 0 rfl) ?_
  refine lv_bipush (v := 10) hx hb d_G_init_53 (by decide) ?_
  refine va_newa (D := (dC, dI)) (ty := .int) (N' := 10) (a0 := (10, .inl (fun _ => 0))) hx hb (hts _ k_4) rfl hK hP hD hS hA (fun _ => rfl) (by decide) (by decide) (by decide) (Nat.le_of_ble_eq_true rfl) (Nat.le_of_ble_eq_true rfl) d_G_init_55 (fun q13 c14 H hK hP hD hS => ?_)
  have hP : va_P (dC, dI) CL [(h, .inr (1, [.ref q1, .ref q3, .int 0, .ref q5, .ref q7, .ref q9, .ref q11, .int 0, .null, .null, .null, .null, .null])), (q1, .inl (c2, 6, .inl ((fun _ => 0)))), (q3, .inl (c4, 6, .inl ((fun _ => 0)))), (q13, .inl (c14, 10, .inl ((fun _ => 0))))] H := hP
  have hD : va_D A [(h, .inr (1, [.ref q1, .ref q3, .int 0, .ref q5, .ref q7, .ref q9, .ref q11, .int 0, .null, .null, .null, .null, .null])), (q1, .inl (c2, 6, .inl ((fun _ => 0)))), (q3, .inl (c4, 6, .inl ((fun _ => 0)))), (q13, .inl (c14, 10, .inl ((fun _ => 0))))] := hD
  have hK : va_K (dC, dI) CL [(c2, .int), (c4, .int), (c14, .int)] s := hK
  refine W.widen (k := 7) (n := 92) (by decide) (by decide) ?_
  refine va_putF (D := (dC, dI)) (ci := 1) (v := .ref q13) (ty := .array .int) (C := R_G) (T := F_G) (N := 13) hx hb hts u_G t_G t_G_ok n_G hown hK hP hD hS 0 rfl rfl 8 (by decide) (hts _ k_11) (fun _ h9 => h9) rfl hin rfl (by decide +kernel) rfl rfl (Nat.le_of_ble_eq_true rfl) d_G_init_57 (fun H locs hP hD hS => ?_)
  have hP : va_P (dC, dI) CL [(h, .inr (1, [.ref q1, .ref q3, .int 0, .ref q5, .ref q7, .ref q9, .ref q11, .int 0, .ref q13, .null, .null, .null, .null])), (q1, .inl (c2, 6, .inl ((fun _ => 0)))), (q3, .inl (c4, 6, .inl ((fun _ => 0)))), (q13, .inl (c14, 10, .inl ((fun _ => 0))))] H := hP
  have hD : va_D A [(h, .inr (1, [.ref q1, .ref q3, .int 0, .ref q5, .ref q7, .ref q9, .ref q11, .int 0, .ref q13, .null, .null, .null, .null])), (q1, .inl (c2, 6, .inl ((fun _ => 0)))), (q3, .inl (c4, 6, .inl ((fun _ => 0)))), (q13, .inl (c14, 10, .inl ((fun _ => 0))))] := hD
  have hP := hP.sub (ws' := [(h, .inr (1, [.ref q1, .ref q3, .int 0, .ref q5, .ref q7, .ref q9, .ref q11, .int 0, .ref q13, .null, .null, .null, .null])), (q1, .inl (c2, 6, .inl ((fun _ => 0)))), (q3, .inl (c4, 6, .inl ((fun _ => 0))))]) [0, 1, 2] rfl
  have hD := hD.sub (ws' := [(h, .inr (1, [.ref q1, .ref q3, .int 0, .ref q5, .ref q7, .ref q9, .ref q11, .int 0, .ref q13, .null, .null, .null, .null])), (q1, .inl (c2, 6, .inl ((fun _ => 0)))), (q3, .inl (c4, 6, .inl ((fun _ => 0))))]) [0, 1, 2] (by decide) rfl
  have hK := hK.sub (tys' := [(c2, .int), (c4, .int)]) [0, 1] rfl
  refine lv_aload_n hx hb d_G_init_60 rfl (lv_at hl 0 rfl) ?_
  refine lv_sipush (v := 160) hx hb d_G_init_61 (by decide) ?_
  refine va_newa (D := (dC, dI)) (ty := .int) (N' := 160) (a0 := (160, .inl (fun _ => 0))) hx hb (hts _ k_4) rfl hK hP hD hS hA (fun _ => rfl) (by decide) (by decide) (by decide) (Nat.le_of_ble_eq_true rfl) (Nat.le_of_ble_eq_true rfl) d_G_init_64 (fun q15 c16 H hK hP hD hS => ?_)
  have hP : va_P (dC, dI) CL [(h, .inr (1, [.ref q1, .ref q3, .int 0, .ref q5, .ref q7, .ref q9, .ref q11, .int 0, .ref q13, .null, .null, .null, .null])), (q1, .inl (c2, 6, .inl ((fun _ => 0)))), (q3, .inl (c4, 6, .inl ((fun _ => 0)))), (q15, .inl (c16, 160, .inl ((fun _ => 0))))] H := hP
  have hD : va_D A [(h, .inr (1, [.ref q1, .ref q3, .int 0, .ref q5, .ref q7, .ref q9, .ref q11, .int 0, .ref q13, .null, .null, .null, .null])), (q1, .inl (c2, 6, .inl ((fun _ => 0)))), (q3, .inl (c4, 6, .inl ((fun _ => 0)))), (q15, .inl (c16, 160, .inl ((fun _ => 0))))] := hD
  have hK : va_K (dC, dI) CL [(c2, .int), (c4, .int), (c16, .int)] s := hK
  refine W.widen (k := 8) (n := 252) (by decide) (by decide) ?_
  refine va_putF (D := (dC, dI)) (ci := 1) (v := .ref q15) (ty := .array .int) (C := R_G) (T := F_G) (N := 13) hx hb hts u_G t_G t_G_ok n_G hown hK hP hD hS 0 rfl rfl 9 (by decide) (hts _ k_12) (fun _ h9 => h9) rfl hin rfl (by decide +kernel) rfl rfl (Nat.le_of_ble_eq_true rfl) d_G_init_66 (fun H locs hP hD hS => ?_)
  have hP : va_P (dC, dI) CL [(h, .inr (1, [.ref q1, .ref q3, .int 0, .ref q5, .ref q7, .ref q9, .ref q11, .int 0, .ref q13, .ref q15, .null, .null, .null])), (q1, .inl (c2, 6, .inl ((fun _ => 0)))), (q3, .inl (c4, 6, .inl ((fun _ => 0)))), (q15, .inl (c16, 160, .inl ((fun _ => 0))))] H := hP
  have hD : va_D A [(h, .inr (1, [.ref q1, .ref q3, .int 0, .ref q5, .ref q7, .ref q9, .ref q11, .int 0, .ref q13, .ref q15, .null, .null, .null])), (q1, .inl (c2, 6, .inl ((fun _ => 0)))), (q3, .inl (c4, 6, .inl ((fun _ => 0)))), (q15, .inl (c16, 160, .inl ((fun _ => 0))))] := hD
  have hP := hP.sub (ws' := [(h, .inr (1, [.ref q1, .ref q3, .int 0, .ref q5, .ref q7, .ref q9, .ref q11, .int 0, .ref q13, .ref q15, .null, .null, .null])), (q1, .inl (c2, 6, .inl ((fun _ => 0)))), (q3, .inl (c4, 6, .inl ((fun _ => 0))))]) [0, 1, 2] rfl
  have hD := hD.sub (ws' := [(h, .inr (1, [.ref q1, .ref q3, .int 0, .ref q5, .ref q7, .ref q9, .ref q11, .int 0, .ref q13, .ref q15, .null, .null, .null])), (q1, .inl (c2, 6, .inl ((fun _ => 0)))), (q3, .inl (c4, 6, .inl ((fun _ => 0))))]) [0, 1, 2] (by decide) rfl
  have hK := hK.sub (tys' := [(c2, .int), (c4, .int)]) [0, 1] rfl
  refine lv_aload_n hx hb d_G_init_69 rfl (lv_at hl 0 rfl) ?_
  refine lv_sipush (v := 160) hx hb d_G_init_70 (by decide) ?_
  refine va_newa (D := (dC, dI)) (ty := .int) (N' := 160) (a0 := (160, .inl (fun _ => 0))) hx hb (hts _ k_4) rfl hK hP hD hS hA (fun _ => rfl) (by decide) (by decide) (by decide) (Nat.le_of_ble_eq_true rfl) (Nat.le_of_ble_eq_true rfl) d_G_init_73 (fun q17 c18 H hK hP hD hS => ?_)
  have hP : va_P (dC, dI) CL [(h, .inr (1, [.ref q1, .ref q3, .int 0, .ref q5, .ref q7, .ref q9, .ref q11, .int 0, .ref q13, .ref q15, .null, .null, .null])), (q1, .inl (c2, 6, .inl ((fun _ => 0)))), (q3, .inl (c4, 6, .inl ((fun _ => 0)))), (q17, .inl (c18, 160, .inl ((fun _ => 0))))] H := hP
  have hD : va_D A [(h, .inr (1, [.ref q1, .ref q3, .int 0, .ref q5, .ref q7, .ref q9, .ref q11, .int 0, .ref q13, .ref q15, .null, .null, .null])), (q1, .inl (c2, 6, .inl ((fun _ => 0)))), (q3, .inl (c4, 6, .inl ((fun _ => 0)))), (q17, .inl (c18, 160, .inl ((fun _ => 0))))] := hD
  have hK : va_K (dC, dI) CL [(c2, .int), (c4, .int), (c18, .int)] s := hK
  refine W.widen (k := 9) (n := 412) (by decide) (by decide) ?_
  refine va_putF (D := (dC, dI)) (ci := 1) (v := .ref q17) (ty := .array .int) (C := R_G) (T := F_G) (N := 13) hx hb hts u_G t_G t_G_ok n_G hown hK hP hD hS 0 rfl rfl 10 (by decide) (hts _ k_13) (fun _ h9 => h9) rfl hin rfl (by decide +kernel) rfl rfl (Nat.le_of_ble_eq_true rfl) d_G_init_75 (fun H locs hP hD hS => ?_)
  have hP : va_P (dC, dI) CL [(h, .inr (1, [.ref q1, .ref q3, .int 0, .ref q5, .ref q7, .ref q9, .ref q11, .int 0, .ref q13, .ref q15, .ref q17, .null, .null])), (q1, .inl (c2, 6, .inl ((fun _ => 0)))), (q3, .inl (c4, 6, .inl ((fun _ => 0)))), (q17, .inl (c18, 160, .inl ((fun _ => 0))))] H := hP
  have hD : va_D A [(h, .inr (1, [.ref q1, .ref q3, .int 0, .ref q5, .ref q7, .ref q9, .ref q11, .int 0, .ref q13, .ref q15, .ref q17, .null, .null])), (q1, .inl (c2, 6, .inl ((fun _ => 0)))), (q3, .inl (c4, 6, .inl ((fun _ => 0)))), (q17, .inl (c18, 160, .inl ((fun _ => 0))))] := hD
  have hP := hP.sub (ws' := [(h, .inr (1, [.ref q1, .ref q3, .int 0, .ref q5, .ref q7, .ref q9, .ref q11, .int 0, .ref q13, .ref q15, .ref q17, .null, .null])), (q1, .inl (c2, 6, .inl ((fun _ => 0)))), (q3, .inl (c4, 6, .inl ((fun _ => 0))))]) [0, 1, 2] rfl
  have hD := hD.sub (ws' := [(h, .inr (1, [.ref q1, .ref q3, .int 0, .ref q5, .ref q7, .ref q9, .ref q11, .int 0, .ref q13, .ref q15, .ref q17, .null, .null])), (q1, .inl (c2, 6, .inl ((fun _ => 0)))), (q3, .inl (c4, 6, .inl ((fun _ => 0))))]) [0, 1, 2] (by decide) rfl
  have hK := hK.sub (tys' := [(c2, .int), (c4, .int)]) [0, 1] rfl
  refine lv_aload_n hx hb d_G_init_78 rfl (lv_at hl 0 rfl) ?_
  refine lv_sipush (v := 160) hx hb d_G_init_79 (by decide) ?_
  refine va_newa (D := (dC, dI)) (ty := .int) (N' := 160) (a0 := (160, .inl (fun _ => 0))) hx hb (hts _ k_4) rfl hK hP hD hS hA (fun _ => rfl) (by decide) (by decide) (by decide) (Nat.le_of_ble_eq_true rfl) (Nat.le_of_ble_eq_true rfl) d_G_init_82 (fun q19 c20 H hK hP hD hS => ?_)
  have hP : va_P (dC, dI) CL [(h, .inr (1, [.ref q1, .ref q3, .int 0, .ref q5, .ref q7, .ref q9, .ref q11, .int 0, .ref q13, .ref q15, .ref q17, .null, .null])), (q1, .inl (c2, 6, .inl ((fun _ => 0)))), (q3, .inl (c4, 6, .inl ((fun _ => 0)))), (q19, .inl (c20, 160, .inl ((fun _ => 0))))] H := hP
  have hD : va_D A [(h, .inr (1, [.ref q1, .ref q3, .int 0, .ref q5, .ref q7, .ref q9, .ref q11, .int 0, .ref q13, .ref q15, .ref q17, .null, .null])), (q1, .inl (c2, 6, .inl ((fun _ => 0)))), (q3, .inl (c4, 6, .inl ((fun _ => 0)))), (q19, .inl (c20, 160, .inl ((fun _ => 0))))] := hD
  have hK : va_K (dC, dI) CL [(c2, .int), (c4, .int), (c20, .int)] s := hK
  refine W.widen (k := 10) (n := 572) (by decide) (by decide) ?_
  refine va_putF (D := (dC, dI)) (ci := 1) (v := .ref q19) (ty := .array .int) (C := R_G) (T := F_G) (N := 13) hx hb hts u_G t_G t_G_ok n_G hown hK hP hD hS 0 rfl rfl 11 (by decide) (hts _ k_14) (fun _ h9 => h9) rfl hin rfl (by decide +kernel) rfl rfl (Nat.le_of_ble_eq_true rfl) d_G_init_84 (fun H locs hP hD hS => ?_)
  have hP : va_P (dC, dI) CL [(h, .inr (1, [.ref q1, .ref q3, .int 0, .ref q5, .ref q7, .ref q9, .ref q11, .int 0, .ref q13, .ref q15, .ref q17, .ref q19, .null])), (q1, .inl (c2, 6, .inl ((fun _ => 0)))), (q3, .inl (c4, 6, .inl ((fun _ => 0)))), (q19, .inl (c20, 160, .inl ((fun _ => 0))))] H := hP
  have hD : va_D A [(h, .inr (1, [.ref q1, .ref q3, .int 0, .ref q5, .ref q7, .ref q9, .ref q11, .int 0, .ref q13, .ref q15, .ref q17, .ref q19, .null])), (q1, .inl (c2, 6, .inl ((fun _ => 0)))), (q3, .inl (c4, 6, .inl ((fun _ => 0)))), (q19, .inl (c20, 160, .inl ((fun _ => 0))))] := hD
  have hP := hP.sub (ws' := [(h, .inr (1, [.ref q1, .ref q3, .int 0, .ref q5, .ref q7, .ref q9, .ref q11, .int 0, .ref q13, .ref q15, .ref q17, .ref q19, .null])), (q1, .inl (c2, 6, .inl ((fun _ => 0)))), (q3, .inl (c4, 6, .inl ((fun _ => 0))))]) [0, 1, 2] rfl
  have hD := hD.sub (ws' := [(h, .inr (1, [.ref q1, .ref q3, .int 0, .ref q5, .ref q7, .ref q9, .ref q11, .int 0, .ref q13, .ref q15, .ref q17, .ref q19, .null])), (q1, .inl (c2, 6, .inl ((fun _ => 0)))), (q3, .inl (c4, 6, .inl ((fun _ => 0))))]) [0, 1, 2] (by decide) rfl
  have hK := hK.sub (tys' := [(c2, .int), (c4, .int)]) [0, 1] rfl
  refine lv_aload_n hx hb d_G_init_87 rfl (lv_at hl 0 rfl) ?_
  refine lv_sipush (v := 160) hx hb d_G_init_88 (by decide) ?_
  refine va_newa (D := (dC, dI)) (ty := .int) (N' := 160) (a0 := (160, .inl (fun _ => 0))) hx hb (hts _ k_4) rfl hK hP hD hS hA (fun _ => rfl) (by decide) (by decide) (by decide) (Nat.le_of_ble_eq_true rfl) (Nat.le_of_ble_eq_true rfl) d_G_init_91 (fun q21 c22 H hK hP hD hS => ?_)
  have hP : va_P (dC, dI) CL [(h, .inr (1, [.ref q1, .ref q3, .int 0, .ref q5, .ref q7, .ref q9, .ref q11, .int 0, .ref q13, .ref q15, .ref q17, .ref q19, .null])), (q1, .inl (c2, 6, .inl ((fun _ => 0)))), (q3, .inl (c4, 6, .inl ((fun _ => 0)))), (q21, .inl (c22, 160, .inl ((fun _ => 0))))] H := hP
  have hD : va_D A [(h, .inr (1, [.ref q1, .ref q3, .int 0, .ref q5, .ref q7, .ref q9, .ref q11, .int 0, .ref q13, .ref q15, .ref q17, .ref q19, .null])), (q1, .inl (c2, 6, .inl ((fun _ => 0)))), (q3, .inl (c4, 6, .inl ((fun _ => 0)))), (q21, .inl (c22, 160, .inl ((fun _ => 0))))] := hD
  have hK : va_K (dC, dI) CL [(c2, .int), (c4, .int), (c22, .int)] s := hK
  refine W.widen (k := 11) (n := 732) (by decide) (by decide) ?_
  refine va_putF (D := (dC, dI)) (ci := 1) (v := .ref q21) (ty := .array .int) (C := R_G) (T := F_G) (N := 13) hx hb hts u_G t_G t_G_ok n_G hown hK hP hD hS 0 rfl rfl 12 (by decide) (hts _ k_15) (fun _ h9 => h9) rfl hin rfl (by decide +kernel) rfl rfl (Nat.le_of_ble_eq_true rfl) d_G_init_93 (fun H locs hP hD hS => ?_)
  have hP : va_P (dC, dI) CL [(h, .inr (1, [.ref q1, .ref q3, .int 0, .ref q5, .ref q7, .ref q9, .ref q11, .int 0, .ref q13, .ref q15, .ref q17, .ref q19, .ref q21])), (q1, .inl (c2, 6, .inl ((fun _ => 0)))), (q3, .inl (c4, 6, .inl ((fun _ => 0)))), (q21, .inl (c22, 160, .inl ((fun _ => 0))))] H := hP
  have hD : va_D A [(h, .inr (1, [.ref q1, .ref q3, .int 0, .ref q5, .ref q7, .ref q9, .ref q11, .int 0, .ref q13, .ref q15, .ref q17, .ref q19, .ref q21])), (q1, .inl (c2, 6, .inl ((fun _ => 0)))), (q3, .inl (c4, 6, .inl ((fun _ => 0)))), (q21, .inl (c22, 160, .inl ((fun _ => 0))))] := hD
  have hP := hP.sub (ws' := [(h, .inr (1, [.ref q1, .ref q3, .int 0, .ref q5, .ref q7, .ref q9, .ref q11, .int 0, .ref q13, .ref q15, .ref q17, .ref q19, .ref q21])), (q1, .inl (c2, 6, .inl ((fun _ => 0)))), (q3, .inl (c4, 6, .inl ((fun _ => 0))))]) [0, 1, 2] rfl
  have hD := hD.sub (ws' := [(h, .inr (1, [.ref q1, .ref q3, .int 0, .ref q5, .ref q7, .ref q9, .ref q11, .int 0, .ref q13, .ref q15, .ref q17, .ref q19, .ref q21])), (q1, .inl (c2, 6, .inl ((fun _ => 0)))), (q3, .inl (c4, 6, .inl ((fun _ => 0))))]) [0, 1, 2] (by decide) rfl
  have hK := hK.sub (tys' := [(c2, .int), (c4, .int)]) [0, 1] rfl
  have hP9 := hP.sub (ws' := [(h, .inr (1, [.ref q1, .ref q3, .int 0, .ref q5, .ref q7, .ref q9, .ref q11, .int 0, .ref q13, .ref q15, .ref q17, .ref q19, .ref q21])), (q1, .inl (c2, 6, .inl ((fun _ => 0)))), (q3, .inl (c4, 6, .inl ((fun _ => 0))))]) [0, 1, 2] rfl
  have hD9 := hD.sub (ws' := [(h, .inr (1, [.ref q1, .ref q3, .int 0, .ref q5, .ref q7, .ref q9, .ref q11, .int 0, .ref q13, .ref q15, .ref q17, .ref q19, .ref q21])), (q1, .inl (c2, 6, .inl ((fun _ => 0)))), (q3, .inl (c4, 6, .inl ((fun _ => 0))))]) [0, 1, 2] (by decide) rfl
  have hK9 := hK.sub (tys' := [(c2, .int), (c4, .int)]) [0, 1] rfl
  refine W.widen (k := 11) (n := 732) (by decide) (by decide) ?_
  exact W.vret hx hb hr (fun t ht hW => ⟨⟨(), rfl, trivial, q1, q3, q5, q7, q9, q11, q13, q15, q17, q19, q21, c2, c4, by rw [ht]; exact hP9, va_K.moved hW.alike hK9, hD9⟩, hS.F ht⟩) hS.2.2 d_G_init_96

set_option maxHeartbeats 4000000 in
set_option maxRecDepth 100000 in
theorem c_E_init (l : Launch) (htr : l.stackTraces = false) (dC : Nat → ClassId) (dI : Nat → Nat → Nat) (h : Nat) (g : Nat) (sz : Nat) : Met l y_E_init WS ({ frames := 1, cells := 2, slots := 184, locals := 12 }) (va_Pc [.ref h, .ref g] (vq_Pre (dC, dI) CL sz [(h, .inr (3, [.null, .null, .null]))] [])) (va_Qv (fun _ : Unit => True) (fun _ t => vq_Post (dC, dI) CL (va_A [(h, .inr (3, [.null, .null, .null]))] sz) [] [] t) (va_A [(h, .inr (3, [.null, .null, .null]))] sz)) 2 184 (va_A [(h, .inr (3, [.null, .null, .null]))] sz) := by
  refine vq_ofW (cc := prog_4_method_1_code) (maxL := 2) (ret := (Option.none : Option Jvm.ClassFile.FieldType)) (by decide) (vq_his k_16) ?_
  intro p e s m args below meth c s₁ B hml hv
  obtain ⟨rfl, hst, hsz, hP, hK, hD0⟩ := hv
  have hx := B.exec
  have hb := B.bytes
  have hr := B.returns
  have hts := atoms_spec (ws := WS) B.pre
  have hown : s.vm.findClass R_E = some m.cls := findClass_of_methodNamed B.named
  have hlocks := B.notSynchronized
  have hin : meth.name = "<init>" := (name_of_methodNamed B.named B.method).1
  have hno := vq_noH B (hts _ k_16)
  subst hsz
  have hN := vq_ns hP
  have hD := hD0.self (sz := s.heap.size)
  generalize hAe : va_A [(h, .inr (3, [.null, .null, .null]))] s.heap.size = A at hD hN ⊢
  have hA : ∀ q : Nat, s.heap.size ≤ q → A q := fun q h => by rw [← hAe]; exact Or.inr h
  have hS : va_S A s.heap s.heap [] := va_S.rf
  have hP : va_P (dC, dI) CL [(h, .inr (3, [.null, .null, .null]))] s.heap := hP
  have hD : va_D A [(h, .inr (3, [.null, .null, .null]))] := hD
  have hl := lv_entry ([.ref h, .ref g]) (n := 2) (Nat.le_of_ble_eq_true rfl)
  rw [lg_entry_eq]
  generalize (lg_sl ([.ref h, .ref g]) ++ List.replicate (2 - (lg_sl ([.ref h, .ref g])).length) Slot.unset).toArray = ls at hl ⊢
  have hl : lv_has ls 2 [(0, .ref h), (1, .ref g)] := hl
  refine lv_aload_n hx hb d_E_init_0 rfl (lv_at hl 0 rfl) ?_
  refine W.objInit hx hb hown (hts _ k_17) (hts _ k_2) (hts _ k_3) rfl (by rw [hml]; exact hl.1) rfl d_E_init_1 (Nat.le_of_ble_eq_true rfl) (Nat.le_of_ble_eq_true rfl) ?_
  refine W.eq (g2 := F0 m 4 ls []) rfl ?_
  refine lv_aload_n hx hb d_E_init_4 rfl (lv_at hl 0 rfl) ?_
  refine lv_sipush (v := 160) hx hb d_E_init_5 (by decide) ?_
  refine va_newa (D := (dC, dI)) (ty := .int) (N' := 160) (a0 := (160, .inl (fun _ => 0))) hx hb (hts _ k_4) rfl hK hP hD hS hA (fun _ => rfl) (by decide) (by decide) (by decide) (Nat.le_of_ble_eq_true rfl) (Nat.le_of_ble_eq_true rfl) d_E_init_8 (fun q1 c2 H hK hP hD hS => ?_)
  have hP : va_P (dC, dI) CL [(h, .inr (3, [.null, .null, .null])), (q1, .inl (c2, 160, .inl ((fun _ => 0))))] H := hP
  have hD : va_D A [(h, .inr (3, [.null, .null, .null])), (q1, .inl (c2, 160, .inl ((fun _ => 0))))] := hD
  have hK : va_K (dC, dI) CL [(c2, .int)] s := hK
  refine W.widen (k := 1) (n := 160) (by decide) (by decide) ?_
  refine va_putF (D := (dC, dI)) (ci := 3) (v := .ref q1) (ty := .array .int) (C := R_E) (T := F_E) (N := 3) hx hb hts u_E t_E t_E_ok n_E hown hK hP hD hS 0 rfl rfl 1 (by decide) (hts _ k_18) (fun _ h9 => h9) rfl hin rfl (by decide +kernel) rfl rfl (Nat.le_of_ble_eq_true rfl) d_E_init_10 (fun H locs hP hD hS => ?_)
  have hP : va_P (dC, dI) CL [(h, .inr (3, [.null, .ref q1, .null])), (q1, .inl (c2, 160, .inl ((fun _ => 0))))] H := hP
  have hD : va_D A [(h, .inr (3, [.null, .ref q1, .null])), (q1, .inl (c2, 160, .inl ((fun _ => 0))))] := hD
  have hP := hP.sub (ws' := [(h, .inr (3, [.null, .ref q1, .null]))]) [0] rfl
  have hD := hD.sub (ws' := [(h, .inr (3, [.null, .ref q1, .null]))]) [0] (by decide) rfl
  have hK := hK.sub (tys' := []) [] rfl
  refine lv_aload_n hx hb d_E_init_13 rfl (lv_at hl 0 rfl) ?_
  refine lv_bipush (v := 24) hx hb d_E_init_14 (by decide) ?_
  refine va_newa (D := (dC, dI)) (ty := .int) (N' := 24) (a0 := (24, .inl (fun _ => 0))) hx hb (hts _ k_4) rfl hK hP hD hS hA (fun _ => rfl) (by decide) (by decide) (by decide) (Nat.le_of_ble_eq_true rfl) (Nat.le_of_ble_eq_true rfl) d_E_init_16 (fun q3 c4 H hK hP hD hS => ?_)
  have hP : va_P (dC, dI) CL [(h, .inr (3, [.null, .ref q1, .null])), (q3, .inl (c4, 24, .inl ((fun _ => 0))))] H := hP
  have hD : va_D A [(h, .inr (3, [.null, .ref q1, .null])), (q3, .inl (c4, 24, .inl ((fun _ => 0))))] := hD
  have hK : va_K (dC, dI) CL [(c4, .int)] s := hK
  refine W.widen (k := 2) (n := 184) (by decide) (by decide) ?_
  refine va_putF (D := (dC, dI)) (ci := 3) (v := .ref q3) (ty := .array .int) (C := R_E) (T := F_E) (N := 3) hx hb hts u_E t_E t_E_ok n_E hown hK hP hD hS 0 rfl rfl 2 (by decide) (hts _ k_19) (fun _ h9 => h9) rfl hin rfl (by decide +kernel) rfl rfl (Nat.le_of_ble_eq_true rfl) d_E_init_18 (fun H locs hP hD hS => ?_)
  have hP : va_P (dC, dI) CL [(h, .inr (3, [.null, .ref q1, .ref q3])), (q3, .inl (c4, 24, .inl ((fun _ => 0))))] H := hP
  have hD : va_D A [(h, .inr (3, [.null, .ref q1, .ref q3])), (q3, .inl (c4, 24, .inl ((fun _ => 0))))] := hD
  have hP := hP.sub (ws' := [(h, .inr (3, [.null, .ref q1, .ref q3]))]) [0] rfl
  have hD := hD.sub (ws' := [(h, .inr (3, [.null, .ref q1, .ref q3]))]) [0] (by decide) rfl
  have hK := hK.sub (tys' := []) [] rfl
  refine lv_aload_n hx hb d_E_init_21 rfl (lv_at hl 0 rfl) ?_
  refine lv_aload_n hx hb d_E_init_22 rfl (lv_at hl 1 rfl) ?_
  refine va_putF (D := (dC, dI)) (ci := 3) (v := .ref g) (ty := .object "VisitGrammar$Grammar") (C := R_E) (T := F_E) (N := 3) hx hb hts u_E t_E t_E_ok n_E hown hK hP hD hS 0 rfl rfl 0 (by decide) (hts _ k_20) (fun _ h9 => h9) rfl hin rfl (by decide +kernel) rfl rfl (Nat.le_of_ble_eq_true rfl) d_E_init_23 (fun H locs hP hD hS => ?_)
  have hP : va_P (dC, dI) CL [(h, .inr (3, [.ref g, .ref q1, .ref q3]))] H := hP
  have hD : va_D A [(h, .inr (3, [.ref g, .ref q1, .ref q3]))] := hD
  have hP9 := hP.sub (ws' := []) [] rfl
  have hD9 := hD.sub (ws' := []) [] (by decide) rfl
  have hK9 := hK.sub (tys' := []) [] rfl
  refine W.widen (k := 2) (n := 184) (by decide) (by decide) ?_
  exact W.vret hx hb hr (fun t ht hW => ⟨⟨(), rfl, trivial, by rw [ht]; exact hP9, va_K.moved hW.alike hK9, hD9⟩, hS.F ht⟩) hS.2.2 d_E_init_26

