set_option maxHeartbeats 4000000 in
set_option maxRecDepth 100000 in
theorem c_G_init (l : Launch) (htr : l.stackTraces = false) (dC : Nat → ClassId) (dI : Nat → Nat → Nat) (h : Nat) (sz : Nat) : Met l y_G_init WS ({ frames := 1, cells := 11, slots := 732, locals := 12 }) (va_Pc [.ref h] (vq_Pre (dC, dI) CL sz [(h, .inr (1, [.null, .null, .int 0, .null, .null, .null, .null, .int 0, .null, .null, .null, .null, .null]))] [])) (va_Qv (fun _ : Unit => True) (fun _ t => ∃ q1 : Nat, ∃ q3 : Nat, ∃ q5 : Nat, ∃ q7 : Nat, ∃ q9 : Nat, ∃ q11 : Nat, ∃ q13 : Nat, ∃ q15 : Nat, ∃ q17 : Nat, ∃ q19 : Nat, ∃ q21 : Nat, ∃ c2 : ClassId, ∃ c4 : ClassId, vq_Post (dC, dI) CL (va_A [(h, .inr (1, [.null, .null, .int 0, .null, .null, .null, .null, .int 0, .null, .null, .null, .null, .null]))] sz) [(h, .inr (1, [.ref q1, .ref q3, .int 0, .ref q5, .ref q7, .ref q9, .ref q11, .int 0, .ref q13, .ref q15, .ref q17, .ref q19, .ref q21])), (q1, .inl (c2, 6, .inl ((fun _ => 0)))), (q3, .inl (c4, 6, .inl ((fun _ => 0))))] [(c2, .int), (c4, .int)] t) (va_A [(h, .inr (1, [.null, .null, .int 0, .null, .null, .null, .null, .int 0, .null, .null, .null, .null, .null]))] sz)) 11 732 (va_A [(h, .inr (1, [.null, .null, .int 0, .null, .null, .null, .null, .int 0, .null, .null, .null, .null, .null]))] sz) := by
  refine vq_ofW (cc := prog_3_method_1_code) (maxL := 1) (ret := (Option.none : Option Jvm.ClassFile.FieldType)) (by decide) (vq_his k_0) ?_
  intro p e s m args below meth c s₁ B hml hv
  obtain ⟨rfl, hst, hsz, hP, hK, hD0⟩ := hv
  have hx := B.exec
  have hb := B.bytes
  have hr := B.returns
  have hts := atoms_spec (ws := WS) B.pre
  have hown : s.vm.findClass R_G = some m.cls := findClass_of_methodNamed B.named
  have hlocks := B.notSynchronized
  have hin : meth.name = "<init>" := (name_of_methodNamed B.named B.method).1
  have hno := vq_noH B (hts _ k_0)
  subst hsz
  have hN := vq_ns hP
  have hD := hD0.self (sz := s.heap.size)
  generalize hAe : va_A [(h, .inr (1, [.null, .null, .int 0, .null, .null, .null, .null, .int 0, .null, .null, .null, .null, .null]))] s.heap.size = A at hD hN ⊢
  have hA : ∀ q : Nat, s.heap.size ≤ q → A q := fun q h => by rw [← hAe]; exact Or.inr h
  have hS : va_S A s.heap s.heap [] := va_S.rf
  have hP : va_P (dC, dI) CL [(h, .inr (1, [.null, .null, .int 0, .null, .null, .null, .null, .int 0, .null, .null, .null, .null, .null]))] s.heap := hP
  have hD : va_D A [(h, .inr (1, [.null, .null, .int 0, .null, .null, .null, .null, .int 0, .null, .null, .null, .null, .null]))] := hD
  have hl := lv_entry ([.ref h]) (n := 1) (Nat.le_of_ble_eq_true rfl)
  rw [lg_entry_eq]
  generalize (lg_sl ([.ref h]) ++ List.replicate (1 - (lg_sl ([.ref h])).length) Slot.unset).toArray = ls at hl ⊢
  have hl : lv_has ls 1 [(0, .ref h)] := hl
  refine lv_aload_n hx hb d_G_init_0 rfl (lv_at hl 0 rfl) ?_
  refine W.objInit hx hb hown (hts _ k_1) (hts _ k_2) (hts _ k_3) rfl (by rw [hml]; exact hl.1) rfl d_G_init_1 (Nat.le_of_ble_eq_true rfl) (Nat.le_of_ble_eq_true rfl) ?_
  refine W.eq (g2 := F0 m 4 ls []) rfl ?_
  refine lv_aload_n hx hb d_G_init_4 rfl (lv_at hl 0 rfl) ?_
  refine lv_bipush (v := 6) hx hb d_G_init_5 (by decide) ?_
  refine va_newa (D := (dC, dI)) (atype := .int) (ty := .int) (N' := 6) (a0 := (6, .inl (fun _ => 0))) hx hb (hts _ k_4) rfl hK hP hD hS hA (fun _ => rfl) (by decide) (by decide) (by decide) (Nat.le_of_ble_eq_true rfl) (Nat.le_of_ble_eq_true rfl) d_G_init_7 (fun q1 c2 H hK hP hD hS => ?_)
  have hP : va_P (dC, dI) CL [(h, .inr (1, [.null, .null, .int 0, .null, .null, .null, .null, .int 0, .null, .null, .null, .null, .null])), (q1, .inl (c2, 6, .inl ((fun _ => 0))))] H := hP
  have hD : va_D A [(h, .inr (1, [.null, .null, .int 0, .null, .null, .null, .null, .int 0, .null, .null, .null, .null, .null])), (q1, .inl (c2, 6, .inl ((fun _ => 0))))] := hD
  have hK : va_K (dC, dI) CL [(c2, .int)] s := hK
  refine W.widen (k := 1) (n := 6) (by decide) (by decide) ?_
  refine va_putF (D := (dC, dI)) (ci := 1) (v := .ref q1) (ty := .array .int) (C := R_G) (T := F_G) (N := 13) hx hb hts u_G t_G t_G_ok n_G hown hK hP hD hS 0 rfl rfl 0 (by decide) (hts _ k_5) (fun _ h9 => h9) rfl hin rfl (by decide +kernel) rfl rfl (Nat.le_of_ble_eq_true rfl) d_G_init_9 (fun H locs hP hD hS => ?_)
  have hP : va_P (dC, dI) CL [(h, .inr (1, [.ref q1, .null, .int 0, .null, .null, .null, .null, .int 0, .null, .null, .null, .null, .null])), (q1, .inl (c2, 6, .inl ((fun _ => 0))))] H := hP
  have hD : va_D A [(h, .inr (1, [.ref q1, .null, .int 0, .null, .null, .null, .null, .int 0, .null, .null, .null, .null, .null])), (q1, .inl (c2, 6, .inl ((fun _ => 0))))] := hD
  refine lv_aload_n hx hb d_G_init_12 rfl (lv_at hl 0 rfl) ?_
  refine lv_bipush (v := 6) hx hb d_G_init_13 (by decide) ?_
  refine va_newa (D := (dC, dI)) (atype := .int) (ty := .int) (N' := 6) (a0 := (6, .inl (fun _ => 0))) hx hb (hts _ k_4) rfl hK hP hD hS hA (fun _ => rfl) (by decide) (by decide) (by decide) (Nat.le_of_ble_eq_true rfl) (Nat.le_of_ble_eq_true rfl) d_G_init_15 (fun q3 c4 H hK hP hD hS => ?_)
  have hP : va_P (dC, dI) CL [(h, .inr (1, [.ref q1, .null, .int 0, .null, .null, .null, .null, .int 0, .null, .null, .null, .null, .null])), (q1, .inl (c2, 6, .inl ((fun _ => 0)))), (q3, .inl (c4, 6, .inl ((fun _ => 0))))] H := hP
  have hD : va_D A [(h, .inr (1, [.ref q1, .null, .int 0, .null, .null, .null, .null, .int 0, .null, .null, .null, .null, .null])), (q1, .inl (c2, 6, .inl ((fun _ => 0)))), (q3, .inl (c4, 6, .inl ((fun _ => 0))))] := hD
  have hK : va_K (dC, dI) CL [(c2, .int), (c4, .int)] s := hK
  refine W.widen (k := 2) (n := 12) (by decide) (by decide) ?_
  refine va_putF (D := (dC, dI)) (ci := 1) (v := .ref q3) (ty := .array .int) (C := R_G) (T := F_G) (N := 13) hx hb hts u_G t_G t_G_ok n_G hown hK hP hD hS 0 rfl rfl 1 (by decide) (hts _ k_6) (fun _ h9 => h9) rfl hin rfl (by decide +kernel) rfl rfl (Nat.le_of_ble_eq_true rfl) d_G_init_17 (fun H locs hP hD hS => ?_)
  have hP : va_P (dC, dI) CL [(h, .inr (1, [.ref q1, .ref q3, .int 0, .null, .null, .null, .null, .int 0, .null, .null, .null, .null, .null])), (q1, .inl (c2, 6, .inl ((fun _ => 0)))), (q3, .inl (c4, 6, .inl ((fun _ => 0))))] H := hP
  have hD : va_D A [(h, .inr (1, [.ref q1, .ref q3, .int 0, .null, .null, .null, .null, .int 0, .null, .null, .null, .null, .null])), (q1, .inl (c2, 6, .inl ((fun _ => 0)))), (q3, .inl (c4, 6, .inl ((fun _ => 0))))] := hD
  refine lv_aload_n hx hb d_G_init_20 rfl (lv_at hl 0 rfl) ?_
  refine lv_bipush (v := 40) hx hb d_G_init_21 (by decide) ?_
  refine va_newa (D := (dC, dI)) (atype := .int) (ty := .int) (N' := 40) (a0 := (40, .inl (fun _ => 0))) hx hb (hts _ k_4) rfl hK hP hD hS hA (fun _ => rfl) (by decide) (by decide) (by decide) (Nat.le_of_ble_eq_true rfl) (Nat.le_of_ble_eq_true rfl) d_G_init_23 (fun q5 c6 H hK hP hD hS => ?_)
  have hP : va_P (dC, dI) CL [(h, .inr (1, [.ref q1, .ref q3, .int 0, .null, .null, .null, .null, .int 0, .null, .null, .null, .null, .null])), (q1, .inl (c2, 6, .inl ((fun _ => 0)))), (q3, .inl (c4, 6, .inl ((fun _ => 0)))), (q5, .inl (c6, 40, .inl ((fun _ => 0))))] H := hP
  have hD : va_D A [(h, .inr (1, [.ref q1, .ref q3, .int 0, .null, .null, .null, .null, .int 0, .null, .null, .null, .null, .null])), (q1, .inl (c2, 6, .inl ((fun _ => 0)))), (q3, .inl (c4, 6, .inl ((fun _ => 0)))), (q5, .inl (c6, 40, .inl ((fun _ => 0))))] := hD
  have hK : va_K (dC, dI) CL [(c2, .int), (c4, .int), (c6, .int)] s := hK
  refine W.widen (k := 3) (n := 52) (by decide) (by decide) ?_
  refine va_putF (D := (dC, dI)) (ci := 1) (v := .ref q5) (ty := .array .int) (C := R_G) (T := F_G) (N := 13) hx hb hts u_G t_G t_G_ok n_G hown hK hP hD hS 0 rfl rfl 3 (by decide) (hts _ k_7) (fun _ h9 => h9) rfl hin rfl (by decide +kernel) rfl rfl (Nat.le_of_ble_eq_true rfl) d_G_init_25 (fun H locs hP hD hS => ?_)
  have hP : va_P (dC, dI) CL [(h, .inr (1, [.ref q1, .ref q3, .int 0, .ref q5, .null, .null, .null, .int 0, .null, .null, .null, .null, .null])), (q1, .inl (c2, 6, .inl ((fun _ => 0)))), (q3, .inl (c4, 6, .inl ((fun _ => 0)))), (q5, .inl (c6, 40, .inl ((fun _ => 0))))] H := hP
  have hD : va_D A [(h, .inr (1, [.ref q1, .ref q3, .int 0, .ref q5, .null, .null, .null, .int 0, .null, .null, .null, .null, .null])), (q1, .inl (c2, 6, .inl ((fun _ => 0)))), (q3, .inl (c4, 6, .inl ((fun _ => 0)))), (q5, .inl (c6, 40, .inl ((fun _ => 0))))] := hD
  have hP := hP.sub (ws' := [(h, .inr (1, [.ref q1, .ref q3, .int 0, .ref q5, .null, .null, .null, .int 0, .null, .null, .null, .null, .null])), (q1, .inl (c2, 6, .inl ((fun _ => 0)))), (q3, .inl (c4, 6, .inl ((fun _ => 0))))]) [0, 1, 2] rfl
  have hD := hD.sub (ws' := [(h, .inr (1, [.ref q1, .ref q3, .int 0, .ref q5, .null, .null, .null, .int 0, .null, .null, .null, .null, .null])), (q1, .inl (c2, 6, .inl ((fun _ => 0)))), (q3, .inl (c4, 6, .inl ((fun _ => 0))))]) [0, 1, 2] (by decide) rfl
  have hK := hK.sub (tys' := [(c2, .int), (c4, .int)]) [0, 1] rfl
  refine lv_aload_n hx hb d_G_init_28 rfl (lv_at hl 0 rfl) ?_
  refine lv_bipush (v := 10) hx hb d_G_init_29 (by decide) ?_
  refine va_newa (D := (dC, dI)) (atype := .int) (ty := .int) (N' := 10) (a0 := (10, .inl (fun _ => 0))) hx hb (hts _ k_4) rfl hK hP hD hS hA (fun _ => rfl) (by decide) (by decide) (by decide) (Nat.le_of_ble_eq_true rfl) (Nat.le_of_ble_eq_true rfl) d_G_init_31 (fun q7 c8 H hK hP hD hS => ?_)
  have hP : va_P (dC, dI) CL [(h, .inr (1, [.ref q1, .ref q3, .int 0, .ref q5, .null, .null, .null, .int 0, .null, .null, .null, .null, .null])), (q1, .inl (c2, 6, .inl ((fun _ => 0)))), (q3, .inl (c4, 6, .inl ((fun _ => 0)))), (q7, .inl (c8, 10, .inl ((fun _ => 0))))] H := hP
  have hD : va_D A [(h, .inr (1, [.ref q1, .ref q3, .int 0, .ref q5, .null, .null, .null, .int 0, .null, .null, .null, .null, .null])), (q1, .inl (c2, 6, .inl ((fun _ => 0)))), (q3, .inl (c4, 6, .inl ((fun _ => 0)))), (q7, .inl (c8, 10, .inl ((fun _ => 0))))] := hD
  have hK : va_K (dC, dI) CL [(c2, .int), (c4, .int), (c8, .int)] s := hK
  refine W.widen (k := 4) (n := 62) (by decide) (by decide) ?_
  refine va_putF (D := (dC, dI)) (ci := 1) (v := .ref q7) (ty := .array .int) (C := R_G) (T := F_G) (N := 13) hx hb hts u_G t_G t_G_ok n_G hown hK hP hD hS 0 rfl rfl 4 (by decide) (hts _ k_8) (fun _ h9 => h9) rfl hin rfl (by decide +kernel) rfl rfl (Nat.le_of_ble_eq_true rfl) d_G_init_33 (fun H locs hP hD hS => ?_)
  have hP : va_P (dC, dI) CL [(h, .inr (1, [.ref q1, .ref q3, .int 0, .ref q5, .ref q7, .null, .null, .int 0, .null, .null, .null, .null, .null])), (q1, .inl (c2, 6, .inl ((fun _ => 0)))), (q3, .inl (c4, 6, .inl ((fun _ => 0)))), (q7, .inl (c8, 10, .inl ((fun _ => 0))))] H := hP
  have hD : va_D A [(h, .inr (1, [.ref q1, .ref q3, .int 0, .ref q5, .ref q7, .null, .null, .int 0, .null, .null, .null, .null, .null])), (q1, .inl (c2, 6, .inl ((fun _ => 0)))), (q3, .inl (c4, 6, .inl ((fun _ => 0)))), (q7, .inl (c8, 10, .inl ((fun _ => 0))))] := hD
  have hP := hP.sub (ws' := [(h, .inr (1, [.ref q1, .ref q3, .int 0, .ref q5, .ref q7, .null, .null, .int 0, .null, .null, .null, .null, .null])), (q1, .inl (c2, 6, .inl ((fun _ => 0)))), (q3, .inl (c4, 6, .inl ((fun _ => 0))))]) [0, 1, 2] rfl
  have hD := hD.sub (ws' := [(h, .inr (1, [.ref q1, .ref q3, .int 0, .ref q5, .ref q7, .null, .null, .int 0, .null, .null, .null, .null, .null])), (q1, .inl (c2, 6, .inl ((fun _ => 0)))), (q3, .inl (c4, 6, .inl ((fun _ => 0))))]) [0, 1, 2] (by decide) rfl
  have hK := hK.sub (tys' := [(c2, .int), (c4, .int)]) [0, 1] rfl
  refine lv_aload_n hx hb d_G_init_36 rfl (lv_at hl 0 rfl) ?_
  refine lv_bipush (v := 10) hx hb d_G_init_37 (by decide) ?_
  refine va_newa (D := (dC, dI)) (atype := .int) (ty := .int) (N' := 10) (a0 := (10, .inl (fun _ => 0))) hx hb (hts _ k_4) rfl hK hP hD hS hA (fun _ => rfl) (by decide) (by decide) (by decide) (Nat.le_of_ble_eq_true rfl) (Nat.le_of_ble_eq_true rfl) d_G_init_39 (fun q9 c10 H hK hP hD hS => ?_)
  have hP : va_P (dC, dI) CL [(h, .inr (1, [.ref q1, .ref q3, .int 0, .ref q5, .ref q7, .null, .null, .int 0, .null, .null, .null, .null, .null])), (q1, .inl (c2, 6, .inl ((fun _ => 0)))), (q3, .inl (c4, 6, .inl ((fun _ => 0)))), (q9, .inl (c10, 10, .inl ((fun _ => 0))))] H := hP
  have hD : va_D A [(h, .inr (1, [.ref q1, .ref q3, .int 0, .ref q5, .ref q7, .null, .null, .int 0, .null, .null, .null, .null, .null])), (q1, .inl (c2, 6, .inl ((fun _ => 0)))), (q3, .inl (c4, 6, .inl ((fun _ => 0)))), (q9, .inl (c10, 10, .inl ((fun _ => 0))))] := hD
  have hK : va_K (dC, dI) CL [(c2, .int), (c4, .int), (c10, .int)] s := hK
  refine W.widen (k := 5) (n := 72) (by decide) (by decide) ?_
  refine va_putF (D := (dC, dI)) (ci := 1) (v := .ref q9) (ty := .array .int) (C := R_G) (T := F_G) (N := 13) hx hb hts u_G t_G t_G_ok n_G hown hK hP hD hS 0 rfl rfl 5 (by decide) (hts _ k_9) (fun _ h9 => h9) rfl hin rfl (by decide +kernel) rfl rfl (Nat.le_of_ble_eq_true rfl) d_G_init_41 (fun H locs hP hD hS => ?_)
  have hP : va_P (dC, dI) CL [(h, .inr (1, [.ref q1, .ref q3, .int 0, .ref q5, .ref q7, .ref q9, .null, .int 0, .null, .null, .null, .null, .null])), (q1, .inl (c2, 6, .inl ((fun _ => 0)))), (q3, .inl (c4, 6, .inl ((fun _ => 0)))), (q9, .inl (c10, 10, .inl ((fun _ => 0))))] H := hP
  have hD : va_D A [(h, .inr (1, [.ref q1, .ref q3, .int 0, .ref q5, .ref q7, .ref q9, .null, .int 0, .null, .null, .null, .null, .null])), (q1, .inl (c2, 6, .inl ((fun _ => 0)))), (q3, .inl (c4, 6, .inl ((fun _ => 0)))), (q9, .inl (c10, 10, .inl ((fun _ => 0))))] := hD
  have hP := hP.sub (ws' := [(h, .inr (1, [.ref q1, .ref q3, .int 0, .ref q5, .ref q7, .ref q9, .null, .int 0, .null, .null, .null, .null, .null])), (q1, .inl (c2, 6, .inl ((fun _ => 0)))), (q3, .inl (c4, 6, .inl ((fun _ => 0))))]) [0, 1, 2] rfl
  have hD := hD.sub (ws' := [(h, .inr (1, [.ref q1, .ref q3, .int 0, .ref q5, .ref q7, .ref q9, .null, .int 0, .null, .null, .null, .null, .null])), (q1, .inl (c2, 6, .inl ((fun _ => 0)))), (q3, .inl (c4, 6, .inl ((fun _ => 0))))]) [0, 1, 2] (by decide) rfl
  have hK := hK.sub (tys' := [(c2, .int), (c4, .int)]) [0, 1] rfl
  refine lv_aload_n hx hb d_G_init_44 rfl (lv_at hl 0 rfl) ?_
  refine lv_bipush (v := 10) hx hb d_G_init_45 (by decide) ?_
  refine va_newa (D := (dC, dI)) (atype := .int) (ty := .int) (N' := 10) (a0 := (10, .inl (fun _ => 0))) hx hb (hts _ k_4) rfl hK hP hD hS hA (fun _ => rfl) (by decide) (by decide) (by decide) (Nat.le_of_ble_eq_true rfl) (Nat.le_of_ble_eq_true rfl) d_G_init_47 (fun q11 c12 H hK hP hD hS => ?_)
  have hP : va_P (dC, dI) CL [(h, .inr (1, [.ref q1, .ref q3, .int 0, .ref q5, .ref q7, .ref q9, .null, .int 0, .null, .null, .null, .null, .null])), (q1, .inl (c2, 6, .inl ((fun _ => 0)))), (q3, .inl (c4, 6, .inl ((fun _ => 0)))), (q11, .inl (c12, 10, .inl ((fun _ => 0))))] H := hP
  have hD : va_D A [(h, .inr (1, [.ref q1, .ref q3, .int 0, .ref q5, .ref q7, .ref q9, .null, .int 0, .null, .null, .null, .null, .null])), (q1, .inl (c2, 6, .inl ((fun _ => 0)))), (q3, .inl (c4, 6, .inl ((fun _ => 0)))), (q11, .inl (c12, 10, .inl ((fun _ => 0))))] := hD
  have hK : va_K (dC, dI) CL [(c2, .int), (c4, .int), (c12, .int)] s := hK
  refine W.widen (k := 6) (n := 82) (by decide) (by decide) ?_
  refine va_putF (D := (dC, dI)) (ci := 1) (v := .ref q11) (ty := .array .int) (C := R_G) (T := F_G) (N := 13) hx hb hts u_G t_G t_G_ok n_G hown hK hP hD hS 0 rfl rfl 6 (by decide) (hts _ k_10) (fun _ h9 => h9) rfl hin rfl (by decide +kernel) rfl rfl (Nat.le_of_ble_eq_true rfl) d_G_init_49 (fun H locs hP hD hS => ?_)
  have hP : va_P (dC, dI) CL [(h, .inr (1, [.ref q1, .ref q3, .int 0, .ref q5, .ref q7, .ref q9, .ref q11, .int 0, .null, .null, .null, .null, .null])), (q1, .inl (c2, 6, .inl ((fun _ => 0)))), (q3, .inl (c4, 6, .inl ((fun _ => 0)))), (q11, .inl (c12, 10, .inl ((fun _ => 0))))] H := hP
  have hD : va_D A [(h, .inr (1, [.ref q1, .ref q3, .int 0, .ref q5, .ref q7, .ref q9, .ref q11, .int 0, .null, .null, .null, .null, .null])), (q1, .inl (c2, 6, .inl ((fun _ => 0)))), (q3, .inl (c4, 6, .inl ((fun _ => 0)))), (q11, .inl (c12, 10, .inl ((fun _ => 0))))] := hD
  have hP := hP.sub (ws' := [(h, .inr (1, [.ref q1, .ref q3, .int 0, .ref q5, .ref q7, .ref q9, .ref q11, .int 0, .null, .null, .null, .null, .null])), (q1, .inl (c2, 6, .inl ((fun _ => 0)))), (q3, .inl (c4, 6, .inl ((fun _ => 0))))]) [0, 1, 2] rfl
  have hD := hD.sub (ws' := [(h, .inr (1, [.ref q1, .ref q3, .int 0, .ref q5, .ref q7, .ref q9, .ref q11, .int 0, .null, .null, .null, .null, .null])), (q1, .inl (c2, 6, .inl ((fun _ => 0)))), (q3, .inl (c4, 6, .inl ((fun _ => 0))))]) [0, 1, 2] (by decide) rfl
  have hK := hK.sub (tys' := [(c2, .int), (c4, .int)]) [0, 1] rfl
  refine lv_aload_n hx hb d_G_init_52 rfl (lv_at hl 0 rfl) ?_
  refine lv_bipush (v := 10) hx hb d_G_init_53 (by decide) ?_
  refine va_newa (D := (dC, dI)) (atype := .int) (ty := .int) (N' := 10) (a0 := (10, .inl (fun _ => 0))) hx hb (hts _ k_4) rfl hK hP hD hS hA (fun _ => rfl) (by decide) (by decide) (by decide) (Nat.le_of_ble_eq_true rfl) (Nat.le_of_ble_eq_true rfl) d_G_init_55 (fun q13 c14 H hK hP hD hS => ?_)
  have hP : va_P (dC, dI) CL [(h, .inr (1, [.ref q1, .ref q3, .int 0, .ref q5, .ref q7, .ref q9, .ref q11, .int 0, .null, .null, .null, .null, .null])), (q1, .inl (c2, 6, .inl ((fun _ => 0)))), (q3, .inl (c4, 6, .inl ((fun _ => 0)))), (q13, .inl (c14, 10, .inl ((fun _ => 0))))] H := hP
  have hD : va_D A [(h, .inr (1, [.ref q1, .ref q3, .int 0, .ref q5, .ref q7, .ref q9, .ref q11, .int 0, .null, .null, .null, .null, .null])), (q1, .inl (c2, 6, .inl ((fun _ => 0)))), (q3, .inl (c4, 6, .inl ((fun _ => 0)))), (q13, .inl (c14, 10, .inl ((fun _ => 0))))] := hD
  have hK : va_K (dC, dI) CL [(c2, .int), (c4, .int), (c14, .int)] s := hK
  refine W.widen (k := 7) (n := 92) (by decide) (by decide) ?_
  refine va_putF (D := (dC, dI)) (ci := 1) (v := .ref q13) (ty := .array .int) (C := R_G) (T := F_G) (N := 13) hx hb hts u_G t_G t_G_ok n_G hown hK hP hD hS 0 rfl rfl 8 (by decide) (hts _ k_11) (fun _ h9 => h9) rfl hin rfl (by decide +kernel) rfl rfl (Nat.le_of_ble_eq_true rfl) d_G_init_57 (fun H locs hP hD hS => ?_)
  have hP : va_P (dC, dI) CL [(h, .inr (1, [.ref q1, .ref q3, .int 0, .ref q5, .ref q7, .ref q9, .ref q11, .int 0, .ref q13, .null, .null, .null, .null])), (q1, .inl (c2, 6, .inl ((fun _ => 0)))), (q3, .inl (c4, 6, .inl ((fun _ => 0)))), (q13, .inl (c14, 10, .inl ((fun _ => 0))))] H := hP
  have hD : va_D A [(h, .inr (1, [.ref q1, .ref q3, .int 0, .ref q5, .ref q7, .ref q9, .ref q11, .int 0, .ref q13, .null, .null, .null, .null])), (q1, .inl (c2, 6, .inl ((fun _ => 0)))), (q3, .inl (c4, 6, .inl ((fun _ => 0)))), (q13, .inl (c14, 10, .inl ((fun _ => 0))))] := hD
  have hP := hP.sub (ws' := [(h, .inr (1, [.ref q1, .ref q3, .int 0, .ref q5, .ref q7, .ref q9, .ref q11, .int 0, .ref q13, .null, .null, .null, .null])), (q1, .inl (c2, 6, .inl ((fun _ => 0)))), (q3, .inl (c4, 6, .inl ((fun _ => 0))))]) [0, 1, 2] rfl
  have hD := hD.sub (ws' := [(h, .inr (1, [.ref q1, .ref q3, .int 0, .ref q5, .ref q7, .ref q9, .ref q11, .int 0, .ref q13, .null, .null, .null, .null])), (q1, .inl (c2, 6, .inl ((fun _ => 0)))), (q3, .inl (c4, 6, .inl ((fun _ => 0))))]) [0, 1, 2] (by decide) rfl
  have hK := hK.sub (tys' := [(c2, .int), (c4, .int)]) [0, 1] rfl
  refine lv_aload_n hx hb d_G_init_60 rfl (lv_at hl 0 rfl) ?_
  refine lv_sipush (v := 160) hx hb d_G_init_61 (by decide) ?_
  refine va_newa (D := (dC, dI)) (atype := .int) (ty := .int) (N' := 160) (a0 := (160, .inl (fun _ => 0))) hx hb (hts _ k_4) rfl hK hP hD hS hA (fun _ => rfl) (by decide) (by decide) (by decide) (Nat.le_of_ble_eq_true rfl) (Nat.le_of_ble_eq_true rfl) d_G_init_64 (fun q15 c16 H hK hP hD hS => ?_)
  have hP : va_P (dC, dI) CL [(h, .inr (1, [.ref q1, .ref q3, .int 0, .ref q5, .ref q7, .ref q9, .ref q11, .int 0, .ref q13, .null, .null, .null, .null])), (q1, .inl (c2, 6, .inl ((fun _ => 0)))), (q3, .inl (c4, 6, .inl ((fun _ => 0)))), (q15, .inl (c16, 160, .inl ((fun _ => 0))))] H := hP
  have hD : va_D A [(h, .inr (1, [.ref q1, .ref q3, .int 0, .ref q5, .ref q7, .ref q9, .ref q11, .int 0, .ref q13, .null, .null, .null, .null])), (q1, .inl (c2, 6, .inl ((fun _ => 0)))), (q3, .inl (c4, 6, .inl ((fun _ => 0)))), (q15, .inl (c16, 160, .inl ((fun _ => 0))))] := hD
  have hK : va_K (dC, dI) CL [(c2, .int), (c4, .int), (c16, .int)] s := hK
  refine W.widen (k := 8) (n := 252) (by decide) (by decide) ?_
  refine va_putF (D := (dC, dI)) (ci := 1) (v := .ref q15) (ty := .array .int) (C := R_G) (T := F_G) (N := 13) hx hb hts u_G t_G t_G_ok n_G hown hK hP hD hS 0 rfl rfl 9 (by decide) (hts _ k_12) (fun _ h9 => h9) rfl hin rfl (by decide +kernel) rfl rfl (Nat.le_of_ble_eq_true rfl) d_G_init_66 (fun H locs hP hD hS => ?_)
  have hP : va_P (dC, dI) CL [(h, .inr (1, [.ref q1, .ref q3, .int 0, .ref q5, .ref q7, .ref q9, .ref q11, .int 0, .ref q13, .ref q15, .null, .null, .null])), (q1, .inl (c2, 6, .inl ((fun _ => 0)))), (q3, .inl (c4, 6, .inl ((fun _ => 0)))), (q15, .inl (c16, 160, .inl ((fun _ => 0))))] H := hP
  have hD : va_D A [(h, .inr (1, [.ref q1, .ref q3, .int 0, .ref q5, .ref q7, .ref q9, .ref q11, .int 0, .ref q13, .ref q15, .null, .null, .null])), (q1, .inl (c2, 6, .inl ((fun _ => 0)))), (q3, .inl (c4, 6, .inl ((fun _ => 0)))), (q15, .inl (c16, 160, .inl ((fun _ => 0))))] := hD
  have hP := hP.sub (ws' := [(h, .inr (1, [.ref q1, .ref q3, .int 0, .ref q5, .ref q7, .ref q9, .ref q11, .int 0, .ref q13, .ref q15, .null, .null, .null])), (q1, .inl (c2, 6, .inl ((fun _ => 0)))), (q3, .inl (c4, 6, .inl ((fun _ => 0))))]) [0, 1, 2] rfl
  have hD := hD.sub (ws' := [(h, .inr (1, [.ref q1, .ref q3, .int 0, .ref q5, .ref q7, .ref q9, .ref q11, .int 0, .ref q13, .ref q15, .null, .null, .null])), (q1, .inl (c2, 6, .inl ((fun _ => 0)))), (q3, .inl (c4, 6, .inl ((fun _ => 0))))]) [0, 1, 2] (by decide) rfl
  have hK := hK.sub (tys' := [(c2, .int), (c4, .int)]) [0, 1] rfl
  refine lv_aload_n hx hb d_G_init_69 rfl (lv_at hl 0 rfl) ?_
  refine lv_sipush (v := 160) hx hb d_G_init_70 (by decide) ?_
  refine va_newa (D := (dC, dI)) (atype := .int) (ty := .int) (N' := 160) (a0 := (160, .inl (fun _ => 0))) hx hb (hts _ k_4) rfl hK hP hD hS hA (fun _ => rfl) (by decide) (by decide) (by decide) (Nat.le_of_ble_eq_true rfl) (Nat.le_of_ble_eq_true rfl) d_G_init_73 (fun q17 c18 H hK hP hD hS => ?_)
  have hP : va_P (dC, dI) CL [(h, .inr (1, [.ref q1, .ref q3, .int 0, .ref q5, .ref q7, .ref q9, .ref q11, .int 0, .ref q13, .ref q15, .null, .null, .null])), (q1, .inl (c2, 6, .inl ((fun _ => 0)))), (q3, .inl (c4, 6, .inl ((fun _ => 0)))), (q17, .inl (c18, 160, .inl ((fun _ => 0))))] H := hP
  have hD : va_D A [(h, .inr (1, [.ref q1, .ref q3, .int 0, .ref q5, .ref q7, .ref q9, .ref q11, .int 0, .ref q13, .ref q15, .null, .null, .null])), (q1, .inl (c2, 6, .inl ((fun _ => 0)))), (q3, .inl (c4, 6, .inl ((fun _ => 0)))), (q17, .inl (c18, 160, .inl ((fun _ => 0))))] := hD
  have hK : va_K (dC, dI) CL [(c2, .int), (c4, .int), (c18, .int)] s := hK
  refine W.widen (k := 9) (n := 412) (by decide) (by decide) ?_
  refine va_putF (D := (dC, dI)) (ci := 1) (v := .ref q17) (ty := .array .int) (C := R_G) (T := F_G) (N := 13) hx hb hts u_G t_G t_G_ok n_G hown hK hP hD hS 0 rfl rfl 10 (by decide) (hts _ k_13) (fun _ h9 => h9) rfl hin rfl (by decide +kernel) rfl rfl (Nat.le_of_ble_eq_true rfl) d_G_init_75 (fun H locs hP hD hS => ?_)
  have hP : va_P (dC, dI) CL [(h, .inr (1, [.ref q1, .ref q3, .int 0, .ref q5, .ref q7, .ref q9, .ref q11, .int 0, .ref q13, .ref q15, .ref q17, .null, .null])), (q1, .inl (c2, 6, .inl ((fun _ => 0)))), (q3, .inl (c4, 6, .inl ((fun _ => 0)))), (q17, .inl (c18, 160, .inl ((fun _ => 0))))] H := hP
  have hD : va_D A [(h, .inr (1, [.ref q1, .ref q3, .int 0, .ref q5, .ref q7, .ref q9, .ref q11, .int 0, .ref q13, .ref q15, .ref q17, .null, .null])), (q1, .inl (c2, 6, .inl ((fun _ => 0)))), (q3, .inl (c4, 6, .inl ((fun _ => 0)))), (q17, .inl (c18, 160, .inl ((fun _ => 0))))] := hD
  have hP := hP.sub (ws' := [(h, .inr (1, [.ref q1, .ref q3, .int 0, .ref q5, .ref q7, .ref q9, .ref q11, .int 0, .ref q13, .ref q15, .ref q17, .null, .null])), (q1, .inl (c2, 6, .inl ((fun _ => 0)))), (q3, .inl (c4, 6, .inl ((fun _ => 0))))]) [0, 1, 2] rfl
  have hD := hD.sub (ws' := [(h, .inr (1, [.ref q1, .ref q3, .int 0, .ref q5, .ref q7, .ref q9, .ref q11, .int 0, .ref q13, .ref q15, .ref q17, .null, .null])), (q1, .inl (c2, 6, .inl ((fun _ => 0)))), (q3, .inl (c4, 6, .inl ((fun _ => 0))))]) [0, 1, 2] (by decide) rfl
  have hK := hK.sub (tys' := [(c2, .int), (c4, .int)]) [0, 1] rfl
  refine lv_aload_n hx hb d_G_init_78 rfl (lv_at hl 0 rfl) ?_
  refine lv_sipush (v := 160) hx hb d_G_init_79 (by decide) ?_
  refine va_newa (D := (dC, dI)) (atype := .int) (ty := .int) (N' := 160) (a0 := (160, .inl (fun _ => 0))) hx hb (hts _ k_4) rfl hK hP hD hS hA (fun _ => rfl) (by decide) (by decide) (by decide) (Nat.le_of_ble_eq_true rfl) (Nat.le_of_ble_eq_true rfl) d_G_init_82 (fun q19 c20 H hK hP hD hS => ?_)
  have hP : va_P (dC, dI) CL [(h, .inr (1, [.ref q1, .ref q3, .int 0, .ref q5, .ref q7, .ref q9, .ref q11, .int 0, .ref q13, .ref q15, .ref q17, .null, .null])), (q1, .inl (c2, 6, .inl ((fun _ => 0)))), (q3, .inl (c4, 6, .inl ((fun _ => 0)))), (q19, .inl (c20, 160, .inl ((fun _ => 0))))] H := hP
  have hD : va_D A [(h, .inr (1, [.ref q1, .ref q3, .int 0, .ref q5, .ref q7, .ref q9, .ref q11, .int 0, .ref q13, .ref q15, .ref q17, .null, .null])), (q1, .inl (c2, 6, .inl ((fun _ => 0)))), (q3, .inl (c4, 6, .inl ((fun _ => 0)))), (q19, .inl (c20, 160, .inl ((fun _ => 0))))] := hD
  have hK : va_K (dC, dI) CL [(c2, .int), (c4, .int), (c20, .int)] s := hK
  refine W.widen (k := 10) (n := 572) (by decide) (by decide) ?_
  refine va_putF (D := (dC, dI)) (ci := 1) (v := .ref q19) (ty := .array .int) (C := R_G) (T := F_G) (N := 13) hx hb hts u_G t_G t_G_ok n_G hown hK hP hD hS 0 rfl rfl 11 (by decide) (hts _ k_14) (fun _ h9 => h9) rfl hin rfl (by decide +kernel) rfl rfl (Nat.le_of_ble_eq_true rfl) d_G_init_84 (fun H locs hP hD hS => ?_)
  have hP : va_P (dC, dI) CL [(h, .inr (1, [.ref q1, .ref q3, .int 0, .ref q5, .ref q7, .ref q9, .ref q11, .int 0, .ref q13, .ref q15, .ref q17, .ref q19, .null])), (q1, .inl (c2, 6, .inl ((fun _ => 0)))), (q3, .inl (c4, 6, .inl ((fun _ => 0)))), (q19, .inl (c20, 160, .inl ((fun _ => 0))))] H := hP
  have hD : va_D A [(h, .inr (1, [.ref q1, .ref q3, .int 0, .ref q5, .ref q7, .ref q9, .ref q11, .int 0, .ref q13, .ref q15, .ref q17, .ref q19, .null])), (q1, .inl (c2, 6, .inl ((fun _ => 0)))), (q3, .inl (c4, 6, .inl ((fun _ => 0)))), (q19, .inl (c20, 160, .inl ((fun _ => 0))))] := hD
  have hP := hP.sub (ws' := [(h, .inr (1, [.ref q1, .ref q3, .int 0, .ref q5, .ref q7, .ref q9, .ref q11, .int 0, .ref q13, .ref q15, .ref q17, .ref q19, .null])), (q1, .inl (c2, 6, .inl ((fun _ => 0)))), (q3, .inl (c4, 6, .inl ((fun _ => 0))))]) [0, 1, 2] rfl
  have hD := hD.sub (ws' := [(h, .inr (1, [.ref q1, .ref q3, .int 0, .ref q5, .ref q7, .ref q9, .ref q11, .int 0, .ref q13, .ref q15, .ref q17, .ref q19, .null])), (q1, .inl (c2, 6, .inl ((fun _ => 0)))), (q3, .inl (c4, 6, .inl ((fun _ => 0))))]) [0, 1, 2] (by decide) rfl
  have hK := hK.sub (tys' := [(c2, .int), (c4, .int)]) [0, 1] rfl
  refine lv_aload_n hx hb d_G_init_87 rfl (lv_at hl 0 rfl) ?_
  refine lv_sipush (v := 160) hx hb d_G_init_88 (by decide) ?_
  refine va_newa (D := (dC, dI)) (atype := .int) (ty := .int) (N' := 160) (a0 := (160, .inl (fun _ => 0))) hx hb (hts _ k_4) rfl hK hP hD hS hA (fun _ => rfl) (by decide) (by decide) (by decide) (Nat.le_of_ble_eq_true rfl) (Nat.le_of_ble_eq_true rfl) d_G_init_91 (fun q21 c22 H hK hP hD hS => ?_)
  have hP : va_P (dC, dI) CL [(h, .inr (1, [.ref q1, .ref q3, .int 0, .ref q5, .ref q7, .ref q9, .ref q11, .int 0, .ref q13, .ref q15, .ref q17, .ref q19, .null])), (q1, .inl (c2, 6, .inl ((fun _ => 0)))), (q3, .inl (c4, 6, .inl ((fun _ => 0)))), (q21, .inl (c22, 160, .inl ((fun _ => 0))))] H := hP
  have hD : va_D A [(h, .inr (1, [.ref q1, .ref q3, .int 0, .ref q5, .ref q7, .ref q9, .ref q11, .int 0, .ref q13, .ref q15, .ref q17, .ref q19, .null])), (q1, .inl (c2, 6, .inl ((fun _ => 0)))), (q3, .inl (c4, 6, .inl ((fun _ => 0)))), (q21, .inl (c22, 160, .inl ((fun _ => 0))))] := hD
  have hK : va_K (dC, dI) CL [(c2, .int), (c4, .int), (c22, .int)] s := hK
  refine W.widen (k := 11) (n := 732) (by decide) (by decide) ?_
  refine va_putF (D := (dC, dI)) (ci := 1) (v := .ref q21) (ty := .array .int) (C := R_G) (T := F_G) (N := 13) hx hb hts u_G t_G t_G_ok n_G hown hK hP hD hS 0 rfl rfl 12 (by decide) (hts _ k_15) (fun _ h9 => h9) rfl hin rfl (by decide +kernel) rfl rfl (Nat.le_of_ble_eq_true rfl) d_G_init_93 (fun H locs hP hD hS => ?_)
  have hP : va_P (dC, dI) CL [(h, .inr (1, [.ref q1, .ref q3, .int 0, .ref q5, .ref q7, .ref q9, .ref q11, .int 0, .ref q13, .ref q15, .ref q17, .ref q19, .ref q21])), (q1, .inl (c2, 6, .inl ((fun _ => 0)))), (q3, .inl (c4, 6, .inl ((fun _ => 0)))), (q21, .inl (c22, 160, .inl ((fun _ => 0))))] H := hP
  have hD : va_D A [(h, .inr (1, [.ref q1, .ref q3, .int 0, .ref q5, .ref q7, .ref q9, .ref q11, .int 0, .ref q13, .ref q15, .ref q17, .ref q19, .ref q21])), (q1, .inl (c2, 6, .inl ((fun _ => 0)))), (q3, .inl (c4, 6, .inl ((fun _ => 0)))), (q21, .inl (c22, 160, .inl ((fun _ => 0))))] := hD
  have hP := hP.sub (ws' := [(h, .inr (1, [.ref q1, .ref q3, .int 0, .ref q5, .ref q7, .ref q9, .ref q11, .int 0, .ref q13, .ref q15, .ref q17, .ref q19, .ref q21])), (q1, .inl (c2, 6, .inl ((fun _ => 0)))), (q3, .inl (c4, 6, .inl ((fun _ => 0))))]) [0, 1, 2] rfl
  have hD := hD.sub (ws' := [(h, .inr (1, [.ref q1, .ref q3, .int 0, .ref q5, .ref q7, .ref q9, .ref q11, .int 0, .ref q13, .ref q15, .ref q17, .ref q19, .ref q21])), (q1, .inl (c2, 6, .inl ((fun _ => 0)))), (q3, .inl (c4, 6, .inl ((fun _ => 0))))]) [0, 1, 2] (by decide) rfl
  have hK := hK.sub (tys' := [(c2, .int), (c4, .int)]) [0, 1] rfl
  have hP9 := hP.sub (ws' := [(h, .inr (1, [.ref q1, .ref q3, .int 0, .ref q5, .ref q7, .ref q9, .ref q11, .int 0, .ref q13, .ref q15, .ref q17, .ref q19, .ref q21])), (q1, .inl (c2, 6, .inl ((fun _ => 0)))), (q3, .inl (c4, 6, .inl ((fun _ => 0))))]) [0, 1, 2] rfl
  have hD9 := hD.sub (ws' := [(h, .inr (1, [.ref q1, .ref q3, .int 0, .ref q5, .ref q7, .ref q9, .ref q11, .int 0, .ref q13, .ref q15, .ref q17, .ref q19, .ref q21])), (q1, .inl (c2, 6, .inl ((fun _ => 0)))), (q3, .inl (c4, 6, .inl ((fun _ => 0))))]) [0, 1, 2] (by decide) rfl
  have hK9 := hK.sub (tys' := [(c2, .int), (c4, .int)]) [0, 1] rfl
  refine W.widen (k := 11) (n := 732) (by decide) (by decide) ?_
  exact W.vret hx hb hr (fun t ht hW => ⟨⟨(), rfl, trivial, q1, q3, q5, q7, q9, q11, q13, q15, q17, q19, q21, c2, c4, by rw [ht]; exact hP9, va_K.moved hW.alike hK9, hD9⟩, hS.F ht⟩) hS.2.2 d_G_init_96

set_option maxHeartbeats 4000000 in
set_option maxRecDepth 100000 in
theorem c_E_init (l : Launch) (htr : l.stackTraces = false) (dC : Nat → ClassId) (dI : Nat → Nat → Nat) (h : Nat) (g : Nat) (sz : Nat) : Met l y_E_init WS ({ frames := 1, cells := 2, slots := 184, locals := 12 }) (va_Pc [.ref h, .ref g] (vq_Pre (dC, dI) CL sz [(h, .inr (3, [.null, .null, .null]))] [])) (va_Qv (fun _ : Unit => True) (fun _ t => vq_Post (dC, dI) CL (va_A [(h, .inr (3, [.null, .null, .null]))] sz) [] [] t) (va_A [(h, .inr (3, [.null, .null, .null]))] sz)) 2 184 (va_A [(h, .inr (3, [.null, .null, .null]))] sz) := by
  refine vq_ofW (cc := prog_4_method_1_code) (maxL := 2) (ret := (Option.none : Option Jvm.ClassFile.FieldType)) (by decide) (vq_his k_16) ?_
  intro p e s m args below meth c s₁ B hml hv
  obtain ⟨rfl, hst, hsz, hP, hK, hD0⟩ := hv
  have hx := B.exec
  have hb := B.bytes
  have hr := B.returns
  have hts := atoms_spec (ws := WS) B.pre
  have hown : s.vm.findClass R_E = some m.cls := findClass_of_methodNamed B.named
  have hlocks := B.notSynchronized
  have hin : meth.name = "<init>" := (name_of_methodNamed B.named B.method).1
  have hno := vq_noH B (hts _ k_16)
  subst hsz
  have hN := vq_ns hP
  have hD := hD0.self (sz := s.heap.size)
  generalize hAe : va_A [(h, .inr (3, [.null, .null, .null]))] s.heap.size = A at hD hN ⊢
  have hA : ∀ q : Nat, s.heap.size ≤ q → A q := fun q h => by rw [← hAe]; exact Or.inr h
  have hS : va_S A s.heap s.heap [] := va_S.rf
  have hP : va_P (dC, dI) CL [(h, .inr (3, [.null, .null, .null]))] s.heap := hP
  have hD : va_D A [(h, .inr (3, [.null, .null, .null]))] := hD
  have hl := lv_entry ([.ref h, .ref g]) (n := 2) (Nat.le_of_ble_eq_true rfl)
  rw [lg_entry_eq]
  generalize (lg_sl ([.ref h, .ref g]) ++ List.replicate (2 - (lg_sl ([.ref h, .ref g])).length) Slot.unset).toArray = ls at hl ⊢
  have hl : lv_has ls 2 [(0, .ref h), (1, .ref g)] := hl
  refine lv_aload_n hx hb d_E_init_0 rfl (lv_at hl 0 rfl) ?_
  refine W.objInit hx hb hown (hts _ k_17) (hts _ k_2) (hts _ k_3) rfl (by rw [hml]; exact hl.1) rfl d_E_init_1 (Nat.le_of_ble_eq_true rfl) (Nat.le_of_ble_eq_true rfl) ?_
  refine W.eq (g2 := F0 m 4 ls []) rfl ?_
  refine lv_aload_n hx hb d_E_init_4 rfl (lv_at hl 0 rfl) ?_
  refine lv_sipush (v := 160) hx hb d_E_init_5 (by decide) ?_
  refine va_newa (D := (dC, dI)) (atype := .int) (ty := .int) (N' := 160) (a0 := (160, .inl (fun _ => 0))) hx hb (hts _ k_4) rfl hK hP hD hS hA (fun _ => rfl) (by decide) (by decide) (by decide) (Nat.le_of_ble_eq_true rfl) (Nat.le_of_ble_eq_true rfl) d_E_init_8 (fun q1 c2 H hK hP hD hS => ?_)
  have hP : va_P (dC, dI) CL [(h, .inr (3, [.null, .null, .null])), (q1, .inl (c2, 160, .inl ((fun _ => 0))))] H := hP
  have hD : va_D A [(h, .inr (3, [.null, .null, .null])), (q1, .inl (c2, 160, .inl ((fun _ => 0))))] := hD
  have hK : va_K (dC, dI) CL [(c2, .int)] s := hK
  refine W.widen (k := 1) (n := 160) (by decide) (by decide) ?_
  refine va_putF (D := (dC, dI)) (ci := 3) (v := .ref q1) (ty := .array .int) (C := R_E) (T := F_E) (N := 3) hx hb hts u_E t_E t_E_ok n_E hown hK hP hD hS 0 rfl rfl 1 (by decide) (hts _ k_18) (fun _ h9 => h9) rfl hin rfl (by decide +kernel) rfl rfl (Nat.le_of_ble_eq_true rfl) d_E_init_10 (fun H locs hP hD hS => ?_)
  have hP : va_P (dC, dI) CL [(h, .inr (3, [.null, .ref q1, .null])), (q1, .inl (c2, 160, .inl ((fun _ => 0))))] H := hP
  have hD : va_D A [(h, .inr (3, [.null, .ref q1, .null])), (q1, .inl (c2, 160, .inl ((fun _ => 0))))] := hD
  have hP := hP.sub (ws' := [(h, .inr (3, [.null, .ref q1, .null]))]) [0] rfl
  have hD := hD.sub (ws' := [(h, .inr (3, [.null, .ref q1, .null]))]) [0] (by decide) rfl
  have hK := hK.sub (tys' := []) [] rfl
  refine lv_aload_n hx hb d_E_init_13 rfl (lv_at hl 0 rfl) ?_
  refine lv_bipush (v := 24) hx hb d_E_init_14 (by decide) ?_
  refine va_newa (D := (dC, dI)) (atype := .int) (ty := .int) (N' := 24) (a0 := (24, .inl (fun _ => 0))) hx hb (hts _ k_4) rfl hK hP hD hS hA (fun _ => rfl) (by decide) (by decide) (by decide) (Nat.le_of_ble_eq_true rfl) (Nat.le_of_ble_eq_true rfl) d_E_init_16 (fun q3 c4 H hK hP hD hS => ?_)
  have hP : va_P (dC, dI) CL [(h, .inr (3, [.null, .ref q1, .null])), (q3, .inl (c4, 24, .inl ((fun _ => 0))))] H := hP
  have hD : va_D A [(h, .inr (3, [.null, .ref q1, .null])), (q3, .inl (c4, 24, .inl ((fun _ => 0))))] := hD
  have hK : va_K (dC, dI) CL [(c4, .int)] s := hK
  refine W.widen (k := 2) (n := 184) (by decide) (by decide) ?_
  refine va_putF (D := (dC, dI)) (ci := 3) (v := .ref q3) (ty := .array .int) (C := R_E) (T := F_E) (N := 3) hx hb hts u_E t_E t_E_ok n_E hown hK hP hD hS 0 rfl rfl 2 (by decide) (hts _ k_19) (fun _ h9 => h9) rfl hin rfl (by decide +kernel) rfl rfl (Nat.le_of_ble_eq_true rfl) d_E_init_18 (fun H locs hP hD hS => ?_)
  have hP : va_P (dC, dI) CL [(h, .inr (3, [.null, .ref q1, .ref q3])), (q3, .inl (c4, 24, .inl ((fun _ => 0))))] H := hP
  have hD : va_D A [(h, .inr (3, [.null, .ref q1, .ref q3])), (q3, .inl (c4, 24, .inl ((fun _ => 0))))] := hD
  have hP := hP.sub (ws' := [(h, .inr (3, [.null, .ref q1, .ref q3]))]) [0] rfl
  have hD := hD.sub (ws' := [(h, .inr (3, [.null, .ref q1, .ref q3]))]) [0] (by decide) rfl
  have hK := hK.sub (tys' := []) [] rfl
  refine lv_aload_n hx hb d_E_init_21 rfl (lv_at hl 0 rfl) ?_
  refine lv_aload_n hx hb d_E_init_22 rfl (lv_at hl 1 rfl) ?_
  refine va_putF (D := (dC, dI)) (ci := 3) (v := .ref g) (ty := .object "VisitGrammar$Grammar") (C := R_E) (T := F_E) (N := 3) hx hb hts u_E t_E t_E_ok n_E hown hK hP hD hS 0 rfl rfl 0 (by decide) (hts _ k_20) (fun _ h9 => h9) rfl hin rfl (by decide +kernel) rfl rfl (Nat.le_of_ble_eq_true rfl) d_E_init_23 (fun H locs hP hD hS => ?_)
  have hP : va_P (dC, dI) CL [(h, .inr (3, [.ref g, .ref q1, .ref q3]))] H := hP
  have hD : va_D A [(h, .inr (3, [.ref g, .ref q1, .ref q3]))] := hD
  have hP9 := hP.sub (ws' := []) [] rfl
  have hD9 := hD.sub (ws' := []) [] (by decide) rfl
  have hK9 := hK.sub (tys' := []) [] rfl
  refine W.widen (k := 2) (n := 184) (by decide) (by decide) ?_
  exact W.vret hx hb hr (fun t ht hW => ⟨⟨(), rfl, trivial, by rw [ht]; exact hP9, va_K.moved hW.alike hK9, hD9⟩, hS.F ht⟩) hS.2.2 d_E_init_26

set_option maxHeartbeats 4000000 in
set_option maxRecDepth 100000 in
theorem c_K_init (l : Launch) (htr : l.stackTraces = false) (dC : Nat → ClassId) (dI : Nat → Nat → Nat) (h : Nat) (g : Nat) (le : Nat) (sz : Nat) : Met l y_K_init WS ({ frames := 1, cells := 3, slots := 54, locals := 12 }) (va_Pc [.ref h, .ref g, .ref le] (vq_Pre (dC, dI) CL sz [(h, .inr (4, [.null, .null, .null, .null, .null]))] [])) (va_Qv (fun _ : Unit => True) (fun _ t => vq_Post (dC, dI) CL (va_A [(h, .inr (4, [.null, .null, .null, .null, .null]))] sz) [] [] t) (va_A [(h, .inr (4, [.null, .null, .null, .null, .null]))] sz)) 3 54 (va_A [(h, .inr (4, [.null, .null, .null, .null, .null]))] sz) := by
  refine vq_ofW (cc := prog_5_method_1_code) (maxL := 3) (ret := (Option.none : Option Jvm.ClassFile.FieldType)) (by decide) (vq_his k_21) ?_
  intro p e s m args below meth c s₁ B hml hv
  obtain ⟨rfl, hst, hsz, hP, hK, hD0⟩ := hv
  have hx := B.exec
  have hb := B.bytes
  have hr := B.returns
  have hts := atoms_spec (ws := WS) B.pre
  have hown : s.vm.findClass R_K = some m.cls := findClass_of_methodNamed B.named
  have hlocks := B.notSynchronized
  have hin : meth.name = "<init>" := (name_of_methodNamed B.named B.method).1
  have hno := vq_noH B (hts _ k_21)
  subst hsz
  have hN := vq_ns hP
  have hD := hD0.self (sz := s.heap.size)
  generalize hAe : va_A [(h, .inr (4, [.null, .null, .null, .null, .null]))] s.heap.size = A at hD hN ⊢
  have hA : ∀ q : Nat, s.heap.size ≤ q → A q := fun q h => by rw [← hAe]; exact Or.inr h
  have hS : va_S A s.heap s.heap [] := va_S.rf
  have hP : va_P (dC, dI) CL [(h, .inr (4, [.null, .null, .null, .null, .null]))] s.heap := hP
  have hD : va_D A [(h, .inr (4, [.null, .null, .null, .null, .null]))] := hD
  have hl := lv_entry ([.ref h, .ref g, .ref le]) (n := 3) (Nat.le_of_ble_eq_true rfl)
  rw [lg_entry_eq]
  generalize (lg_sl ([.ref h, .ref g, .ref le]) ++ List.replicate (3 - (lg_sl ([.ref h, .ref g, .ref le])).length) Slot.unset).toArray = ls at hl ⊢
  have hl : lv_has ls 3 [(0, .ref h), (1, .ref g), (2, .ref le)] := hl
  refine lv_aload_n hx hb d_K_init_0 rfl (lv_at hl 0 rfl) ?_
  refine W.objInit hx hb hown (hts _ k_22) (hts _ k_2) (hts _ k_3) rfl (by rw [hml]; exact hl.1) rfl d_K_init_1 (Nat.le_of_ble_eq_true rfl) (Nat.le_of_ble_eq_true rfl) ?_
  refine W.eq (g2 := F0 m 4 ls []) rfl ?_
  refine lv_aload_n hx hb d_K_init_4 rfl (lv_at hl 0 rfl) ?_
  refine lv_bipush (v := 24) hx hb d_K_init_5 (by decide) ?_
  refine va_newa (D := (dC, dI)) (atype := .int) (ty := .int) (N' := 24) (a0 := (24, .inl (fun _ => 0))) hx hb (hts _ k_4) rfl hK hP hD hS hA (fun _ => rfl) (by decide) (by decide) (by decide) (Nat.le_of_ble_eq_true rfl) (Nat.le_of_ble_eq_true rfl) d_K_init_7 (fun q1 c2 H hK hP hD hS => ?_)
  have hP : va_P (dC, dI) CL [(h, .inr (4, [.null, .null, .null, .null, .null])), (q1, .inl (c2, 24, .inl ((fun _ => 0))))] H := hP
  have hD : va_D A [(h, .inr (4, [.null, .null, .null, .null, .null])), (q1, .inl (c2, 24, .inl ((fun _ => 0))))] := hD
  have hK : va_K (dC, dI) CL [(c2, .int)] s := hK
  refine W.widen (k := 1) (n := 24) (by decide) (by decide) ?_
  refine va_putF (D := (dC, dI)) (ci := 4) (v := .ref q1) (ty := .array .int) (C := R_K) (T := F_K) (N := 5) hx hb hts u_K t_K t_K_ok n_K hown hK hP hD hS 0 rfl rfl 2 (by decide) (hts _ k_23) (fun _ h9 => h9) rfl hin rfl (by decide +kernel) rfl rfl (Nat.le_of_ble_eq_true rfl) d_K_init_9 (fun H locs hP hD hS => ?_)
  have hP : va_P (dC, dI) CL [(h, .inr (4, [.null, .null, .ref q1, .null, .null])), (q1, .inl (c2, 24, .inl ((fun _ => 0))))] H := hP
  have hD : va_D A [(h, .inr (4, [.null, .null, .ref q1, .null, .null])), (q1, .inl (c2, 24, .inl ((fun _ => 0))))] := hD
  have hP := hP.sub (ws' := [(h, .inr (4, [.null, .null, .ref q1, .null, .null]))]) [0] rfl
  have hD := hD.sub (ws' := [(h, .inr (4, [.null, .null, .ref q1, .null, .null]))]) [0] (by decide) rfl
  have hK := hK.sub (tys' := []) [] rfl
  refine lv_aload_n hx hb d_K_init_12 rfl (lv_at hl 0 rfl) ?_
  refine lv_bipush (v := 6) hx hb d_K_init_13 (by decide) ?_
  refine va_newa (D := (dC, dI)) (atype := .int) (ty := .int) (N' := 6) (a0 := (6, .inl (fun _ => 0))) hx hb (hts _ k_4) rfl hK hP hD hS hA (fun _ => rfl) (by decide) (by decide) (by decide) (Nat.le_of_ble_eq_true rfl) (Nat.le_of_ble_eq_true rfl) d_K_init_15 (fun q3 c4 H hK hP hD hS => ?_)
  have hP : va_P (dC, dI) CL [(h, .inr (4, [.null, .null, .ref q1, .null, .null])), (q3, .inl (c4, 6, .inl ((fun _ => 0))))] H := hP
  have hD : va_D A [(h, .inr (4, [.null, .null, .ref q1, .null, .null])), (q3, .inl (c4, 6, .inl ((fun _ => 0))))] := hD
  have hK : va_K (dC, dI) CL [(c4, .int)] s := hK
  refine W.widen (k := 2) (n := 30) (by decide) (by decide) ?_
  refine va_putF (D := (dC, dI)) (ci := 4) (v := .ref q3) (ty := .array .int) (C := R_K) (T := F_K) (N := 5) hx hb hts u_K t_K t_K_ok n_K hown hK hP hD hS 0 rfl rfl 3 (by decide) (hts _ k_24) (fun _ h9 => h9) rfl hin rfl (by decide +kernel) rfl rfl (Nat.le_of_ble_eq_true rfl) d_K_init_17 (fun H locs hP hD hS => ?_)
  have hP : va_P (dC, dI) CL [(h, .inr (4, [.null, .null, .ref q1, .ref q3, .null])), (q3, .inl (c4, 6, .inl ((fun _ => 0))))] H := hP
  have hD : va_D A [(h, .inr (4, [.null, .null, .ref q1, .ref q3, .null])), (q3, .inl (c4, 6, .inl ((fun _ => 0))))] := hD
  have hP := hP.sub (ws' := [(h, .inr (4, [.null, .null, .ref q1, .ref q3, .null]))]) [0] rfl
  have hD := hD.sub (ws' := [(h, .inr (4, [.null, .null, .ref q1, .ref q3, .null]))]) [0] (by decide) rfl
  have hK := hK.sub (tys' := []) [] rfl
  refine lv_aload_n hx hb d_K_init_20 rfl (lv_at hl 0 rfl) ?_
  refine lv_bipush (v := 24) hx hb d_K_init_21 (by decide) ?_
  refine va_newa (D := (dC, dI)) (atype := .int) (ty := .int) (N' := 24) (a0 := (24, .inl (fun _ => 0))) hx hb (hts _ k_4) rfl hK hP hD hS hA (fun _ => rfl) (by decide) (by decide) (by decide) (Nat.le_of_ble_eq_true rfl) (Nat.le_of_ble_eq_true rfl) d_K_init_23 (fun q5 c6 H hK hP hD hS => ?_)
  have hP : va_P (dC, dI) CL [(h, .inr (4, [.null, .null, .ref q1, .ref q3, .null])), (q5, .inl (c6, 24, .inl ((fun _ => 0))))] H := hP
  have hD : va_D A [(h, .inr (4, [.null, .null, .ref q1, .ref q3, .null])), (q5, .inl (c6, 24, .inl ((fun _ => 0))))] := hD
  have hK : va_K (dC, dI) CL [(c6, .int)] s := hK
  refine W.widen (k := 3) (n := 54) (by decide) (by decide) ?_
  refine va_putF (D := (dC, dI)) (ci := 4) (v := .ref q5) (ty := .array .int) (C := R_K) (T := F_K) (N := 5) hx hb hts u_K t_K t_K_ok n_K hown hK hP hD hS 0 rfl rfl 4 (by decide) (hts _ k_25) (fun _ h9 => h9) rfl hin rfl (by decide +kernel) rfl rfl (Nat.le_of_ble_eq_true rfl) d_K_init_25 (fun H locs hP hD hS => ?_)
  have hP : va_P (dC, dI) CL [(h, .inr (4, [.null, .null, .ref q1, .ref q3, .ref q5])), (q5, .inl (c6, 24, .inl ((fun _ => 0))))] H := hP
  have hD : va_D A [(h, .inr (4, [.null, .null, .ref q1, .ref q3, .ref q5])), (q5, .inl (c6, 24, .inl ((fun _ => 0))))] := hD
  have hP := hP.sub (ws' := [(h, .inr (4, [.null, .null, .ref q1, .ref q3, .ref q5]))]) [0] rfl
  have hD := hD.sub (ws' := [(h, .inr (4, [.null, .null, .ref q1, .ref q3, .ref q5]))]) [0] (by decide) rfl
  have hK := hK.sub (tys' := []) [] rfl
  refine lv_aload_n hx hb d_K_init_28 rfl (lv_at hl 0 rfl) ?_
  refine lv_aload_n hx hb d_K_init_29 rfl (lv_at hl 1 rfl) ?_
  refine va_putF (D := (dC, dI)) (ci := 4) (v := .ref g) (ty := .object "VisitGrammar$Grammar") (C := R_K) (T := F_K) (N := 5) hx hb hts u_K t_K t_K_ok n_K hown hK hP hD hS 0 rfl rfl 0 (by decide) (hts _ k_26) (fun _ h9 => h9) rfl hin rfl (by decide +kernel) rfl rfl (Nat.le_of_ble_eq_true rfl) d_K_init_30 (fun H locs hP hD hS => ?_)
  have hP : va_P (dC, dI) CL [(h, .inr (4, [.ref g, .null, .ref q1, .ref q3, .ref q5]))] H := hP
  have hD : va_D A [(h, .inr (4, [.ref g, .null, .ref q1, .ref q3, .ref q5]))] := hD
  refine lv_aload_n hx hb d_K_init_33 rfl (lv_at hl 0 rfl) ?_
  refine lv_aload_n hx hb d_K_init_34 rfl (lv_at hl 2 rfl) ?_
  refine va_putF (D := (dC, dI)) (ci := 4) (v := .ref le) (ty := .object "VisitGrammar$Leads") (C := R_K) (T := F_K) (N := 5) hx hb hts u_K t_K t_K_ok n_K hown hK hP hD hS 0 rfl rfl 1 (by decide) (hts _ k_27) (fun _ h9 => h9) rfl hin rfl (by decide +kernel) rfl rfl (Nat.le_of_ble_eq_true rfl) d_K_init_35 (fun H locs hP hD hS => ?_)
  have hP : va_P (dC, dI) CL [(h, .inr (4, [.ref g, .ref le, .ref q1, .ref q3, .ref q5]))] H := hP
  have hD : va_D A [(h, .inr (4, [.ref g, .ref le, .ref q1, .ref q3, .ref q5]))] := hD
  have hP9 := hP.sub (ws' := []) [] rfl
  have hD9 := hD.sub (ws' := []) [] (by decide) rfl
  have hK9 := hK.sub (tys' := []) [] rfl
  refine W.widen (k := 3) (n := 54) (by decide) (by decide) ?_
  exact W.vret hx hb hr (fun t ht hW => ⟨⟨(), rfl, trivial, by rw [ht]; exact hP9, va_K.moved hW.alike hK9, hD9⟩, hS.F ht⟩) hS.2.2 d_K_init_38

set_option maxHeartbeats 4000000 in
set_option maxRecDepth 100000 in
theorem c_Q_init (l : Launch) (htr : l.stackTraces = false) (dC : Nat → ClassId) (dI : Nat → Nat → Nat) (h : Nat) (g : Nat) (ra : Nat) (sz : Nat) : Met l y_Q_init WS ({ frames := 1, cells := 3, slots := 334, locals := 12 }) (va_Pc [.ref h, .ref g, .ref ra] (vq_Pre (dC, dI) CL sz [(h, .inr (5, [.null, .null, .null, .null, .null, .int 0, .int 0]))] [])) (va_Qv (fun _ : Unit => True) (fun _ t => vq_Post (dC, dI) CL (va_A [(h, .inr (5, [.null, .null, .null, .null, .null, .int 0, .int 0]))] sz) [] [] t) (va_A [(h, .inr (5, [.null, .null, .null, .null, .null, .int 0, .int 0]))] sz)) 3 334 (va_A [(h, .inr (5, [.null, .null, .null, .null, .null, .int 0, .int 0]))] sz) := by
  refine vq_ofW (cc := prog_6_method_1_code) (maxL := 3) (ret := (Option.none : Option Jvm.ClassFile.FieldType)) (by decide) (vq_his k_28) ?_
  intro p e s m args below meth c s₁ B hml hv
  obtain ⟨rfl, hst, hsz, hP, hK, hD0⟩ := hv
  have hx := B.exec
  have hb := B.bytes
  have hr := B.returns
  have hts := atoms_spec (ws := WS) B.pre
  have hown : s.vm.findClass R_Q = some m.cls := findClass_of_methodNamed B.named
  have hlocks := B.notSynchronized
  have hin : meth.name = "<init>" := (name_of_methodNamed B.named B.method).1
  have hno := vq_noH B (hts _ k_28)
  subst hsz
  have hN := vq_ns hP
  have hD := hD0.self (sz := s.heap.size)
  generalize hAe : va_A [(h, .inr (5, [.null, .null, .null, .null, .null, .int 0, .int 0]))] s.heap.size = A at hD hN ⊢
  have hA : ∀ q : Nat, s.heap.size ≤ q → A q := fun q h => by rw [← hAe]; exact Or.inr h
  have hS : va_S A s.heap s.heap [] := va_S.rf
  have hP : va_P (dC, dI) CL [(h, .inr (5, [.null, .null, .null, .null, .null, .int 0, .int 0]))] s.heap := hP
  have hD : va_D A [(h, .inr (5, [.null, .null, .null, .null, .null, .int 0, .int 0]))] := hD
  have hl := lv_entry ([.ref h, .ref g, .ref ra]) (n := 3) (Nat.le_of_ble_eq_true rfl)
  rw [lg_entry_eq]
  generalize (lg_sl ([.ref h, .ref g, .ref ra]) ++ List.replicate (3 - (lg_sl ([.ref h, .ref g, .ref ra])).length) Slot.unset).toArray = ls at hl ⊢
  have hl : lv_has ls 3 [(0, .ref h), (1, .ref g), (2, .ref ra)] := hl
  refine lv_aload_n hx hb d_Q_init_0 rfl (lv_at hl 0 rfl) ?_
  refine W.objInit hx hb hown (hts _ k_29) (hts _ k_2) (hts _ k_3) rfl (by rw [hml]; exact hl.1) rfl d_Q_init_1 (Nat.le_of_ble_eq_true rfl) (Nat.le_of_ble_eq_true rfl) ?_
  refine W.eq (g2 := F0 m 4 ls []) rfl ?_
  refine lv_aload_n hx hb d_Q_init_4 rfl (lv_at hl 0 rfl) ?_
  refine lv_sipush (v := 320) hx hb d_Q_init_5 (by decide) ?_
  refine va_newa (D := (dC, dI)) (atype := .int) (ty := .int) (N' := 320) (a0 := (320, .inl (fun _ => 0))) hx hb (hts _ k_4) rfl hK hP hD hS hA (fun _ => rfl) (by decide) (by decide) (by decide) (Nat.le_of_ble_eq_true rfl) (Nat.le_of_ble_eq_true rfl) d_Q_init_8 (fun q1 c2 H hK hP hD hS => ?_)
  have hP : va_P (dC, dI) CL [(h, .inr (5, [.null, .null, .null, .null, .null, .int 0, .int 0])), (q1, .inl (c2, 320, .inl ((fun _ => 0))))] H := hP
  have hD : va_D A [(h, .inr (5, [.null, .null, .null, .null, .null, .int 0, .int 0])), (q1, .inl (c2, 320, .inl ((fun _ => 0))))] := hD
  have hK : va_K (dC, dI) CL [(c2, .int)] s := hK
  refine W.widen (k := 1) (n := 320) (by decide) (by decide) ?_
  refine va_putF (D := (dC, dI)) (ci := 5) (v := .ref q1) (ty := .array .int) (C := R_Q) (T := F_Q) (N := 7) hx hb hts u_Q t_Q t_Q_ok n_Q hown hK hP hD hS 0 rfl rfl 2 (by decide) (hts _ k_30) (fun _ h9 => h9) rfl hin rfl (by decide +kernel) rfl rfl (Nat.le_of_ble_eq_true rfl) d_Q_init_10 (fun H locs hP hD hS => ?_)
  have hP : va_P (dC, dI) CL [(h, .inr (5, [.null, .null, .ref q1, .null, .null, .int 0, .int 0])), (q1, .inl (c2, 320, .inl ((fun _ => 0))))] H := hP
  have hD : va_D A [(h, .inr (5, [.null, .null, .ref q1, .null, .null, .int 0, .int 0])), (q1, .inl (c2, 320, .inl ((fun _ => 0))))] := hD
  have hP := hP.sub (ws' := [(h, .inr (5, [.null, .null, .ref q1, .null, .null, .int 0, .int 0]))]) [0] rfl
  have hD := hD.sub (ws' := [(h, .inr (5, [.null, .null, .ref q1, .null, .null, .int 0, .int 0]))]) [0] (by decide) rfl
  have hK := hK.sub (tys' := []) [] rfl
  refine lv_aload_n hx hb d_Q_init_13 rfl (lv_at hl 0 rfl) ?_
  refine lv_bipush (v := 10) hx hb d_Q_init_14 (by decide) ?_
  refine va_newa (D := (dC, dI)) (atype := .int) (ty := .int) (N' := 10) (a0 := (10, .inl (fun _ => 0))) hx hb (hts _ k_4) rfl hK hP hD hS hA (fun _ => rfl) (by decide) (by decide) (by decide) (Nat.le_of_ble_eq_true rfl) (Nat.le_of_ble_eq_true rfl) d_Q_init_16 (fun q3 c4 H hK hP hD hS => ?_)
  have hP : va_P (dC, dI) CL [(h, .inr (5, [.null, .null, .ref q1, .null, .null, .int 0, .int 0])), (q3, .inl (c4, 10, .inl ((fun _ => 0))))] H := hP
  have hD : va_D A [(h, .inr (5, [.null, .null, .ref q1, .null, .null, .int 0, .int 0])), (q3, .inl (c4, 10, .inl ((fun _ => 0))))] := hD
  have hK : va_K (dC, dI) CL [(c4, .int)] s := hK
  refine W.widen (k := 2) (n := 330) (by decide) (by decide) ?_
  refine va_putF (D := (dC, dI)) (ci := 5) (v := .ref q3) (ty := .array .int) (C := R_Q) (T := F_Q) (N := 7) hx hb hts u_Q t_Q t_Q_ok n_Q hown hK hP hD hS 0 rfl rfl 3 (by decide) (hts _ k_31) (fun _ h9 => h9) rfl hin rfl (by decide +kernel) rfl rfl (Nat.le_of_ble_eq_true rfl) d_Q_init_18 (fun H locs hP hD hS => ?_)
  have hP : va_P (dC, dI) CL [(h, .inr (5, [.null, .null, .ref q1, .ref q3, .null, .int 0, .int 0])), (q3, .inl (c4, 10, .inl ((fun _ => 0))))] H := hP
  have hD : va_D A [(h, .inr (5, [.null, .null, .ref q1, .ref q3, .null, .int 0, .int 0])), (q3, .inl (c4, 10, .inl ((fun _ => 0))))] := hD
  have hP := hP.sub (ws' := [(h, .inr (5, [.null, .null, .ref q1, .ref q3, .null, .int 0, .int 0]))]) [0] rfl
  have hD := hD.sub (ws' := [(h, .inr (5, [.null, .null, .ref q1, .ref q3, .null, .int 0, .int 0]))]) [0] (by decide) rfl
  have hK := hK.sub (tys' := []) [] rfl
  refine lv_aload_n hx hb d_Q_init_21 rfl (lv_at hl 0 rfl) ?_
  refine lv_iconst (v := 4) hx hb d_Q_init_22 (by decide) ?_
  refine va_newa (D := (dC, dI)) (atype := .int) (ty := .int) (N' := 4) (a0 := (4, .inl (fun _ => 0))) hx hb (hts _ k_4) rfl hK hP hD hS hA (fun _ => rfl) (by decide) (by decide) (by decide) (Nat.le_of_ble_eq_true rfl) (Nat.le_of_ble_eq_true rfl) d_Q_init_23 (fun q5 c6 H hK hP hD hS => ?_)
  have hP : va_P (dC, dI) CL [(h, .inr (5, [.null, .null, .ref q1, .ref q3, .null, .int 0, .int 0])), (q5, .inl (c6, 4, .inl ((fun _ => 0))))] H := hP
  have hD : va_D A [(h, .inr (5, [.null, .null, .ref q1, .ref q3, .null, .int 0, .int 0])), (q5, .inl (c6, 4, .inl ((fun _ => 0))))] := hD
  have hK : va_K (dC, dI) CL [(c6, .int)] s := hK
  refine W.widen (k := 3) (n := 334) (by decide) (by decide) ?_
  refine va_putF (D := (dC, dI)) (ci := 5) (v := .ref q5) (ty := .array .int) (C := R_Q) (T := F_Q) (N := 7) hx hb hts u_Q t_Q t_Q_ok n_Q hown hK hP hD hS 0 rfl rfl 4 (by decide) (hts _ k_32) (fun _ h9 => h9) rfl hin rfl (by decide +kernel) rfl rfl (Nat.le_of_ble_eq_true rfl) d_Q_init_25 (fun H locs hP hD hS => ?_)
  have hP : va_P (dC, dI) CL [(h, .inr (5, [.null, .null, .ref q1, .ref q3, .ref q5, .int 0, .int 0])), (q5, .inl (c6, 4, .inl ((fun _ => 0))))] H := hP
  have hD : va_D A [(h, .inr (5, [.null, .null, .ref q1, .ref q3, .ref q5, .int 0, .int 0])), (q5, .inl (c6, 4, .inl ((fun _ => 0))))] := hD
  have hP := hP.sub (ws' := [(h, .inr (5, [.null, .null, .ref q1, .ref q3, .ref q5, .int 0, .int 0]))]) [0] rfl
  have hD := hD.sub (ws' := [(h, .inr (5, [.null, .null, .ref q1, .ref q3, .ref q5, .int 0, .int 0]))]) [0] (by decide) rfl
  have hK := hK.sub (tys' := []) [] rfl
  refine lv_aload_n hx hb d_Q_init_28 rfl (lv_at hl 0 rfl) ?_
  refine lv_aload_n hx hb d_Q_init_29 rfl (lv_at hl 1 rfl) ?_
  refine va_putF (D := (dC, dI)) (ci := 5) (v := .ref g) (ty := .object "VisitGrammar$Grammar") (C := R_Q) (T := F_Q) (N := 7) hx hb hts u_Q t_Q t_Q_ok n_Q hown hK hP hD hS 0 rfl rfl 0 (by decide) (hts _ k_33) (fun _ h9 => h9) rfl hin rfl (by decide +kernel) rfl rfl (Nat.le_of_ble_eq_true rfl) d_Q_init_30 (fun H locs hP hD hS => ?_)
  have hP : va_P (dC, dI) CL [(h, .inr (5, [.ref g, .null, .ref q1, .ref q3, .ref q5, .int 0, .int 0]))] H := hP
  have hD : va_D A [(h, .inr (5, [.ref g, .null, .ref q1, .ref q3, .ref q5, .int 0, .int 0]))] := hD
  refine lv_aload_n hx hb d_Q_init_33 rfl (lv_at hl 0 rfl) ?_
  refine lv_aload_n hx hb d_Q_init_34 rfl (lv_at hl 2 rfl) ?_
  refine va_putF (D := (dC, dI)) (ci := 5) (v := .ref ra) (ty := .object "VisitGrammar$Ranking") (C := R_Q) (T := F_Q) (N := 7) hx hb hts u_Q t_Q t_Q_ok n_Q hown hK hP hD hS 0 rfl rfl 1 (by decide) (hts _ k_34) (fun _ h9 => h9) rfl hin rfl (by decide +kernel) rfl rfl (Nat.le_of_ble_eq_true rfl) d_Q_init_35 (fun H locs hP hD hS => ?_)
  have hP : va_P (dC, dI) CL [(h, .inr (5, [.ref g, .ref ra, .ref q1, .ref q3, .ref q5, .int 0, .int 0]))] H := hP
  have hD : va_D A [(h, .inr (5, [.ref g, .ref ra, .ref q1, .ref q3, .ref q5, .int 0, .int 0]))] := hD
  have hP9 := hP.sub (ws' := []) [] rfl
  have hD9 := hD.sub (ws' := []) [] (by decide) rfl
  have hK9 := hK.sub (tys' := []) [] rfl
  refine W.widen (k := 3) (n := 334) (by decide) (by decide) ?_
  exact W.vret hx hb hr (fun t ht hW => ⟨⟨(), rfl, trivial, by rw [ht]; exact hP9, va_K.moved hW.alike hK9, hD9⟩, hS.F ht⟩) hS.2.2 d_Q_init_38

set_option maxHeartbeats 4000000 in
set_option maxRecDepth 100000 in
theorem c_A_init (l : Launch) (htr : l.stackTraces = false) (dC : Nat → ClassId) (dI : Nat → Nat → Nat) (h : Nat) (g : Nat) (sz : Nat) : Met l y_A_init WS ({ frames := 2, cells := 11, slots := 587, locals := 34 }) (va_Pc [.ref h, .ref g] (vq_Pre (dC, dI) CL sz [(h, .inr (2, [.null, .null, .null, .null, .int 0, .int 0, .int 0, .int 0]))] [])) (va_Qv (fun _ : Unit => True) (fun _ t => ∃ q1 : Nat, ∃ q3 : Nat, ∃ q5 : Nat, vq_Post (dC, dI) CL (va_A [(h, .inr (2, [.null, .null, .null, .null, .int 0, .int 0, .int 0, .int 0]))] sz) [(h, .inr (2, [.ref g, .ref q1, .ref q3, .ref q5, .int 0, .int 0, .int (-1), .int (-1)]))] [] t) (va_A [(h, .inr (2, [.null, .null, .null, .null, .int 0, .int 0, .int 0, .int 0]))] sz)) 11 587 (va_A [(h, .inr (2, [.null, .null, .null, .null, .int 0, .int 0, .int 0, .int 0]))] sz) := by
  refine vq_ofW (cc := prog_2_method_1_code) (maxL := 2) (ret := (Option.none : Option Jvm.ClassFile.FieldType)) (by decide) (vq_his k_35) ?_
  intro p e s m args below meth c s₁ B hml hv
  obtain ⟨rfl, hst, hsz, hP, hK, hD0⟩ := hv
  have hx := B.exec
  have hb := B.bytes
  have hr := B.returns
  have hts := atoms_spec (ws := WS) B.pre
  have hown : s.vm.findClass R_A = some m.cls := findClass_of_methodNamed B.named
  have hlocks := B.notSynchronized
  have hin : meth.name = "<init>" := (name_of_methodNamed B.named B.method).1
  have hno := vq_noH B (hts _ k_35)
  subst hsz
  have hN := vq_ns hP
  have hD := hD0.self (sz := s.heap.size)
  generalize hAe : va_A [(h, .inr (2, [.null, .null, .null, .null, .int 0, .int 0, .int 0, .int 0]))] s.heap.size = A at hD hN ⊢
  have hA : ∀ q : Nat, s.heap.size ≤ q → A q := fun q h => by rw [← hAe]; exact Or.inr h
  have hS : va_S A s.heap s.heap [] := va_S.rf
  have hP : va_P (dC, dI) CL [(h, .inr (2, [.null, .null, .null, .null, .int 0, .int 0, .int 0, .int 0]))] s.heap := hP
  have hD : va_D A [(h, .inr (2, [.null, .null, .null, .null, .int 0, .int 0, .int 0, .int 0]))] := hD
  have hl := lv_entry ([.ref h, .ref g]) (n := 2) (Nat.le_of_ble_eq_true rfl)
  rw [lg_entry_eq]
  generalize (lg_sl ([.ref h, .ref g]) ++ List.replicate (2 - (lg_sl ([.ref h, .ref g])).length) Slot.unset).toArray = ls at hl ⊢
  have hl : lv_has ls 2 [(0, .ref h), (1, .ref g)] := hl
  refine lv_aload_n hx hb d_A_init_0 rfl (lv_at hl 0 rfl) ?_
  refine W.objInit hx hb hown (hts _ k_36) (hts _ k_2) (hts _ k_3) rfl (by rw [hml]; exact hl.1) rfl d_A_init_1 (Nat.le_of_ble_eq_true rfl) (Nat.le_of_ble_eq_true rfl) ?_
  refine W.eq (g2 := F0 m 4 ls []) rfl ?_
  refine lv_aload_n hx hb d_A_init_4 rfl (lv_at hl 0 rfl) ?_
  refine lv_iconst (v := (-1)) hx hb d_A_init_5 (by decide) ?_
  refine va_put (D := (dC, dI)) (ci := 2) (v := .int (-1)) (ty := .int) (C := R_A) (T := F_A) (N := 8) hx hb hts u_A t_A t_A_ok n_A hown hK hP hD hS 0 rfl rfl 6 (by decide) (hts _ k_37) (fun _ h9 => h9) rfl (by decide +kernel) rfl rfl (Nat.le_of_ble_eq_true rfl) d_A_init_6 (fun H locs hP hD hS => ?_)
  have hP : va_P (dC, dI) CL [(h, .inr (2, [.null, .null, .null, .null, .int 0, .int 0, .int (-1), .int 0]))] H := hP
  have hD : va_D A [(h, .inr (2, [.null, .null, .null, .null, .int 0, .int 0, .int (-1), .int 0]))] := hD
  refine lv_aload_n hx hb d_A_init_9 rfl (lv_at hl 0 rfl) ?_
  refine lv_iconst (v := (-1)) hx hb d_A_init_10 (by decide) ?_
  refine va_put (D := (dC, dI)) (ci := 2) (v := .int (-1)) (ty := .int) (C := R_A) (T := F_A) (N := 8) hx hb hts u_A t_A t_A_ok n_A hown hK hP hD hS 0 rfl rfl 7 (by decide) (hts _ k_38) (fun _ h9 => h9) rfl (by decide +kernel) rfl rfl (Nat.le_of_ble_eq_true rfl) d_A_init_11 (fun H locs hP hD hS => ?_)
  have hP : va_P (dC, dI) CL [(h, .inr (2, [.null, .null, .null, .null, .int 0, .int 0, .int (-1), .int (-1)]))] H := hP
  have hD : va_D A [(h, .inr (2, [.null, .null, .null, .null, .int 0, .int 0, .int (-1), .int (-1)]))] := hD
  refine lv_aload_n hx hb d_A_init_14 rfl (lv_at hl 0 rfl) ?_
  refine lv_aload_n hx hb d_A_init_15 rfl (lv_at hl 1 rfl) ?_
  refine va_putF (D := (dC, dI)) (ci := 2) (v := .ref g) (ty := .object "VisitGrammar$Grammar") (C := R_A) (T := F_A) (N := 8) hx hb hts u_A t_A t_A_ok n_A hown hK hP hD hS 0 rfl rfl 0 (by decide) (hts _ k_39) (fun _ h9 => h9) rfl hin rfl (by decide +kernel) rfl rfl (Nat.le_of_ble_eq_true rfl) d_A_init_16 (fun H locs hP hD hS => ?_)
  have hP : va_P (dC, dI) CL [(h, .inr (2, [.ref g, .null, .null, .null, .int 0, .int 0, .int (-1), .int (-1)]))] H := hP
  have hD : va_D A [(h, .inr (2, [.ref g, .null, .null, .null, .int 0, .int 0, .int (-1), .int (-1)]))] := hD
  refine lv_aload_n hx hb d_A_init_19 rfl (lv_at hl 0 rfl) ?_
  refine va_new (ci := 3) (fs := [.null, .null, .null]) (C := R_E) (T := F_E) (N := 3) hx hb hts u_E t_E t_E_ok hown (hts _ k_40) (hts _ k_41) (hts _ k_42) hK hP hD hS hA rfl z_E (Nat.le_of_ble_eq_true rfl) (Nat.le_of_ble_eq_true rfl) d_A_init_20 (fun q1 H hP hD hS => ?_)
  have hP : va_P (dC, dI) CL [(h, .inr (2, [.ref g, .null, .null, .null, .int 0, .int 0, .int (-1), .int (-1)])), (q1, .inr (3, [.null, .null, .null]))] H := hP
  have hD : va_D A [(h, .inr (2, [.ref g, .null, .null, .null, .int 0, .int 0, .int (-1), .int (-1)])), (q1, .inr (3, [.null, .null, .null]))] := hD
  refine W.widen (k := 1) (n := 3) (by decide) (by decide) ?_
  refine lv_dup hx hb d_A_init_23 rfl ?_
  refine lv_aload_n hx hb d_A_init_24 rfl (lv_at hl 1 rfl) ?_
  have hPc := hP.sub (ws' := [(q1, .inr (3, [.null, .null, .null]))]) [1] rfl
  have hDc := hD.sub (ws' := [(q1, .inr (3, [.null, .null, .null]))]) [1] (by decide) rfl
  have hKc := hK.sub (tys' := []) [] rfl
  have hFc := va_free (wc := [(q1, .inr (3, [.null, .null, .null]))]) hD hS hA [1] rfl
  refine va_callv (va_runI (As := [.ref g]) (rest := [.ref q1, .ref h]) ⟨hx, hb, hml, hown, hts⟩ (c_E_init l htr dC dI q1 g H.size) (vq_cI WSk hts 1 rfl rfl ⟨by decide, by decide⟩ k_16 k_42 k_43 k_44 rfl (by decide +kernel)) ⟨vq_blind, vq_here hst hS hN hPc hKc hDc⟩ rfl rfl hl.1 rfl (lv_room (Nat.le_of_ble_eq_true rfl)) d_A_init_25 ⟨by decide, by decide⟩) hS (fun q _ h => hFc q h) hFc (fun u t H1 locs ht hvm hw hB hz1 hk1 hS => ?_)
  obtain ⟨hP1, hK1, hD1⟩ := hB
  rw [ht] at hP1
  have hK1 := va_K.moved hvm.symm hK1
  obtain ⟨hP, hD⟩ := va_join (wr := [(h, .inr (2, [.ref g, .null, .null, .null, .int 0, .int 0, .int (-1), .int (-1)]))]) (w1 := []) hP hD [1] [0] rfl rfl (by decide) (by decide) hk1 hFc hP1 hD1
  have hK := (hK.sub (tys' := []) [] rfl).app hK1
  generalize H1 = H at hP hS ⊢
  have hP : va_P (dC, dI) CL [(h, .inr (2, [.ref g, .null, .null, .null, .int 0, .int 0, .int (-1), .int (-1)]))] H := hP
  have hD : va_D A [(h, .inr (2, [.ref g, .null, .null, .null, .int 0, .int 0, .int (-1), .int (-1)]))] := hD
  have hK : va_K (dC, dI) CL [] s := hK
  refine W.widen (k := 3) (n := 187) (by decide) (by decide) ?_
  refine va_putF (D := (dC, dI)) (ci := 2) (v := .ref q1) (ty := .object "VisitGrammar$Leads") (C := R_A) (T := F_A) (N := 8) hx hb hts u_A t_A t_A_ok n_A hown hK hP hD hS 0 rfl rfl 1 (by decide) (hts _ k_45) (fun _ h9 => h9) rfl hin rfl (by decide +kernel) rfl rfl (Nat.le_of_ble_eq_true rfl) d_A_init_28 (fun H locs hP hD hS => ?_)
  have hP : va_P (dC, dI) CL [(h, .inr (2, [.ref g, .ref q1, .null, .null, .int 0, .int 0, .int (-1), .int (-1)]))] H := hP
  have hD : va_D A [(h, .inr (2, [.ref g, .ref q1, .null, .null, .int 0, .int 0, .int (-1), .int (-1)]))] := hD
  refine lv_aload_n hx hb d_A_init_31 rfl (lv_at hl 0 rfl) ?_
  refine va_new (ci := 4) (fs := [.null, .null, .null, .null, .null]) (C := R_K) (T := F_K) (N := 5) hx hb hts u_K t_K t_K_ok hown (hts _ k_46) (hts _ k_47) (hts _ k_48) hK hP hD hS hA rfl z_K (Nat.le_of_ble_eq_true rfl) (Nat.le_of_ble_eq_true rfl) d_A_init_32 (fun q3 H hP hD hS => ?_)
  have hP : va_P (dC, dI) CL [(h, .inr (2, [.ref g, .ref q1, .null, .null, .int 0, .int 0, .int (-1), .int (-1)])), (q3, .inr (4, [.null, .null, .null, .null, .null]))] H := hP
  have hD : va_D A [(h, .inr (2, [.ref g, .ref q1, .null, .null, .int 0, .int 0, .int (-1), .int (-1)])), (q3, .inr (4, [.null, .null, .null, .null, .null]))] := hD
  refine W.widen (k := 4) (n := 192) (by decide) (by decide) ?_
  refine lv_dup hx hb d_A_init_35 rfl ?_
  refine lv_aload_n hx hb d_A_init_36 rfl (lv_at hl 1 rfl) ?_
  refine lv_aload_n hx hb d_A_init_37 rfl (lv_at hl 0 rfl) ?_
  refine va_get (D := (dC, dI)) (ci := 2) (v := .ref q1) (C := R_A) (T := F_A) (N := 8) hx hb hts u_A hown hK hP 0 rfl rfl 1 (by decide) (hts _ k_45) (fun _ h9 => h9) rfl d_A_init_38 ?_
  have hPc := hP.sub (ws' := [(q3, .inr (4, [.null, .null, .null, .null, .null]))]) [1] rfl
  have hDc := hD.sub (ws' := [(q3, .inr (4, [.null, .null, .null, .null, .null]))]) [1] (by decide) rfl
  have hKc := hK.sub (tys' := []) [] rfl
  have hFc := va_free (wc := [(q3, .inr (4, [.null, .null, .null, .null, .null]))]) hD hS hA [1] rfl
  refine va_callv (va_runI (As := [.ref g, .ref q1]) (rest := [.ref q3, .ref h]) ⟨hx, hb, hml, hown, hts⟩ (c_K_init l htr dC dI q3 g q1 H.size) (vq_cI WSk hts 2 rfl rfl ⟨by decide, by decide⟩ k_21 k_48 k_49 k_50 rfl (by decide +kernel)) ⟨vq_blind, vq_here hst hS hN hPc hKc hDc⟩ rfl rfl hl.1 rfl (lv_room (Nat.le_of_ble_eq_true rfl)) d_A_init_41 ⟨by decide, by decide⟩) hS (fun q _ h => hFc q h) hFc (fun u t H1 locs ht hvm hw hB hz1 hk1 hS => ?_)
  obtain ⟨hP1, hK1, hD1⟩ := hB
  rw [ht] at hP1
  have hK1 := va_K.moved hvm.symm hK1
  obtain ⟨hP, hD⟩ := va_join (wr := [(h, .inr (2, [.ref g, .ref q1, .null, .null, .int 0, .int 0, .int (-1), .int (-1)]))]) (w1 := []) hP hD [1] [0] rfl rfl (by decide) (by decide) hk1 hFc hP1 hD1
  have hK := (hK.sub (tys' := []) [] rfl).app hK1
  generalize H1 = H at hP hS ⊢
  have hP : va_P (dC, dI) CL [(h, .inr (2, [.ref g, .ref q1, .null, .null, .int 0, .int 0, .int (-1), .int (-1)]))] H := hP
  have hD : va_D A [(h, .inr (2, [.ref g, .ref q1, .null, .null, .int 0, .int 0, .int (-1), .int (-1)]))] := hD
  have hK : va_K (dC, dI) CL [] s := hK
  refine W.widen (k := 7) (n := 246) (by decide) (by decide) ?_
  refine va_putF (D := (dC, dI)) (ci := 2) (v := .ref q3) (ty := .object "VisitGrammar$Ranking") (C := R_A) (T := F_A) (N := 8) hx hb hts u_A t_A t_A_ok n_A hown hK hP hD hS 0 rfl rfl 2 (by decide) (hts _ k_51) (fun _ h9 => h9) rfl hin rfl (by decide +kernel) rfl rfl (Nat.le_of_ble_eq_true rfl) d_A_init_44 (fun H locs hP hD hS => ?_)
  have hP : va_P (dC, dI) CL [(h, .inr (2, [.ref g, .ref q1, .ref q3, .null, .int 0, .int 0, .int (-1), .int (-1)]))] H := hP
  have hD : va_D A [(h, .inr (2, [.ref g, .ref q1, .ref q3, .null, .int 0, .int 0, .int (-1), .int (-1)]))] := hD
  refine lv_aload_n hx hb d_A_init_47 rfl (lv_at hl 0 rfl) ?_
  refine va_new (ci := 5) (fs := [.null, .null, .null, .null, .null, .int 0, .int 0]) (C := R_Q) (T := F_Q) (N := 7) hx hb hts u_Q t_Q t_Q_ok hown (hts _ k_52) (hts _ k_53) (hts _ k_54) hK hP hD hS hA rfl z_Q (Nat.le_of_ble_eq_true rfl) (Nat.le_of_ble_eq_true rfl) d_A_init_48 (fun q5 H hP hD hS => ?_)
  have hP : va_P (dC, dI) CL [(h, .inr (2, [.ref g, .ref q1, .ref q3, .null, .int 0, .int 0, .int (-1), .int (-1)])), (q5, .inr (5, [.null, .null, .null, .null, .null, .int 0, .int 0]))] H := hP
  have hD : va_D A [(h, .inr (2, [.ref g, .ref q1, .ref q3, .null, .int 0, .int 0, .int (-1), .int (-1)])), (q5, .inr (5, [.null, .null, .null, .null, .null, .int 0, .int 0]))] := hD
  refine W.widen (k := 8) (n := 253) (by decide) (by decide) ?_
  refine lv_dup hx hb d_A_init_51 rfl ?_
  refine lv_aload_n hx hb d_A_init_52 rfl (lv_at hl 1 rfl) ?_
  refine lv_aload_n hx hb d_A_init_53 rfl (lv_at hl 0 rfl) ?_
  refine va_get (D := (dC, dI)) (ci := 2) (v := .ref q3) (C := R_A) (T := F_A) (N := 8) hx hb hts u_A hown hK hP 0 rfl rfl 2 (by decide) (hts _ k_51) (fun _ h9 => h9) rfl d_A_init_54 ?_
  have hPc := hP.sub (ws' := [(q5, .inr (5, [.null, .null, .null, .null, .null, .int 0, .int 0]))]) [1] rfl
  have hDc := hD.sub (ws' := [(q5, .inr (5, [.null, .null, .null, .null, .null, .int 0, .int 0]))]) [1] (by decide) rfl
  have hKc := hK.sub (tys' := []) [] rfl
  have hFc := va_free (wc := [(q5, .inr (5, [.null, .null, .null, .null, .null, .int 0, .int 0]))]) hD hS hA [1] rfl
  refine va_callv (va_runI (As := [.ref g, .ref q3]) (rest := [.ref q5, .ref h]) ⟨hx, hb, hml, hown, hts⟩ (c_Q_init l htr dC dI q5 g q3 H.size) (vq_cI WSk hts 2 rfl rfl ⟨by decide, by decide⟩ k_28 k_54 k_55 k_56 rfl (by decide +kernel)) ⟨vq_blind, vq_here hst hS hN hPc hKc hDc⟩ rfl rfl hl.1 rfl (lv_room (Nat.le_of_ble_eq_true rfl)) d_A_init_57 ⟨by decide, by decide⟩) hS (fun q _ h => hFc q h) hFc (fun u t H1 locs ht hvm hw hB hz1 hk1 hS => ?_)
  obtain ⟨hP1, hK1, hD1⟩ := hB
  rw [ht] at hP1
  have hK1 := va_K.moved hvm.symm hK1
  obtain ⟨hP, hD⟩ := va_join (wr := [(h, .inr (2, [.ref g, .ref q1, .ref q3, .null, .int 0, .int 0, .int (-1), .int (-1)]))]) (w1 := []) hP hD [1] [0] rfl rfl (by decide) (by decide) hk1 hFc hP1 hD1
  have hK := (hK.sub (tys' := []) [] rfl).app hK1
  generalize H1 = H at hP hS ⊢
  have hP : va_P (dC, dI) CL [(h, .inr (2, [.ref g, .ref q1, .ref q3, .null, .int 0, .int 0, .int (-1), .int (-1)]))] H := hP
  have hD : va_D A [(h, .inr (2, [.ref g, .ref q1, .ref q3, .null, .int 0, .int 0, .int (-1), .int (-1)]))] := hD
  have hK : va_K (dC, dI) CL [] s := hK
  refine W.widen (k := 11) (n := 587) (by decide) (by decide) ?_
  refine va_putF (D := (dC, dI)) (ci := 2) (v := .ref q5) (ty := .object "VisitGrammar$Sequences") (C := R_A) (T := F_A) (N := 8) hx hb hts u_A t_A t_A_ok n_A hown hK hP hD hS 0 rfl rfl 3 (by decide) (hts _ k_57) (fun _ h9 => h9) rfl hin rfl (by decide +kernel) rfl rfl (Nat.le_of_ble_eq_true rfl) d_A_init_60 (fun H locs hP hD hS => ?_)
  have hP : va_P (dC, dI) CL [(h, .inr (2, [.ref g, .ref q1, .ref q3, .ref q5, .int 0, .int 0, .int (-1), .int (-1)]))] H := hP
  have hD : va_D A [(h, .inr (2, [.ref g, .ref q1, .ref q3, .ref q5, .int 0, .int 0, .int (-1), .int (-1)]))] := hD
  have hP9 := hP.sub (ws' := [(h, .inr (2, [.ref g, .ref q1, .ref q3, .ref q5, .int 0, .int 0, .int (-1), .int (-1)]))]) [0] rfl
  have hD9 := hD.sub (ws' := [(h, .inr (2, [.ref g, .ref q1, .ref q3, .ref q5, .int 0, .int 0, .int (-1), .int (-1)]))]) [0] (by decide) rfl
  have hK9 := hK.sub (tys' := []) [] rfl
  refine W.widen (k := 11) (n := 587) (by decide) (by decide) ?_
  exact W.vret hx hb hr (fun t ht hW => ⟨⟨(), rfl, trivial, q1, q3, q5, by rw [ht]; exact hP9, va_K.moved hW.alike hK9, hD9⟩, hS.F ht⟩) hS.2.2 d_A_init_63

set_option maxHeartbeats 4000000 in
set_option maxRecDepth 100000 in
theorem c_T_init (l : Launch) (htr : l.stackTraces = false) (dC : Nat → ClassId) (dI : Nat → Nat → Nat) (h : Nat) (g : Nat) (sz : Nat) : Met l y_Z_init WS ({ frames := 1, cells := 4, slots := 280, locals := 12 }) (va_Pc [.ref h, .ref g] (vq_Pre (dC, dI) CL sz [(h, .inr (6, [.null, .null, .null, .null, .null, .int 0]))] [])) (va_Qv (fun _ : Unit => True) (fun _ t => ∃ q1 : Nat, ∃ q3 : Nat, ∃ q5 : Nat, ∃ q7 : Nat, vq_Post (dC, dI) CL (va_A [(h, .inr (6, [.null, .null, .null, .null, .null, .int 0]))] sz) [(h, .inr (6, [.ref g, .ref q1, .ref q3, .ref q5, .ref q7, .int 0]))] [] t) (va_A [(h, .inr (6, [.null, .null, .null, .null, .null, .int 0]))] sz)) 4 280 (va_A [(h, .inr (6, [.null, .null, .null, .null, .null, .int 0]))] sz) := by
  refine vq_ofW (cc := prog_7_method_1_code) (maxL := 2) (ret := (Option.none : Option Jvm.ClassFile.FieldType)) (by decide) (vq_his k_58) ?_
  intro p e s m args below meth c s₁ B hml hv
  obtain ⟨rfl, hst, hsz, hP, hK, hD0⟩ := hv
  have hx := B.exec
  have hb := B.bytes
  have hr := B.returns
  have hts := atoms_spec (ws := WS) B.pre
  have hown : s.vm.findClass R_Z = some m.cls := findClass_of_methodNamed B.named
  have hlocks := B.notSynchronized
  have hin : meth.name = "<init>" := (name_of_methodNamed B.named B.method).1
  have hno := vq_noH B (hts _ k_58)
  subst hsz
  have hN := vq_ns hP
  have hD := hD0.self (sz := s.heap.size)
  generalize hAe : va_A [(h, .inr (6, [.null, .null, .null, .null, .null, .int 0]))] s.heap.size = A at hD hN ⊢
  have hA : ∀ q : Nat, s.heap.size ≤ q → A q := fun q h => by rw [← hAe]; exact Or.inr h
  have hS : va_S A s.heap s.heap [] := va_S.rf
  have hP : va_P (dC, dI) CL [(h, .inr (6, [.null, .null, .null, .null, .null, .int 0]))] s.heap := hP
  have hD : va_D A [(h, .inr (6, [.null, .null, .null, .null, .null, .int 0]))] := hD
  have hl := lv_entry ([.ref h, .ref g]) (n := 2) (Nat.le_of_ble_eq_true rfl)
  rw [lg_entry_eq]
  generalize (lg_sl ([.ref h, .ref g]) ++ List.replicate (2 - (lg_sl ([.ref h, .ref g])).length) Slot.unset).toArray = ls at hl ⊢
  have hl : lv_has ls 2 [(0, .ref h), (1, .ref g)] := hl
  refine lv_aload_n hx hb d_Z_init_0 rfl (lv_at hl 0 rfl) ?_
  refine W.objInit hx hb hown (hts _ k_59) (hts _ k_2) (hts _ k_3) rfl (by rw [hml]; exact hl.1) rfl d_Z_init_1 (Nat.le_of_ble_eq_true rfl) (Nat.le_of_ble_eq_true rfl) ?_
  refine W.eq (g2 := F0 m 4 ls []) rfl ?_
  refine lv_aload_n hx hb d_Z_init_4 rfl (lv_at hl 0 rfl) ?_
  refine lv_bipush (v := 40) hx hb d_Z_init_5 (by decide) ?_
  refine va_newa (D := (dC, dI)) (atype := .int) (ty := .int) (N' := 40) (a0 := (40, .inl (fun _ => 0))) hx hb (hts _ k_4) rfl hK hP hD hS hA (fun _ => rfl) (by decide) (by decide) (by decide) (Nat.le_of_ble_eq_true rfl) (Nat.le_of_ble_eq_true rfl) d_Z_init_7 (fun q1 c2 H hK hP hD hS => ?_)
  have hP : va_P (dC, dI) CL [(h, .inr (6, [.null, .null, .null, .null, .null, .int 0])), (q1, .inl (c2, 40, .inl ((fun _ => 0))))] H := hP
  have hD : va_D A [(h, .inr (6, [.null, .null, .null, .null, .null, .int 0])), (q1, .inl (c2, 40, .inl ((fun _ => 0))))] := hD
  have hK : va_K (dC, dI) CL [(c2, .int)] s := hK
  refine W.widen (k := 1) (n := 40) (by decide) (by decide) ?_
  refine va_putF (D := (dC, dI)) (ci := 6) (v := .ref q1) (ty := .array .int) (C := R_Z) (T := F_Z) (N := 6) hx hb hts u_Z t_Z t_Z_ok n_Z hown hK hP hD hS 0 rfl rfl 1 (by decide) (hts _ k_60) (fun _ h9 => h9) rfl hin rfl (by decide +kernel) rfl rfl (Nat.le_of_ble_eq_true rfl) d_Z_init_9 (fun H locs hP hD hS => ?_)
  have hP : va_P (dC, dI) CL [(h, .inr (6, [.null, .ref q1, .null, .null, .null, .int 0])), (q1, .inl (c2, 40, .inl ((fun _ => 0))))] H := hP
  have hD : va_D A [(h, .inr (6, [.null, .ref q1, .null, .null, .null, .int 0])), (q1, .inl (c2, 40, .inl ((fun _ => 0))))] := hD
  have hP := hP.sub (ws' := [(h, .inr (6, [.null, .ref q1, .null, .null, .null, .int 0]))]) [0] rfl
  have hD := hD.sub (ws' := [(h, .inr (6, [.null, .ref q1, .null, .null, .null, .int 0]))]) [0] (by decide) rfl
  have hK := hK.sub (tys' := []) [] rfl
  refine lv_aload_n hx hb d_Z_init_12 rfl (lv_at hl 0 rfl) ?_
  refine lv_bipush (v := 40) hx hb d_Z_init_13 (by decide) ?_
  refine va_newa (D := (dC, dI)) (atype := .int) (ty := .int) (N' := 40) (a0 := (40, .inl (fun _ => 0))) hx hb (hts _ k_4) rfl hK hP hD hS hA (fun _ => rfl) (by decide) (by decide) (by decide) (Nat.le_of_ble_eq_true rfl) (Nat.le_of_ble_eq_true rfl) d_Z_init_15 (fun q3 c4 H hK hP hD hS => ?_)
  have hP : va_P (dC, dI) CL [(h, .inr (6, [.null, .ref q1, .null, .null, .null, .int 0])), (q3, .inl (c4, 40, .inl ((fun _ => 0))))] H := hP
  have hD : va_D A [(h, .inr (6, [.null, .ref q1, .null, .null, .null, .int 0])), (q3, .inl (c4, 40, .inl ((fun _ => 0))))] := hD
  have hK : va_K (dC, dI) CL [(c4, .int)] s := hK
  refine W.widen (k := 2) (n := 80) (by decide) (by decide) ?_
  refine va_putF (D := (dC, dI)) (ci := 6) (v := .ref q3) (ty := .array .int) (C := R_Z) (T := F_Z) (N := 6) hx hb hts u_Z t_Z t_Z_ok n_Z hown hK hP hD hS 0 rfl rfl 2 (by decide) (hts _ k_61) (fun _ h9 => h9) rfl hin rfl (by decide +kernel) rfl rfl (Nat.le_of_ble_eq_true rfl) d_Z_init_17 (fun H locs hP hD hS => ?_)
  have hP : va_P (dC, dI) CL [(h, .inr (6, [.null, .ref q1, .ref q3, .null, .null, .int 0])), (q3, .inl (c4, 40, .inl ((fun _ => 0))))] H := hP
  have hD : va_D A [(h, .inr (6, [.null, .ref q1, .ref q3, .null, .null, .int 0])), (q3, .inl (c4, 40, .inl ((fun _ => 0))))] := hD
  have hP := hP.sub (ws' := [(h, .inr (6, [.null, .ref q1, .ref q3, .null, .null, .int 0]))]) [0] rfl
  have hD := hD.sub (ws' := [(h, .inr (6, [.null, .ref q1, .ref q3, .null, .null, .int 0]))]) [0] (by decide) rfl
  have hK := hK.sub (tys' := []) [] rfl
  refine lv_aload_n hx hb d_Z_init_20 rfl (lv_at hl 0 rfl) ?_
  refine lv_bipush (v := 40) hx hb d_Z_init_21 (by decide) ?_
  refine va_newa (D := (dC, dI)) (atype := .int) (ty := .int) (N' := 40) (a0 := (40, .inl (fun _ => 0))) hx hb (hts _ k_4) rfl hK hP hD hS hA (fun _ => rfl) (by decide) (by decide) (by decide) (Nat.le_of_ble_eq_true rfl) (Nat.le_of_ble_eq_true rfl) d_Z_init_23 (fun q5 c6 H hK hP hD hS => ?_)
  have hP : va_P (dC, dI) CL [(h, .inr (6, [.null, .ref q1, .ref q3, .null, .null, .int 0])), (q5, .inl (c6, 40, .inl ((fun _ => 0))))] H := hP
  have hD : va_D A [(h, .inr (6, [.null, .ref q1, .ref q3, .null, .null, .int 0])), (q5, .inl (c6, 40, .inl ((fun _ => 0))))] := hD
  have hK : va_K (dC, dI) CL [(c6, .int)] s := hK
  refine W.widen (k := 3) (n := 120) (by decide) (by decide) ?_
  refine va_putF (D := (dC, dI)) (ci := 6) (v := .ref q5) (ty := .array .int) (C := R_Z) (T := F_Z) (N := 6) hx hb hts u_Z t_Z t_Z_ok n_Z hown hK hP hD hS 0 rfl rfl 3 (by decide) (hts _ k_62) (fun _ h9 => h9) rfl hin rfl (by decide +kernel) rfl rfl (Nat.le_of_ble_eq_true rfl) d_Z_init_25 (fun H locs hP hD hS => ?_)
  have hP : va_P (dC, dI) CL [(h, .inr (6, [.null, .ref q1, .ref q3, .ref q5, .null, .int 0])), (q5, .inl (c6, 40, .inl ((fun _ => 0))))] H := hP
  have hD : va_D A [(h, .inr (6, [.null, .ref q1, .ref q3, .ref q5, .null, .int 0])), (q5, .inl (c6, 40, .inl ((fun _ => 0))))] := hD
  have hP := hP.sub (ws' := [(h, .inr (6, [.null, .ref q1, .ref q3, .ref q5, .null, .int 0]))]) [0] rfl
  have hD := hD.sub (ws' := [(h, .inr (6, [.null, .ref q1, .ref q3, .ref q5, .null, .int 0]))]) [0] (by decide) rfl
  have hK := hK.sub (tys' := []) [] rfl
  refine lv_aload_n hx hb d_Z_init_28 rfl (lv_at hl 0 rfl) ?_
  refine lv_sipush (v := 160) hx hb d_Z_init_29 (by decide) ?_
  refine va_newa (D := (dC, dI)) (atype := .int) (ty := .int) (N' := 160) (a0 := (160, .inl (fun _ => 0))) hx hb (hts _ k_4) rfl hK hP hD hS hA (fun _ => rfl) (by decide) (by decide) (by decide) (Nat.le_of_ble_eq_true rfl) (Nat.le_of_ble_eq_true rfl) d_Z_init_32 (fun q7 c8 H hK hP hD hS => ?_)
  have hP : va_P (dC, dI) CL [(h, .inr (6, [.null, .ref q1, .ref q3, .ref q5, .null, .int 0])), (q7, .inl (c8, 160, .inl ((fun _ => 0))))] H := hP
  have hD : va_D A [(h, .inr (6, [.null, .ref q1, .ref q3, .ref q5, .null, .int 0])), (q7, .inl (c8, 160, .inl ((fun _ => 0))))] := hD
  have hK : va_K (dC, dI) CL [(c8, .int)] s := hK
  refine W.widen (k := 4) (n := 280) (by decide) (by decide) ?_
  refine va_putF (D := (dC, dI)) (ci := 6) (v := .ref q7) (ty := .array .int) (C := R_Z) (T := F_Z) (N := 6) hx hb hts u_Z t_Z t_Z_ok n_Z hown hK hP hD hS 0 rfl rfl 4 (by decide) (hts _ k_63) (fun _ h9 => h9) rfl hin rfl (by decide +kernel) rfl rfl (Nat.le_of_ble_eq_true rfl) d_Z_init_34 (fun H locs hP hD hS => ?_)
  have hP : va_P (dC, dI) CL [(h, .inr (6, [.null, .ref q1, .ref q3, .ref q5, .ref q7, .int 0])), (q7, .inl (c8, 160, .inl ((fun _ => 0))))] H := hP
  have hD : va_D A [(h, .inr (6, [.null, .ref q1, .ref q3, .ref q5, .ref q7, .int 0])), (q7, .inl (c8, 160, .inl ((fun _ => 0))))] := hD
  have hP := hP.sub (ws' := [(h, .inr (6, [.null, .ref q1, .ref q3, .ref q5, .ref q7, .int 0]))]) [0] rfl
  have hD := hD.sub (ws' := [(h, .inr (6, [.null, .ref q1, .ref q3, .ref q5, .ref q7, .int 0]))]) [0] (by decide) rfl
  have hK := hK.sub (tys' := []) [] rfl
  refine lv_aload_n hx hb d_Z_init_37 rfl (lv_at hl 0 rfl) ?_
  refine lv_aload_n hx hb d_Z_init_38 rfl (lv_at hl 1 rfl) ?_
  refine va_putF (D := (dC, dI)) (ci := 6) (v := .ref g) (ty := .object "VisitGrammar$Grammar") (C := R_Z) (T := F_Z) (N := 6) hx hb hts u_Z t_Z t_Z_ok n_Z hown hK hP hD hS 0 rfl rfl 0 (by decide) (hts _ k_64) (fun _ h9 => h9) rfl hin rfl (by decide +kernel) rfl rfl (Nat.le_of_ble_eq_true rfl) d_Z_init_39 (fun H locs hP hD hS => ?_)
  have hP : va_P (dC, dI) CL [(h, .inr (6, [.ref g, .ref q1, .ref q3, .ref q5, .ref q7, .int 0]))] H := hP
  have hD : va_D A [(h, .inr (6, [.ref g, .ref q1, .ref q3, .ref q5, .ref q7, .int 0]))] := hD
  have hP9 := hP.sub (ws' := [(h, .inr (6, [.ref g, .ref q1, .ref q3, .ref q5, .ref q7, .int 0]))]) [0] rfl
  have hD9 := hD.sub (ws' := [(h, .inr (6, [.ref g, .ref q1, .ref q3, .ref q5, .ref q7, .int 0]))]) [0] (by decide) rfl
  have hK9 := hK.sub (tys' := []) [] rfl
  refine W.widen (k := 4) (n := 280) (by decide) (by decide) ?_
  exact W.vret hx hb hr (fun t ht hW => ⟨⟨(), rfl, trivial, q1, q3, q5, q7, by rw [ht]; exact hP9, va_K.moved hW.alike hK9, hD9⟩, hS.F ht⟩) hS.2.2 d_Z_init_42

set_option maxHeartbeats 4000000 in
set_option maxRecDepth 100000 in
theorem c_U_init (l : Launch) (htr : l.stackTraces = false) (dC : Nat → ClassId) (dI : Nat → Nat → Nat) (h : Nat) (g : Nat) (sq : Nat) (tr : Nat) (sz : Nat) : Met l y_U_init WS ({ frames := 1, cells := 4, slots := 244, locals := 12 }) (va_Pc [.ref h, .ref g, .ref sq, .ref tr] (vq_Pre (dC, dI) CL sz [(h, .inr (7, [.null, .null, .null, .null, .null, .null, .null, .int 0, .int 0, .int 0]))] [])) (va_Qv (fun _ : Unit => True) (fun _ t => ∃ q1 : Nat, ∃ q3 : Nat, ∃ q5 : Nat, ∃ q7 : Nat, ∃ c2 : ClassId, vq_Post (dC, dI) CL (va_A [(h, .inr (7, [.null, .null, .null, .null, .null, .null, .null, .int 0, .int 0, .int 0]))] sz) [(h, .inr (7, [.ref g, .ref sq, .ref tr, .ref q1, .ref q3, .ref q5, .ref q7, .int 0, .int 0, .int 0])), (q1, .inl (c2, 4, .inl ((fun _ => 0))))] [(c2, .int)] t) (va_A [(h, .inr (7, [.null, .null, .null, .null, .null, .null, .null, .int 0, .int 0, .int 0]))] sz)) 4 244 (va_A [(h, .inr (7, [.null, .null, .null, .null, .null, .null, .null, .int 0, .int 0, .int 0]))] sz) := by
  refine vq_ofW (cc := prog_8_method_1_code) (maxL := 4) (ret := (Option.none : Option Jvm.ClassFile.FieldType)) (by decide) (vq_his k_65) ?_
  intro p e s m args below meth c s₁ B hml hv
  obtain ⟨rfl, hst, hsz, hP, hK, hD0⟩ := hv
  have hx := B.exec
  have hb := B.bytes
  have hr := B.returns
  have hts := atoms_spec (ws := WS) B.pre
  have hown : s.vm.findClass R_U = some m.cls := findClass_of_methodNamed B.named
  have hlocks := B.notSynchronized
  have hin : meth.name = "<init>" := (name_of_methodNamed B.named B.method).1
  have hno := vq_noH B (hts _ k_65)
  subst hsz
  have hN := vq_ns hP
  have hD := hD0.self (sz := s.heap.size)
  generalize hAe : va_A [(h, .inr (7, [.null, .null, .null, .null, .null, .null, .null, .int 0, .int 0, .int 0]))] s.heap.size = A at hD hN ⊢
  have hA : ∀ q : Nat, s.heap.size ≤ q → A q := fun q h => by rw [← hAe]; exact Or.inr h
  have hS : va_S A s.heap s.heap [] := va_S.rf
  have hP : va_P (dC, dI) CL [(h, .inr (7, [.null, .null, .null, .null, .null, .null, .null, .int 0, .int 0, .int 0]))] s.heap := hP
  have hD : va_D A [(h, .inr (7, [.null, .null, .null, .null, .null, .null, .null, .int 0, .int 0, .int 0]))] := hD
  have hl := lv_entry ([.ref h, .ref g, .ref sq, .ref tr]) (n := 4) (Nat.le_of_ble_eq_true rfl)
  rw [lg_entry_eq]
  generalize (lg_sl ([.ref h, .ref g, .ref sq, .ref tr]) ++ List.replicate (4 - (lg_sl ([.ref h, .ref g, .ref sq, .ref tr])).length) Slot.unset).toArray = ls at hl ⊢
  have hl : lv_has ls 4 [(0, .ref h), (1, .ref g), (2, .ref sq), (3, .ref tr)] := hl
  refine lv_aload_n hx hb d_U_init_0 rfl (lv_at hl 0 rfl) ?_
  refine W.objInit hx hb hown (hts _ k_66) (hts _ k_2) (hts _ k_3) rfl (by rw [hml]; exact hl.1) rfl d_U_init_1 (Nat.le_of_ble_eq_true rfl) (Nat.le_of_ble_eq_true rfl) ?_
  refine W.eq (g2 := F0 m 4 ls []) rfl ?_
  refine lv_aload_n hx hb d_U_init_4 rfl (lv_at hl 0 rfl) ?_
  refine lv_iconst (v := 4) hx hb d_U_init_5 (by decide) ?_
  refine va_newa (D := (dC, dI)) (atype := .int) (ty := .int) (N' := 4) (a0 := (4, .inl (fun _ => 0))) hx hb (hts _ k_4) rfl hK hP hD hS hA (fun _ => rfl) (by decide) (by decide) (by decide) (Nat.le_of_ble_eq_true rfl) (Nat.le_of_ble_eq_true rfl) d_U_init_6 (fun q1 c2 H hK hP hD hS => ?_)
  have hP : va_P (dC, dI) CL [(h, .inr (7, [.null, .null, .null, .null, .null, .null, .null, .int 0, .int 0, .int 0])), (q1, .inl (c2, 4, .inl ((fun _ => 0))))] H := hP
  have hD : va_D A [(h, .inr (7, [.null, .null, .null, .null, .null, .null, .null, .int 0, .int 0, .int 0])), (q1, .inl (c2, 4, .inl ((fun _ => 0))))] := hD
  have hK : va_K (dC, dI) CL [(c2, .int)] s := hK
  refine W.widen (k := 1) (n := 4) (by decide) (by decide) ?_
  refine va_putF (D := (dC, dI)) (ci := 7) (v := .ref q1) (ty := .array .int) (C := R_U) (T := F_U) (N := 10) hx hb hts u_U t_U t_U_ok n_U hown hK hP hD hS 0 rfl rfl 3 (by decide) (hts _ k_67) (fun _ h9 => h9) rfl hin rfl (by decide +kernel) rfl rfl (Nat.le_of_ble_eq_true rfl) d_U_init_8 (fun H locs hP hD hS => ?_)
  have hP : va_P (dC, dI) CL [(h, .inr (7, [.null, .null, .null, .ref q1, .null, .null, .null, .int 0, .int 0, .int 0])), (q1, .inl (c2, 4, .inl ((fun _ => 0))))] H := hP
  have hD : va_D A [(h, .inr (7, [.null, .null, .null, .ref q1, .null, .null, .null, .int 0, .int 0, .int 0])), (q1, .inl (c2, 4, .inl ((fun _ => 0))))] := hD
  refine lv_aload_n hx hb d_U_init_11 rfl (lv_at hl 0 rfl) ?_
  refine lv_sipush (v := 160) hx hb d_U_init_12 (by decide) ?_
  refine va_newa (D := (dC, dI)) (atype := .int) (ty := .int) (N' := 160) (a0 := (160, .inl (fun _ => 0))) hx hb (hts _ k_4) rfl hK hP hD hS hA (fun _ => rfl) (by decide) (by decide) (by decide) (Nat.le_of_ble_eq_true rfl) (Nat.le_of_ble_eq_true rfl) d_U_init_15 (fun q3 c4 H hK hP hD hS => ?_)
  have hP : va_P (dC, dI) CL [(h, .inr (7, [.null, .null, .null, .ref q1, .null, .null, .null, .int 0, .int 0, .int 0])), (q1, .inl (c2, 4, .inl ((fun _ => 0)))), (q3, .inl (c4, 160, .inl ((fun _ => 0))))] H := hP
  have hD : va_D A [(h, .inr (7, [.null, .null, .null, .ref q1, .null, .null, .null, .int 0, .int 0, .int 0])), (q1, .inl (c2, 4, .inl ((fun _ => 0)))), (q3, .inl (c4, 160, .inl ((fun _ => 0))))] := hD
  have hK : va_K (dC, dI) CL [(c2, .int), (c4, .int)] s := hK
  refine W.widen (k := 2) (n := 164) (by decide) (by decide) ?_
  refine va_putF (D := (dC, dI)) (ci := 7) (v := .ref q3) (ty := .array .int) (C := R_U) (T := F_U) (N := 10) hx hb hts u_U t_U t_U_ok n_U hown hK hP hD hS 0 rfl rfl 4 (by decide) (hts _ k_68) (fun _ h9 => h9) rfl hin rfl (by decide +kernel) rfl rfl (Nat.le_of_ble_eq_true rfl) d_U_init_17 (fun H locs hP hD hS => ?_)
  have hP : va_P (dC, dI) CL [(h, .inr (7, [.null, .null, .null, .ref q1, .ref q3, .null, .null, .int 0, .int 0, .int 0])), (q1, .inl (c2, 4, .inl ((fun _ => 0)))), (q3, .inl (c4, 160, .inl ((fun _ => 0))))] H := hP
  have hD : va_D A [(h, .inr (7, [.null, .null, .null, .ref q1, .ref q3, .null, .null, .int 0, .int 0, .int 0])), (q1, .inl (c2, 4, .inl ((fun _ => 0)))), (q3, .inl (c4, 160, .inl ((fun _ => 0))))] := hD
  have hP := hP.sub (ws' := [(h, .inr (7, [.null, .null, .null, .ref q1, .ref q3, .null, .null, .int 0, .int 0, .int 0])), (q1, .inl (c2, 4, .inl ((fun _ => 0))))]) [0, 1] rfl
  have hD := hD.sub (ws' := [(h, .inr (7, [.null, .null, .null, .ref q1, .ref q3, .null, .null, .int 0, .int 0, .int 0])), (q1, .inl (c2, 4, .inl ((fun _ => 0))))]) [0, 1] (by decide) rfl
  have hK := hK.sub (tys' := [(c2, .int)]) [0] rfl
  refine lv_aload_n hx hb d_U_init_20 rfl (lv_at hl 0 rfl) ?_
  refine lv_bipush (v := 40) hx hb d_U_init_21 (by decide) ?_
  refine va_newa (D := (dC, dI)) (atype := .int) (ty := .int) (N' := 40) (a0 := (40, .inl (fun _ => 0))) hx hb (hts _ k_4) rfl hK hP hD hS hA (fun _ => rfl) (by decide) (by decide) (by decide) (Nat.le_of_ble_eq_true rfl) (Nat.le_of_ble_eq_true rfl) d_U_init_23 (fun q5 c6 H hK hP hD hS => ?_)
  have hP : va_P (dC, dI) CL [(h, .inr (7, [.null, .null, .null, .ref q1, .ref q3, .null, .null, .int 0, .int 0, .int 0])), (q1, .inl (c2, 4, .inl ((fun _ => 0)))), (q5, .inl (c6, 40, .inl ((fun _ => 0))))] H := hP
  have hD : va_D A [(h, .inr (7, [.null, .null, .null, .ref q1, .ref q3, .null, .null, .int 0, .int 0, .int 0])), (q1, .inl (c2, 4, .inl ((fun _ => 0)))), (q5, .inl (c6, 40, .inl ((fun _ => 0))))] := hD
  have hK : va_K (dC, dI) CL [(c2, .int), (c6, .int)] s := hK
  refine W.widen (k := 3) (n := 204) (by decide) (by decide) ?_
  refine va_putF (D := (dC, dI)) (ci := 7) (v := .ref q5) (ty := .array .int) (C := R_U) (T := F_U) (N := 10) hx hb hts u_U t_U t_U_ok n_U hown hK hP hD hS 0 rfl rfl 5 (by decide) (hts _ k_69) (fun _ h9 => h9) rfl hin rfl (by decide +kernel) rfl rfl (Nat.le_of_ble_eq_true rfl) d_U_init_25 (fun H locs hP hD hS => ?_)
  have hP : va_P (dC, dI) CL [(h, .inr (7, [.null, .null, .null, .ref q1, .ref q3, .ref q5, .null, .int 0, .int 0, .int 0])), (q1, .inl (c2, 4, .inl ((fun _ => 0)))), (q5, .inl (c6, 40, .inl ((fun _ => 0))))] H := hP
  have hD : va_D A [(h, .inr (7, [.null, .null, .null, .ref q1, .ref q3, .ref q5, .null, .int 0, .int 0, .int 0])), (q1, .inl (c2, 4, .inl ((fun _ => 0)))), (q5, .inl (c6, 40, .inl ((fun _ => 0))))] := hD
  have hP := hP.sub (ws' := [(h, .inr (7, [.null, .null, .null, .ref q1, .ref q3, .ref q5, .null, .int 0, .int 0, .int 0])), (q1, .inl (c2, 4, .inl ((fun _ => 0))))]) [0, 1] rfl
  have hD := hD.sub (ws' := [(h, .inr (7, [.null, .null, .null, .ref q1, .ref q3, .ref q5, .null, .int 0, .int 0, .int 0])), (q1, .inl (c2, 4, .inl ((fun _ => 0))))]) [0, 1] (by decide) rfl
  have hK := hK.sub (tys' := [(c2, .int)]) [0] rfl
  refine lv_aload_n hx hb d_U_init_28 rfl (lv_at hl 0 rfl) ?_
  refine lv_bipush (v := 40) hx hb d_U_init_29 (by decide) ?_
  refine va_newa (D := (dC, dI)) (atype := .int) (ty := .int) (N' := 40) (a0 := (40, .inl (fun _ => 0))) hx hb (hts _ k_4) rfl hK hP hD hS hA (fun _ => rfl) (by decide) (by decide) (by decide) (Nat.le_of_ble_eq_true rfl) (Nat.le_of_ble_eq_true rfl) d_U_init_31 (fun q7 c8 H hK hP hD hS => ?_)
  have hP : va_P (dC, dI) CL [(h, .inr (7, [.null, .null, .null, .ref q1, .ref q3, .ref q5, .null, .int 0, .int 0, .int 0])), (q1, .inl (c2, 4, .inl ((fun _ => 0)))), (q7, .inl (c8, 40, .inl ((fun _ => 0))))] H := hP
  have hD : va_D A [(h, .inr (7, [.null, .null, .null, .ref q1, .ref q3, .ref q5, .null, .int 0, .int 0, .int 0])), (q1, .inl (c2, 4, .inl ((fun _ => 0)))), (q7, .inl (c8, 40, .inl ((fun _ => 0))))] := hD
  have hK : va_K (dC, dI) CL [(c2, .int), (c8, .int)] s := hK
  refine W.widen (k := 4) (n := 244) (by decide) (by decide) ?_
  refine va_putF (D := (dC, dI)) (ci := 7) (v := .ref q7) (ty := .array .int) (C := R_U) (T := F_U) (N := 10) hx hb hts u_U t_U t_U_ok n_U hown hK hP hD hS 0 rfl rfl 6 (by decide) (hts _ k_70) (fun _ h9 => h9) rfl hin rfl (by decide +kernel) rfl rfl (Nat.le_of_ble_eq_true rfl) d_U_init_33 (fun H locs hP hD hS => ?_)
  have hP : va_P (dC, dI) CL [(h, .inr (7, [.null, .null, .null, .ref q1, .ref q3, .ref q5, .ref q7, .int 0, .int 0, .int 0])), (q1, .inl (c2, 4, .inl ((fun _ => 0)))), (q7, .inl (c8, 40, .inl ((fun _ => 0))))] H := hP
  have hD : va_D A [(h, .inr (7, [.null, .null, .null, .ref q1, .ref q3, .ref q5, .ref q7, .int 0, .int 0, .int 0])), (q1, .inl (c2, 4, .inl ((fun _ => 0)))), (q7, .inl (c8, 40, .inl ((fun _ => 0))))] := hD
  have hP := hP.sub (ws' := [(h, .inr (7, [.null, .null, .null, .ref q1, .ref q3, .ref q5, .ref q7, .int 0, .int 0, .int 0])), (q1, .inl (c2, 4, .inl ((fun _ => 0))))]) [0, 1] rfl
  have hD := hD.sub (ws' := [(h, .inr (7, [.null, .null, .null, .ref q1, .ref q3, .ref q5, .ref q7, .int 0, .int 0, .int 0])), (q1, .inl (c2, 4, .inl ((fun _ => 0))))]) [0, 1] (by decide) rfl
  have hK := hK.sub (tys' := [(c2, .int)]) [0] rfl
  refine lv_aload_n hx hb d_U_init_36 rfl (lv_at hl 0 rfl) ?_
  refine lv_aload_n hx hb d_U_init_37 rfl (lv_at hl 1 rfl) ?_
  refine va_putF (D := (dC, dI)) (ci := 7) (v := .ref g) (ty := .object "VisitGrammar$Grammar") (C := R_U) (T := F_U) (N := 10) hx hb hts u_U t_U t_U_ok n_U hown hK hP hD hS 0 rfl rfl 0 (by decide) (hts _ k_71) (fun _ h9 => h9) rfl hin rfl (by decide +kernel) rfl rfl (Nat.le_of_ble_eq_true rfl) d_U_init_38 (fun H locs hP hD hS => ?_)
  have hP : va_P (dC, dI) CL [(h, .inr (7, [.ref g, .null, .null, .ref q1, .ref q3, .ref q5, .ref q7, .int 0, .int 0, .int 0])), (q1, .inl (c2, 4, .inl ((fun _ => 0))))] H := hP
  have hD : va_D A [(h, .inr (7, [.ref g, .null, .null, .ref q1, .ref q3, .ref q5, .ref q7, .int 0, .int 0, .int 0])), (q1, .inl (c2, 4, .inl ((fun _ => 0))))] := hD
  refine lv_aload_n hx hb d_U_init_41 rfl (lv_at hl 0 rfl) ?_
  refine lv_aload_n hx hb d_U_init_42 rfl (lv_at hl 2 rfl) ?_
  refine va_putF (D := (dC, dI)) (ci := 7) (v := .ref sq) (ty := .object "VisitGrammar$Sequences") (C := R_U) (T := F_U) (N := 10) hx hb hts u_U t_U t_U_ok n_U hown hK hP hD hS 0 rfl rfl 1 (by decide) (hts _ k_72) (fun _ h9 => h9) rfl hin rfl (by decide +kernel) rfl rfl (Nat.le_of_ble_eq_true rfl) d_U_init_43 (fun H locs hP hD hS => ?_)
  have hP : va_P (dC, dI) CL [(h, .inr (7, [.ref g, .ref sq, .null, .ref q1, .ref q3, .ref q5, .ref q7, .int 0, .int 0, .int 0])), (q1, .inl (c2, 4, .inl ((fun _ => 0))))] H := hP
  have hD : va_D A [(h, .inr (7, [.ref g, .ref sq, .null, .ref q1, .ref q3, .ref q5, .ref q7, .int 0, .int 0, .int 0])), (q1, .inl (c2, 4, .inl ((fun _ => 0))))] := hD
  refine lv_aload_n hx hb d_U_init_46 rfl (lv_at hl 0 rfl) ?_
  refine lv_aload_n hx hb d_U_init_47 rfl (lv_at hl 3 rfl) ?_
  refine va_putF (D := (dC, dI)) (ci := 7) (v := .ref tr) (ty := .object "VisitGrammar$Tree") (C := R_U) (T := F_U) (N := 10) hx hb hts u_U t_U t_U_ok n_U hown hK hP hD hS 0 rfl rfl 2 (by decide) (hts _ k_73) (fun _ h9 => h9) rfl hin rfl (by decide +kernel) rfl rfl (Nat.le_of_ble_eq_true rfl) d_U_init_48 (fun H locs hP hD hS => ?_)
  have hP : va_P (dC, dI) CL [(h, .inr (7, [.ref g, .ref sq, .ref tr, .ref q1, .ref q3, .ref q5, .ref q7, .int 0, .int 0, .int 0])), (q1, .inl (c2, 4, .inl ((fun _ => 0))))] H := hP
  have hD : va_D A [(h, .inr (7, [.ref g, .ref sq, .ref tr, .ref q1, .ref q3, .ref q5, .ref q7, .int 0, .int 0, .int 0])), (q1, .inl (c2, 4, .inl ((fun _ => 0))))] := hD
  have hP9 := hP.sub (ws' := [(h, .inr (7, [.ref g, .ref sq, .ref tr, .ref q1, .ref q3, .ref q5, .ref q7, .int 0, .int 0, .int 0])), (q1, .inl (c2, 4, .inl ((fun _ => 0))))]) [0, 1] rfl
  have hD9 := hD.sub (ws' := [(h, .inr (7, [.ref g, .ref sq, .ref tr, .ref q1, .ref q3, .ref q5, .ref q7, .int 0, .int 0, .int 0])), (q1, .inl (c2, 4, .inl ((fun _ => 0))))]) [0, 1] (by decide) rfl
  have hK9 := hK.sub (tys' := [(c2, .int)]) [0] rfl
  refine W.widen (k := 4) (n := 244) (by decide) (by decide) ?_
  exact W.vret hx hb hr (fun t ht hW => ⟨⟨(), rfl, trivial, q1, q3, q5, q7, c2, by rw [ht]; exact hP9, va_K.moved hW.alike hK9, hD9⟩, hS.F ht⟩) hS.2.2 d_U_init_51

set_option maxHeartbeats 4000000 in
set_option maxRecDepth 100000 in
theorem c_V_init (l : Launch) (htr : l.stackTraces = false) (dC : Nat → ClassId) (dI : Nat → Nat → Nat) (h : Nat) (sz : Nat) : Met l y_V_init WS ({ frames := 3, cells := 34, slots := 1880, locals := 55 }) (va_Pc [.ref h] (vq_Pre (dC, dI) CL sz [(h, .inr (0, [.null, .null, .null, .null]))] [])) (va_Qv (fun _ : Unit => True) (fun _ t => ∃ q1 : Nat, ∃ q16 : Nat, ∃ q21 : Nat, ∃ q27 : Nat, ∃ q2 : Nat, ∃ q3 : Nat, ∃ q4 : Nat, ∃ q5 : Nat, ∃ q6 : Nat, ∃ q7 : Nat, ∃ q8 : Nat, ∃ q9 : Nat, ∃ q10 : Nat, ∃ q11 : Nat, ∃ q12 : Nat, ∃ c13 : ClassId, ∃ c14 : ClassId, ∃ q17 : Nat, ∃ q18 : Nat, ∃ q19 : Nat, ∃ q22 : Nat, ∃ q23 : Nat, ∃ q24 : Nat, ∃ q25 : Nat, ∃ q28 : Nat, ∃ q29 : Nat, ∃ q30 : Nat, ∃ q31 : Nat, ∃ c32 : ClassId, vq_Post (dC, dI) CL (va_A [(h, .inr (0, [.null, .null, .null, .null]))] sz) [(h, .inr (0, [.ref q1, .ref q16, .ref q21, .ref q27])), (q1, .inr (1, [.ref q2, .ref q3, .int 0, .ref q4, .ref q5, .ref q6, .ref q7, .int 0, .ref q8, .ref q9, .ref q10, .ref q11, .ref q12])), (q2, .inl (c13, 6, .inl ((fun _ => 0)))), (q3, .inl (c14, 6, .inl ((fun _ => 0)))), (q16, .inr (2, [.ref q1, .ref q17, .ref q18, .ref q19, .int 0, .int 0, .int (-1), .int (-1)])), (q21, .inr (6, [.ref q1, .ref q22, .ref q23, .ref q24, .ref q25, .int 0])), (q27, .inr (7, [.ref q1, .ref q19, .ref q21, .ref q28, .ref q29, .ref q30, .ref q31, .int 0, .int 0, .int 0])), (q28, .inl (c32, 4, .inl ((fun _ => 0))))] [(c13, .int), (c14, .int), (c32, .int)] t) (va_A [(h, .inr (0, [.null, .null, .null, .null]))] sz)) 34 1880 (va_A [(h, .inr (0, [.null, .null, .null, .null]))] sz) := by
  refine vq_ofW (cc := prog_1_method_1_code) (maxL := 1) (ret := (Option.none : Option Jvm.ClassFile.FieldType)) (by decide) (vq_his k_74) ?_
  intro p e s m args below meth c s₁ B hml hv
  obtain ⟨rfl, hst, hsz, hP, hK, hD0⟩ := hv
  have hx := B.exec
  have hb := B.bytes
  have hr := B.returns
  have hts := atoms_spec (ws := WS) B.pre
  have hown : s.vm.findClass R_V = some m.cls := findClass_of_methodNamed B.named
  have hlocks := B.notSynchronized
  have hin : meth.name = "<init>" := (name_of_methodNamed B.named B.method).1
  have hno := vq_noH B (hts _ k_74)
  subst hsz
  have hN := vq_ns hP
  have hD := hD0.self (sz := s.heap.size)
  generalize hAe : va_A [(h, .inr (0, [.null, .null, .null, .null]))] s.heap.size = A at hD hN ⊢
  have hA : ∀ q : Nat, s.heap.size ≤ q → A q := fun q h => by rw [← hAe]; exact Or.inr h
  have hS : va_S A s.heap s.heap [] := va_S.rf
  have hP : va_P (dC, dI) CL [(h, .inr (0, [.null, .null, .null, .null]))] s.heap := hP
  have hD : va_D A [(h, .inr (0, [.null, .null, .null, .null]))] := hD
  have hl := lv_entry ([.ref h]) (n := 1) (Nat.le_of_ble_eq_true rfl)
  rw [lg_entry_eq]
  generalize (lg_sl ([.ref h]) ++ List.replicate (1 - (lg_sl ([.ref h])).length) Slot.unset).toArray = ls at hl ⊢
  have hl : lv_has ls 1 [(0, .ref h)] := hl
  refine lv_aload_n hx hb d_V_init_0 rfl (lv_at hl 0 rfl) ?_
  refine W.objInit hx hb hown (hts _ k_75) (hts _ k_2) (hts _ k_3) rfl (by rw [hml]; exact hl.1) rfl d_V_init_1 (Nat.le_of_ble_eq_true rfl) (Nat.le_of_ble_eq_true rfl) ?_
  refine W.eq (g2 := F0 m 4 ls []) rfl ?_
  refine lv_aload_n hx hb d_V_init_4 rfl (lv_at hl 0 rfl) ?_
  refine va_new (ci := 1) (fs := [.null, .null, .int 0, .null, .null, .null, .null, .int 0, .null, .null, .null, .null, .null]) (C := R_G) (T := F_G) (N := 13) hx hb hts u_G t_G t_G_ok hown (hts _ k_76) (hts _ k_77) (hts _ k_78) hK hP hD hS hA rfl z_G (Nat.le_of_ble_eq_true rfl) (Nat.le_of_ble_eq_true rfl) d_V_init_5 (fun q1 H hP hD hS => ?_)
  have hP : va_P (dC, dI) CL [(h, .inr (0, [.null, .null, .null, .null])), (q1, .inr (1, [.null, .null, .int 0, .null, .null, .null, .null, .int 0, .null, .null, .null, .null, .null]))] H := hP
  have hD : va_D A [(h, .inr (0, [.null, .null, .null, .null])), (q1, .inr (1, [.null, .null, .int 0, .null, .null, .null, .null, .int 0, .null, .null, .null, .null, .null]))] := hD
  refine W.widen (k := 1) (n := 13) (by decide) (by decide) ?_
  refine lv_dup hx hb d_V_init_8 rfl ?_
  have hPc := hP.sub (ws' := [(q1, .inr (1, [.null, .null, .int 0, .null, .null, .null, .null, .int 0, .null, .null, .null, .null, .null]))]) [1] rfl
  have hDc := hD.sub (ws' := [(q1, .inr (1, [.null, .null, .int 0, .null, .null, .null, .null, .int 0, .null, .null, .null, .null, .null]))]) [1] (by decide) rfl
  have hKc := hK.sub (tys' := []) [] rfl
  have hFc := va_free (wc := [(q1, .inr (1, [.null, .null, .int 0, .null, .null, .null, .null, .int 0, .null, .null, .null, .null, .null]))]) hD hS hA [1] rfl
  refine va_callv (va_runIN (As := []) (rest := [.ref q1, .ref h]) ⟨hx, hb, hml, hown, hts⟩ (c_G_init l htr dC dI q1 H.size) (vq_cIN WSk hts 0 rfl rfl ⟨by decide, by decide⟩ k_0 k_78 k_79 k_80 rfl (by decide +kernel)) ⟨vq_blind, vq_here hst hS hN hPc hKc hDc⟩ rfl rfl hl.1 rfl (lv_room (Nat.le_of_ble_eq_true rfl)) d_V_init_9 ⟨by decide, by decide⟩) hS (fun q _ h => hFc q h) hFc (fun u t H1 locs ht hvm hw hB hz1 hk1 hS => ?_)
  obtain ⟨q2, q3, q4, q5, q6, q7, q8, q9, q10, q11, q12, c13, c14, hP1, hK1, hD1⟩ := hB
  rw [ht] at hP1
  have hK1 := va_K.moved hvm.symm hK1
  obtain ⟨hP, hD⟩ := va_join (wr := [(h, .inr (0, [.null, .null, .null, .null]))]) (w1 := [(q1, .inr (1, [.ref q2, .ref q3, .int 0, .ref q4, .ref q5, .ref q6, .ref q7, .int 0, .ref q8, .ref q9, .ref q10, .ref q11, .ref q12])), (q2, .inl (c13, 6, .inl ((fun _ => 0)))), (q3, .inl (c14, 6, .inl ((fun _ => 0))))]) hP hD [1] [0] rfl rfl (by decide) (by decide) hk1 hFc hP1 hD1
  have hK := (hK.sub (tys' := []) [] rfl).app hK1
  generalize H1 = H at hP hS ⊢
  have hP : va_P (dC, dI) CL [(h, .inr (0, [.null, .null, .null, .null])), (q1, .inr (1, [.ref q2, .ref q3, .int 0, .ref q4, .ref q5, .ref q6, .ref q7, .int 0, .ref q8, .ref q9, .ref q10, .ref q11, .ref q12])), (q2, .inl (c13, 6, .inl ((fun _ => 0)))), (q3, .inl (c14, 6, .inl ((fun _ => 0))))] H := hP
  have hD : va_D A [(h, .inr (0, [.null, .null, .null, .null])), (q1, .inr (1, [.ref q2, .ref q3, .int 0, .ref q4, .ref q5, .ref q6, .ref q7, .int 0, .ref q8, .ref q9, .ref q10, .ref q11, .ref q12])), (q2, .inl (c13, 6, .inl ((fun _ => 0)))), (q3, .inl (c14, 6, .inl ((fun _ => 0))))] := hD
  have hK : va_K (dC, dI) CL [(c13, .int), (c14, .int)] s := hK
  refine W.widen (k := 12) (n := 745) (by decide) (by decide) ?_
  refine va_putF (D := (dC, dI)) (ci := 0) (v := .ref q1) (ty := .object "VisitGrammar$Grammar") (C := R_V) (T := F_V) (N := 4) hx hb hts u_V t_V t_V_ok n_V hown hK hP hD hS 0 rfl rfl 0 (by decide) (hts _ k_81) (fun _ h9 => h9) rfl hin rfl (by decide +kernel) rfl rfl (Nat.le_of_ble_eq_true rfl) d_V_init_12 (fun H locs hP hD hS => ?_)
  have hP : va_P (dC, dI) CL [(h, .inr (0, [.ref q1, .null, .null, .null])), (q1, .inr (1, [.ref q2, .ref q3, .int 0, .ref q4, .ref q5, .ref q6, .ref q7, .int 0, .ref q8, .ref q9, .ref q10, .ref q11, .ref q12])), (q2, .inl (c13, 6, .inl ((fun _ => 0)))), (q3, .inl (c14, 6, .inl ((fun _ => 0))))] H := hP
  have hD : va_D A [(h, .inr (0, [.ref q1, .null, .null, .null])), (q1, .inr (1, [.ref q2, .ref q3, .int 0, .ref q4, .ref q5, .ref q6, .ref q7, .int 0, .ref q8, .ref q9, .ref q10, .ref q11, .ref q12])), (q2, .inl (c13, 6, .inl ((fun _ => 0)))), (q3, .inl (c14, 6, .inl ((fun _ => 0))))] := hD
  refine lv_aload_n hx hb d_V_init_15 rfl (lv_at hl 0 rfl) ?_
  refine va_new (ci := 2) (fs := [.null, .null, .null, .null, .int 0, .int 0, .int 0, .int 0]) (C := R_A) (T := F_A) (N := 8) hx hb hts u_A t_A t_A_ok hown (hts _ k_82) (hts _ k_83) (hts _ k_84) hK hP hD hS hA rfl z_A (Nat.le_of_ble_eq_true rfl) (Nat.le_of_ble_eq_true rfl) d_V_init_16 (fun q16 H hP hD hS => ?_)
  have hP : va_P (dC, dI) CL [(h, .inr (0, [.ref q1, .null, .null, .null])), (q1, .inr (1, [.ref q2, .ref q3, .int 0, .ref q4, .ref q5, .ref q6, .ref q7, .int 0, .ref q8, .ref q9, .ref q10, .ref q11, .ref q12])), (q2, .inl (c13, 6, .inl ((fun _ => 0)))), (q3, .inl (c14, 6, .inl ((fun _ => 0)))), (q16, .inr (2, [.null, .null, .null, .null, .int 0, .int 0, .int 0, .int 0]))] H := hP
  have hD : va_D A [(h, .inr (0, [.ref q1, .null, .null, .null])), (q1, .inr (1, [.ref q2, .ref q3, .int 0, .ref q4, .ref q5, .ref q6, .ref q7, .int 0, .ref q8, .ref q9, .ref q10, .ref q11, .ref q12])), (q2, .inl (c13, 6, .inl ((fun _ => 0)))), (q3, .inl (c14, 6, .inl ((fun _ => 0)))), (q16, .inr (2, [.null, .null, .null, .null, .int 0, .int 0, .int 0, .int 0]))] := hD
  refine W.widen (k := 13) (n := 753) (by decide) (by decide) ?_
  refine lv_dup hx hb d_V_init_19 rfl ?_
  refine lv_aload_n hx hb d_V_init_20 rfl (lv_at hl 0 rfl) ?_
  refine va_get (D := (dC, dI)) (ci := 0) (v := .ref q1) (C := R_V) (T := F_V) (N := 4) hx hb hts u_V hown hK hP 0 rfl rfl 0 (by decide) (hts _ k_81) (fun _ h9 => h9) rfl d_V_init_21 ?_
  have hPc := hP.sub (ws' := [(q16, .inr (2, [.null, .null, .null, .null, .int 0, .int 0, .int 0, .int 0]))]) [4] rfl
  have hDc := hD.sub (ws' := [(q16, .inr (2, [.null, .null, .null, .null, .int 0, .int 0, .int 0, .int 0]))]) [4] (by decide) rfl
  have hKc := hK.sub (tys' := []) [] rfl
  have hFc := va_free (wc := [(q16, .inr (2, [.null, .null, .null, .null, .int 0, .int 0, .int 0, .int 0]))]) hD hS hA [4] rfl
  refine va_callv (va_runI (As := [.ref q1]) (rest := [.ref q16, .ref h]) ⟨hx, hb, hml, hown, hts⟩ (c_A_init l htr dC dI q16 q1 H.size) (vq_cI WSk hts 1 rfl rfl ⟨by decide, by decide⟩ k_35 k_84 k_85 k_86 rfl (by decide +kernel)) ⟨vq_blind, vq_here hst hS hN hPc hKc hDc⟩ rfl rfl hl.1 rfl (lv_room (Nat.le_of_ble_eq_true rfl)) d_V_init_24 ⟨by decide, by decide⟩) hS (fun q _ h => hFc q h) hFc (fun u t H1 locs ht hvm hw hB hz1 hk1 hS => ?_)
  obtain ⟨q17, q18, q19, hP1, hK1, hD1⟩ := hB
  rw [ht] at hP1
  have hK1 := va_K.moved hvm.symm hK1
  obtain ⟨hP, hD⟩ := va_join (wr := [(h, .inr (0, [.ref q1, .null, .null, .null])), (q1, .inr (1, [.ref q2, .ref q3, .int 0, .ref q4, .ref q5, .ref q6, .ref q7, .int 0, .ref q8, .ref q9, .ref q10, .ref q11, .ref q12])), (q2, .inl (c13, 6, .inl ((fun _ => 0)))), (q3, .inl (c14, 6, .inl ((fun _ => 0))))]) (w1 := [(q16, .inr (2, [.ref q1, .ref q17, .ref q18, .ref q19, .int 0, .int 0, .int (-1), .int (-1)]))]) hP hD [4] [0, 1, 2, 3] rfl rfl (by decide) (by decide) hk1 hFc hP1 hD1
  have hK := (hK.sub (tys' := [(c13, .int), (c14, .int)]) [0, 1] rfl).app hK1
  generalize H1 = H at hP hS ⊢
  have hP : va_P (dC, dI) CL [(h, .inr (0, [.ref q1, .null, .null, .null])), (q1, .inr (1, [.ref q2, .ref q3, .int 0, .ref q4, .ref q5, .ref q6, .ref q7, .int 0, .ref q8, .ref q9, .ref q10, .ref q11, .ref q12])), (q2, .inl (c13, 6, .inl ((fun _ => 0)))), (q3, .inl (c14, 6, .inl ((fun _ => 0)))), (q16, .inr (2, [.ref q1, .ref q17, .ref q18, .ref q19, .int 0, .int 0, .int (-1), .int (-1)]))] H := hP
  have hD : va_D A [(h, .inr (0, [.ref q1, .null, .null, .null])), (q1, .inr (1, [.ref q2, .ref q3, .int 0, .ref q4, .ref q5, .ref q6, .ref q7, .int 0, .ref q8, .ref q9, .ref q10, .ref q11, .ref q12])), (q2, .inl (c13, 6, .inl ((fun _ => 0)))), (q3, .inl (c14, 6, .inl ((fun _ => 0)))), (q16, .inr (2, [.ref q1, .ref q17, .ref q18, .ref q19, .int 0, .int 0, .int (-1), .int (-1)]))] := hD
  have hK : va_K (dC, dI) CL [(c13, .int), (c14, .int)] s := hK
  refine W.widen (k := 24) (n := 1340) (by decide) (by decide) ?_
  refine va_putF (D := (dC, dI)) (ci := 0) (v := .ref q16) (ty := .object "VisitGrammar$Analysis") (C := R_V) (T := F_V) (N := 4) hx hb hts u_V t_V t_V_ok n_V hown hK hP hD hS 0 rfl rfl 1 (by decide) (hts _ k_87) (fun _ h9 => h9) rfl hin rfl (by decide +kernel) rfl rfl (Nat.le_of_ble_eq_true rfl) d_V_init_27 (fun H locs hP hD hS => ?_)
  have hP : va_P (dC, dI) CL [(h, .inr (0, [.ref q1, .ref q16, .null, .null])), (q1, .inr (1, [.ref q2, .ref q3, .int 0, .ref q4, .ref q5, .ref q6, .ref q7, .int 0, .ref q8, .ref q9, .ref q10, .ref q11, .ref q12])), (q2, .inl (c13, 6, .inl ((fun _ => 0)))), (q3, .inl (c14, 6, .inl ((fun _ => 0)))), (q16, .inr (2, [.ref q1, .ref q17, .ref q18, .ref q19, .int 0, .int 0, .int (-1), .int (-1)]))] H := hP
  have hD : va_D A [(h, .inr (0, [.ref q1, .ref q16, .null, .null])), (q1, .inr (1, [.ref q2, .ref q3, .int 0, .ref q4, .ref q5, .ref q6, .ref q7, .int 0, .ref q8, .ref q9, .ref q10, .ref q11, .ref q12])), (q2, .inl (c13, 6, .inl ((fun _ => 0)))), (q3, .inl (c14, 6, .inl ((fun _ => 0)))), (q16, .inr (2, [.ref q1, .ref q17, .ref q18, .ref q19, .int 0, .int 0, .int (-1), .int (-1)]))] := hD
  refine lv_aload_n hx hb d_V_init_30 rfl (lv_at hl 0 rfl) ?_
  refine va_new (ci := 6) (fs := [.null, .null, .null, .null, .null, .int 0]) (C := R_Z) (T := F_Z) (N := 6) hx hb hts u_Z t_Z t_Z_ok hown (hts _ k_88) (hts _ k_89) (hts _ k_90) hK hP hD hS hA rfl z_Z (Nat.le_of_ble_eq_true rfl) (Nat.le_of_ble_eq_true rfl) d_V_init_31 (fun q21 H hP hD hS => ?_)
  have hP : va_P (dC, dI) CL [(h, .inr (0, [.ref q1, .ref q16, .null, .null])), (q1, .inr (1, [.ref q2, .ref q3, .int 0, .ref q4, .ref q5, .ref q6, .ref q7, .int 0, .ref q8, .ref q9, .ref q10, .ref q11, .ref q12])), (q2, .inl (c13, 6, .inl ((fun _ => 0)))), (q3, .inl (c14, 6, .inl ((fun _ => 0)))), (q16, .inr (2, [.ref q1, .ref q17, .ref q18, .ref q19, .int 0, .int 0, .int (-1), .int (-1)])), (q21, .inr (6, [.null, .null, .null, .null, .null, .int 0]))] H := hP
  have hD : va_D A [(h, .inr (0, [.ref q1, .ref q16, .null, .null])), (q1, .inr (1, [.ref q2, .ref q3, .int 0, .ref q4, .ref q5, .ref q6, .ref q7, .int 0, .ref q8, .ref q9, .ref q10, .ref q11, .ref q12])), (q2, .inl (c13, 6, .inl ((fun _ => 0)))), (q3, .inl (c14, 6, .inl ((fun _ => 0)))), (q16, .inr (2, [.ref q1, .ref q17, .ref q18, .ref q19, .int 0, .int 0, .int (-1), .int (-1)])), (q21, .inr (6, [.null, .null, .null, .null, .null, .int 0]))] := hD
  refine W.widen (k := 25) (n := 1346) (by decide) (by decide) ?_
  refine lv_dup hx hb d_V_init_34 rfl ?_
  refine lv_aload_n hx hb d_V_init_35 rfl (lv_at hl 0 rfl) ?_
  refine va_get (D := (dC, dI)) (ci := 0) (v := .ref q1) (C := R_V) (T := F_V) (N := 4) hx hb hts u_V hown hK hP 0 rfl rfl 0 (by decide) (hts _ k_81) (fun _ h9 => h9) rfl d_V_init_36 ?_
  have hPc := hP.sub (ws' := [(q21, .inr (6, [.null, .null, .null, .null, .null, .int 0]))]) [5] rfl
  have hDc := hD.sub (ws' := [(q21, .inr (6, [.null, .null, .null, .null, .null, .int 0]))]) [5] (by decide) rfl
  have hKc := hK.sub (tys' := []) [] rfl
  have hFc := va_free (wc := [(q21, .inr (6, [.null, .null, .null, .null, .null, .int 0]))]) hD hS hA [5] rfl
  refine va_callv (va_runI (As := [.ref q1]) (rest := [.ref q21, .ref h]) ⟨hx, hb, hml, hown, hts⟩ (c_T_init l htr dC dI q21 q1 H.size) (vq_cI WSk hts 1 rfl rfl ⟨by decide, by decide⟩ k_58 k_90 k_91 k_92 rfl (by decide +kernel)) ⟨vq_blind, vq_here hst hS hN hPc hKc hDc⟩ rfl rfl hl.1 rfl (lv_room (Nat.le_of_ble_eq_true rfl)) d_V_init_39 ⟨by decide, by decide⟩) hS (fun q _ h => hFc q h) hFc (fun u t H1 locs ht hvm hw hB hz1 hk1 hS => ?_)
  obtain ⟨q22, q23, q24, q25, hP1, hK1, hD1⟩ := hB
  rw [ht] at hP1
  have hK1 := va_K.moved hvm.symm hK1
  obtain ⟨hP, hD⟩ := va_join (wr := [(h, .inr (0, [.ref q1, .ref q16, .null, .null])), (q1, .inr (1, [.ref q2, .ref q3, .int 0, .ref q4, .ref q5, .ref q6, .ref q7, .int 0, .ref q8, .ref q9, .ref q10, .ref q11, .ref q12])), (q2, .inl (c13, 6, .inl ((fun _ => 0)))), (q3, .inl (c14, 6, .inl ((fun _ => 0)))), (q16, .inr (2, [.ref q1, .ref q17, .ref q18, .ref q19, .int 0, .int 0, .int (-1), .int (-1)]))]) (w1 := [(q21, .inr (6, [.ref q1, .ref q22, .ref q23, .ref q24, .ref q25, .int 0]))]) hP hD [5] [0, 1, 2, 3, 4] rfl rfl (by decide) (by decide) hk1 hFc hP1 hD1
  have hK := (hK.sub (tys' := [(c13, .int), (c14, .int)]) [0, 1] rfl).app hK1
  generalize H1 = H at hP hS ⊢
  have hP : va_P (dC, dI) CL [(h, .inr (0, [.ref q1, .ref q16, .null, .null])), (q1, .inr (1, [.ref q2, .ref q3, .int 0, .ref q4, .ref q5, .ref q6, .ref q7, .int 0, .ref q8, .ref q9, .ref q10, .ref q11, .ref q12])), (q2, .inl (c13, 6, .inl ((fun _ => 0)))), (q3, .inl (c14, 6, .inl ((fun _ => 0)))), (q16, .inr (2, [.ref q1, .ref q17, .ref q18, .ref q19, .int 0, .int 0, .int (-1), .int (-1)])), (q21, .inr (6, [.ref q1, .ref q22, .ref q23, .ref q24, .ref q25, .int 0]))] H := hP
  have hD : va_D A [(h, .inr (0, [.ref q1, .ref q16, .null, .null])), (q1, .inr (1, [.ref q2, .ref q3, .int 0, .ref q4, .ref q5, .ref q6, .ref q7, .int 0, .ref q8, .ref q9, .ref q10, .ref q11, .ref q12])), (q2, .inl (c13, 6, .inl ((fun _ => 0)))), (q3, .inl (c14, 6, .inl ((fun _ => 0)))), (q16, .inr (2, [.ref q1, .ref q17, .ref q18, .ref q19, .int 0, .int 0, .int (-1), .int (-1)])), (q21, .inr (6, [.ref q1, .ref q22, .ref q23, .ref q24, .ref q25, .int 0]))] := hD
  have hK : va_K (dC, dI) CL [(c13, .int), (c14, .int)] s := hK
  refine W.widen (k := 29) (n := 1626) (by decide) (by decide) ?_
  refine va_putF (D := (dC, dI)) (ci := 0) (v := .ref q21) (ty := .object "VisitGrammar$Tree") (C := R_V) (T := F_V) (N := 4) hx hb hts u_V t_V t_V_ok n_V hown hK hP hD hS 0 rfl rfl 2 (by decide) (hts _ k_93) (fun _ h9 => h9) rfl hin rfl (by decide +kernel) rfl rfl (Nat.le_of_ble_eq_true rfl) d_V_init_42 (fun H locs hP hD hS => ?_)
  have hP : va_P (dC, dI) CL [(h, .inr (0, [.ref q1, .ref q16, .ref q21, .null])), (q1, .inr (1, [.ref q2, .ref q3, .int 0, .ref q4, .ref q5, .ref q6, .ref q7, .int 0, .ref q8, .ref q9, .ref q10, .ref q11, .ref q12])), (q2, .inl (c13, 6, .inl ((fun _ => 0)))), (q3, .inl (c14, 6, .inl ((fun _ => 0)))), (q16, .inr (2, [.ref q1, .ref q17, .ref q18, .ref q19, .int 0, .int 0, .int (-1), .int (-1)])), (q21, .inr (6, [.ref q1, .ref q22, .ref q23, .ref q24, .ref q25, .int 0]))] H := hP
  have hD : va_D A [(h, .inr (0, [.ref q1, .ref q16, .ref q21, .null])), (q1, .inr (1, [.ref q2, .ref q3, .int 0, .ref q4, .ref q5, .ref q6, .ref q7, .int 0, .ref q8, .ref q9, .ref q10, .ref q11, .ref q12])), (q2, .inl (c13, 6, .inl ((fun _ => 0)))), (q3, .inl (c14, 6, .inl ((fun _ => 0)))), (q16, .inr (2, [.ref q1, .ref q17, .ref q18, .ref q19, .int 0, .int 0, .int (-1), .int (-1)])), (q21, .inr (6, [.ref q1, .ref q22, .ref q23, .ref q24, .ref q25, .int 0]))] := hD
  refine lv_aload_n hx hb d_V_init_45 rfl (lv_at hl 0 rfl) ?_
  refine va_new (ci := 7) (fs := [.null, .null, .null, .null, .null, .null, .null, .int 0, .int 0, .int 0]) (C := R_U) (T := F_U) (N := 10) hx hb hts u_U t_U t_U_ok hown (hts _ k_94) (hts _ k_95) (hts _ k_96) hK hP hD hS hA rfl z_U (Nat.le_of_ble_eq_true rfl) (Nat.le_of_ble_eq_true rfl) d_V_init_46 (fun q27 H hP hD hS => ?_)
  have hP : va_P (dC, dI) CL [(h, .inr (0, [.ref q1, .ref q16, .ref q21, .null])), (q1, .inr (1, [.ref q2, .ref q3, .int 0, .ref q4, .ref q5, .ref q6, .ref q7, .int 0, .ref q8, .ref q9, .ref q10, .ref q11, .ref q12])), (q2, .inl (c13, 6, .inl ((fun _ => 0)))), (q3, .inl (c14, 6, .inl ((fun _ => 0)))), (q16, .inr (2, [.ref q1, .ref q17, .ref q18, .ref q19, .int 0, .int 0, .int (-1), .int (-1)])), (q21, .inr (6, [.ref q1, .ref q22, .ref q23, .ref q24, .ref q25, .int 0])), (q27, .inr (7, [.null, .null, .null, .null, .null, .null, .null, .int 0, .int 0, .int 0]))] H := hP
  have hD : va_D A [(h, .inr (0, [.ref q1, .ref q16, .ref q21, .null])), (q1, .inr (1, [.ref q2, .ref q3, .int 0, .ref q4, .ref q5, .ref q6, .ref q7, .int 0, .ref q8, .ref q9, .ref q10, .ref q11, .ref q12])), (q2, .inl (c13, 6, .inl ((fun _ => 0)))), (q3, .inl (c14, 6, .inl ((fun _ => 0)))), (q16, .inr (2, [.ref q1, .ref q17, .ref q18, .ref q19, .int 0, .int 0, .int (-1), .int (-1)])), (q21, .inr (6, [.ref q1, .ref q22, .ref q23, .ref q24, .ref q25, .int 0])), (q27, .inr (7, [.null, .null, .null, .null, .null, .null, .null, .int 0, .int 0, .int 0]))] := hD
  refine W.widen (k := 30) (n := 1636) (by decide) (by decide) ?_
  refine lv_dup hx hb d_V_init_49 rfl ?_
  refine lv_aload_n hx hb d_V_init_50 rfl (lv_at hl 0 rfl) ?_
  refine va_get (D := (dC, dI)) (ci := 0) (v := .ref q1) (C := R_V) (T := F_V) (N := 4) hx hb hts u_V hown hK hP 0 rfl rfl 0 (by decide) (hts _ k_81) (fun _ h9 => h9) rfl d_V_init_51 ?_
  refine lv_aload_n hx hb d_V_init_54 rfl (lv_at hl 0 rfl) ?_
  refine va_get (D := (dC, dI)) (ci := 0) (v := .ref q16) (C := R_V) (T := F_V) (N := 4) hx hb hts u_V hown hK hP 0 rfl rfl 1 (by decide) (hts _ k_87) (fun _ h9 => h9) rfl d_V_init_55 ?_
  refine va_getN (D := (dC, dI)) (ci := 2) (v := .ref q19) (C := R_A) (T := F_A) (N := 8) hx hb hts u_A hown hK hP 4 rfl rfl 3 (by decide) (hts _ k_97) (fun _ h9 => h9) rfl d_V_init_58 ?_
  refine lv_aload_n hx hb d_V_init_61 rfl (lv_at hl 0 rfl) ?_
  refine va_get (D := (dC, dI)) (ci := 0) (v := .ref q21) (C := R_V) (T := F_V) (N := 4) hx hb hts u_V hown hK hP 0 rfl rfl 2 (by decide) (hts _ k_93) (fun _ h9 => h9) rfl d_V_init_62 ?_
  have hPc := hP.sub (ws' := [(q27, .inr (7, [.null, .null, .null, .null, .null, .null, .null, .int 0, .int 0, .int 0]))]) [6] rfl
  have hDc := hD.sub (ws' := [(q27, .inr (7, [.null, .null, .null, .null, .null, .null, .null, .int 0, .int 0, .int 0]))]) [6] (by decide) rfl
  have hKc := hK.sub (tys' := []) [] rfl
  have hFc := va_free (wc := [(q27, .inr (7, [.null, .null, .null, .null, .null, .null, .null, .int 0, .int 0, .int 0]))]) hD hS hA [6] rfl
  refine va_callv (va_runI (As := [.ref q1, .ref q19, .ref q21]) (rest := [.ref q27, .ref h]) ⟨hx, hb, hml, hown, hts⟩ (c_U_init l htr dC dI q27 q1 q19 q21 H.size) (vq_cI WSk hts 3 rfl rfl ⟨by decide, by decide⟩ k_65 k_96 k_98 k_99 rfl (by decide +kernel)) ⟨vq_blind, vq_here hst hS hN hPc hKc hDc⟩ rfl rfl hl.1 rfl (lv_room (Nat.le_of_ble_eq_true rfl)) d_V_init_65 ⟨by decide, by decide⟩) hS (fun q _ h => hFc q h) hFc (fun u t H1 locs ht hvm hw hB hz1 hk1 hS => ?_)
  obtain ⟨q28, q29, q30, q31, c32, hP1, hK1, hD1⟩ := hB
  rw [ht] at hP1
  have hK1 := va_K.moved hvm.symm hK1
  obtain ⟨hP, hD⟩ := va_join (wr := [(h, .inr (0, [.ref q1, .ref q16, .ref q21, .null])), (q1, .inr (1, [.ref q2, .ref q3, .int 0, .ref q4, .ref q5, .ref q6, .ref q7, .int 0, .ref q8, .ref q9, .ref q10, .ref q11, .ref q12])), (q2, .inl (c13, 6, .inl ((fun _ => 0)))), (q3, .inl (c14, 6, .inl ((fun _ => 0)))), (q16, .inr (2, [.ref q1, .ref q17, .ref q18, .ref q19, .int 0, .int 0, .int (-1), .int (-1)])), (q21, .inr (6, [.ref q1, .ref q22, .ref q23, .ref q24, .ref q25, .int 0]))]) (w1 := [(q27, .inr (7, [.ref q1, .ref q19, .ref q21, .ref q28, .ref q29, .ref q30, .ref q31, .int 0, .int 0, .int 0])), (q28, .inl (c32, 4, .inl ((fun _ => 0))))]) hP hD [6] [0, 1, 2, 3, 4, 5] rfl rfl (by decide) (by decide) hk1 hFc hP1 hD1
  have hK := (hK.sub (tys' := [(c13, .int), (c14, .int)]) [0, 1] rfl).app hK1
  generalize H1 = H at hP hS ⊢
  have hP : va_P (dC, dI) CL [(h, .inr (0, [.ref q1, .ref q16, .ref q21, .null])), (q1, .inr (1, [.ref q2, .ref q3, .int 0, .ref q4, .ref q5, .ref q6, .ref q7, .int 0, .ref q8, .ref q9, .ref q10, .ref q11, .ref q12])), (q2, .inl (c13, 6, .inl ((fun _ => 0)))), (q3, .inl (c14, 6, .inl ((fun _ => 0)))), (q16, .inr (2, [.ref q1, .ref q17, .ref q18, .ref q19, .int 0, .int 0, .int (-1), .int (-1)])), (q21, .inr (6, [.ref q1, .ref q22, .ref q23, .ref q24, .ref q25, .int 0])), (q27, .inr (7, [.ref q1, .ref q19, .ref q21, .ref q28, .ref q29, .ref q30, .ref q31, .int 0, .int 0, .int 0])), (q28, .inl (c32, 4, .inl ((fun _ => 0))))] H := hP
  have hD : va_D A [(h, .inr (0, [.ref q1, .ref q16, .ref q21, .null])), (q1, .inr (1, [.ref q2, .ref q3, .int 0, .ref q4, .ref q5, .ref q6, .ref q7, .int 0, .ref q8, .ref q9, .ref q10, .ref q11, .ref q12])), (q2, .inl (c13, 6, .inl ((fun _ => 0)))), (q3, .inl (c14, 6, .inl ((fun _ => 0)))), (q16, .inr (2, [.ref q1, .ref q17, .ref q18, .ref q19, .int 0, .int 0, .int (-1), .int (-1)])), (q21, .inr (6, [.ref q1, .ref q22, .ref q23, .ref q24, .ref q25, .int 0])), (q27, .inr (7, [.ref q1, .ref q19, .ref q21, .ref q28, .ref q29, .ref q30, .ref q31, .int 0, .int 0, .int 0])), (q28, .inl (c32, 4, .inl ((fun _ => 0))))] := hD
  have hK : va_K (dC, dI) CL [(c13, .int), (c14, .int), (c32, .int)] s := hK
  refine W.widen (k := 34) (n := 1880) (by decide) (by decide) ?_
  refine va_putF (D := (dC, dI)) (ci := 0) (v := .ref q27) (ty := .object "VisitGrammar$Walk") (C := R_V) (T := F_V) (N := 4) hx hb hts u_V t_V t_V_ok n_V hown hK hP hD hS 0 rfl rfl 3 (by decide) (hts _ k_100) (fun _ h9 => h9) rfl hin rfl (by decide +kernel) rfl rfl (Nat.le_of_ble_eq_true rfl) d_V_init_68 (fun H locs hP hD hS => ?_)
  have hP : va_P (dC, dI) CL [(h, .inr (0, [.ref q1, .ref q16, .ref q21, .ref q27])), (q1, .inr (1, [.ref q2, .ref q3, .int 0, .ref q4, .ref q5, .ref q6, .ref q7, .int 0, .ref q8, .ref q9, .ref q10, .ref q11, .ref q12])), (q2, .inl (c13, 6, .inl ((fun _ => 0)))), (q3, .inl (c14, 6, .inl ((fun _ => 0)))), (q16, .inr (2, [.ref q1, .ref q17, .ref q18, .ref q19, .int 0, .int 0, .int (-1), .int (-1)])), (q21, .inr (6, [.ref q1, .ref q22, .ref q23, .ref q24, .ref q25, .int 0])), (q27, .inr (7, [.ref q1, .ref q19, .ref q21, .ref q28, .ref q29, .ref q30, .ref q31, .int 0, .int 0, .int 0])), (q28, .inl (c32, 4, .inl ((fun _ => 0))))] H := hP
  have hD : va_D A [(h, .inr (0, [.ref q1, .ref q16, .ref q21, .ref q27])), (q1, .inr (1, [.ref q2, .ref q3, .int 0, .ref q4, .ref q5, .ref q6, .ref q7, .int 0, .ref q8, .ref q9, .ref q10, .ref q11, .ref q12])), (q2, .inl (c13, 6, .inl ((fun _ => 0)))), (q3, .inl (c14, 6, .inl ((fun _ => 0)))), (q16, .inr (2, [.ref q1, .ref q17, .ref q18, .ref q19, .int 0, .int 0, .int (-1), .int (-1)])), (q21, .inr (6, [.ref q1, .ref q22, .ref q23, .ref q24, .ref q25, .int 0])), (q27, .inr (7, [.ref q1, .ref q19, .ref q21, .ref q28, .ref q29, .ref q30, .ref q31, .int 0, .int 0, .int 0])), (q28, .inl (c32, 4, .inl ((fun _ => 0))))] := hD
  have hP9 := hP.sub (ws' := [(h, .inr (0, [.ref q1, .ref q16, .ref q21, .ref q27])), (q1, .inr (1, [.ref q2, .ref q3, .int 0, .ref q4, .ref q5, .ref q6, .ref q7, .int 0, .ref q8, .ref q9, .ref q10, .ref q11, .ref q12])), (q2, .inl (c13, 6, .inl ((fun _ => 0)))), (q3, .inl (c14, 6, .inl ((fun _ => 0)))), (q16, .inr (2, [.ref q1, .ref q17, .ref q18, .ref q19, .int 0, .int 0, .int (-1), .int (-1)])), (q21, .inr (6, [.ref q1, .ref q22, .ref q23, .ref q24, .ref q25, .int 0])), (q27, .inr (7, [.ref q1, .ref q19, .ref q21, .ref q28, .ref q29, .ref q30, .ref q31, .int 0, .int 0, .int 0])), (q28, .inl (c32, 4, .inl ((fun _ => 0))))]) [0, 1, 2, 3, 4, 5, 6, 7] rfl
  have hD9 := hD.sub (ws' := [(h, .inr (0, [.ref q1, .ref q16, .ref q21, .ref q27])), (q1, .inr (1, [.ref q2, .ref q3, .int 0, .ref q4, .ref q5, .ref q6, .ref q7, .int 0, .ref q8, .ref q9, .ref q10, .ref q11, .ref q12])), (q2, .inl (c13, 6, .inl ((fun _ => 0)))), (q3, .inl (c14, 6, .inl ((fun _ => 0)))), (q16, .inr (2, [.ref q1, .ref q17, .ref q18, .ref q19, .int 0, .int 0, .int (-1), .int (-1)])), (q21, .inr (6, [.ref q1, .ref q22, .ref q23, .ref q24, .ref q25, .int 0])), (q27, .inr (7, [.ref q1, .ref q19, .ref q21, .ref q28, .ref q29, .ref q30, .ref q31, .int 0, .int 0, .int 0])), (q28, .inl (c32, 4, .inl ((fun _ => 0))))]) [0, 1, 2, 3, 4, 5, 6, 7] (by decide) rfl
  have hK9 := hK.sub (tys' := [(c13, .int), (c14, .int), (c32, .int)]) [0, 1, 2] rfl
  refine W.widen (k := 34) (n := 1880) (by decide) (by decide) ?_
  exact W.vret hx hb hr (fun t ht hW => ⟨⟨(), rfl, trivial, q1, q16, q21, q27, q2, q3, q4, q5, q6, q7, q8, q9, q10, q11, q12, c13, c14, q17, q18, q19, q22, q23, q24, q25, q28, q29, q30, q31, c32, by rw [ht]; exact hP9, va_K.moved hW.alike hK9, hD9⟩, hS.F ht⟩) hS.2.2 d_V_init_71

