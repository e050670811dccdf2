set_option maxHeartbeats 8000000 in
set_option maxRecDepth 100000 in
theorem arm_7_2 {p : Program} {e : Env} {s : State} {m : MethodId} {below : List Frame} {meth : Method} {c : Code} (l : Launch) (htr : l.stackTraces = false) {b L i : Nat} {xs : Nat → Int32} {A : Nat → Prop} (dC : Nat → ClassId) (dI : Nat → Nat → Nat) (ad : Nat → Nat) (ca : Nat → ClassId) (o : Nat) (co : ClassId) (bd : Nat → Nat) (cb : Nat → ClassId) (N : Nat) (σx : vS) (fo : Nat → Int64) (σm : vS) (v : Int32 × vS) (u1 : Int32 × vS) {H : Heap} {locs : List Loc} {ls : Array Slot} {K S : Nat} {Q : State → Prop} (hF : f_V_instruction N σx (xs (i + 1)) (xs (i + 2)) = some ((2, v.1), v.2)) (hG1 : f_M_instruction N σm (xs (i + 1)) (xs (i + 2)) = some u1) (hL : L ≤ 3072) (hi : i + 6 ≤ L) (hKR : K + 1 ≤ 1107) (hSR : S + 6 ≤ 17414) (hx : p.tables.exec = Jvm.exec) (hb : c.code = code) (hml : c.maxLocals = 7) (hown : s.vm.findClass R_L = some m.cls) (hts : ∀ w ∈ WS, w.before #[Value.ref b] s = true) (hX : va_X b L xs s s.heap) (hbl : b < s.heap.size) (hst : vq_st s) (hnc : vq_nc s) (hA : ∀ q : Nat, s.heap.size ≤ q → A q) (hN : ∀ q : Nat, A q → ∀ cell : Cell, s.heap[q]? = some cell → cell.vm.isStatics = false) (hbA : ¬ A b) (hK : va_K (dC, dI) CL (LT ca co cb) s) (hP : va_P (dC, dI) CL (LW ad ca o co bd cb σx fo σm) H) (hD : va_D A (LW ad ca o co bd cb σx fo σm)) (hS : va_S A s.heap H locs) (hl : lv_has ls 7 [(4, .int (nI i)), (3, .ref o), (2, .ref (bd 0)), (1, .ref (ad 0)), (0, .ref b)])
    (next : ∀ (H : Heap) (locs : List Loc) (ls : Array Slot), lv_has ls 7 [(4, .int (nI i)), (3, .ref o), (2, .ref (bd 0)), (1, .ref (ad 0)), (0, .ref b)] → va_P (dC, dI) CL (LW ad ca o co bd cb v.2 fo u1.2) H → va_D A (LW ad ca o co bd cb v.2 fo u1.2) → va_S A s.heap H locs → W p l e room_1 s m #[Value.ref b] below meth c H locs (K + 1 + 0) (S + 6 + 0) Q (F0 m 761 ls [])) :
    W p l e room_1 s m #[Value.ref b] below meth c H locs K S Q (F0 m 410 ls []) := by
  have hR1 : room_1.cells = 1107 := rfl
  have hR2 : room_1.slots = 17414 := rfl
  refine lv_aload_n hx hb d_L_law_410 rfl (lv_at hl 3 rfl) ?_
  refine lv_aload_n hx hb d_L_law_411 rfl (lv_at hl 4 rfl) ?_
  refine lv_iload hx hb d_L_law_412 (lv_at hl 0 rfl) ?_
  refine lv_iconst (v := 1) hx hb d_L_law_414 (by decide) ?_
  refine lv_iadd hx hb d_L_law_415 ?_
  refine vq_top (y := nI (i + 1)) (nI_add i 1) ?_
  refine va_sld (i := nI (i + 1)) hx hb hX hbl hbA hS (vp_in_nI (by omega) (by omega)) d_L_law_416 ?_
  refine vq_top (y := xs (i + 1)) (by rw [nI_clamp (by omega)]) ?_
  refine lv_aload_n hx hb d_L_law_417 rfl (lv_at hl 4 rfl) ?_
  refine lv_iload hx hb d_L_law_418 (lv_at hl 0 rfl) ?_
  refine lv_iconst (v := 2) hx hb d_L_law_420 (by decide) ?_
  refine lv_iadd hx hb d_L_law_421 ?_
  refine vq_top (y := nI (i + 2)) (nI_add i 2) ?_
  refine va_sld (i := nI (i + 2)) hx hb hX hbl hbA hS (vp_in_nI (by omega) (by omega)) d_L_law_422 ?_
  refine vq_top (y := xs (i + 2)) (by rw [nI_clamp (by omega)]) ?_
  refine lv_aload_n hx hb d_L_law_423 rfl (lv_at hl 1 rfl) ?_
  obtain ⟨hPc, hDc⟩ := sp_xo hP hD
  have hKc := kt_xo hK
  have hFc := fe_xo hD hS hA
  refine va_calli (vq_runSH (n := 4) (As := [.ref (ad 0), .int (xs (i + 1)), .int (xs (i + 2)), .ref o]) (rest := []) ⟨hx, hb, hml, hown, hts⟩ (w_instruction_2 l htr dC dI ad ca o co fo N σx (xs (i + 1)) (xs (i + 2)) v hF H.size) WSk rfl rfl ⟨by decide, by decide⟩ k_698 k_776 k_813 k_814 (by decide +kernel) ⟨vq_blindN, vq_hereN hnc hst hS hN hPc hKc hDc⟩ rfl rfl hl.1 rfl (lv_room (Nat.le_of_ble_eq_true rfl)) d_L_law_424 ⟨by omega, by omega⟩) hS (fun q _ h => hFc q h) hFc (fun r u t H1 locs ht hvm hw hB hz1 hk1 hS => ?_)
  obtain ⟨hP1, -, hD1⟩ := hB
  rw [ht] at hP1
  have hw : r = 1 := hw
  subst hw
  obtain ⟨hP, hD⟩ := jn_xo hP hD hk1 hFc hP1 hD1
  generalize H1 = H at hP hS ⊢
  refine lv_istore (lv' := [(5, .int 1), (4, .int (nI i)), (3, .ref o), (2, .ref (bd 0)), (1, .ref (ad 0)), (0, .ref b)]) hx hb d_L_law_427 hl (by decide) rfl (fun ls hl => ?_)
  refine lv_aload_n hx hb d_L_law_429 rfl (lv_at hl 3 rfl) ?_
  refine lv_aload_n hx hb d_L_law_430 rfl (lv_at hl 5 rfl) ?_
  refine lv_iload hx hb d_L_law_431 (lv_at hl 1 rfl) ?_
  refine lv_iconst (v := 1) hx hb d_L_law_433 (by decide) ?_
  refine lv_iadd hx hb d_L_law_434 ?_
  refine vq_top (y := nI (i + 1)) (nI_add i 1) ?_
  refine va_sld (i := nI (i + 1)) hx hb hX hbl hbA hS (vp_in_nI (by omega) (by omega)) d_L_law_435 ?_
  refine vq_top (y := xs (i + 1)) (by rw [nI_clamp (by omega)]) ?_
  refine lv_aload_n hx hb d_L_law_436 rfl (lv_at hl 5 rfl) ?_
  refine lv_iload hx hb d_L_law_437 (lv_at hl 1 rfl) ?_
  refine lv_iconst (v := 2) hx hb d_L_law_439 (by decide) ?_
  refine lv_iadd hx hb d_L_law_440 ?_
  refine vq_top (y := nI (i + 2)) (nI_add i 2) ?_
  refine va_sld (i := nI (i + 2)) hx hb hX hbl hbA hS (vp_in_nI (by omega) (by omega)) d_L_law_441 ?_
  refine vq_top (y := xs (i + 2)) (by rw [nI_clamp (by omega)]) ?_
  obtain ⟨hPc, hDc⟩ := sp_m hP hD
  have hKc := kt_m hK
  have hFc := fe_m hD hS hA
  refine va_calli (va_runV (As := [.int (xs (i + 1)), .int (xs (i + 2))]) (rest := []) ⟨hx, hb, hml, hown, hts⟩ (c_M_instruction l htr dC dI bd cb N σm (xs (i + 1)) (xs (i + 2)) u1 hG1 H.size) (vq_cV WSk hts 2 rfl rfl ⟨by decide, by decide⟩ k_488 k_367 k_815 k_816 k_817 (by decide +kernel)) ⟨vq_blind, va_recv hKc hPc (ci := 8) (q0 := 0) rfl rfl, vq_here hst hS hN hPc hKc hDc⟩ rfl rfl hl.1 rfl (lv_room (Nat.le_of_ble_eq_true rfl)) d_L_law_442 ⟨by omega, by omega⟩) hS (fun q _ h => hFc q h) hFc (fun r u t H1 locs ht hvm hw hB hz1 hk1 hS => ?_)
  obtain ⟨hP1, -, hD1⟩ := hB
  rw [ht] at hP1
  have hw : r = u1.1 := hw
  subst hw
  obtain ⟨hP, hD⟩ := jn_m hP hD hk1 hFc hP1 hD1
  generalize H1 = H at hP hS ⊢
  refine lv_istore (lv' := [(6, .int (u1.1)), (5, .int 1), (4, .int (nI i)), (3, .ref o), (2, .ref (bd 0)), (1, .ref (ad 0)), (0, .ref b)]) hx hb d_L_law_445 hl (by decide) rfl (fun ls hl => ?_)
  refine lv_goto (tgt := 761) hx hb d_L_law_447 (by decide) ?_
  exact next H locs ls (lv_sub hl [2, 3, 4, 5, 6] rfl) hP hD hS

set_option maxHeartbeats 8000000 in
set_option maxRecDepth 100000 in
theorem arm_7_3 {p : Program} {e : Env} {s : State} {m : MethodId} {below : List Frame} {meth : Method} {c : Code} (l : Launch) (htr : l.stackTraces = false) {b L i : Nat} {xs : Nat → Int32} {A : Nat → Prop} (dC : Nat → ClassId) (dI : Nat → Nat → Nat) (ad : Nat → Nat) (ca : Nat → ClassId) (o : Nat) (co : ClassId) (bd : Nat → Nat) (cb : Nat → ClassId) (N : Nat) (σx : vS) (fo : Nat → Int64) (σm : vS) (v : Int32 × vS) (u1 : Int32 × vS) {H : Heap} {locs : List Loc} {ls : Array Slot} {K S : Nat} {Q : State → Prop} (hF : f_V_instruction N σx (xs (i + 1)) (xs (i + 2)) = some ((3, v.1), v.2)) (hG1 : f_M_instruction N σm (xs (i + 1)) (xs (i + 2)) = some u1) (hL : L ≤ 3072) (hi : i + 6 ≤ L) (hKR : K + 1 ≤ 1107) (hSR : S + 6 ≤ 17414) (hx : p.tables.exec = Jvm.exec) (hb : c.code = code) (hml : c.maxLocals = 7) (hown : s.vm.findClass R_L = some m.cls) (hts : ∀ w ∈ WS, w.before #[Value.ref b] s = true) (hX : va_X b L xs s s.heap) (hbl : b < s.heap.size) (hst : vq_st s) (hnc : vq_nc s) (hA : ∀ q : Nat, s.heap.size ≤ q → A q) (hN : ∀ q : Nat, A q → ∀ cell : Cell, s.heap[q]? = some cell → cell.vm.isStatics = false) (hbA : ¬ A b) (hK : va_K (dC, dI) CL (LT ca co cb) s) (hP : va_P (dC, dI) CL (LW ad ca o co bd cb σx fo σm) H) (hD : va_D A (LW ad ca o co bd cb σx fo σm)) (hS : va_S A s.heap H locs) (hl : lv_has ls 7 [(4, .int (nI i)), (3, .ref o), (2, .ref (bd 0)), (1, .ref (ad 0)), (0, .ref b)])
    (next : ∀ (H : Heap) (locs : List Loc) (ls : Array Slot), lv_has ls 7 [(4, .int (nI i)), (3, .ref o), (2, .ref (bd 0)), (1, .ref (ad 0)), (0, .ref b)] → va_P (dC, dI) CL (LW ad ca o co bd cb v.2 fo u1.2) H → va_D A (LW ad ca o co bd cb v.2 fo u1.2) → va_S A s.heap H locs → W p l e room_1 s m #[Value.ref b] below meth c H locs (K + 1 + 0) (S + 6 + 0) Q (F0 m 761 ls [])) :
    W p l e room_1 s m #[Value.ref b] below meth c H locs K S Q (F0 m 410 ls []) := by
  have hR1 : room_1.cells = 1107 := rfl
  have hR2 : room_1.slots = 17414 := rfl
  refine lv_aload_n hx hb d_L_law_410 rfl (lv_at hl 3 rfl) ?_
  refine lv_aload_n hx hb d_L_law_411 rfl (lv_at hl 4 rfl) ?_
  refine lv_iload hx hb d_L_law_412 (lv_at hl 0 rfl) ?_
  refine lv_iconst (v := 1) hx hb d_L_law_414 (by decide) ?_
  refine lv_iadd hx hb d_L_law_415 ?_
  refine vq_top (y := nI (i + 1)) (nI_add i 1) ?_
  refine va_sld (i := nI (i + 1)) hx hb hX hbl hbA hS (vp_in_nI (by omega) (by omega)) d_L_law_416 ?_
  refine vq_top (y := xs (i + 1)) (by rw [nI_clamp (by omega)]) ?_
  refine lv_aload_n hx hb d_L_law_417 rfl (lv_at hl 4 rfl) ?_
  refine lv_iload hx hb d_L_law_418 (lv_at hl 0 rfl) ?_
  refine lv_iconst (v := 2) hx hb d_L_law_420 (by decide) ?_
  refine lv_iadd hx hb d_L_law_421 ?_
  refine vq_top (y := nI (i + 2)) (nI_add i 2) ?_
  refine va_sld (i := nI (i + 2)) hx hb hX hbl hbA hS (vp_in_nI (by omega) (by omega)) d_L_law_422 ?_
  refine vq_top (y := xs (i + 2)) (by rw [nI_clamp (by omega)]) ?_
  refine lv_aload_n hx hb d_L_law_423 rfl (lv_at hl 1 rfl) ?_
  obtain ⟨hPc, hDc⟩ := sp_xo hP hD
  have hKc := kt_xo hK
  have hFc := fe_xo hD hS hA
  refine va_calli (vq_runSH (n := 4) (As := [.ref (ad 0), .int (xs (i + 1)), .int (xs (i + 2)), .ref o]) (rest := []) ⟨hx, hb, hml, hown, hts⟩ (w_instruction_3 l htr dC dI ad ca o co fo N σx (xs (i + 1)) (xs (i + 2)) v hF H.size) WSk rfl rfl ⟨by decide, by decide⟩ k_698 k_776 k_813 k_814 (by decide +kernel) ⟨vq_blindN, vq_hereN hnc hst hS hN hPc hKc hDc⟩ rfl rfl hl.1 rfl (lv_room (Nat.le_of_ble_eq_true rfl)) d_L_law_424 ⟨by omega, by omega⟩) hS (fun q _ h => hFc q h) hFc (fun r u t H1 locs ht hvm hw hB hz1 hk1 hS => ?_)
  obtain ⟨hP1, -, hD1⟩ := hB
  rw [ht] at hP1
  have hw : r = 2 := hw
  subst hw
  obtain ⟨hP, hD⟩ := jn_xo hP hD hk1 hFc hP1 hD1
  generalize H1 = H at hP hS ⊢
  refine lv_istore (lv' := [(5, .int 2), (4, .int (nI i)), (3, .ref o), (2, .ref (bd 0)), (1, .ref (ad 0)), (0, .ref b)]) hx hb d_L_law_427 hl (by decide) rfl (fun ls hl => ?_)
  refine lv_aload_n hx hb d_L_law_429 rfl (lv_at hl 3 rfl) ?_
  refine lv_aload_n hx hb d_L_law_430 rfl (lv_at hl 5 rfl) ?_
  refine lv_iload hx hb d_L_law_431 (lv_at hl 1 rfl) ?_
  refine lv_iconst (v := 1) hx hb d_L_law_433 (by decide) ?_
  refine lv_iadd hx hb d_L_law_434 ?_
  refine vq_top (y := nI (i + 1)) (nI_add i 1) ?_
  refine va_sld (i := nI (i + 1)) hx hb hX hbl hbA hS (vp_in_nI (by omega) (by omega)) d_L_law_435 ?_
  refine vq_top (y := xs (i + 1)) (by rw [nI_clamp (by omega)]) ?_
  refine lv_aload_n hx hb d_L_law_436 rfl (lv_at hl 5 rfl) ?_
  refine lv_iload hx hb d_L_law_437 (lv_at hl 1 rfl) ?_
  refine lv_iconst (v := 2) hx hb d_L_law_439 (by decide) ?_
  refine lv_iadd hx hb d_L_law_440 ?_
  refine vq_top (y := nI (i + 2)) (nI_add i 2) ?_
  refine va_sld (i := nI (i + 2)) hx hb hX hbl hbA hS (vp_in_nI (by omega) (by omega)) d_L_law_441 ?_
  refine vq_top (y := xs (i + 2)) (by rw [nI_clamp (by omega)]) ?_
  obtain ⟨hPc, hDc⟩ := sp_m hP hD
  have hKc := kt_m hK
  have hFc := fe_m hD hS hA
  refine va_calli (va_runV (As := [.int (xs (i + 1)), .int (xs (i + 2))]) (rest := []) ⟨hx, hb, hml, hown, hts⟩ (c_M_instruction l htr dC dI bd cb N σm (xs (i + 1)) (xs (i + 2)) u1 hG1 H.size) (vq_cV WSk hts 2 rfl rfl ⟨by decide, by decide⟩ k_488 k_367 k_815 k_816 k_817 (by decide +kernel)) ⟨vq_blind, va_recv hKc hPc (ci := 8) (q0 := 0) rfl rfl, vq_here hst hS hN hPc hKc hDc⟩ rfl rfl hl.1 rfl (lv_room (Nat.le_of_ble_eq_true rfl)) d_L_law_442 ⟨by omega, by omega⟩) hS (fun q _ h => hFc q h) hFc (fun r u t H1 locs ht hvm hw hB hz1 hk1 hS => ?_)
  obtain ⟨hP1, -, hD1⟩ := hB
  rw [ht] at hP1
  have hw : r = u1.1 := hw
  subst hw
  obtain ⟨hP, hD⟩ := jn_m hP hD hk1 hFc hP1 hD1
  generalize H1 = H at hP hS ⊢
  refine lv_istore (lv' := [(6, .int (u1.1)), (5, .int 2), (4, .int (nI i)), (3, .ref o), (2, .ref (bd 0)), (1, .ref (ad 0)), (0, .ref b)]) hx hb d_L_law_445 hl (by decide) rfl (fun ls hl => ?_)
  refine lv_goto (tgt := 761) hx hb d_L_law_447 (by decide) ?_
  exact next H locs ls (lv_sub hl [2, 3, 4, 5, 6] rfl) hP hD hS

set_option maxHeartbeats 8000000 in
set_option maxRecDepth 100000 in
theorem arm_8_0 {p : Program} {e : Env} {s : State} {m : MethodId} {below : List Frame} {meth : Method} {c : Code} (l : Launch) (htr : l.stackTraces = false) {b L i : Nat} {xs : Nat → Int32} {A : Nat → Prop} (dC : Nat → ClassId) (dI : Nat → Nat → Nat) (ad : Nat → Nat) (ca : Nat → ClassId) (o : Nat) (co : ClassId) (bd : Nat → Nat) (cb : Nat → ClassId) (N : Nat) (σx : vS) (fo : Nat → Int64) (σm : vS) (v : Int32 × vS) (u1 : Int32 × vS) {H : Heap} {locs : List Loc} {ls : Array Slot} {K S : Nat} {Q : State → Prop} (hF : f_V_node N σx (xs (i + 1)) (xs (i + 2)) (xs (i + 3)) (xs (i + 4)) (xs (i + 5)) = some ((0, v.1), v.2)) (hG1 : f_M_node N σm (xs (i + 1)) (xs (i + 2)) (xs (i + 3)) (xs (i + 4)) (xs (i + 5)) = some u1) (hL : L ≤ 3072) (hi : i + 6 ≤ L) (hKR : K + 1 ≤ 1107) (hSR : S + 6 ≤ 17414) (hx : p.tables.exec = Jvm.exec) (hb : c.code = code) (hml : c.maxLocals = 7) (hown : s.vm.findClass R_L = some m.cls) (hts : ∀ w ∈ WS, w.before #[Value.ref b] s = true) (hX : va_X b L xs s s.heap) (hbl : b < s.heap.size) (hst : vq_st s) (hnc : vq_nc s) (hA : ∀ q : Nat, s.heap.size ≤ q → A q) (hN : ∀ q : Nat, A q → ∀ cell : Cell, s.heap[q]? = some cell → cell.vm.isStatics = false) (hbA : ¬ A b) (hK : va_K (dC, dI) CL (LT ca co cb) s) (hP : va_P (dC, dI) CL (LW ad ca o co bd cb σx fo σm) H) (hD : va_D A (LW ad ca o co bd cb σx fo σm)) (hS : va_S A s.heap H locs) (hl : lv_has ls 7 [(4, .int (nI i)), (3, .ref o), (2, .ref (bd 0)), (1, .ref (ad 0)), (0, .ref b)])
    (next : ∀ (H : Heap) (locs : List Loc) (ls : Array Slot), lv_has ls 7 [(4, .int (nI i)), (3, .ref o), (2, .ref (bd 0)), (1, .ref (ad 0)), (0, .ref b)] → va_P (dC, dI) CL (LW ad ca o co bd cb v.2 (vp_updL fo (0 : Int32).toNatClampNeg v.1.toInt64) u1.2) H → va_D A (LW ad ca o co bd cb v.2 (vp_updL fo (0 : Int32).toNatClampNeg v.1.toInt64) u1.2) → va_S A s.heap H locs → W p l e room_1 s m #[Value.ref b] below meth c H locs (K + 0 + 0) (S + 0 + 0) Q (F0 m 761 ls [])) :
    W p l e room_1 s m #[Value.ref b] below meth c H locs K S Q (F0 m 450 ls []) := by
  have hR1 : room_1.cells = 1107 := rfl
  have hR2 : room_1.slots = 17414 := rfl
  refine lv_aload_n hx hb d_L_law_450 rfl (lv_at hl 3 rfl) ?_
  refine lv_aload_n hx hb d_L_law_451 rfl (lv_at hl 4 rfl) ?_
  refine lv_iload hx hb d_L_law_452 (lv_at hl 0 rfl) ?_
  refine lv_iconst (v := 1) hx hb d_L_law_454 (by decide) ?_
  refine lv_iadd hx hb d_L_law_455 ?_
  refine vq_top (y := nI (i + 1)) (nI_add i 1) ?_
  refine va_sld (i := nI (i + 1)) hx hb hX hbl hbA hS (vp_in_nI (by omega) (by omega)) d_L_law_456 ?_
  refine vq_top (y := xs (i + 1)) (by rw [nI_clamp (by omega)]) ?_
  refine lv_aload_n hx hb d_L_law_457 rfl (lv_at hl 4 rfl) ?_
  refine lv_iload hx hb d_L_law_458 (lv_at hl 0 rfl) ?_
  refine lv_iconst (v := 2) hx hb d_L_law_460 (by decide) ?_
  refine lv_iadd hx hb d_L_law_461 ?_
  refine vq_top (y := nI (i + 2)) (nI_add i 2) ?_
  refine va_sld (i := nI (i + 2)) hx hb hX hbl hbA hS (vp_in_nI (by omega) (by omega)) d_L_law_462 ?_
  refine vq_top (y := xs (i + 2)) (by rw [nI_clamp (by omega)]) ?_
  refine lv_aload_n hx hb d_L_law_463 rfl (lv_at hl 4 rfl) ?_
  refine lv_iload hx hb d_L_law_464 (lv_at hl 0 rfl) ?_
  refine lv_iconst (v := 3) hx hb d_L_law_466 (by decide) ?_
  refine lv_iadd hx hb d_L_law_467 ?_
  refine vq_top (y := nI (i + 3)) (nI_add i 3) ?_
  refine va_sld (i := nI (i + 3)) hx hb hX hbl hbA hS (vp_in_nI (by omega) (by omega)) d_L_law_468 ?_
  refine vq_top (y := xs (i + 3)) (by rw [nI_clamp (by omega)]) ?_
  refine lv_aload_n hx hb d_L_law_469 rfl (lv_at hl 4 rfl) ?_
  refine lv_iload hx hb d_L_law_470 (lv_at hl 0 rfl) ?_
  refine lv_iconst (v := 4) hx hb d_L_law_472 (by decide) ?_
  refine lv_iadd hx hb d_L_law_473 ?_
  refine vq_top (y := nI (i + 4)) (nI_add i 4) ?_
  refine va_sld (i := nI (i + 4)) hx hb hX hbl hbA hS (vp_in_nI (by omega) (by omega)) d_L_law_474 ?_
  refine vq_top (y := xs (i + 4)) (by rw [nI_clamp (by omega)]) ?_
  refine lv_aload_n hx hb d_L_law_475 rfl (lv_at hl 4 rfl) ?_
  refine lv_iload hx hb d_L_law_476 (lv_at hl 0 rfl) ?_
  refine lv_iconst (v := 5) hx hb d_L_law_478 (by decide) ?_
  refine lv_iadd hx hb d_L_law_479 ?_
  refine vq_top (y := nI (i + 5)) (nI_add i 5) ?_
  refine va_sld (i := nI (i + 5)) hx hb hX hbl hbA hS (vp_in_nI (by omega) (by omega)) d_L_law_480 ?_
  refine vq_top (y := xs (i + 5)) (by rw [nI_clamp (by omega)]) ?_
  refine lv_aload_n hx hb d_L_law_481 rfl (lv_at hl 1 rfl) ?_
  obtain ⟨hPc, hDc⟩ := sp_xo hP hD
  have hKc := kt_xo hK
  have hFc := fe_xo hD hS hA
  refine va_calli (vq_runSH (n := 7) (As := [.ref (ad 0), .int (xs (i + 1)), .int (xs (i + 2)), .int (xs (i + 3)), .int (xs (i + 4)), .int (xs (i + 5)), .ref o]) (rest := []) ⟨hx, hb, hml, hown, hts⟩ (w_node_0 l htr dC dI ad ca o co fo N σx (xs (i + 1)) (xs (i + 2)) (xs (i + 3)) (xs (i + 4)) (xs (i + 5)) v hF H.size) WSk rfl rfl ⟨by decide, by decide⟩ k_702 k_776 k_818 k_819 (by decide +kernel) ⟨vq_blindN, vq_hereN hnc hst hS hN hPc hKc hDc⟩ rfl rfl hl.1 rfl (lv_room (Nat.le_of_ble_eq_true rfl)) d_L_law_482 ⟨by omega, by omega⟩) hS (fun q _ h => hFc q h) hFc (fun r u t H1 locs ht hvm hw hB hz1 hk1 hS => ?_)
  obtain ⟨hP1, -, hD1⟩ := hB
  rw [ht] at hP1
  have hw : r = 0 := hw
  subst hw
  obtain ⟨hP, hD⟩ := jn_xo hP hD hk1 hFc hP1 hD1
  generalize H1 = H at hP hS ⊢
  refine lv_istore (lv' := [(5, .int 0), (4, .int (nI i)), (3, .ref o), (2, .ref (bd 0)), (1, .ref (ad 0)), (0, .ref b)]) hx hb d_L_law_485 hl (by decide) rfl (fun ls hl => ?_)
  refine lv_aload_n hx hb d_L_law_487 rfl (lv_at hl 3 rfl) ?_
  refine lv_aload_n hx hb d_L_law_488 rfl (lv_at hl 5 rfl) ?_
  refine lv_iload hx hb d_L_law_489 (lv_at hl 1 rfl) ?_
  refine lv_iconst (v := 1) hx hb d_L_law_491 (by decide) ?_
  refine lv_iadd hx hb d_L_law_492 ?_
  refine vq_top (y := nI (i + 1)) (nI_add i 1) ?_
  refine va_sld (i := nI (i + 1)) hx hb hX hbl hbA hS (vp_in_nI (by omega) (by omega)) d_L_law_493 ?_
  refine vq_top (y := xs (i + 1)) (by rw [nI_clamp (by omega)]) ?_
  refine lv_aload_n hx hb d_L_law_494 rfl (lv_at hl 5 rfl) ?_
  refine lv_iload hx hb d_L_law_495 (lv_at hl 1 rfl) ?_
  refine lv_iconst (v := 2) hx hb d_L_law_497 (by decide) ?_
  refine lv_iadd hx hb d_L_law_498 ?_
  refine vq_top (y := nI (i + 2)) (nI_add i 2) ?_
  refine va_sld (i := nI (i + 2)) hx hb hX hbl hbA hS (vp_in_nI (by omega) (by omega)) d_L_law_499 ?_
  refine vq_top (y := xs (i + 2)) (by rw [nI_clamp (by omega)]) ?_
  refine lv_aload_n hx hb d_L_law_500 rfl (lv_at hl 5 rfl) ?_
  refine lv_iload hx hb d_L_law_501 (lv_at hl 1 rfl) ?_
  refine lv_iconst (v := 3) hx hb d_L_law_503 (by decide) ?_
  refine lv_iadd hx hb d_L_law_504 ?_
  refine vq_top (y := nI (i + 3)) (nI_add i 3) ?_
  refine va_sld (i := nI (i + 3)) hx hb hX hbl hbA hS (vp_in_nI (by omega) (by omega)) d_L_law_505 ?_
  refine vq_top (y := xs (i + 3)) (by rw [nI_clamp (by omega)]) ?_
  refine lv_aload_n hx hb d_L_law_506 rfl (lv_at hl 5 rfl) ?_
  refine lv_iload hx hb d_L_law_507 (lv_at hl 1 rfl) ?_
  refine lv_iconst (v := 4) hx hb d_L_law_509 (by decide) ?_
  refine lv_iadd hx hb d_L_law_510 ?_
  refine vq_top (y := nI (i + 4)) (nI_add i 4) ?_
  refine va_sld (i := nI (i + 4)) hx hb hX hbl hbA hS (vp_in_nI (by omega) (by omega)) d_L_law_511 ?_
  refine vq_top (y := xs (i + 4)) (by rw [nI_clamp (by omega)]) ?_
  refine lv_aload_n hx hb d_L_law_512 rfl (lv_at hl 5 rfl) ?_
  refine lv_iload hx hb d_L_law_513 (lv_at hl 1 rfl) ?_
  refine lv_iconst (v := 5) hx hb d_L_law_515 (by decide) ?_
  refine lv_iadd hx hb d_L_law_516 ?_
  refine vq_top (y := nI (i + 5)) (nI_add i 5) ?_
  refine va_sld (i := nI (i + 5)) hx hb hX hbl hbA hS (vp_in_nI (by omega) (by omega)) d_L_law_517 ?_
  refine vq_top (y := xs (i + 5)) (by rw [nI_clamp (by omega)]) ?_
  obtain ⟨hPc, hDc⟩ := sp_m hP hD
  have hKc := kt_m hK
  have hFc := fe_m hD hS hA
  refine va_calli (va_runV (As := [.int (xs (i + 1)), .int (xs (i + 2)), .int (xs (i + 3)), .int (xs (i + 4)), .int (xs (i + 5))]) (rest := []) ⟨hx, hb, hml, hown, hts⟩ (c_M_node l htr dC dI bd cb N σm (xs (i + 1)) (xs (i + 2)) (xs (i + 3)) (xs (i + 4)) (xs (i + 5)) u1 hG1 H.size) (vq_cV WSk hts 5 rfl rfl ⟨by decide, by decide⟩ k_493 k_367 k_820 k_821 k_822 (by decide +kernel)) ⟨vq_blind, va_recv hKc hPc (ci := 8) (q0 := 0) rfl rfl, vq_here hst hS hN hPc hKc hDc⟩ rfl rfl hl.1 rfl (lv_room (Nat.le_of_ble_eq_true rfl)) d_L_law_518 ⟨by omega, by omega⟩) hS (fun q _ h => hFc q h) hFc (fun r u t H1 locs ht hvm hw hB hz1 hk1 hS => ?_)
  obtain ⟨hP1, -, hD1⟩ := hB
  rw [ht] at hP1
  have hw : r = u1.1 := hw
  subst hw
  obtain ⟨hP, hD⟩ := jn_m hP hD hk1 hFc hP1 hD1
  generalize H1 = H at hP hS ⊢
  refine lv_istore (lv' := [(6, .int (u1.1)), (5, .int 0), (4, .int (nI i)), (3, .ref o), (2, .ref (bd 0)), (1, .ref (ad 0)), (0, .ref b)]) hx hb d_L_law_521 hl (by decide) rfl (fun ls hl => ?_)
  refine lv_goto (tgt := 761) hx hb d_L_law_523 (by decide) ?_
  exact next H locs ls (lv_sub hl [2, 3, 4, 5, 6] rfl) hP hD hS

set_option maxHeartbeats 8000000 in
set_option maxRecDepth 100000 in
theorem arm_8_1 {p : Program} {e : Env} {s : State} {m : MethodId} {below : List Frame} {meth : Method} {c : Code} (l : Launch) (htr : l.stackTraces = false) {b L i : Nat} {xs : Nat → Int32} {A : Nat → Prop} (dC : Nat → ClassId) (dI : Nat → Nat → Nat) (ad : Nat → Nat) (ca : Nat → ClassId) (o : Nat) (co : ClassId) (bd : Nat → Nat) (cb : Nat → ClassId) (N : Nat) (σx : vS) (fo : Nat → Int64) (σm : vS) (v : Int32 × vS) (u1 : Int32 × vS) {H : Heap} {locs : List Loc} {ls : Array Slot} {K S : Nat} {Q : State → Prop} (hF : f_V_node N σx (xs (i + 1)) (xs (i + 2)) (xs (i + 3)) (xs (i + 4)) (xs (i + 5)) = some ((1, v.1), v.2)) (hG1 : f_M_node N σm (xs (i + 1)) (xs (i + 2)) (xs (i + 3)) (xs (i + 4)) (xs (i + 5)) = some u1) (hL : L ≤ 3072) (hi : i + 6 ≤ L) (hKR : K + 1 ≤ 1107) (hSR : S + 6 ≤ 17414) (hx : p.tables.exec = Jvm.exec) (hb : c.code = code) (hml : c.maxLocals = 7) (hown : s.vm.findClass R_L = some m.cls) (hts : ∀ w ∈ WS, w.before #[Value.ref b] s = true) (hX : va_X b L xs s s.heap) (hbl : b < s.heap.size) (hst : vq_st s) (hnc : vq_nc s) (hA : ∀ q : Nat, s.heap.size ≤ q → A q) (hN : ∀ q : Nat, A q → ∀ cell : Cell, s.heap[q]? = some cell → cell.vm.isStatics = false) (hbA : ¬ A b) (hK : va_K (dC, dI) CL (LT ca co cb) s) (hP : va_P (dC, dI) CL (LW ad ca o co bd cb σx fo σm) H) (hD : va_D A (LW ad ca o co bd cb σx fo σm)) (hS : va_S A s.heap H locs) (hl : lv_has ls 7 [(4, .int (nI i)), (3, .ref o), (2, .ref (bd 0)), (1, .ref (ad 0)), (0, .ref b)])
    (next : ∀ (H : Heap) (locs : List Loc) (ls : Array Slot), lv_has ls 7 [(4, .int (nI i)), (3, .ref o), (2, .ref (bd 0)), (1, .ref (ad 0)), (0, .ref b)] → va_P (dC, dI) CL (LW ad ca o co bd cb v.2 fo u1.2) H → va_D A (LW ad ca o co bd cb v.2 fo u1.2) → va_S A s.heap H locs → W p l e room_1 s m #[Value.ref b] below meth c H locs (K + 1 + 0) (S + 6 + 0) Q (F0 m 761 ls [])) :
    W p l e room_1 s m #[Value.ref b] below meth c H locs K S Q (F0 m 450 ls []) := by
  have hR1 : room_1.cells = 1107 := rfl
  have hR2 : room_1.slots = 17414 := rfl
  refine lv_aload_n hx hb d_L_law_450 rfl (lv_at hl 3 rfl) ?_
  refine lv_aload_n hx hb d_L_law_451 rfl (lv_at hl 4 rfl) ?_
  refine lv_iload hx hb d_L_law_452 (lv_at hl 0 rfl) ?_
  refine lv_iconst (v := 1) hx hb d_L_law_454 (by decide) ?_
  refine lv_iadd hx hb d_L_law_455 ?_
  refine vq_top (y := nI (i + 1)) (nI_add i 1) ?_
  refine va_sld (i := nI (i + 1)) hx hb hX hbl hbA hS (vp_in_nI (by omega) (by omega)) d_L_law_456 ?_
  refine vq_top (y := xs (i + 1)) (by rw [nI_clamp (by omega)]) ?_
  refine lv_aload_n hx hb d_L_law_457 rfl (lv_at hl 4 rfl) ?_
  refine lv_iload hx hb d_L_law_458 (lv_at hl 0 rfl) ?_
  refine lv_iconst (v := 2) hx hb d_L_law_460 (by decide) ?_
  refine lv_iadd hx hb d_L_law_461 ?_
  refine vq_top (y := nI (i + 2)) (nI_add i 2) ?_
  refine va_sld (i := nI (i + 2)) hx hb hX hbl hbA hS (vp_in_nI (by omega) (by omega)) d_L_law_462 ?_
  refine vq_top (y := xs (i + 2)) (by rw [nI_clamp (by omega)]) ?_
  refine lv_aload_n hx hb d_L_law_463 rfl (lv_at hl 4 rfl) ?_
  refine lv_iload hx hb d_L_law_464 (lv_at hl 0 rfl) ?_
  refine lv_iconst (v := 3) hx hb d_L_law_466 (by decide) ?_
  refine lv_iadd hx hb d_L_law_467 ?_
  refine vq_top (y := nI (i + 3)) (nI_add i 3) ?_
  refine va_sld (i := nI (i + 3)) hx hb hX hbl hbA hS (vp_in_nI (by omega) (by omega)) d_L_law_468 ?_
  refine vq_top (y := xs (i + 3)) (by rw [nI_clamp (by omega)]) ?_
  refine lv_aload_n hx hb d_L_law_469 rfl (lv_at hl 4 rfl) ?_
  refine lv_iload hx hb d_L_law_470 (lv_at hl 0 rfl) ?_
  refine lv_iconst (v := 4) hx hb d_L_law_472 (by decide) ?_
  refine lv_iadd hx hb d_L_law_473 ?_
  refine vq_top (y := nI (i + 4)) (nI_add i 4) ?_
  refine va_sld (i := nI (i + 4)) hx hb hX hbl hbA hS (vp_in_nI (by omega) (by omega)) d_L_law_474 ?_
  refine vq_top (y := xs (i + 4)) (by rw [nI_clamp (by omega)]) ?_
  refine lv_aload_n hx hb d_L_law_475 rfl (lv_at hl 4 rfl) ?_
  refine lv_iload hx hb d_L_law_476 (lv_at hl 0 rfl) ?_
  refine lv_iconst (v := 5) hx hb d_L_law_478 (by decide) ?_
  refine lv_iadd hx hb d_L_law_479 ?_
  refine vq_top (y := nI (i + 5)) (nI_add i 5) ?_
  refine va_sld (i := nI (i + 5)) hx hb hX hbl hbA hS (vp_in_nI (by omega) (by omega)) d_L_law_480 ?_
  refine vq_top (y := xs (i + 5)) (by rw [nI_clamp (by omega)]) ?_
  refine lv_aload_n hx hb d_L_law_481 rfl (lv_at hl 1 rfl) ?_
  obtain ⟨hPc, hDc⟩ := sp_xo hP hD
  have hKc := kt_xo hK
  have hFc := fe_xo hD hS hA
  refine va_calli (vq_runSH (n := 7) (As := [.ref (ad 0), .int (xs (i + 1)), .int (xs (i + 2)), .int (xs (i + 3)), .int (xs (i + 4)), .int (xs (i + 5)), .ref o]) (rest := []) ⟨hx, hb, hml, hown, hts⟩ (w_node_1 l htr dC dI ad ca o co fo N σx (xs (i + 1)) (xs (i + 2)) (xs (i + 3)) (xs (i + 4)) (xs (i + 5)) v hF H.size) WSk rfl rfl ⟨by decide, by decide⟩ k_702 k_776 k_818 k_819 (by decide +kernel) ⟨vq_blindN, vq_hereN hnc hst hS hN hPc hKc hDc⟩ rfl rfl hl.1 rfl (lv_room (Nat.le_of_ble_eq_true rfl)) d_L_law_482 ⟨by omega, by omega⟩) hS (fun q _ h => hFc q h) hFc (fun r u t H1 locs ht hvm hw hB hz1 hk1 hS => ?_)
  obtain ⟨hP1, -, hD1⟩ := hB
  rw [ht] at hP1
  have hw : r = 1 := hw
  subst hw
  obtain ⟨hP, hD⟩ := jn_xo hP hD hk1 hFc hP1 hD1
  generalize H1 = H at hP hS ⊢
  refine lv_istore (lv' := [(5, .int 1), (4, .int (nI i)), (3, .ref o), (2, .ref (bd 0)), (1, .ref (ad 0)), (0, .ref b)]) hx hb d_L_law_485 hl (by decide) rfl (fun ls hl => ?_)
  refine lv_aload_n hx hb d_L_law_487 rfl (lv_at hl 3 rfl) ?_
  refine lv_aload_n hx hb d_L_law_488 rfl (lv_at hl 5 rfl) ?_
  refine lv_iload hx hb d_L_law_489 (lv_at hl 1 rfl) ?_
  refine lv_iconst (v := 1) hx hb d_L_law_491 (by decide) ?_
  refine lv_iadd hx hb d_L_law_492 ?_
  refine vq_top (y := nI (i + 1)) (nI_add i 1) ?_
  refine va_sld (i := nI (i + 1)) hx hb hX hbl hbA hS (vp_in_nI (by omega) (by omega)) d_L_law_493 ?_
  refine vq_top (y := xs (i + 1)) (by rw [nI_clamp (by omega)]) ?_
  refine lv_aload_n hx hb d_L_law_494 rfl (lv_at hl 5 rfl) ?_
  refine lv_iload hx hb d_L_law_495 (lv_at hl 1 rfl) ?_
  refine lv_iconst (v := 2) hx hb d_L_law_497 (by decide) ?_
  refine lv_iadd hx hb d_L_law_498 ?_
  refine vq_top (y := nI (i + 2)) (nI_add i 2) ?_
  refine va_sld (i := nI (i + 2)) hx hb hX hbl hbA hS (vp_in_nI (by omega) (by omega)) d_L_law_499 ?_
  refine vq_top (y := xs (i + 2)) (by rw [nI_clamp (by omega)]) ?_
  refine lv_aload_n hx hb d_L_law_500 rfl (lv_at hl 5 rfl) ?_
  refine lv_iload hx hb d_L_law_501 (lv_at hl 1 rfl) ?_
  refine lv_iconst (v := 3) hx hb d_L_law_503 (by decide) ?_
  refine lv_iadd hx hb d_L_law_504 ?_
  refine vq_top (y := nI (i + 3)) (nI_add i 3) ?_
  refine va_sld (i := nI (i + 3)) hx hb hX hbl hbA hS (vp_in_nI (by omega) (by omega)) d_L_law_505 ?_
  refine vq_top (y := xs (i + 3)) (by rw [nI_clamp (by omega)]) ?_
  refine lv_aload_n hx hb d_L_law_506 rfl (lv_at hl 5 rfl) ?_
  refine lv_iload hx hb d_L_law_507 (lv_at hl 1 rfl) ?_
  refine lv_iconst (v := 4) hx hb d_L_law_509 (by decide) ?_
  refine lv_iadd hx hb d_L_law_510 ?_
  refine vq_top (y := nI (i + 4)) (nI_add i 4) ?_
  refine va_sld (i := nI (i + 4)) hx hb hX hbl hbA hS (vp_in_nI (by omega) (by omega)) d_L_law_511 ?_
  refine vq_top (y := xs (i + 4)) (by rw [nI_clamp (by omega)]) ?_
  refine lv_aload_n hx hb d_L_law_512 rfl (lv_at hl 5 rfl) ?_
  refine lv_iload hx hb d_L_law_513 (lv_at hl 1 rfl) ?_
  refine lv_iconst (v := 5) hx hb d_L_law_515 (by decide) ?_
  refine lv_iadd hx hb d_L_law_516 ?_
  refine vq_top (y := nI (i + 5)) (nI_add i 5) ?_
  refine va_sld (i := nI (i + 5)) hx hb hX hbl hbA hS (vp_in_nI (by omega) (by omega)) d_L_law_517 ?_
  refine vq_top (y := xs (i + 5)) (by rw [nI_clamp (by omega)]) ?_
  obtain ⟨hPc, hDc⟩ := sp_m hP hD
  have hKc := kt_m hK
  have hFc := fe_m hD hS hA
  refine va_calli (va_runV (As := [.int (xs (i + 1)), .int (xs (i + 2)), .int (xs (i + 3)), .int (xs (i + 4)), .int (xs (i + 5))]) (rest := []) ⟨hx, hb, hml, hown, hts⟩ (c_M_node l htr dC dI bd cb N σm (xs (i + 1)) (xs (i + 2)) (xs (i + 3)) (xs (i + 4)) (xs (i + 5)) u1 hG1 H.size) (vq_cV WSk hts 5 rfl rfl ⟨by decide, by decide⟩ k_493 k_367 k_820 k_821 k_822 (by decide +kernel)) ⟨vq_blind, va_recv hKc hPc (ci := 8) (q0 := 0) rfl rfl, vq_here hst hS hN hPc hKc hDc⟩ rfl rfl hl.1 rfl (lv_room (Nat.le_of_ble_eq_true rfl)) d_L_law_518 ⟨by omega, by omega⟩) hS (fun q _ h => hFc q h) hFc (fun r u t H1 locs ht hvm hw hB hz1 hk1 hS => ?_)
  obtain ⟨hP1, -, hD1⟩ := hB
  rw [ht] at hP1
  have hw : r = u1.1 := hw
  subst hw
  obtain ⟨hP, hD⟩ := jn_m hP hD hk1 hFc hP1 hD1
  generalize H1 = H at hP hS ⊢
  refine lv_istore (lv' := [(6, .int (u1.1)), (5, .int 1), (4, .int (nI i)), (3, .ref o), (2, .ref (bd 0)), (1, .ref (ad 0)), (0, .ref b)]) hx hb d_L_law_521 hl (by decide) rfl (fun ls hl => ?_)
  refine lv_goto (tgt := 761) hx hb d_L_law_523 (by decide) ?_
  exact next H locs ls (lv_sub hl [2, 3, 4, 5, 6] rfl) hP hD hS

set_option maxHeartbeats 8000000 in
set_option maxRecDepth 100000 in
theorem arm_8_2 {p : Program} {e : Env} {s : State} {m : MethodId} {below : List Frame} {meth : Method} {c : Code} (l : Launch) (htr : l.stackTraces = false) {b L i : Nat} {xs : Nat → Int32} {A : Nat → Prop} (dC : Nat → ClassId) (dI : Nat → Nat → Nat) (ad : Nat → Nat) (ca : Nat → ClassId) (o : Nat) (co : ClassId) (bd : Nat → Nat) (cb : Nat → ClassId) (N : Nat) (σx : vS) (fo : Nat → Int64) (σm : vS) (v : Int32 × vS) (u1 : Int32 × vS) {H : Heap} {locs : List Loc} {ls : Array Slot} {K S : Nat} {Q : State → Prop} (hF : f_V_node N σx (xs (i + 1)) (xs (i + 2)) (xs (i + 3)) (xs (i + 4)) (xs (i + 5)) = some ((2, v.1), v.2)) (hG1 : f_M_node N σm (xs (i + 1)) (xs (i + 2)) (xs (i + 3)) (xs (i + 4)) (xs (i + 5)) = some u1) (hL : L ≤ 3072) (hi : i + 6 ≤ L) (hKR : K + 1 ≤ 1107) (hSR : S + 6 ≤ 17414) (hx : p.tables.exec = Jvm.exec) (hb : c.code = code) (hml : c.maxLocals = 7) (hown : s.vm.findClass R_L = some m.cls) (hts : ∀ w ∈ WS, w.before #[Value.ref b] s = true) (hX : va_X b L xs s s.heap) (hbl : b < s.heap.size) (hst : vq_st s) (hnc : vq_nc s) (hA : ∀ q : Nat, s.heap.size ≤ q → A q) (hN : ∀ q : Nat, A q → ∀ cell : Cell, s.heap[q]? = some cell → cell.vm.isStatics = false) (hbA : ¬ A b) (hK : va_K (dC, dI) CL (LT ca co cb) s) (hP : va_P (dC, dI) CL (LW ad ca o co bd cb σx fo σm) H) (hD : va_D A (LW ad ca o co bd cb σx fo σm)) (hS : va_S A s.heap H locs) (hl : lv_has ls 7 [(4, .int (nI i)), (3, .ref o), (2, .ref (bd 0)), (1, .ref (ad 0)), (0, .ref b)])
    (next : ∀ (H : Heap) (locs : List Loc) (ls : Array Slot), lv_has ls 7 [(4, .int (nI i)), (3, .ref o), (2, .ref (bd 0)), (1, .ref (ad 0)), (0, .ref b)] → va_P (dC, dI) CL (LW ad ca o co bd cb v.2 fo u1.2) H → va_D A (LW ad ca o co bd cb v.2 fo u1.2) → va_S A s.heap H locs → W p l e room_1 s m #[Value.ref b] below meth c H locs (K + 1 + 0) (S + 6 + 0) Q (F0 m 761 ls [])) :
    W p l e room_1 s m #[Value.ref b] below meth c H locs K S Q (F0 m 450 ls []) := by
  have hR1 : room_1.cells = 1107 := rfl
  have hR2 : room_1.slots = 17414 := rfl
  refine lv_aload_n hx hb d_L_law_450 rfl (lv_at hl 3 rfl) ?_
  refine lv_aload_n hx hb d_L_law_451 rfl (lv_at hl 4 rfl) ?_
  refine lv_iload hx hb d_L_law_452 (lv_at hl 0 rfl) ?_
  refine lv_iconst (v := 1) hx hb d_L_law_454 (by decide) ?_
  refine lv_iadd hx hb d_L_law_455 ?_
  refine vq_top (y := nI (i + 1)) (nI_add i 1) ?_
  refine va_sld (i := nI (i + 1)) hx hb hX hbl hbA hS (vp_in_nI (by omega) (by omega)) d_L_law_456 ?_
  refine vq_top (y := xs (i + 1)) (by rw [nI_clamp (by omega)]) ?_
  refine lv_aload_n hx hb d_L_law_457 rfl (lv_at hl 4 rfl) ?_
  refine lv_iload hx hb d_L_law_458 (lv_at hl 0 rfl) ?_
  refine lv_iconst (v := 2) hx hb d_L_law_460 (by decide) ?_
  refine lv_iadd hx hb d_L_law_461 ?_
  refine vq_top (y := nI (i + 2)) (nI_add i 2) ?_
  refine va_sld (i := nI (i + 2)) hx hb hX hbl hbA hS (vp_in_nI (by omega) (by omega)) d_L_law_462 ?_
  refine vq_top (y := xs (i + 2)) (by rw [nI_clamp (by omega)]) ?_
  refine lv_aload_n hx hb d_L_law_463 rfl (lv_at hl 4 rfl) ?_
  refine lv_iload hx hb d_L_law_464 (lv_at hl 0 rfl) ?_
  refine lv_iconst (v := 3) hx hb d_L_law_466 (by decide) ?_
  refine lv_iadd hx hb d_L_law_467 ?_
  refine vq_top (y := nI (i + 3)) (nI_add i 3) ?_
  refine va_sld (i := nI (i + 3)) hx hb hX hbl hbA hS (vp_in_nI (by omega) (by omega)) d_L_law_468 ?_
  refine vq_top (y := xs (i + 3)) (by rw [nI_clamp (by omega)]) ?_
  refine lv_aload_n hx hb d_L_law_469 rfl (lv_at hl 4 rfl) ?_
  refine lv_iload hx hb d_L_law_470 (lv_at hl 0 rfl) ?_
  refine lv_iconst (v := 4) hx hb d_L_law_472 (by decide) ?_
  refine lv_iadd hx hb d_L_law_473 ?_
  refine vq_top (y := nI (i + 4)) (nI_add i 4) ?_
  refine va_sld (i := nI (i + 4)) hx hb hX hbl hbA hS (vp_in_nI (by omega) (by omega)) d_L_law_474 ?_
  refine vq_top (y := xs (i + 4)) (by rw [nI_clamp (by omega)]) ?_
  refine lv_aload_n hx hb d_L_law_475 rfl (lv_at hl 4 rfl) ?_
  refine lv_iload hx hb d_L_law_476 (lv_at hl 0 rfl) ?_
  refine lv_iconst (v := 5) hx hb d_L_law_478 (by decide) ?_
  refine lv_iadd hx hb d_L_law_479 ?_
  refine vq_top (y := nI (i + 5)) (nI_add i 5) ?_
  refine va_sld (i := nI (i + 5)) hx hb hX hbl hbA hS (vp_in_nI (by omega) (by omega)) d_L_law_480 ?_
  refine vq_top (y := xs (i + 5)) (by rw [nI_clamp (by omega)]) ?_
  refine lv_aload_n hx hb d_L_law_481 rfl (lv_at hl 1 rfl) ?_
  obtain ⟨hPc, hDc⟩ := sp_xo hP hD
  have hKc := kt_xo hK
  have hFc := fe_xo hD hS hA
  refine va_calli (vq_runSH (n := 7) (As := [.ref (ad 0), .int (xs (i + 1)), .int (xs (i + 2)), .int (xs (i + 3)), .int (xs (i + 4)), .int (xs (i + 5)), .ref o]) (rest := []) ⟨hx, hb, hml, hown, hts⟩ (w_node_2 l htr dC dI ad ca o co fo N σx (xs (i + 1)) (xs (i + 2)) (xs (i + 3)) (xs (i + 4)) (xs (i + 5)) v hF H.size) WSk rfl rfl ⟨by decide, by decide⟩ k_702 k_776 k_818 k_819 (by decide +kernel) ⟨vq_blindN, vq_hereN hnc hst hS hN hPc hKc hDc⟩ rfl rfl hl.1 rfl (lv_room (Nat.le_of_ble_eq_true rfl)) d_L_law_482 ⟨by omega, by omega⟩) hS (fun q _ h => hFc q h) hFc (fun r u t H1 locs ht hvm hw hB hz1 hk1 hS => ?_)
  obtain ⟨hP1, -, hD1⟩ := hB
  rw [ht] at hP1
  have hw : r = 2 := hw
  subst hw
  obtain ⟨hP, hD⟩ := jn_xo hP hD hk1 hFc hP1 hD1
  generalize H1 = H at hP hS ⊢
  refine lv_istore (lv' := [(5, .int 2), (4, .int (nI i)), (3, .ref o), (2, .ref (bd 0)), (1, .ref (ad 0)), (0, .ref b)]) hx hb d_L_law_485 hl (by decide) rfl (fun ls hl => ?_)
  refine lv_aload_n hx hb d_L_law_487 rfl (lv_at hl 3 rfl) ?_
  refine lv_aload_n hx hb d_L_law_488 rfl (lv_at hl 5 rfl) ?_
  refine lv_iload hx hb d_L_law_489 (lv_at hl 1 rfl) ?_
  refine lv_iconst (v := 1) hx hb d_L_law_491 (by decide) ?_
  refine lv_iadd hx hb d_L_law_492 ?_
  refine vq_top (y := nI (i + 1)) (nI_add i 1) ?_
  refine va_sld (i := nI (i + 1)) hx hb hX hbl hbA hS (vp_in_nI (by omega) (by omega)) d_L_law_493 ?_
  refine vq_top (y := xs (i + 1)) (by rw [nI_clamp (by omega)]) ?_
  refine lv_aload_n hx hb d_L_law_494 rfl (lv_at hl 5 rfl) ?_
  refine lv_iload hx hb d_L_law_495 (lv_at hl 1 rfl) ?_
  refine lv_iconst (v := 2) hx hb d_L_law_497 (by decide) ?_
  refine lv_iadd hx hb d_L_law_498 ?_
  refine vq_top (y := nI (i + 2)) (nI_add i 2) ?_
  refine va_sld (i := nI (i + 2)) hx hb hX hbl hbA hS (vp_in_nI (by omega) (by omega)) d_L_law_499 ?_
  refine vq_top (y := xs (i + 2)) (by rw [nI_clamp (by omega)]) ?_
  refine lv_aload_n hx hb d_L_law_500 rfl (lv_at hl 5 rfl) ?_
  refine lv_iload hx hb d_L_law_501 (lv_at hl 1 rfl) ?_
  refine lv_iconst (v := 3) hx hb d_L_law_503 (by decide) ?_
  refine lv_iadd hx hb d_L_law_504 ?_
  refine vq_top (y := nI (i + 3)) (nI_add i 3) ?_
  refine va_sld (i := nI (i + 3)) hx hb hX hbl hbA hS (vp_in_nI (by omega) (by omega)) d_L_law_505 ?_
  refine vq_top (y := xs (i + 3)) (by rw [nI_clamp (by omega)]) ?_
  refine lv_aload_n hx hb d_L_law_506 rfl (lv_at hl 5 rfl) ?_
  refine lv_iload hx hb d_L_law_507 (lv_at hl 1 rfl) ?_
  refine lv_iconst (v := 4) hx hb d_L_law_509 (by decide) ?_
  refine lv_iadd hx hb d_L_law_510 ?_
  refine vq_top (y := nI (i + 4)) (nI_add i 4) ?_
  refine va_sld (i := nI (i + 4)) hx hb hX hbl hbA hS (vp_in_nI (by omega) (by omega)) d_L_law_511 ?_
  refine vq_top (y := xs (i + 4)) (by rw [nI_clamp (by omega)]) ?_
  refine lv_aload_n hx hb d_L_law_512 rfl (lv_at hl 5 rfl) ?_
  refine lv_iload hx hb d_L_law_513 (lv_at hl 1 rfl) ?_
  refine lv_iconst (v := 5) hx hb d_L_law_515 (by decide) ?_
  refine lv_iadd hx hb d_L_law_516 ?_
  refine vq_top (y := nI (i + 5)) (nI_add i 5) ?_
  refine va_sld (i := nI (i + 5)) hx hb hX hbl hbA hS (vp_in_nI (by omega) (by omega)) d_L_law_517 ?_
  refine vq_top (y := xs (i + 5)) (by rw [nI_clamp (by omega)]) ?_
  obtain ⟨hPc, hDc⟩ := sp_m hP hD
  have hKc := kt_m hK
  have hFc := fe_m hD hS hA
  refine va_calli (va_runV (As := [.int (xs (i + 1)), .int (xs (i + 2)), .int (xs (i + 3)), .int (xs (i + 4)), .int (xs (i + 5))]) (rest := []) ⟨hx, hb, hml, hown, hts⟩ (c_M_node l htr dC dI bd cb N σm (xs (i + 1)) (xs (i + 2)) (xs (i + 3)) (xs (i + 4)) (xs (i + 5)) u1 hG1 H.size) (vq_cV WSk hts 5 rfl rfl ⟨by decide, by decide⟩ k_493 k_367 k_820 k_821 k_822 (by decide +kernel)) ⟨vq_blind, va_recv hKc hPc (ci := 8) (q0 := 0) rfl rfl, vq_here hst hS hN hPc hKc hDc⟩ rfl rfl hl.1 rfl (lv_room (Nat.le_of_ble_eq_true rfl)) d_L_law_518 ⟨by omega, by omega⟩) hS (fun q _ h => hFc q h) hFc (fun r u t H1 locs ht hvm hw hB hz1 hk1 hS => ?_)
  obtain ⟨hP1, -, hD1⟩ := hB
  rw [ht] at hP1
  have hw : r = u1.1 := hw
  subst hw
  obtain ⟨hP, hD⟩ := jn_m hP hD hk1 hFc hP1 hD1
  generalize H1 = H at hP hS ⊢
  refine lv_istore (lv' := [(6, .int (u1.1)), (5, .int 2), (4, .int (nI i)), (3, .ref o), (2, .ref (bd 0)), (1, .ref (ad 0)), (0, .ref b)]) hx hb d_L_law_521 hl (by decide) rfl (fun ls hl => ?_)
  refine lv_goto (tgt := 761) hx hb d_L_law_523 (by decide) ?_
  exact next H locs ls (lv_sub hl [2, 3, 4, 5, 6] rfl) hP hD hS

set_option maxHeartbeats 8000000 in
set_option maxRecDepth 100000 in
theorem arm_9 {p : Program} {e : Env} {s : State} {m : MethodId} {below : List Frame} {meth : Method} {c : Code} (l : Launch) (htr : l.stackTraces = false) {b L i : Nat} {xs : Nat → Int32} {A : Nat → Prop} (dC : Nat → ClassId) (dI : Nat → Nat → Nat) (ad : Nat → Nat) (ca : Nat → ClassId) (o : Nat) (co : ClassId) (bd : Nat → Nat) (cb : Nat → ClassId) (N : Nat) (σx : vS) (fo : Nat → Int64) (σm : vS) (u1 : Int32 × vS) (u2 : Int32 × vS) {H : Heap} {locs : List Loc} {ls : Array Slot} {K S : Nat} {Q : State → Prop} (hG1 : f_V_fell N σx = some u1) (hG2 : f_M_fell N σm = some u2) (hL : L ≤ 3072) (hi : i + 6 ≤ L) (hKR : K + 1 ≤ 1107) (hSR : S + 6 ≤ 17414) (hx : p.tables.exec = Jvm.exec) (hb : c.code = code) (hml : c.maxLocals = 7) (hown : s.vm.findClass R_L = some m.cls) (hts : ∀ w ∈ WS, w.before #[Value.ref b] s = true) (hX : va_X b L xs s s.heap) (hbl : b < s.heap.size) (hst : vq_st s) (hnc : vq_nc s) (hA : ∀ q : Nat, s.heap.size ≤ q → A q) (hN : ∀ q : Nat, A q → ∀ cell : Cell, s.heap[q]? = some cell → cell.vm.isStatics = false) (hbA : ¬ A b) (hK : va_K (dC, dI) CL (LT ca co cb) s) (hP : va_P (dC, dI) CL (LW ad ca o co bd cb σx fo σm) H) (hD : va_D A (LW ad ca o co bd cb σx fo σm)) (hS : va_S A s.heap H locs) (hl : lv_has ls 7 [(4, .int (nI i)), (3, .ref o), (2, .ref (bd 0)), (1, .ref (ad 0)), (0, .ref b)])
    (next : ∀ (H : Heap) (locs : List Loc) (ls : Array Slot), lv_has ls 7 [(4, .int (nI i)), (3, .ref o), (2, .ref (bd 0)), (1, .ref (ad 0)), (0, .ref b)] → va_P (dC, dI) CL (LW ad ca o co bd cb u1.2 fo u2.2) H → va_D A (LW ad ca o co bd cb u1.2 fo u2.2) → va_S A s.heap H locs → W p l e room_1 s m #[Value.ref b] below meth c H locs (K + 0 + 0) (S + 0 + 0) Q (F0 m 761 ls [])) :
    W p l e room_1 s m #[Value.ref b] below meth c H locs K S Q (F0 m 526 ls []) := by
  have hR1 : room_1.cells = 1107 := rfl
  have hR2 : room_1.slots = 17414 := rfl
  refine lv_aload_n hx hb d_L_law_526 rfl (lv_at hl 3 rfl) ?_
  obtain ⟨hPc, hDc⟩ := sp_x hP hD
  have hKc := kt_x hK
  have hFc := fe_x hD hS hA
  refine va_callv (va_runV (As := []) (rest := []) ⟨hx, hb, hml, hown, hts⟩ (c_V_fell l htr dC dI ad ca N σx u1 hG1 H.size) (vq_cV WSk hts 0 rfl rfl ⟨by decide, by decide⟩ k_634 k_22 k_823 k_824 k_825 (by decide +kernel)) ⟨vq_blind, va_recv hKc hPc (ci := 0) (q0 := 0) rfl rfl, vq_here hst hS hN hPc hKc hDc⟩ rfl rfl hl.1 rfl (lv_room (Nat.le_of_ble_eq_true rfl)) d_L_law_527 ⟨by omega, by omega⟩) hS (fun q _ h => hFc q h) hFc (fun u t H1 locs ht hvm hw hB hz1 hk1 hS => ?_)
  obtain ⟨hP1, -, hD1⟩ := hB
  rw [ht] at hP1
  obtain ⟨hP, hD⟩ := jn_x hP hD hk1 hFc hP1 hD1
  generalize H1 = H at hP hS ⊢
  refine lv_aload_n hx hb d_L_law_530 rfl (lv_at hl 2 rfl) ?_
  obtain ⟨hPc, hDc⟩ := sp_m hP hD
  have hKc := kt_m hK
  have hFc := fe_m hD hS hA
  refine va_callv (va_runV (As := []) (rest := []) ⟨hx, hb, hml, hown, hts⟩ (c_M_fell l htr dC dI bd cb N σm u2 hG2 H.size) (vq_cV WSk hts 0 rfl rfl ⟨by decide, by decide⟩ k_499 k_367 k_826 k_827 k_828 (by decide +kernel)) ⟨vq_blind, va_recv hKc hPc (ci := 8) (q0 := 0) rfl rfl, vq_here hst hS hN hPc hKc hDc⟩ rfl rfl hl.1 rfl (lv_room (Nat.le_of_ble_eq_true rfl)) d_L_law_531 ⟨by omega, by omega⟩) hS (fun q _ h => hFc q h) hFc (fun u t H1 locs ht hvm hw hB hz1 hk1 hS => ?_)
  obtain ⟨hP1, -, hD1⟩ := hB
  rw [ht] at hP1
  obtain ⟨hP, hD⟩ := jn_m hP hD hk1 hFc hP1 hD1
  generalize H1 = H at hP hS ⊢
  refine lv_goto (tgt := 761) hx hb d_L_law_534 (by decide) ?_
  exact next H locs ls (lv_sub hl [0, 1, 2, 3, 4] rfl) hP hD hS

set_option maxHeartbeats 8000000 in
set_option maxRecDepth 100000 in
theorem arm_10_0 {p : Program} {e : Env} {s : State} {m : MethodId} {below : List Frame} {meth : Method} {c : Code} (l : Launch) (htr : l.stackTraces = false) {b L i : Nat} {xs : Nat → Int32} {A : Nat → Prop} (dC : Nat → ClassId) (dI : Nat → Nat → Nat) (ad : Nat → Nat) (ca : Nat → ClassId) (o : Nat) (co : ClassId) (bd : Nat → Nat) (cb : Nat → ClassId) (N : Nat) (σx : vS) (fo : Nat → Int64) (σm : vS) (v : Int32 × vS) (u1 : Int32 × vS) {H : Heap} {locs : List Loc} {ls : Array Slot} {K S : Nat} {Q : State → Prop} (hF : f_V_give N σx (xs (i + 1)) (xs (i + 2)) = some ((0, v.1), v.2)) (hG1 : f_M_give N σm (xs (i + 1)) (xs (i + 2)) = some u1) (hL : L ≤ 3072) (hi : i + 6 ≤ L) (hKR : K + 1 ≤ 1107) (hSR : S + 6 ≤ 17414) (hx : p.tables.exec = Jvm.exec) (hb : c.code = code) (hml : c.maxLocals = 7) (hown : s.vm.findClass R_L = some m.cls) (hts : ∀ w ∈ WS, w.before #[Value.ref b] s = true) (hX : va_X b L xs s s.heap) (hbl : b < s.heap.size) (hst : vq_st s) (hnc : vq_nc s) (hA : ∀ q : Nat, s.heap.size ≤ q → A q) (hN : ∀ q : Nat, A q → ∀ cell : Cell, s.heap[q]? = some cell → cell.vm.isStatics = false) (hbA : ¬ A b) (hK : va_K (dC, dI) CL (LT ca co cb) s) (hP : va_P (dC, dI) CL (LW ad ca o co bd cb σx fo σm) H) (hD : va_D A (LW ad ca o co bd cb σx fo σm)) (hS : va_S A s.heap H locs) (hl : lv_has ls 7 [(4, .int (nI i)), (3, .ref o), (2, .ref (bd 0)), (1, .ref (ad 0)), (0, .ref b)])
    (next : ∀ (H : Heap) (locs : List Loc) (ls : Array Slot), lv_has ls 7 [(4, .int (nI i)), (3, .ref o), (2, .ref (bd 0)), (1, .ref (ad 0)), (0, .ref b)] → va_P (dC, dI) CL (LW ad ca o co bd cb v.2 fo u1.2) H → va_D A (LW ad ca o co bd cb v.2 fo u1.2) → va_S A s.heap H locs → W p l e room_1 s m #[Value.ref b] below meth c H locs (K + 0 + 0) (S + 0 + 0) Q (F0 m 761 ls [])) :
    W p l e room_1 s m #[Value.ref b] below meth c H locs K S Q (F0 m 537 ls []) := by
  have hR1 : room_1.cells = 1107 := rfl
  have hR2 : room_1.slots = 17414 := rfl
  refine lv_aload_n hx hb d_L_law_537 rfl (lv_at hl 3 rfl) ?_
  refine lv_aload_n hx hb d_L_law_538 rfl (lv_at hl 4 rfl) ?_
  refine lv_iload hx hb d_L_law_539 (lv_at hl 0 rfl) ?_
  refine lv_iconst (v := 1) hx hb d_L_law_541 (by decide) ?_
  refine lv_iadd hx hb d_L_law_542 ?_
  refine vq_top (y := nI (i + 1)) (nI_add i 1) ?_
  refine va_sld (i := nI (i + 1)) hx hb hX hbl hbA hS (vp_in_nI (by omega) (by omega)) d_L_law_543 ?_
  refine vq_top (y := xs (i + 1)) (by rw [nI_clamp (by omega)]) ?_
  refine lv_aload_n hx hb d_L_law_544 rfl (lv_at hl 4 rfl) ?_
  refine lv_iload hx hb d_L_law_545 (lv_at hl 0 rfl) ?_
  refine lv_iconst (v := 2) hx hb d_L_law_547 (by decide) ?_
  refine lv_iadd hx hb d_L_law_548 ?_
  refine vq_top (y := nI (i + 2)) (nI_add i 2) ?_
  refine va_sld (i := nI (i + 2)) hx hb hX hbl hbA hS (vp_in_nI (by omega) (by omega)) d_L_law_549 ?_
  refine vq_top (y := xs (i + 2)) (by rw [nI_clamp (by omega)]) ?_
  obtain ⟨hPc, hDc⟩ := sp_x hP hD
  have hKc := kt_x hK
  have hFc := fe_x hD hS hA
  refine va_calli (vq_runSH (n := 3) (As := [.ref (ad 0), .int (xs (i + 1)), .int (xs (i + 2))]) (rest := []) ⟨hx, hb, hml, hown, hts⟩ (w_give_0 l htr dC dI ad ca N σx (xs (i + 1)) (xs (i + 2)) v hF H.size) WSk rfl rfl ⟨by decide, by decide⟩ k_706 k_776 k_829 k_830 (by decide +kernel) ⟨vq_blindN, vq_hereN hnc hst hS hN hPc hKc hDc⟩ rfl rfl hl.1 rfl (lv_room (Nat.le_of_ble_eq_true rfl)) d_L_law_550 ⟨by omega, by omega⟩) hS (fun q _ h => hFc q h) hFc (fun r u t H1 locs ht hvm hw hB hz1 hk1 hS => ?_)
  obtain ⟨hP1, -, hD1⟩ := hB
  rw [ht] at hP1
  have hw : r = 0 := hw
  subst hw
  obtain ⟨hP, hD⟩ := jn_x hP hD hk1 hFc hP1 hD1
  generalize H1 = H at hP hS ⊢
  refine lv_istore (lv' := [(5, .int 0), (4, .int (nI i)), (3, .ref o), (2, .ref (bd 0)), (1, .ref (ad 0)), (0, .ref b)]) hx hb d_L_law_553 hl (by decide) rfl (fun ls hl => ?_)
  refine lv_aload_n hx hb d_L_law_555 rfl (lv_at hl 3 rfl) ?_
  refine lv_aload_n hx hb d_L_law_556 rfl (lv_at hl 5 rfl) ?_
  refine lv_iload hx hb d_L_law_557 (lv_at hl 1 rfl) ?_
  refine lv_iconst (v := 1) hx hb d_L_law_559 (by decide) ?_
  refine lv_iadd hx hb d_L_law_560 ?_
  refine vq_top (y := nI (i + 1)) (nI_add i 1) ?_
  refine va_sld (i := nI (i + 1)) hx hb hX hbl hbA hS (vp_in_nI (by omega) (by omega)) d_L_law_561 ?_
  refine vq_top (y := xs (i + 1)) (by rw [nI_clamp (by omega)]) ?_
  refine lv_aload_n hx hb d_L_law_562 rfl (lv_at hl 5 rfl) ?_
  refine lv_iload hx hb d_L_law_563 (lv_at hl 1 rfl) ?_
  refine lv_iconst (v := 2) hx hb d_L_law_565 (by decide) ?_
  refine lv_iadd hx hb d_L_law_566 ?_
  refine vq_top (y := nI (i + 2)) (nI_add i 2) ?_
  refine va_sld (i := nI (i + 2)) hx hb hX hbl hbA hS (vp_in_nI (by omega) (by omega)) d_L_law_567 ?_
  refine vq_top (y := xs (i + 2)) (by rw [nI_clamp (by omega)]) ?_
  obtain ⟨hPc, hDc⟩ := sp_m hP hD
  have hKc := kt_m hK
  have hFc := fe_m hD hS hA
  refine va_callv (va_runV (As := [.int (xs (i + 1)), .int (xs (i + 2))]) (rest := []) ⟨hx, hb, hml, hown, hts⟩ (c_M_give l htr dC dI bd cb N σm (xs (i + 1)) (xs (i + 2)) u1 hG1 H.size) (vq_cV WSk hts 2 rfl rfl ⟨by decide, by decide⟩ k_500 k_367 k_831 k_832 k_833 (by decide +kernel)) ⟨vq_blind, va_recv hKc hPc (ci := 8) (q0 := 0) rfl rfl, vq_here hst hS hN hPc hKc hDc⟩ rfl rfl hl.1 rfl (lv_room (Nat.le_of_ble_eq_true rfl)) d_L_law_568 ⟨by omega, by omega⟩) hS (fun q _ h => hFc q h) hFc (fun u t H1 locs ht hvm hw hB hz1 hk1 hS => ?_)
  obtain ⟨hP1, -, hD1⟩ := hB
  rw [ht] at hP1
  obtain ⟨hP, hD⟩ := jn_m hP hD hk1 hFc hP1 hD1
  generalize H1 = H at hP hS ⊢
  refine lv_goto (tgt := 761) hx hb d_L_law_571 (by decide) ?_
  exact next H locs ls (lv_sub hl [1, 2, 3, 4, 5] rfl) hP hD hS

set_option maxHeartbeats 8000000 in
set_option maxRecDepth 100000 in
theorem arm_10_3 {p : Program} {e : Env} {s : State} {m : MethodId} {below : List Frame} {meth : Method} {c : Code} (l : Launch) (htr : l.stackTraces = false) {b L i : Nat} {xs : Nat → Int32} {A : Nat → Prop} (dC : Nat → ClassId) (dI : Nat → Nat → Nat) (ad : Nat → Nat) (ca : Nat → ClassId) (o : Nat) (co : ClassId) (bd : Nat → Nat) (cb : Nat → ClassId) (N : Nat) (σx : vS) (fo : Nat → Int64) (σm : vS) (v : Int32 × vS) (u1 : Int32 × vS) {H : Heap} {locs : List Loc} {ls : Array Slot} {K S : Nat} {Q : State → Prop} (hF : f_V_give N σx (xs (i + 1)) (xs (i + 2)) = some ((3, v.1), v.2)) (hG1 : f_M_give N σm (xs (i + 1)) (xs (i + 2)) = some u1) (hL : L ≤ 3072) (hi : i + 6 ≤ L) (hKR : K + 1 ≤ 1107) (hSR : S + 6 ≤ 17414) (hx : p.tables.exec = Jvm.exec) (hb : c.code = code) (hml : c.maxLocals = 7) (hown : s.vm.findClass R_L = some m.cls) (hts : ∀ w ∈ WS, w.before #[Value.ref b] s = true) (hX : va_X b L xs s s.heap) (hbl : b < s.heap.size) (hst : vq_st s) (hnc : vq_nc s) (hA : ∀ q : Nat, s.heap.size ≤ q → A q) (hN : ∀ q : Nat, A q → ∀ cell : Cell, s.heap[q]? = some cell → cell.vm.isStatics = false) (hbA : ¬ A b) (hK : va_K (dC, dI) CL (LT ca co cb) s) (hP : va_P (dC, dI) CL (LW ad ca o co bd cb σx fo σm) H) (hD : va_D A (LW ad ca o co bd cb σx fo σm)) (hS : va_S A s.heap H locs) (hl : lv_has ls 7 [(4, .int (nI i)), (3, .ref o), (2, .ref (bd 0)), (1, .ref (ad 0)), (0, .ref b)])
    (next : ∀ (H : Heap) (locs : List Loc) (ls : Array Slot), lv_has ls 7 [(4, .int (nI i)), (3, .ref o), (2, .ref (bd 0)), (1, .ref (ad 0)), (0, .ref b)] → va_P (dC, dI) CL (LW ad ca o co bd cb v.2 fo u1.2) H → va_D A (LW ad ca o co bd cb v.2 fo u1.2) → va_S A s.heap H locs → W p l e room_1 s m #[Value.ref b] below meth c H locs (K + 1 + 0) (S + 6 + 0) Q (F0 m 761 ls [])) :
    W p l e room_1 s m #[Value.ref b] below meth c H locs K S Q (F0 m 537 ls []) := by
  have hR1 : room_1.cells = 1107 := rfl
  have hR2 : room_1.slots = 17414 := rfl
  refine lv_aload_n hx hb d_L_law_537 rfl (lv_at hl 3 rfl) ?_
  refine lv_aload_n hx hb d_L_law_538 rfl (lv_at hl 4 rfl) ?_
  refine lv_iload hx hb d_L_law_539 (lv_at hl 0 rfl) ?_
  refine lv_iconst (v := 1) hx hb d_L_law_541 (by decide) ?_
  refine lv_iadd hx hb d_L_law_542 ?_
  refine vq_top (y := nI (i + 1)) (nI_add i 1) ?_
  refine va_sld (i := nI (i + 1)) hx hb hX hbl hbA hS (vp_in_nI (by omega) (by omega)) d_L_law_543 ?_
  refine vq_top (y := xs (i + 1)) (by rw [nI_clamp (by omega)]) ?_
  refine lv_aload_n hx hb d_L_law_544 rfl (lv_at hl 4 rfl) ?_
  refine lv_iload hx hb d_L_law_545 (lv_at hl 0 rfl) ?_
  refine lv_iconst (v := 2) hx hb d_L_law_547 (by decide) ?_
  refine lv_iadd hx hb d_L_law_548 ?_
  refine vq_top (y := nI (i + 2)) (nI_add i 2) ?_
  refine va_sld (i := nI (i + 2)) hx hb hX hbl hbA hS (vp_in_nI (by omega) (by omega)) d_L_law_549 ?_
  refine vq_top (y := xs (i + 2)) (by rw [nI_clamp (by omega)]) ?_
  obtain ⟨hPc, hDc⟩ := sp_x hP hD
  have hKc := kt_x hK
  have hFc := fe_x hD hS hA
  refine va_calli (vq_runSH (n := 3) (As := [.ref (ad 0), .int (xs (i + 1)), .int (xs (i + 2))]) (rest := []) ⟨hx, hb, hml, hown, hts⟩ (w_give_3 l htr dC dI ad ca N σx (xs (i + 1)) (xs (i + 2)) v hF H.size) WSk rfl rfl ⟨by decide, by decide⟩ k_706 k_776 k_829 k_830 (by decide +kernel) ⟨vq_blindN, vq_hereN hnc hst hS hN hPc hKc hDc⟩ rfl rfl hl.1 rfl (lv_room (Nat.le_of_ble_eq_true rfl)) d_L_law_550 ⟨by omega, by omega⟩) hS (fun q _ h => hFc q h) hFc (fun r u t H1 locs ht hvm hw hB hz1 hk1 hS => ?_)
  obtain ⟨hP1, -, hD1⟩ := hB
  rw [ht] at hP1
  have hw : r = 1 := hw
  subst hw
  obtain ⟨hP, hD⟩ := jn_x hP hD hk1 hFc hP1 hD1
  generalize H1 = H at hP hS ⊢
  refine lv_istore (lv' := [(5, .int 1), (4, .int (nI i)), (3, .ref o), (2, .ref (bd 0)), (1, .ref (ad 0)), (0, .ref b)]) hx hb d_L_law_553 hl (by decide) rfl (fun ls hl => ?_)
  refine lv_aload_n hx hb d_L_law_555 rfl (lv_at hl 3 rfl) ?_
  refine lv_aload_n hx hb d_L_law_556 rfl (lv_at hl 5 rfl) ?_
  refine lv_iload hx hb d_L_law_557 (lv_at hl 1 rfl) ?_
  refine lv_iconst (v := 1) hx hb d_L_law_559 (by decide) ?_
  refine lv_iadd hx hb d_L_law_560 ?_
  refine vq_top (y := nI (i + 1)) (nI_add i 1) ?_
  refine va_sld (i := nI (i + 1)) hx hb hX hbl hbA hS (vp_in_nI (by omega) (by omega)) d_L_law_561 ?_
  refine vq_top (y := xs (i + 1)) (by rw [nI_clamp (by omega)]) ?_
  refine lv_aload_n hx hb d_L_law_562 rfl (lv_at hl 5 rfl) ?_
  refine lv_iload hx hb d_L_law_563 (lv_at hl 1 rfl) ?_
  refine lv_iconst (v := 2) hx hb d_L_law_565 (by decide) ?_
  refine lv_iadd hx hb d_L_law_566 ?_
  refine vq_top (y := nI (i + 2)) (nI_add i 2) ?_
  refine va_sld (i := nI (i + 2)) hx hb hX hbl hbA hS (vp_in_nI (by omega) (by omega)) d_L_law_567 ?_
  refine vq_top (y := xs (i + 2)) (by rw [nI_clamp (by omega)]) ?_
  obtain ⟨hPc, hDc⟩ := sp_m hP hD
  have hKc := kt_m hK
  have hFc := fe_m hD hS hA
  refine va_callv (va_runV (As := [.int (xs (i + 1)), .int (xs (i + 2))]) (rest := []) ⟨hx, hb, hml, hown, hts⟩ (c_M_give l htr dC dI bd cb N σm (xs (i + 1)) (xs (i + 2)) u1 hG1 H.size) (vq_cV WSk hts 2 rfl rfl ⟨by decide, by decide⟩ k_500 k_367 k_831 k_832 k_833 (by decide +kernel)) ⟨vq_blind, va_recv hKc hPc (ci := 8) (q0 := 0) rfl rfl, vq_here hst hS hN hPc hKc hDc⟩ rfl rfl hl.1 rfl (lv_room (Nat.le_of_ble_eq_true rfl)) d_L_law_568 ⟨by omega, by omega⟩) hS (fun q _ h => hFc q h) hFc (fun u t H1 locs ht hvm hw hB hz1 hk1 hS => ?_)
  obtain ⟨hP1, -, hD1⟩ := hB
  rw [ht] at hP1
  obtain ⟨hP, hD⟩ := jn_m hP hD hk1 hFc hP1 hD1
  generalize H1 = H at hP hS ⊢
  refine lv_goto (tgt := 761) hx hb d_L_law_571 (by decide) ?_
  exact next H locs ls (lv_sub hl [1, 2, 3, 4, 5] rfl) hP hD hS

set_option maxHeartbeats 8000000 in
set_option maxRecDepth 100000 in
theorem arm_11_0 {p : Program} {e : Env} {s : State} {m : MethodId} {below : List Frame} {meth : Method} {c : Code} (l : Launch) (htr : l.stackTraces = false) {b L i : Nat} {xs : Nat → Int32} {A : Nat → Prop} (dC : Nat → ClassId) (dI : Nat → Nat → Nat) (ad : Nat → Nat) (ca : Nat → ClassId) (o : Nat) (co : ClassId) (bd : Nat → Nat) (cb : Nat → ClassId) (N : Nat) (σx : vS) (fo : Nat → Int64) (σm : vS) (v : Int32 × vS) (u1 : Int32 × vS) {H : Heap} {locs : List Loc} {ls : Array Slot} {K S : Nat} {Q : State → Prop} (hF : f_V_start N σx (xs (i + 1)) = some ((0, v.1), v.2)) (hG1 : f_M_start N σm (xs (i + 1)) = some u1) (hL : L ≤ 3072) (hi : i + 6 ≤ L) (hKR : K + 1 ≤ 1107) (hSR : S + 6 ≤ 17414) (hx : p.tables.exec = Jvm.exec) (hb : c.code = code) (hml : c.maxLocals = 7) (hown : s.vm.findClass R_L = some m.cls) (hts : ∀ w ∈ WS, w.before #[Value.ref b] s = true) (hX : va_X b L xs s s.heap) (hbl : b < s.heap.size) (hst : vq_st s) (hnc : vq_nc s) (hA : ∀ q : Nat, s.heap.size ≤ q → A q) (hN : ∀ q : Nat, A q → ∀ cell : Cell, s.heap[q]? = some cell → cell.vm.isStatics = false) (hbA : ¬ A b) (hK : va_K (dC, dI) CL (LT ca co cb) s) (hP : va_P (dC, dI) CL (LW ad ca o co bd cb σx fo σm) H) (hD : va_D A (LW ad ca o co bd cb σx fo σm)) (hS : va_S A s.heap H locs) (hl : lv_has ls 7 [(4, .int (nI i)), (3, .ref o), (2, .ref (bd 0)), (1, .ref (ad 0)), (0, .ref b)])
    (next : ∀ (H : Heap) (locs : List Loc) (ls : Array Slot), lv_has ls 7 [(4, .int (nI i)), (3, .ref o), (2, .ref (bd 0)), (1, .ref (ad 0)), (0, .ref b)] → va_P (dC, dI) CL (LW ad ca o co bd cb v.2 fo u1.2) H → va_D A (LW ad ca o co bd cb v.2 fo u1.2) → va_S A s.heap H locs → W p l e room_1 s m #[Value.ref b] below meth c H locs (K + 0 + 0) (S + 0 + 0) Q (F0 m 761 ls [])) :
    W p l e room_1 s m #[Value.ref b] below meth c H locs K S Q (F0 m 574 ls []) := by
  have hR1 : room_1.cells = 1107 := rfl
  have hR2 : room_1.slots = 17414 := rfl
  refine lv_aload_n hx hb d_L_law_574 rfl (lv_at hl 3 rfl) ?_
  refine lv_aload_n hx hb d_L_law_575 rfl (lv_at hl 4 rfl) ?_
  refine lv_iload hx hb d_L_law_576 (lv_at hl 0 rfl) ?_
  refine lv_iconst (v := 1) hx hb d_L_law_578 (by decide) ?_
  refine lv_iadd hx hb d_L_law_579 ?_
  refine vq_top (y := nI (i + 1)) (nI_add i 1) ?_
  refine va_sld (i := nI (i + 1)) hx hb hX hbl hbA hS (vp_in_nI (by omega) (by omega)) d_L_law_580 ?_
  refine vq_top (y := xs (i + 1)) (by rw [nI_clamp (by omega)]) ?_
  obtain ⟨hPc, hDc⟩ := sp_x hP hD
  have hKc := kt_x hK
  have hFc := fe_x hD hS hA
  refine va_calli (vq_runSH (n := 2) (As := [.ref (ad 0), .int (xs (i + 1))]) (rest := []) ⟨hx, hb, hml, hown, hts⟩ (w_start_0 l htr dC dI ad ca N σx (xs (i + 1)) v hF H.size) WSk rfl rfl ⟨by decide, by decide⟩ k_710 k_776 k_834 k_835 (by decide +kernel) ⟨vq_blindN, vq_hereN hnc hst hS hN hPc hKc hDc⟩ rfl rfl hl.1 rfl (lv_room (Nat.le_of_ble_eq_true rfl)) d_L_law_581 ⟨by omega, by omega⟩) hS (fun q _ h => hFc q h) hFc (fun r u t H1 locs ht hvm hw hB hz1 hk1 hS => ?_)
  obtain ⟨hP1, -, hD1⟩ := hB
  rw [ht] at hP1
  have hw : r = 0 := hw
  subst hw
  obtain ⟨hP, hD⟩ := jn_x hP hD hk1 hFc hP1 hD1
  generalize H1 = H at hP hS ⊢
  refine lv_istore (lv' := [(5, .int 0), (4, .int (nI i)), (3, .ref o), (2, .ref (bd 0)), (1, .ref (ad 0)), (0, .ref b)]) hx hb d_L_law_584 hl (by decide) rfl (fun ls hl => ?_)
  refine lv_aload_n hx hb d_L_law_586 rfl (lv_at hl 3 rfl) ?_
  refine lv_aload_n hx hb d_L_law_587 rfl (lv_at hl 5 rfl) ?_
  refine lv_iload hx hb d_L_law_588 (lv_at hl 1 rfl) ?_
  refine lv_iconst (v := 1) hx hb d_L_law_590 (by decide) ?_
  refine lv_iadd hx hb d_L_law_591 ?_
  refine vq_top (y := nI (i + 1)) (nI_add i 1) ?_
  refine va_sld (i := nI (i + 1)) hx hb hX hbl hbA hS (vp_in_nI (by omega) (by omega)) d_L_law_592 ?_
  refine vq_top (y := xs (i + 1)) (by rw [nI_clamp (by omega)]) ?_
  obtain ⟨hPc, hDc⟩ := sp_m hP hD
  have hKc := kt_m hK
  have hFc := fe_m hD hS hA
  refine va_callv (va_runV (As := [.int (xs (i + 1))]) (rest := []) ⟨hx, hb, hml, hown, hts⟩ (c_M_start l htr dC dI bd cb N σm (xs (i + 1)) u1 hG1 H.size) (vq_cV WSk hts 1 rfl rfl ⟨by decide, by decide⟩ k_503 k_367 k_836 k_837 k_838 (by decide +kernel)) ⟨vq_blind, va_recv hKc hPc (ci := 8) (q0 := 0) rfl rfl, vq_here hst hS hN hPc hKc hDc⟩ rfl rfl hl.1 rfl (lv_room (Nat.le_of_ble_eq_true rfl)) d_L_law_593 ⟨by omega, by omega⟩) hS (fun q _ h => hFc q h) hFc (fun u t H1 locs ht hvm hw hB hz1 hk1 hS => ?_)
  obtain ⟨hP1, -, hD1⟩ := hB
  rw [ht] at hP1
  obtain ⟨hP, hD⟩ := jn_m hP hD hk1 hFc hP1 hD1
  generalize H1 = H at hP hS ⊢
  refine lv_goto (tgt := 761) hx hb d_L_law_596 (by decide) ?_
  exact next H locs ls (lv_sub hl [1, 2, 3, 4, 5] rfl) hP hD hS

set_option maxHeartbeats 8000000 in
set_option maxRecDepth 100000 in
theorem arm_11_2 {p : Program} {e : Env} {s : State} {m : MethodId} {below : List Frame} {meth : Method} {c : Code} (l : Launch) (htr : l.stackTraces = false) {b L i : Nat} {xs : Nat → Int32} {A : Nat → Prop} (dC : Nat → ClassId) (dI : Nat → Nat → Nat) (ad : Nat → Nat) (ca : Nat → ClassId) (o : Nat) (co : ClassId) (bd : Nat → Nat) (cb : Nat → ClassId) (N : Nat) (σx : vS) (fo : Nat → Int64) (σm : vS) (v : Int32 × vS) (u1 : Int32 × vS) {H : Heap} {locs : List Loc} {ls : Array Slot} {K S : Nat} {Q : State → Prop} (hF : f_V_start N σx (xs (i + 1)) = some ((2, v.1), v.2)) (hG1 : f_M_start N σm (xs (i + 1)) = some u1) (hL : L ≤ 3072) (hi : i + 6 ≤ L) (hKR : K + 1 ≤ 1107) (hSR : S + 6 ≤ 17414) (hx : p.tables.exec = Jvm.exec) (hb : c.code = code) (hml : c.maxLocals = 7) (hown : s.vm.findClass R_L = some m.cls) (hts : ∀ w ∈ WS, w.before #[Value.ref b] s = true) (hX : va_X b L xs s s.heap) (hbl : b < s.heap.size) (hst : vq_st s) (hnc : vq_nc s) (hA : ∀ q : Nat, s.heap.size ≤ q → A q) (hN : ∀ q : Nat, A q → ∀ cell : Cell, s.heap[q]? = some cell → cell.vm.isStatics = false) (hbA : ¬ A b) (hK : va_K (dC, dI) CL (LT ca co cb) s) (hP : va_P (dC, dI) CL (LW ad ca o co bd cb σx fo σm) H) (hD : va_D A (LW ad ca o co bd cb σx fo σm)) (hS : va_S A s.heap H locs) (hl : lv_has ls 7 [(4, .int (nI i)), (3, .ref o), (2, .ref (bd 0)), (1, .ref (ad 0)), (0, .ref b)])
    (next : ∀ (H : Heap) (locs : List Loc) (ls : Array Slot), lv_has ls 7 [(4, .int (nI i)), (3, .ref o), (2, .ref (bd 0)), (1, .ref (ad 0)), (0, .ref b)] → va_P (dC, dI) CL (LW ad ca o co bd cb v.2 fo u1.2) H → va_D A (LW ad ca o co bd cb v.2 fo u1.2) → va_S A s.heap H locs → W p l e room_1 s m #[Value.ref b] below meth c H locs (K + 1 + 0) (S + 6 + 0) Q (F0 m 761 ls [])) :
    W p l e room_1 s m #[Value.ref b] below meth c H locs K S Q (F0 m 574 ls []) := by
  have hR1 : room_1.cells = 1107 := rfl
  have hR2 : room_1.slots = 17414 := rfl
  refine lv_aload_n hx hb d_L_law_574 rfl (lv_at hl 3 rfl) ?_
  refine lv_aload_n hx hb d_L_law_575 rfl (lv_at hl 4 rfl) ?_
  refine lv_iload hx hb d_L_law_576 (lv_at hl 0 rfl) ?_
  refine lv_iconst (v := 1) hx hb d_L_law_578 (by decide) ?_
  refine lv_iadd hx hb d_L_law_579 ?_
  refine vq_top (y := nI (i + 1)) (nI_add i 1) ?_
  refine va_sld (i := nI (i + 1)) hx hb hX hbl hbA hS (vp_in_nI (by omega) (by omega)) d_L_law_580 ?_
  refine vq_top (y := xs (i + 1)) (by rw [nI_clamp (by omega)]) ?_
  obtain ⟨hPc, hDc⟩ := sp_x hP hD
  have hKc := kt_x hK
  have hFc := fe_x hD hS hA
  refine va_calli (vq_runSH (n := 2) (As := [.ref (ad 0), .int (xs (i + 1))]) (rest := []) ⟨hx, hb, hml, hown, hts⟩ (w_start_2 l htr dC dI ad ca N σx (xs (i + 1)) v hF H.size) WSk rfl rfl ⟨by decide, by decide⟩ k_710 k_776 k_834 k_835 (by decide +kernel) ⟨vq_blindN, vq_hereN hnc hst hS hN hPc hKc hDc⟩ rfl rfl hl.1 rfl (lv_room (Nat.le_of_ble_eq_true rfl)) d_L_law_581 ⟨by omega, by omega⟩) hS (fun q _ h => hFc q h) hFc (fun r u t H1 locs ht hvm hw hB hz1 hk1 hS => ?_)
  obtain ⟨hP1, -, hD1⟩ := hB
  rw [ht] at hP1
  have hw : r = 1 := hw
  subst hw
  obtain ⟨hP, hD⟩ := jn_x hP hD hk1 hFc hP1 hD1
  generalize H1 = H at hP hS ⊢
  refine lv_istore (lv' := [(5, .int 1), (4, .int (nI i)), (3, .ref o), (2, .ref (bd 0)), (1, .ref (ad 0)), (0, .ref b)]) hx hb d_L_law_584 hl (by decide) rfl (fun ls hl => ?_)
  refine lv_aload_n hx hb d_L_law_586 rfl (lv_at hl 3 rfl) ?_
  refine lv_aload_n hx hb d_L_law_587 rfl (lv_at hl 5 rfl) ?_
  refine lv_iload hx hb d_L_law_588 (lv_at hl 1 rfl) ?_
  refine lv_iconst (v := 1) hx hb d_L_law_590 (by decide) ?_
  refine lv_iadd hx hb d_L_law_591 ?_
  refine vq_top (y := nI (i + 1)) (nI_add i 1) ?_
  refine va_sld (i := nI (i + 1)) hx hb hX hbl hbA hS (vp_in_nI (by omega) (by omega)) d_L_law_592 ?_
  refine vq_top (y := xs (i + 1)) (by rw [nI_clamp (by omega)]) ?_
  obtain ⟨hPc, hDc⟩ := sp_m hP hD
  have hKc := kt_m hK
  have hFc := fe_m hD hS hA
  refine va_callv (va_runV (As := [.int (xs (i + 1))]) (rest := []) ⟨hx, hb, hml, hown, hts⟩ (c_M_start l htr dC dI bd cb N σm (xs (i + 1)) u1 hG1 H.size) (vq_cV WSk hts 1 rfl rfl ⟨by decide, by decide⟩ k_503 k_367 k_836 k_837 k_838 (by decide +kernel)) ⟨vq_blind, va_recv hKc hPc (ci := 8) (q0 := 0) rfl rfl, vq_here hst hS hN hPc hKc hDc⟩ rfl rfl hl.1 rfl (lv_room (Nat.le_of_ble_eq_true rfl)) d_L_law_593 ⟨by omega, by omega⟩) hS (fun q _ h => hFc q h) hFc (fun u t H1 locs ht hvm hw hB hz1 hk1 hS => ?_)
  obtain ⟨hP1, -, hD1⟩ := hB
  rw [ht] at hP1
  obtain ⟨hP, hD⟩ := jn_m hP hD hk1 hFc hP1 hD1
  generalize H1 = H at hP hS ⊢
  refine lv_goto (tgt := 761) hx hb d_L_law_596 (by decide) ?_
  exact next H locs ls (lv_sub hl [1, 2, 3, 4, 5] rfl) hP hD hS

set_option maxHeartbeats 8000000 in
set_option maxRecDepth 100000 in
theorem arm_11_3 {p : Program} {e : Env} {s : State} {m : MethodId} {below : List Frame} {meth : Method} {c : Code} (l : Launch) (htr : l.stackTraces = false) {b L i : Nat} {xs : Nat → Int32} {A : Nat → Prop} (dC : Nat → ClassId) (dI : Nat → Nat → Nat) (ad : Nat → Nat) (ca : Nat → ClassId) (o : Nat) (co : ClassId) (bd : Nat → Nat) (cb : Nat → ClassId) (N : Nat) (σx : vS) (fo : Nat → Int64) (σm : vS) (v : Int32 × vS) (u1 : Int32 × vS) {H : Heap} {locs : List Loc} {ls : Array Slot} {K S : Nat} {Q : State → Prop} (hF : f_V_start N σx (xs (i + 1)) = some ((3, v.1), v.2)) (hG1 : f_M_start N σm (xs (i + 1)) = some u1) (hL : L ≤ 3072) (hi : i + 6 ≤ L) (hKR : K + 1 ≤ 1107) (hSR : S + 6 ≤ 17414) (hx : p.tables.exec = Jvm.exec) (hb : c.code = code) (hml : c.maxLocals = 7) (hown : s.vm.findClass R_L = some m.cls) (hts : ∀ w ∈ WS, w.before #[Value.ref b] s = true) (hX : va_X b L xs s s.heap) (hbl : b < s.heap.size) (hst : vq_st s) (hnc : vq_nc s) (hA : ∀ q : Nat, s.heap.size ≤ q → A q) (hN : ∀ q : Nat, A q → ∀ cell : Cell, s.heap[q]? = some cell → cell.vm.isStatics = false) (hbA : ¬ A b) (hK : va_K (dC, dI) CL (LT ca co cb) s) (hP : va_P (dC, dI) CL (LW ad ca o co bd cb σx fo σm) H) (hD : va_D A (LW ad ca o co bd cb σx fo σm)) (hS : va_S A s.heap H locs) (hl : lv_has ls 7 [(4, .int (nI i)), (3, .ref o), (2, .ref (bd 0)), (1, .ref (ad 0)), (0, .ref b)])
    (next : ∀ (H : Heap) (locs : List Loc) (ls : Array Slot), lv_has ls 7 [(4, .int (nI i)), (3, .ref o), (2, .ref (bd 0)), (1, .ref (ad 0)), (0, .ref b)] → va_P (dC, dI) CL (LW ad ca o co bd cb v.2 fo u1.2) H → va_D A (LW ad ca o co bd cb v.2 fo u1.2) → va_S A s.heap H locs → W p l e room_1 s m #[Value.ref b] below meth c H locs (K + 1 + 0) (S + 6 + 0) Q (F0 m 761 ls [])) :
    W p l e room_1 s m #[Value.ref b] below meth c H locs K S Q (F0 m 574 ls []) := by
  have hR1 : room_1.cells = 1107 := rfl
  have hR2 : room_1.slots = 17414 := rfl
  refine lv_aload_n hx hb d_L_law_574 rfl (lv_at hl 3 rfl) ?_
  refine lv_aload_n hx hb d_L_law_575 rfl (lv_at hl 4 rfl) ?_
  refine lv_iload hx hb d_L_law_576 (lv_at hl 0 rfl) ?_
  refine lv_iconst (v := 1) hx hb d_L_law_578 (by decide) ?_
  refine lv_iadd hx hb d_L_law_579 ?_
  refine vq_top (y := nI (i + 1)) (nI_add i 1) ?_
  refine va_sld (i := nI (i + 1)) hx hb hX hbl hbA hS (vp_in_nI (by omega) (by omega)) d_L_law_580 ?_
  refine vq_top (y := xs (i + 1)) (by rw [nI_clamp (by omega)]) ?_
  obtain ⟨hPc, hDc⟩ := sp_x hP hD
  have hKc := kt_x hK
  have hFc := fe_x hD hS hA
  refine va_calli (vq_runSH (n := 2) (As := [.ref (ad 0), .int (xs (i + 1))]) (rest := []) ⟨hx, hb, hml, hown, hts⟩ (w_start_3 l htr dC dI ad ca N σx (xs (i + 1)) v hF H.size) WSk rfl rfl ⟨by decide, by decide⟩ k_710 k_776 k_834 k_835 (by decide +kernel) ⟨vq_blindN, vq_hereN hnc hst hS hN hPc hKc hDc⟩ rfl rfl hl.1 rfl (lv_room (Nat.le_of_ble_eq_true rfl)) d_L_law_581 ⟨by omega, by omega⟩) hS (fun q _ h => hFc q h) hFc (fun r u t H1 locs ht hvm hw hB hz1 hk1 hS => ?_)
  obtain ⟨hP1, -, hD1⟩ := hB
  rw [ht] at hP1
  have hw : r = 2 := hw
  subst hw
  obtain ⟨hP, hD⟩ := jn_x hP hD hk1 hFc hP1 hD1
  generalize H1 = H at hP hS ⊢
  refine lv_istore (lv' := [(5, .int 2), (4, .int (nI i)), (3, .ref o), (2, .ref (bd 0)), (1, .ref (ad 0)), (0, .ref b)]) hx hb d_L_law_584 hl (by decide) rfl (fun ls hl => ?_)
  refine lv_aload_n hx hb d_L_law_586 rfl (lv_at hl 3 rfl) ?_
  refine lv_aload_n hx hb d_L_law_587 rfl (lv_at hl 5 rfl) ?_
  refine lv_iload hx hb d_L_law_588 (lv_at hl 1 rfl) ?_
  refine lv_iconst (v := 1) hx hb d_L_law_590 (by decide) ?_
  refine lv_iadd hx hb d_L_law_591 ?_
  refine vq_top (y := nI (i + 1)) (nI_add i 1) ?_
  refine va_sld (i := nI (i + 1)) hx hb hX hbl hbA hS (vp_in_nI (by omega) (by omega)) d_L_law_592 ?_
  refine vq_top (y := xs (i + 1)) (by rw [nI_clamp (by omega)]) ?_
  obtain ⟨hPc, hDc⟩ := sp_m hP hD
  have hKc := kt_m hK
  have hFc := fe_m hD hS hA
  refine va_callv (va_runV (As := [.int (xs (i + 1))]) (rest := []) ⟨hx, hb, hml, hown, hts⟩ (c_M_start l htr dC dI bd cb N σm (xs (i + 1)) u1 hG1 H.size) (vq_cV WSk hts 1 rfl rfl ⟨by decide, by decide⟩ k_503 k_367 k_836 k_837 k_838 (by decide +kernel)) ⟨vq_blind, va_recv hKc hPc (ci := 8) (q0 := 0) rfl rfl, vq_here hst hS hN hPc hKc hDc⟩ rfl rfl hl.1 rfl (lv_room (Nat.le_of_ble_eq_true rfl)) d_L_law_593 ⟨by omega, by omega⟩) hS (fun q _ h => hFc q h) hFc (fun u t H1 locs ht hvm hw hB hz1 hk1 hS => ?_)
  obtain ⟨hP1, -, hD1⟩ := hB
  rw [ht] at hP1
  obtain ⟨hP, hD⟩ := jn_m hP hD hk1 hFc hP1 hD1
  generalize H1 = H at hP hS ⊢
  refine lv_goto (tgt := 761) hx hb d_L_law_596 (by decide) ?_
  exact next H locs ls (lv_sub hl [1, 2, 3, 4, 5] rfl) hP hD hS

set_option maxHeartbeats 8000000 in
set_option maxRecDepth 100000 in
theorem arm_12_0 {p : Program} {e : Env} {s : State} {m : MethodId} {below : List Frame} {meth : Method} {c : Code} (l : Launch) (htr : l.stackTraces = false) {b L i : Nat} {xs : Nat → Int32} {A : Nat → Prop} (dC : Nat → ClassId) (dI : Nat → Nat → Nat) (ad : Nat → Nat) (ca : Nat → ClassId) (o : Nat) (co : ClassId) (bd : Nat → Nat) (cb : Nat → ClassId) (N : Nat) (σx : vS) (fo : Nat → Int64) (σm : vS) (v : Int32 × vS) (u1 : Int32 × vS) {H : Heap} {locs : List Loc} {ls : Array Slot} {K S : Nat} {Q : State → Prop} (hF : f_V_run N σx (xs (i + 1)) = some ((0, v.1), v.2)) (hG1 : f_M_run N σm (xs (i + 1)) = some u1) (hL : L ≤ 3072) (hi : i + 6 ≤ L) (hKR : K + 1 ≤ 1107) (hSR : S + 6 ≤ 17414) (hx : p.tables.exec = Jvm.exec) (hb : c.code = code) (hml : c.maxLocals = 7) (hown : s.vm.findClass R_L = some m.cls) (hts : ∀ w ∈ WS, w.before #[Value.ref b] s = true) (hX : va_X b L xs s s.heap) (hbl : b < s.heap.size) (hst : vq_st s) (hnc : vq_nc s) (hA : ∀ q : Nat, s.heap.size ≤ q → A q) (hN : ∀ q : Nat, A q → ∀ cell : Cell, s.heap[q]? = some cell → cell.vm.isStatics = false) (hbA : ¬ A b) (hK : va_K (dC, dI) CL (LT ca co cb) s) (hP : va_P (dC, dI) CL (LW ad ca o co bd cb σx fo σm) H) (hD : va_D A (LW ad ca o co bd cb σx fo σm)) (hS : va_S A s.heap H locs) (hl : lv_has ls 7 [(4, .int (nI i)), (3, .ref o), (2, .ref (bd 0)), (1, .ref (ad 0)), (0, .ref b)])
    (next : ∀ (H : Heap) (locs : List Loc) (ls : Array Slot), lv_has ls 7 [(4, .int (nI i)), (3, .ref o), (2, .ref (bd 0)), (1, .ref (ad 0)), (0, .ref b)] → va_P (dC, dI) CL (LW ad ca o co bd cb v.2 (vp_updL fo (0 : Int32).toNatClampNeg v.1.toInt64) u1.2) H → va_D A (LW ad ca o co bd cb v.2 (vp_updL fo (0 : Int32).toNatClampNeg v.1.toInt64) u1.2) → va_S A s.heap H locs → W p l e room_1 s m #[Value.ref b] below meth c H locs (K + 0 + 0) (S + 0 + 0) Q (F0 m 761 ls [])) :
    W p l e room_1 s m #[Value.ref b] below meth c H locs K S Q (F0 m 599 ls []) := by
  have hR1 : room_1.cells = 1107 := rfl
  have hR2 : room_1.slots = 17414 := rfl
  refine lv_aload_n hx hb d_L_law_599 rfl (lv_at hl 3 rfl) ?_
  refine lv_aload_n hx hb d_L_law_600 rfl (lv_at hl 4 rfl) ?_
  refine lv_iload hx hb d_L_law_601 (lv_at hl 0 rfl) ?_
  refine lv_iconst (v := 1) hx hb d_L_law_603 (by decide) ?_
  refine lv_iadd hx hb d_L_law_604 ?_
  refine vq_top (y := nI (i + 1)) (nI_add i 1) ?_
  refine va_sld (i := nI (i + 1)) hx hb hX hbl hbA hS (vp_in_nI (by omega) (by omega)) d_L_law_605 ?_
  refine vq_top (y := xs (i + 1)) (by rw [nI_clamp (by omega)]) ?_
  refine lv_aload_n hx hb d_L_law_606 rfl (lv_at hl 1 rfl) ?_
  obtain ⟨hPc, hDc⟩ := sp_xo hP hD
  have hKc := kt_xo hK
  have hFc := fe_xo hD hS hA
  refine va_calli (vq_runSH (n := 3) (As := [.ref (ad 0), .int (xs (i + 1)), .ref o]) (rest := []) ⟨hx, hb, hml, hown, hts⟩ (w_run_0 l htr dC dI ad ca o co fo N σx (xs (i + 1)) v hF H.size) WSk rfl rfl ⟨by decide, by decide⟩ k_714 k_776 k_839 k_840 (by decide +kernel) ⟨vq_blindN, vq_hereN hnc hst hS hN hPc hKc hDc⟩ rfl rfl hl.1 rfl (lv_room (Nat.le_of_ble_eq_true rfl)) d_L_law_607 ⟨by omega, by omega⟩) hS (fun q _ h => hFc q h) hFc (fun r u t H1 locs ht hvm hw hB hz1 hk1 hS => ?_)
  obtain ⟨hP1, -, hD1⟩ := hB
  rw [ht] at hP1
  have hw : r = 0 := hw
  subst hw
  obtain ⟨hP, hD⟩ := jn_xo hP hD hk1 hFc hP1 hD1
  generalize H1 = H at hP hS ⊢
  refine lv_istore (lv' := [(5, .int 0), (4, .int (nI i)), (3, .ref o), (2, .ref (bd 0)), (1, .ref (ad 0)), (0, .ref b)]) hx hb d_L_law_610 hl (by decide) rfl (fun ls hl => ?_)
  refine lv_aload_n hx hb d_L_law_612 rfl (lv_at hl 3 rfl) ?_
  refine lv_aload_n hx hb d_L_law_613 rfl (lv_at hl 5 rfl) ?_
  refine lv_iload hx hb d_L_law_614 (lv_at hl 1 rfl) ?_
  refine lv_iconst (v := 1) hx hb d_L_law_616 (by decide) ?_
  refine lv_iadd hx hb d_L_law_617 ?_
  refine vq_top (y := nI (i + 1)) (nI_add i 1) ?_
  refine va_sld (i := nI (i + 1)) hx hb hX hbl hbA hS (vp_in_nI (by omega) (by omega)) d_L_law_618 ?_
  refine vq_top (y := xs (i + 1)) (by rw [nI_clamp (by omega)]) ?_
  obtain ⟨hPc, hDc⟩ := sp_m hP hD
  have hKc := kt_m hK
  have hFc := fe_m hD hS hA
  refine va_calli (va_runV (As := [.int (xs (i + 1))]) (rest := []) ⟨hx, hb, hml, hown, hts⟩ (c_M_run l htr dC dI bd cb N σm (xs (i + 1)) u1 hG1 H.size) (vq_cV WSk hts 1 rfl rfl ⟨by decide, by decide⟩ k_518 k_367 k_841 k_842 k_843 (by decide +kernel)) ⟨vq_blind, va_recv hKc hPc (ci := 8) (q0 := 0) rfl rfl, vq_here hst hS hN hPc hKc hDc⟩ rfl rfl hl.1 rfl (lv_room (Nat.le_of_ble_eq_true rfl)) d_L_law_619 ⟨by omega, by omega⟩) hS (fun q _ h => hFc q h) hFc (fun r u t H1 locs ht hvm hw hB hz1 hk1 hS => ?_)
  obtain ⟨hP1, -, hD1⟩ := hB
  rw [ht] at hP1
  have hw : r = u1.1 := hw
  subst hw
  obtain ⟨hP, hD⟩ := jn_m hP hD hk1 hFc hP1 hD1
  generalize H1 = H at hP hS ⊢
  refine lv_istore (lv' := [(6, .int (u1.1)), (5, .int 0), (4, .int (nI i)), (3, .ref o), (2, .ref (bd 0)), (1, .ref (ad 0)), (0, .ref b)]) hx hb d_L_law_622 hl (by decide) rfl (fun ls hl => ?_)
  refine lv_goto (tgt := 761) hx hb d_L_law_624 (by decide) ?_
  exact next H locs ls (lv_sub hl [2, 3, 4, 5, 6] rfl) hP hD hS

set_option maxHeartbeats 8000000 in
set_option maxRecDepth 100000 in
theorem arm_12_1 {p : Program} {e : Env} {s : State} {m : MethodId} {below : List Frame} {meth : Method} {c : Code} (l : Launch) (htr : l.stackTraces = false) {b L i : Nat} {xs : Nat → Int32} {A : Nat → Prop} (dC : Nat → ClassId) (dI : Nat → Nat → Nat) (ad : Nat → Nat) (ca : Nat → ClassId) (o : Nat) (co : ClassId) (bd : Nat → Nat) (cb : Nat → ClassId) (N : Nat) (σx : vS) (fo : Nat → Int64) (σm : vS) (v : Int32 × vS) (u1 : Int32 × vS) {H : Heap} {locs : List Loc} {ls : Array Slot} {K S : Nat} {Q : State → Prop} (hF : f_V_run N σx (xs (i + 1)) = some ((1, v.1), v.2)) (hG1 : f_M_run N σm (xs (i + 1)) = some u1) (hL : L ≤ 3072) (hi : i + 6 ≤ L) (hKR : K + 1 ≤ 1107) (hSR : S + 6 ≤ 17414) (hx : p.tables.exec = Jvm.exec) (hb : c.code = code) (hml : c.maxLocals = 7) (hown : s.vm.findClass R_L = some m.cls) (hts : ∀ w ∈ WS, w.before #[Value.ref b] s = true) (hX : va_X b L xs s s.heap) (hbl : b < s.heap.size) (hst : vq_st s) (hnc : vq_nc s) (hA : ∀ q : Nat, s.heap.size ≤ q → A q) (hN : ∀ q : Nat, A q → ∀ cell : Cell, s.heap[q]? = some cell → cell.vm.isStatics = false) (hbA : ¬ A b) (hK : va_K (dC, dI) CL (LT ca co cb) s) (hP : va_P (dC, dI) CL (LW ad ca o co bd cb σx fo σm) H) (hD : va_D A (LW ad ca o co bd cb σx fo σm)) (hS : va_S A s.heap H locs) (hl : lv_has ls 7 [(4, .int (nI i)), (3, .ref o), (2, .ref (bd 0)), (1, .ref (ad 0)), (0, .ref b)])
    (next : ∀ (H : Heap) (locs : List Loc) (ls : Array Slot), lv_has ls 7 [(4, .int (nI i)), (3, .ref o), (2, .ref (bd 0)), (1, .ref (ad 0)), (0, .ref b)] → va_P (dC, dI) CL (LW ad ca o co bd cb v.2 fo u1.2) H → va_D A (LW ad ca o co bd cb v.2 fo u1.2) → va_S A s.heap H locs → W p l e room_1 s m #[Value.ref b] below meth c H locs (K + 1 + 0) (S + 6 + 0) Q (F0 m 761 ls [])) :
    W p l e room_1 s m #[Value.ref b] below meth c H locs K S Q (F0 m 599 ls []) := by
  have hR1 : room_1.cells = 1107 := rfl
  have hR2 : room_1.slots = 17414 := rfl
  refine lv_aload_n hx hb d_L_law_599 rfl (lv_at hl 3 rfl) ?_
  refine lv_aload_n hx hb d_L_law_600 rfl (lv_at hl 4 rfl) ?_
  refine lv_iload hx hb d_L_law_601 (lv_at hl 0 rfl) ?_
  refine lv_iconst (v := 1) hx hb d_L_law_603 (by decide) ?_
  refine lv_iadd hx hb d_L_law_604 ?_
  refine vq_top (y := nI (i + 1)) (nI_add i 1) ?_
  refine va_sld (i := nI (i + 1)) hx hb hX hbl hbA hS (vp_in_nI (by omega) (by omega)) d_L_law_605 ?_
  refine vq_top (y := xs (i + 1)) (by rw [nI_clamp (by omega)]) ?_
  refine lv_aload_n hx hb d_L_law_606 rfl (lv_at hl 1 rfl) ?_
  obtain ⟨hPc, hDc⟩ := sp_xo hP hD
  have hKc := kt_xo hK
  have hFc := fe_xo hD hS hA
  refine va_calli (vq_runSH (n := 3) (As := [.ref (ad 0), .int (xs (i + 1)), .ref o]) (rest := []) ⟨hx, hb, hml, hown, hts⟩ (w_run_1 l htr dC dI ad ca o co fo N σx (xs (i + 1)) v hF H.size) WSk rfl rfl ⟨by decide, by decide⟩ k_714 k_776 k_839 k_840 (by decide +kernel) ⟨vq_blindN, vq_hereN hnc hst hS hN hPc hKc hDc⟩ rfl rfl hl.1 rfl (lv_room (Nat.le_of_ble_eq_true rfl)) d_L_law_607 ⟨by omega, by omega⟩) hS (fun q _ h => hFc q h) hFc (fun r u t H1 locs ht hvm hw hB hz1 hk1 hS => ?_)
  obtain ⟨hP1, -, hD1⟩ := hB
  rw [ht] at hP1
  have hw : r = 1 := hw
  subst hw
  obtain ⟨hP, hD⟩ := jn_xo hP hD hk1 hFc hP1 hD1
  generalize H1 = H at hP hS ⊢
  refine lv_istore (lv' := [(5, .int 1), (4, .int (nI i)), (3, .ref o), (2, .ref (bd 0)), (1, .ref (ad 0)), (0, .ref b)]) hx hb d_L_law_610 hl (by decide) rfl (fun ls hl => ?_)
  refine lv_aload_n hx hb d_L_law_612 rfl (lv_at hl 3 rfl) ?_
  refine lv_aload_n hx hb d_L_law_613 rfl (lv_at hl 5 rfl) ?_
  refine lv_iload hx hb d_L_law_614 (lv_at hl 1 rfl) ?_
  refine lv_iconst (v := 1) hx hb d_L_law_616 (by decide) ?_
  refine lv_iadd hx hb d_L_law_617 ?_
  refine vq_top (y := nI (i + 1)) (nI_add i 1) ?_
  refine va_sld (i := nI (i + 1)) hx hb hX hbl hbA hS (vp_in_nI (by omega) (by omega)) d_L_law_618 ?_
  refine vq_top (y := xs (i + 1)) (by rw [nI_clamp (by omega)]) ?_
  obtain ⟨hPc, hDc⟩ := sp_m hP hD
  have hKc := kt_m hK
  have hFc := fe_m hD hS hA
  refine va_calli (va_runV (As := [.int (xs (i + 1))]) (rest := []) ⟨hx, hb, hml, hown, hts⟩ (c_M_run l htr dC dI bd cb N σm (xs (i + 1)) u1 hG1 H.size) (vq_cV WSk hts 1 rfl rfl ⟨by decide, by decide⟩ k_518 k_367 k_841 k_842 k_843 (by decide +kernel)) ⟨vq_blind, va_recv hKc hPc (ci := 8) (q0 := 0) rfl rfl, vq_here hst hS hN hPc hKc hDc⟩ rfl rfl hl.1 rfl (lv_room (Nat.le_of_ble_eq_true rfl)) d_L_law_619 ⟨by omega, by omega⟩) hS (fun q _ h => hFc q h) hFc (fun r u t H1 locs ht hvm hw hB hz1 hk1 hS => ?_)
  obtain ⟨hP1, -, hD1⟩ := hB
  rw [ht] at hP1
  have hw : r = u1.1 := hw
  subst hw
  obtain ⟨hP, hD⟩ := jn_m hP hD hk1 hFc hP1 hD1
  generalize H1 = H at hP hS ⊢
  refine lv_istore (lv' := [(6, .int (u1.1)), (5, .int 1), (4, .int (nI i)), (3, .ref o), (2, .ref (bd 0)), (1, .ref (ad 0)), (0, .ref b)]) hx hb d_L_law_622 hl (by decide) rfl (fun ls hl => ?_)
  refine lv_goto (tgt := 761) hx hb d_L_law_624 (by decide) ?_
  exact next H locs ls (lv_sub hl [2, 3, 4, 5, 6] rfl) hP hD hS

set_option maxHeartbeats 8000000 in
set_option maxRecDepth 100000 in
theorem arm_12_2 {p : Program} {e : Env} {s : State} {m : MethodId} {below : List Frame} {meth : Method} {c : Code} (l : Launch) (htr : l.stackTraces = false) {b L i : Nat} {xs : Nat → Int32} {A : Nat → Prop} (dC : Nat → ClassId) (dI : Nat → Nat → Nat) (ad : Nat → Nat) (ca : Nat → ClassId) (o : Nat) (co : ClassId) (bd : Nat → Nat) (cb : Nat → ClassId) (N : Nat) (σx : vS) (fo : Nat → Int64) (σm : vS) (v : Int32 × vS) (u1 : Int32 × vS) {H : Heap} {locs : List Loc} {ls : Array Slot} {K S : Nat} {Q : State → Prop} (hF : f_V_run N σx (xs (i + 1)) = some ((2, v.1), v.2)) (hG1 : f_M_run N σm (xs (i + 1)) = some u1) (hL : L ≤ 3072) (hi : i + 6 ≤ L) (hKR : K + 1 ≤ 1107) (hSR : S + 6 ≤ 17414) (hx : p.tables.exec = Jvm.exec) (hb : c.code = code) (hml : c.maxLocals = 7) (hown : s.vm.findClass R_L = some m.cls) (hts : ∀ w ∈ WS, w.before #[Value.ref b] s = true) (hX : va_X b L xs s s.heap) (hbl : b < s.heap.size) (hst : vq_st s) (hnc : vq_nc s) (hA : ∀ q : Nat, s.heap.size ≤ q → A q) (hN : ∀ q : Nat, A q → ∀ cell : Cell, s.heap[q]? = some cell → cell.vm.isStatics = false) (hbA : ¬ A b) (hK : va_K (dC, dI) CL (LT ca co cb) s) (hP : va_P (dC, dI) CL (LW ad ca o co bd cb σx fo σm) H) (hD : va_D A (LW ad ca o co bd cb σx fo σm)) (hS : va_S A s.heap H locs) (hl : lv_has ls 7 [(4, .int (nI i)), (3, .ref o), (2, .ref (bd 0)), (1, .ref (ad 0)), (0, .ref b)])
    (next : ∀ (H : Heap) (locs : List Loc) (ls : Array Slot), lv_has ls 7 [(4, .int (nI i)), (3, .ref o), (2, .ref (bd 0)), (1, .ref (ad 0)), (0, .ref b)] → va_P (dC, dI) CL (LW ad ca o co bd cb v.2 fo u1.2) H → va_D A (LW ad ca o co bd cb v.2 fo u1.2) → va_S A s.heap H locs → W p l e room_1 s m #[Value.ref b] below meth c H locs (K + 1 + 0) (S + 6 + 0) Q (F0 m 761 ls [])) :
    W p l e room_1 s m #[Value.ref b] below meth c H locs K S Q (F0 m 599 ls []) := by
  have hR1 : room_1.cells = 1107 := rfl
  have hR2 : room_1.slots = 17414 := rfl
  refine lv_aload_n hx hb d_L_law_599 rfl (lv_at hl 3 rfl) ?_
  refine lv_aload_n hx hb d_L_law_600 rfl (lv_at hl 4 rfl) ?_
  refine lv_iload hx hb d_L_law_601 (lv_at hl 0 rfl) ?_
  refine lv_iconst (v := 1) hx hb d_L_law_603 (by decide) ?_
  refine lv_iadd hx hb d_L_law_604 ?_
  refine vq_top (y := nI (i + 1)) (nI_add i 1) ?_
  refine va_sld (i := nI (i + 1)) hx hb hX hbl hbA hS (vp_in_nI (by omega) (by omega)) d_L_law_605 ?_
  refine vq_top (y := xs (i + 1)) (by rw [nI_clamp (by omega)]) ?_
  refine lv_aload_n hx hb d_L_law_606 rfl (lv_at hl 1 rfl) ?_
  obtain ⟨hPc, hDc⟩ := sp_xo hP hD
  have hKc := kt_xo hK
  have hFc := fe_xo hD hS hA
  refine va_calli (vq_runSH (n := 3) (As := [.ref (ad 0), .int (xs (i + 1)), .ref o]) (rest := []) ⟨hx, hb, hml, hown, hts⟩ (w_run_2 l htr dC dI ad ca o co fo N σx (xs (i + 1)) v hF H.size) WSk rfl rfl ⟨by decide, by decide⟩ k_714 k_776 k_839 k_840 (by decide +kernel) ⟨vq_blindN, vq_hereN hnc hst hS hN hPc hKc hDc⟩ rfl rfl hl.1 rfl (lv_room (Nat.le_of_ble_eq_true rfl)) d_L_law_607 ⟨by omega, by omega⟩) hS (fun q _ h => hFc q h) hFc (fun r u t H1 locs ht hvm hw hB hz1 hk1 hS => ?_)
  obtain ⟨hP1, -, hD1⟩ := hB
  rw [ht] at hP1
  have hw : r = 2 := hw
  subst hw
  obtain ⟨hP, hD⟩ := jn_xo hP hD hk1 hFc hP1 hD1
  generalize H1 = H at hP hS ⊢
  refine lv_istore (lv' := [(5, .int 2), (4, .int (nI i)), (3, .ref o), (2, .ref (bd 0)), (1, .ref (ad 0)), (0, .ref b)]) hx hb d_L_law_610 hl (by decide) rfl (fun ls hl => ?_)
  refine lv_aload_n hx hb d_L_law_612 rfl (lv_at hl 3 rfl) ?_
  refine lv_aload_n hx hb d_L_law_613 rfl (lv_at hl 5 rfl) ?_
  refine lv_iload hx hb d_L_law_614 (lv_at hl 1 rfl) ?_
  refine lv_iconst (v := 1) hx hb d_L_law_616 (by decide) ?_
  refine lv_iadd hx hb d_L_law_617 ?_
  refine vq_top (y := nI (i + 1)) (nI_add i 1) ?_
  refine va_sld (i := nI (i + 1)) hx hb hX hbl hbA hS (vp_in_nI (by omega) (by omega)) d_L_law_618 ?_
  refine vq_top (y := xs (i + 1)) (by rw [nI_clamp (by omega)]) ?_
  obtain ⟨hPc, hDc⟩ := sp_m hP hD
  have hKc := kt_m hK
  have hFc := fe_m hD hS hA
  refine va_calli (va_runV (As := [.int (xs (i + 1))]) (rest := []) ⟨hx, hb, hml, hown, hts⟩ (c_M_run l htr dC dI bd cb N σm (xs (i + 1)) u1 hG1 H.size) (vq_cV WSk hts 1 rfl rfl ⟨by decide, by decide⟩ k_518 k_367 k_841 k_842 k_843 (by decide +kernel)) ⟨vq_blind, va_recv hKc hPc (ci := 8) (q0 := 0) rfl rfl, vq_here hst hS hN hPc hKc hDc⟩ rfl rfl hl.1 rfl (lv_room (Nat.le_of_ble_eq_true rfl)) d_L_law_619 ⟨by omega, by omega⟩) hS (fun q _ h => hFc q h) hFc (fun r u t H1 locs ht hvm hw hB hz1 hk1 hS => ?_)
  obtain ⟨hP1, -, hD1⟩ := hB
  rw [ht] at hP1
  have hw : r = u1.1 := hw
  subst hw
  obtain ⟨hP, hD⟩ := jn_m hP hD hk1 hFc hP1 hD1
  generalize H1 = H at hP hS ⊢
  refine lv_istore (lv' := [(6, .int (u1.1)), (5, .int 2), (4, .int (nI i)), (3, .ref o), (2, .ref (bd 0)), (1, .ref (ad 0)), (0, .ref b)]) hx hb d_L_law_622 hl (by decide) rfl (fun ls hl => ?_)
  refine lv_goto (tgt := 761) hx hb d_L_law_624 (by decide) ?_
  exact next H locs ls (lv_sub hl [2, 3, 4, 5, 6] rfl) hP hD hS

set_option maxHeartbeats 8000000 in
set_option maxRecDepth 100000 in
theorem arm_13 {p : Program} {e : Env} {s : State} {m : MethodId} {below : List Frame} {meth : Method} {c : Code} (l : Launch) (htr : l.stackTraces = false) {b L i : Nat} {xs : Nat → Int32} {A : Nat → Prop} (dC : Nat → ClassId) (dI : Nat → Nat → Nat) (ad : Nat → Nat) (ca : Nat → ClassId) (o : Nat) (co : ClassId) (bd : Nat → Nat) (cb : Nat → ClassId) (N : Nat) (σx : vS) (fo : Nat → Int64) (σm : vS) (u1 : Int32 × vS) (u2 : Int32 × vS) {H : Heap} {locs : List Loc} {ls : Array Slot} {K S : Nat} {Q : State → Prop} (hG1 : f_V_status N σx = some u1) (hG2 : f_M_status N σm = some u2) (hL : L ≤ 3072) (hi : i + 6 ≤ L) (hKR : K + 1 ≤ 1107) (hSR : S + 6 ≤ 17414) (hx : p.tables.exec = Jvm.exec) (hb : c.code = code) (hml : c.maxLocals = 7) (hown : s.vm.findClass R_L = some m.cls) (hts : ∀ w ∈ WS, w.before #[Value.ref b] s = true) (hX : va_X b L xs s s.heap) (hbl : b < s.heap.size) (hst : vq_st s) (hnc : vq_nc s) (hA : ∀ q : Nat, s.heap.size ≤ q → A q) (hN : ∀ q : Nat, A q → ∀ cell : Cell, s.heap[q]? = some cell → cell.vm.isStatics = false) (hbA : ¬ A b) (hK : va_K (dC, dI) CL (LT ca co cb) s) (hP : va_P (dC, dI) CL (LW ad ca o co bd cb σx fo σm) H) (hD : va_D A (LW ad ca o co bd cb σx fo σm)) (hS : va_S A s.heap H locs) (hl : lv_has ls 7 [(4, .int (nI i)), (3, .ref o), (2, .ref (bd 0)), (1, .ref (ad 0)), (0, .ref b)])
    (next : ∀ (H : Heap) (locs : List Loc) (ls : Array Slot), lv_has ls 7 [(4, .int (nI i)), (3, .ref o), (2, .ref (bd 0)), (1, .ref (ad 0)), (0, .ref b)] → va_P (dC, dI) CL (LW ad ca o co bd cb u1.2 fo u2.2) H → va_D A (LW ad ca o co bd cb u1.2 fo u2.2) → va_S A s.heap H locs → W p l e room_1 s m #[Value.ref b] below meth c H locs (K + 0 + 0) (S + 0 + 0) Q (F0 m 761 ls [])) :
    W p l e room_1 s m #[Value.ref b] below meth c H locs K S Q (F0 m 627 ls []) := by
  have hR1 : room_1.cells = 1107 := rfl
  have hR2 : room_1.slots = 17414 := rfl
  refine lv_aload_n hx hb d_L_law_627 rfl (lv_at hl 3 rfl) ?_
  obtain ⟨hPc, hDc⟩ := sp_x hP hD
  have hKc := kt_x hK
  have hFc := fe_x hD hS hA
  refine va_calli (va_runV (As := []) (rest := []) ⟨hx, hb, hml, hown, hts⟩ (c_V_status l htr dC dI ad ca N σx u1 hG1 H.size) (vq_cV WSk hts 0 rfl rfl ⟨by decide, by decide⟩ k_653 k_22 k_844 k_845 k_846 (by decide +kernel)) ⟨vq_blind, va_recv hKc hPc (ci := 0) (q0 := 0) rfl rfl, vq_here hst hS hN hPc hKc hDc⟩ rfl rfl hl.1 rfl (lv_room (Nat.le_of_ble_eq_true rfl)) d_L_law_628 ⟨by omega, by omega⟩) hS (fun q _ h => hFc q h) hFc (fun r u t H1 locs ht hvm hw hB hz1 hk1 hS => ?_)
  obtain ⟨hP1, -, hD1⟩ := hB
  rw [ht] at hP1
  have hw : r = u1.1 := hw
  subst hw
  obtain ⟨hP, hD⟩ := jn_x hP hD hk1 hFc hP1 hD1
  generalize H1 = H at hP hS ⊢
  refine lv_pop hx hb d_L_law_631 rfl ?_
  refine lv_aload_n hx hb d_L_law_632 rfl (lv_at hl 2 rfl) ?_
  obtain ⟨hPc, hDc⟩ := sp_m hP hD
  have hKc := kt_m hK
  have hFc := fe_m hD hS hA
  refine va_calli (va_runV (As := []) (rest := []) ⟨hx, hb, hml, hown, hts⟩ (c_M_status l htr dC dI bd cb N σm u2 hG2 H.size) (vq_cV WSk hts 0 rfl rfl ⟨by decide, by decide⟩ k_522 k_367 k_847 k_848 k_849 (by decide +kernel)) ⟨vq_blind, va_recv hKc hPc (ci := 8) (q0 := 0) rfl rfl, vq_here hst hS hN hPc hKc hDc⟩ rfl rfl hl.1 rfl (lv_room (Nat.le_of_ble_eq_true rfl)) d_L_law_633 ⟨by omega, by omega⟩) hS (fun q _ h => hFc q h) hFc (fun r u t H1 locs ht hvm hw hB hz1 hk1 hS => ?_)
  obtain ⟨hP1, -, hD1⟩ := hB
  rw [ht] at hP1
  have hw : r = u2.1 := hw
  subst hw
  obtain ⟨hP, hD⟩ := jn_m hP hD hk1 hFc hP1 hD1
  generalize H1 = H at hP hS ⊢
  refine lv_pop hx hb d_L_law_636 rfl ?_
  refine lv_goto (tgt := 761) hx hb d_L_law_637 (by decide) ?_
  exact next H locs ls (lv_sub hl [0, 1, 2, 3, 4] rfl) hP hD hS

set_option maxHeartbeats 8000000 in
set_option maxRecDepth 100000 in
theorem arm_14 {p : Program} {e : Env} {s : State} {m : MethodId} {below : List Frame} {meth : Method} {c : Code} (l : Launch) (htr : l.stackTraces = false) {b L i : Nat} {xs : Nat → Int32} {A : Nat → Prop} (dC : Nat → ClassId) (dI : Nat → Nat → Nat) (ad : Nat → Nat) (ca : Nat → ClassId) (o : Nat) (co : ClassId) (bd : Nat → Nat) (cb : Nat → ClassId) (N : Nat) (σx : vS) (fo : Nat → Int64) (σm : vS) (u1 : Int32 × vS) (u2 : Int32 × vS) {H : Heap} {locs : List Loc} {ls : Array Slot} {K S : Nat} {Q : State → Prop} (hG1 : f_V_atHand N σx = some u1) (hG2 : f_M_atHand N σm = some u2) (hL : L ≤ 3072) (hi : i + 6 ≤ L) (hKR : K + 1 ≤ 1107) (hSR : S + 6 ≤ 17414) (hx : p.tables.exec = Jvm.exec) (hb : c.code = code) (hml : c.maxLocals = 7) (hown : s.vm.findClass R_L = some m.cls) (hts : ∀ w ∈ WS, w.before #[Value.ref b] s = true) (hX : va_X b L xs s s.heap) (hbl : b < s.heap.size) (hst : vq_st s) (hnc : vq_nc s) (hA : ∀ q : Nat, s.heap.size ≤ q → A q) (hN : ∀ q : Nat, A q → ∀ cell : Cell, s.heap[q]? = some cell → cell.vm.isStatics = false) (hbA : ¬ A b) (hK : va_K (dC, dI) CL (LT ca co cb) s) (hP : va_P (dC, dI) CL (LW ad ca o co bd cb σx fo σm) H) (hD : va_D A (LW ad ca o co bd cb σx fo σm)) (hS : va_S A s.heap H locs) (hl : lv_has ls 7 [(4, .int (nI i)), (3, .ref o), (2, .ref (bd 0)), (1, .ref (ad 0)), (0, .ref b)])
    (next : ∀ (H : Heap) (locs : List Loc) (ls : Array Slot), lv_has ls 7 [(4, .int (nI i)), (3, .ref o), (2, .ref (bd 0)), (1, .ref (ad 0)), (0, .ref b)] → va_P (dC, dI) CL (LW ad ca o co bd cb u1.2 fo u2.2) H → va_D A (LW ad ca o co bd cb u1.2 fo u2.2) → va_S A s.heap H locs → W p l e room_1 s m #[Value.ref b] below meth c H locs (K + 0 + 0) (S + 0 + 0) Q (F0 m 761 ls [])) :
    W p l e room_1 s m #[Value.ref b] below meth c H locs K S Q (F0 m 640 ls []) := by
  have hR1 : room_1.cells = 1107 := rfl
  have hR2 : room_1.slots = 17414 := rfl
  refine lv_aload_n hx hb d_L_law_640 rfl (lv_at hl 3 rfl) ?_
  obtain ⟨hPc, hDc⟩ := sp_x hP hD
  have hKc := kt_x hK
  have hFc := fe_x hD hS hA
  refine va_calli (va_runV (As := []) (rest := []) ⟨hx, hb, hml, hown, hts⟩ (c_V_atHand l htr dC dI ad ca N σx u1 hG1 H.size) (vq_cV WSk hts 0 rfl rfl ⟨by decide, by decide⟩ k_654 k_22 k_850 k_851 k_852 (by decide +kernel)) ⟨vq_blind, va_recv hKc hPc (ci := 0) (q0 := 0) rfl rfl, vq_here hst hS hN hPc hKc hDc⟩ rfl rfl hl.1 rfl (lv_room (Nat.le_of_ble_eq_true rfl)) d_L_law_641 ⟨by omega, by omega⟩) hS (fun q _ h => hFc q h) hFc (fun r u t H1 locs ht hvm hw hB hz1 hk1 hS => ?_)
  obtain ⟨hP1, -, hD1⟩ := hB
  rw [ht] at hP1
  have hw : r = u1.1 := hw
  subst hw
  obtain ⟨hP, hD⟩ := jn_x hP hD hk1 hFc hP1 hD1
  generalize H1 = H at hP hS ⊢
  refine lv_pop hx hb d_L_law_644 rfl ?_
  refine lv_aload_n hx hb d_L_law_645 rfl (lv_at hl 2 rfl) ?_
  obtain ⟨hPc, hDc⟩ := sp_m hP hD
  have hKc := kt_m hK
  have hFc := fe_m hD hS hA
  refine va_calli (va_runV (As := []) (rest := []) ⟨hx, hb, hml, hown, hts⟩ (c_M_atHand l htr dC dI bd cb N σm u2 hG2 H.size) (vq_cV WSk hts 0 rfl rfl ⟨by decide, by decide⟩ k_523 k_367 k_853 k_854 k_855 (by decide +kernel)) ⟨vq_blind, va_recv hKc hPc (ci := 8) (q0 := 0) rfl rfl, vq_here hst hS hN hPc hKc hDc⟩ rfl rfl hl.1 rfl (lv_room (Nat.le_of_ble_eq_true rfl)) d_L_law_646 ⟨by omega, by omega⟩) hS (fun q _ h => hFc q h) hFc (fun r u t H1 locs ht hvm hw hB hz1 hk1 hS => ?_)
  obtain ⟨hP1, -, hD1⟩ := hB
  rw [ht] at hP1
  have hw : r = u2.1 := hw
  subst hw
  obtain ⟨hP, hD⟩ := jn_m hP hD hk1 hFc hP1 hD1
  generalize H1 = H at hP hS ⊢
  refine lv_pop hx hb d_L_law_649 rfl ?_
  refine lv_goto (tgt := 761) hx hb d_L_law_650 (by decide) ?_
  exact next H locs ls (lv_sub hl [0, 1, 2, 3, 4] rfl) hP hD hS

set_option maxHeartbeats 8000000 in
set_option maxRecDepth 100000 in
theorem arm_15_0 {p : Program} {e : Env} {s : State} {m : MethodId} {below : List Frame} {meth : Method} {c : Code} (l : Launch) (htr : l.stackTraces = false) {b L i : Nat} {xs : Nat → Int32} {A : Nat → Prop} (dC : Nat → ClassId) (dI : Nat → Nat → Nat) (ad : Nat → Nat) (ca : Nat → ClassId) (o : Nat) (co : ClassId) (bd : Nat → Nat) (cb : Nat → ClassId) (N : Nat) (σx : vS) (fo : Nat → Int64) (σm : vS) (v : Int32 × vS) (u1 : Int32 × vS) {H : Heap} {locs : List Loc} {ls : Array Slot} {K S : Nat} {Q : State → Prop} (hF : f_V_knows N σx (xs (i + 1)) (xs (i + 2)) = some ((0, v.1), v.2)) (hG1 : f_M_knows N σm (xs (i + 1)) (xs (i + 2)) = some u1) (hL : L ≤ 3072) (hi : i + 6 ≤ L) (hKR : K + 1 ≤ 1107) (hSR : S + 6 ≤ 17414) (hx : p.tables.exec = Jvm.exec) (hb : c.code = code) (hml : c.maxLocals = 7) (hown : s.vm.findClass R_L = some m.cls) (hts : ∀ w ∈ WS, w.before #[Value.ref b] s = true) (hX : va_X b L xs s s.heap) (hbl : b < s.heap.size) (hst : vq_st s) (hnc : vq_nc s) (hA : ∀ q : Nat, s.heap.size ≤ q → A q) (hN : ∀ q : Nat, A q → ∀ cell : Cell, s.heap[q]? = some cell → cell.vm.isStatics = false) (hbA : ¬ A b) (hK : va_K (dC, dI) CL (LT ca co cb) s) (hP : va_P (dC, dI) CL (LW ad ca o co bd cb σx fo σm) H) (hD : va_D A (LW ad ca o co bd cb σx fo σm)) (hS : va_S A s.heap H locs) (hl : lv_has ls 7 [(4, .int (nI i)), (3, .ref o), (2, .ref (bd 0)), (1, .ref (ad 0)), (0, .ref b)])
    (next : ∀ (H : Heap) (locs : List Loc) (ls : Array Slot), lv_has ls 7 [(4, .int (nI i)), (3, .ref o), (2, .ref (bd 0)), (1, .ref (ad 0)), (0, .ref b)] → va_P (dC, dI) CL (LW ad ca o co bd cb v.2 (vp_updL fo (0 : Int32).toNatClampNeg (if v.1 = 0 then (0 : Int64) else 1)) u1.2) H → va_D A (LW ad ca o co bd cb v.2 (vp_updL fo (0 : Int32).toNatClampNeg (if v.1 = 0 then (0 : Int64) else 1)) u1.2) → va_S A s.heap H locs → W p l e room_1 s m #[Value.ref b] below meth c H locs (K + 0 + 0) (S + 0 + 0) Q (F0 m 761 ls [])) :
    W p l e room_1 s m #[Value.ref b] below meth c H locs K S Q (F0 m 653 ls []) := by
  have hR1 : room_1.cells = 1107 := rfl
  have hR2 : room_1.slots = 17414 := rfl
  refine lv_aload_n hx hb d_L_law_653 rfl (lv_at hl 3 rfl) ?_
  refine lv_aload_n hx hb d_L_law_654 rfl (lv_at hl 4 rfl) ?_
  refine lv_iload hx hb d_L_law_655 (lv_at hl 0 rfl) ?_
  refine lv_iconst (v := 1) hx hb d_L_law_657 (by decide) ?_
  refine lv_iadd hx hb d_L_law_658 ?_
  refine vq_top (y := nI (i + 1)) (nI_add i 1) ?_
  refine va_sld (i := nI (i + 1)) hx hb hX hbl hbA hS (vp_in_nI (by omega) (by omega)) d_L_law_659 ?_
  refine vq_top (y := xs (i + 1)) (by rw [nI_clamp (by omega)]) ?_
  refine lv_aload_n hx hb d_L_law_660 rfl (lv_at hl 4 rfl) ?_
  refine lv_iload hx hb d_L_law_661 (lv_at hl 0 rfl) ?_
  refine lv_iconst (v := 2) hx hb d_L_law_663 (by decide) ?_
  refine lv_iadd hx hb d_L_law_664 ?_
  refine vq_top (y := nI (i + 2)) (nI_add i 2) ?_
  refine va_sld (i := nI (i + 2)) hx hb hX hbl hbA hS (vp_in_nI (by omega) (by omega)) d_L_law_665 ?_
  refine vq_top (y := xs (i + 2)) (by rw [nI_clamp (by omega)]) ?_
  refine lv_aload_n hx hb d_L_law_666 rfl (lv_at hl 1 rfl) ?_
  obtain ⟨hPc, hDc⟩ := sp_xo hP hD
  have hKc := kt_xo hK
  have hFc := fe_xo hD hS hA
  refine va_calli (vq_runSH (n := 4) (As := [.ref (ad 0), .int (xs (i + 1)), .int (xs (i + 2)), .ref o]) (rest := []) ⟨hx, hb, hml, hown, hts⟩ (w_knows_0 l htr dC dI ad ca o co fo N σx (xs (i + 1)) (xs (i + 2)) v hF H.size) WSk rfl rfl ⟨by decide, by decide⟩ k_718 k_776 k_856 k_857 (by decide +kernel) ⟨vq_blindN, vq_hereN hnc hst hS hN hPc hKc hDc⟩ rfl rfl hl.1 rfl (lv_room (Nat.le_of_ble_eq_true rfl)) d_L_law_667 ⟨by omega, by omega⟩) hS (fun q _ h => hFc q h) hFc (fun r u t H1 locs ht hvm hw hB hz1 hk1 hS => ?_)
  obtain ⟨hP1, -, hD1⟩ := hB
  rw [ht] at hP1
  have hw : r = 0 := hw
  subst hw
  obtain ⟨hP, hD⟩ := jn_xo hP hD hk1 hFc hP1 hD1
  generalize H1 = H at hP hS ⊢
  refine lv_istore (lv' := [(5, .int 0), (4, .int (nI i)), (3, .ref o), (2, .ref (bd 0)), (1, .ref (ad 0)), (0, .ref b)]) hx hb d_L_law_670 hl (by decide) rfl (fun ls hl => ?_)
  refine lv_aload_n hx hb d_L_law_672 rfl (lv_at hl 3 rfl) ?_
  refine lv_aload_n hx hb d_L_law_673 rfl (lv_at hl 5 rfl) ?_
  refine lv_iload hx hb d_L_law_674 (lv_at hl 1 rfl) ?_
  refine lv_iconst (v := 1) hx hb d_L_law_676 (by decide) ?_
  refine lv_iadd hx hb d_L_law_677 ?_
  refine vq_top (y := nI (i + 1)) (nI_add i 1) ?_
  refine va_sld (i := nI (i + 1)) hx hb hX hbl hbA hS (vp_in_nI (by omega) (by omega)) d_L_law_678 ?_
  refine vq_top (y := xs (i + 1)) (by rw [nI_clamp (by omega)]) ?_
  refine lv_aload_n hx hb d_L_law_679 rfl (lv_at hl 5 rfl) ?_
  refine lv_iload hx hb d_L_law_680 (lv_at hl 1 rfl) ?_
  refine lv_iconst (v := 2) hx hb d_L_law_682 (by decide) ?_
  refine lv_iadd hx hb d_L_law_683 ?_
  refine vq_top (y := nI (i + 2)) (nI_add i 2) ?_
  refine va_sld (i := nI (i + 2)) hx hb hX hbl hbA hS (vp_in_nI (by omega) (by omega)) d_L_law_684 ?_
  refine vq_top (y := xs (i + 2)) (by rw [nI_clamp (by omega)]) ?_
  obtain ⟨hPc, hDc⟩ := sp_m hP hD
  have hKc := kt_m hK
  have hFc := fe_m hD hS hA
  refine va_calli (va_runV (As := [.int (xs (i + 1)), .int (xs (i + 2))]) (rest := []) ⟨hx, hb, hml, hown, hts⟩ (c_M_knows l htr dC dI bd cb N σm (xs (i + 1)) (xs (i + 2)) u1 hG1 H.size) (vq_cV WSk hts 2 rfl rfl ⟨by decide, by decide⟩ k_525 k_367 k_858 k_859 k_860 (by decide +kernel)) ⟨vq_blind, va_recv hKc hPc (ci := 8) (q0 := 0) rfl rfl, vq_here hst hS hN hPc hKc hDc⟩ rfl rfl hl.1 rfl (lv_room (Nat.le_of_ble_eq_true rfl)) d_L_law_685 ⟨by omega, by omega⟩) hS (fun q _ h => hFc q h) hFc (fun r u t H1 locs ht hvm hw hB hz1 hk1 hS => ?_)
  obtain ⟨hP1, -, hD1⟩ := hB
  rw [ht] at hP1
  have hw : r = u1.1 := hw
  subst hw
  obtain ⟨hP, hD⟩ := jn_m hP hD hk1 hFc hP1 hD1
  generalize H1 = H at hP hS ⊢
  refine lv_istore (lv' := [(6, .int (u1.1)), (5, .int 0), (4, .int (nI i)), (3, .ref o), (2, .ref (bd 0)), (1, .ref (ad 0)), (0, .ref b)]) hx hb d_L_law_688 hl (by decide) rfl (fun ls hl => ?_)
  refine lv_goto (tgt := 761) hx hb d_L_law_690 (by decide) ?_
  exact next H locs ls (lv_sub hl [2, 3, 4, 5, 6] rfl) hP hD hS

set_option maxHeartbeats 8000000 in
set_option maxRecDepth 100000 in
theorem arm_15_3 {p : Program} {e : Env} {s : State} {m : MethodId} {below : List Frame} {meth : Method} {c : Code} (l : Launch) (htr : l.stackTraces = false) {b L i : Nat} {xs : Nat → Int32} {A : Nat → Prop} (dC : Nat → ClassId) (dI : Nat → Nat → Nat) (ad : Nat → Nat) (ca : Nat → ClassId) (o : Nat) (co : ClassId) (bd : Nat → Nat) (cb : Nat → ClassId) (N : Nat) (σx : vS) (fo : Nat → Int64) (σm : vS) (v : Int32 × vS) (u1 : Int32 × vS) {H : Heap} {locs : List Loc} {ls : Array Slot} {K S : Nat} {Q : State → Prop} (hF : f_V_knows N σx (xs (i + 1)) (xs (i + 2)) = some ((3, v.1), v.2)) (hG1 : f_M_knows N σm (xs (i + 1)) (xs (i + 2)) = some u1) (hL : L ≤ 3072) (hi : i + 6 ≤ L) (hKR : K + 1 ≤ 1107) (hSR : S + 6 ≤ 17414) (hx : p.tables.exec = Jvm.exec) (hb : c.code = code) (hml : c.maxLocals = 7) (hown : s.vm.findClass R_L = some m.cls) (hts : ∀ w ∈ WS, w.before #[Value.ref b] s = true) (hX : va_X b L xs s s.heap) (hbl : b < s.heap.size) (hst : vq_st s) (hnc : vq_nc s) (hA : ∀ q : Nat, s.heap.size ≤ q → A q) (hN : ∀ q : Nat, A q → ∀ cell : Cell, s.heap[q]? = some cell → cell.vm.isStatics = false) (hbA : ¬ A b) (hK : va_K (dC, dI) CL (LT ca co cb) s) (hP : va_P (dC, dI) CL (LW ad ca o co bd cb σx fo σm) H) (hD : va_D A (LW ad ca o co bd cb σx fo σm)) (hS : va_S A s.heap H locs) (hl : lv_has ls 7 [(4, .int (nI i)), (3, .ref o), (2, .ref (bd 0)), (1, .ref (ad 0)), (0, .ref b)])
    (next : ∀ (H : Heap) (locs : List Loc) (ls : Array Slot), lv_has ls 7 [(4, .int (nI i)), (3, .ref o), (2, .ref (bd 0)), (1, .ref (ad 0)), (0, .ref b)] → va_P (dC, dI) CL (LW ad ca o co bd cb v.2 fo u1.2) H → va_D A (LW ad ca o co bd cb v.2 fo u1.2) → va_S A s.heap H locs → W p l e room_1 s m #[Value.ref b] below meth c H locs (K + 1 + 0) (S + 6 + 0) Q (F0 m 761 ls [])) :
    W p l e room_1 s m #[Value.ref b] below meth c H locs K S Q (F0 m 653 ls []) := by
  have hR1 : room_1.cells = 1107 := rfl
  have hR2 : room_1.slots = 17414 := rfl
  refine lv_aload_n hx hb d_L_law_653 rfl (lv_at hl 3 rfl) ?_
  refine lv_aload_n hx hb d_L_law_654 rfl (lv_at hl 4 rfl) ?_
  refine lv_iload hx hb d_L_law_655 (lv_at hl 0 rfl) ?_
  refine lv_iconst (v := 1) hx hb d_L_law_657 (by decide) ?_
  refine lv_iadd hx hb d_L_law_658 ?_
  refine vq_top (y := nI (i + 1)) (nI_add i 1) ?_
  refine va_sld (i := nI (i + 1)) hx hb hX hbl hbA hS (vp_in_nI (by omega) (by omega)) d_L_law_659 ?_
  refine vq_top (y := xs (i + 1)) (by rw [nI_clamp (by omega)]) ?_
  refine lv_aload_n hx hb d_L_law_660 rfl (lv_at hl 4 rfl) ?_
  refine lv_iload hx hb d_L_law_661 (lv_at hl 0 rfl) ?_
  refine lv_iconst (v := 2) hx hb d_L_law_663 (by decide) ?_
  refine lv_iadd hx hb d_L_law_664 ?_
  refine vq_top (y := nI (i + 2)) (nI_add i 2) ?_
  refine va_sld (i := nI (i + 2)) hx hb hX hbl hbA hS (vp_in_nI (by omega) (by omega)) d_L_law_665 ?_
  refine vq_top (y := xs (i + 2)) (by rw [nI_clamp (by omega)]) ?_
  refine lv_aload_n hx hb d_L_law_666 rfl (lv_at hl 1 rfl) ?_
  obtain ⟨hPc, hDc⟩ := sp_xo hP hD
  have hKc := kt_xo hK
  have hFc := fe_xo hD hS hA
  refine va_calli (vq_runSH (n := 4) (As := [.ref (ad 0), .int (xs (i + 1)), .int (xs (i + 2)), .ref o]) (rest := []) ⟨hx, hb, hml, hown, hts⟩ (w_knows_3 l htr dC dI ad ca o co fo N σx (xs (i + 1)) (xs (i + 2)) v hF H.size) WSk rfl rfl ⟨by decide, by decide⟩ k_718 k_776 k_856 k_857 (by decide +kernel) ⟨vq_blindN, vq_hereN hnc hst hS hN hPc hKc hDc⟩ rfl rfl hl.1 rfl (lv_room (Nat.le_of_ble_eq_true rfl)) d_L_law_667 ⟨by omega, by omega⟩) hS (fun q _ h => hFc q h) hFc (fun r u t H1 locs ht hvm hw hB hz1 hk1 hS => ?_)
  obtain ⟨hP1, -, hD1⟩ := hB
  rw [ht] at hP1
  have hw : r = 1 := hw
  subst hw
  obtain ⟨hP, hD⟩ := jn_xo hP hD hk1 hFc hP1 hD1
  generalize H1 = H at hP hS ⊢
  refine lv_istore (lv' := [(5, .int 1), (4, .int (nI i)), (3, .ref o), (2, .ref (bd 0)), (1, .ref (ad 0)), (0, .ref b)]) hx hb d_L_law_670 hl (by decide) rfl (fun ls hl => ?_)
  refine lv_aload_n hx hb d_L_law_672 rfl (lv_at hl 3 rfl) ?_
  refine lv_aload_n hx hb d_L_law_673 rfl (lv_at hl 5 rfl) ?_
  refine lv_iload hx hb d_L_law_674 (lv_at hl 1 rfl) ?_
  refine lv_iconst (v := 1) hx hb d_L_law_676 (by decide) ?_
  refine lv_iadd hx hb d_L_law_677 ?_
  refine vq_top (y := nI (i + 1)) (nI_add i 1) ?_
  refine va_sld (i := nI (i + 1)) hx hb hX hbl hbA hS (vp_in_nI (by omega) (by omega)) d_L_law_678 ?_
  refine vq_top (y := xs (i + 1)) (by rw [nI_clamp (by omega)]) ?_
  refine lv_aload_n hx hb d_L_law_679 rfl (lv_at hl 5 rfl) ?_
  refine lv_iload hx hb d_L_law_680 (lv_at hl 1 rfl) ?_
  refine lv_iconst (v := 2) hx hb d_L_law_682 (by decide) ?_
  refine lv_iadd hx hb d_L_law_683 ?_
  refine vq_top (y := nI (i + 2)) (nI_add i 2) ?_
  refine va_sld (i := nI (i + 2)) hx hb hX hbl hbA hS (vp_in_nI (by omega) (by omega)) d_L_law_684 ?_
  refine vq_top (y := xs (i + 2)) (by rw [nI_clamp (by omega)]) ?_
  obtain ⟨hPc, hDc⟩ := sp_m hP hD
  have hKc := kt_m hK
  have hFc := fe_m hD hS hA
  refine va_calli (va_runV (As := [.int (xs (i + 1)), .int (xs (i + 2))]) (rest := []) ⟨hx, hb, hml, hown, hts⟩ (c_M_knows l htr dC dI bd cb N σm (xs (i + 1)) (xs (i + 2)) u1 hG1 H.size) (vq_cV WSk hts 2 rfl rfl ⟨by decide, by decide⟩ k_525 k_367 k_858 k_859 k_860 (by decide +kernel)) ⟨vq_blind, va_recv hKc hPc (ci := 8) (q0 := 0) rfl rfl, vq_here hst hS hN hPc hKc hDc⟩ rfl rfl hl.1 rfl (lv_room (Nat.le_of_ble_eq_true rfl)) d_L_law_685 ⟨by omega, by omega⟩) hS (fun q _ h => hFc q h) hFc (fun r u t H1 locs ht hvm hw hB hz1 hk1 hS => ?_)
  obtain ⟨hP1, -, hD1⟩ := hB
  rw [ht] at hP1
  have hw : r = u1.1 := hw
  subst hw
  obtain ⟨hP, hD⟩ := jn_m hP hD hk1 hFc hP1 hD1
  generalize H1 = H at hP hS ⊢
  refine lv_istore (lv' := [(6, .int (u1.1)), (5, .int 1), (4, .int (nI i)), (3, .ref o), (2, .ref (bd 0)), (1, .ref (ad 0)), (0, .ref b)]) hx hb d_L_law_688 hl (by decide) rfl (fun ls hl => ?_)
  refine lv_goto (tgt := 761) hx hb d_L_law_690 (by decide) ?_
  exact next H locs ls (lv_sub hl [2, 3, 4, 5, 6] rfl) hP hD hS

set_option maxHeartbeats 8000000 in
set_option maxRecDepth 100000 in
theorem arm_16_0 {p : Program} {e : Env} {s : State} {m : MethodId} {below : List Frame} {meth : Method} {c : Code} (l : Launch) (htr : l.stackTraces = false) {b L i : Nat} {xs : Nat → Int32} {A : Nat → Prop} (dC : Nat → ClassId) (dI : Nat → Nat → Nat) (ad : Nat → Nat) (ca : Nat → ClassId) (o : Nat) (co : ClassId) (bd : Nat → Nat) (cb : Nat → ClassId) (N : Nat) (σx : vS) (fo : Nat → Int64) (σm : vS) (v : Int32 × vS) (u1 : Int32 × vS) (u2 : Int32 × vS) {H : Heap} {locs : List Loc} {ls : Array Slot} {K S : Nat} {Q : State → Prop} (hF : f_V_value N σx (xs (i + 1)) (xs (i + 2)) = some ((0, v.1), v.2)) (hG1 : f_M_value N σm (xs (i + 1)) (xs (i + 2)) = some u1) (hG2 : f_M_thrown N u1.2 = some u2) (hcmp : (u2.1) = 0) (hout : v.1.toInt64 = (u1.1).toInt64) (hL : L ≤ 3072) (hi : i + 6 ≤ L) (hKR : K + 1 ≤ 1107) (hSR : S + 6 ≤ 17414) (hx : p.tables.exec = Jvm.exec) (hb : c.code = code) (hml : c.maxLocals = 7) (hown : s.vm.findClass R_L = some m.cls) (hts : ∀ w ∈ WS, w.before #[Value.ref b] s = true) (hX : va_X b L xs s s.heap) (hbl : b < s.heap.size) (hst : vq_st s) (hnc : vq_nc s) (hA : ∀ q : Nat, s.heap.size ≤ q → A q) (hN : ∀ q : Nat, A q → ∀ cell : Cell, s.heap[q]? = some cell → cell.vm.isStatics = false) (hbA : ¬ A b) (hK : va_K (dC, dI) CL (LT ca co cb) s) (hP : va_P (dC, dI) CL (LW ad ca o co bd cb σx fo σm) H) (hD : va_D A (LW ad ca o co bd cb σx fo σm)) (hS : va_S A s.heap H locs) (hl : lv_has ls 7 [(4, .int (nI i)), (3, .ref o), (2, .ref (bd 0)), (1, .ref (ad 0)), (0, .ref b)])
    (next : ∀ (H : Heap) (locs : List Loc) (ls : Array Slot), lv_has ls 7 [(4, .int (nI i)), (3, .ref o), (2, .ref (bd 0)), (1, .ref (ad 0)), (0, .ref b)] → va_P (dC, dI) CL (LW ad ca o co bd cb v.2 (vp_updL fo (0 : Int32).toNatClampNeg v.1.toInt64) u2.2) H → va_D A (LW ad ca o co bd cb v.2 (vp_updL fo (0 : Int32).toNatClampNeg v.1.toInt64) u2.2) → va_S A s.heap H locs → W p l e room_1 s m #[Value.ref b] below meth c H locs (K + 0 + 0 + 0) (S + 0 + 0 + 0) Q (F0 m 761 ls [])) :
    W p l e room_1 s m #[Value.ref b] below meth c H locs K S Q (F0 m 693 ls []) := by
  have hR1 : room_1.cells = 1107 := rfl
  have hR2 : room_1.slots = 17414 := rfl
  refine lv_aload_n hx hb d_L_law_693 rfl (lv_at hl 3 rfl) ?_
  refine lv_aload_n hx hb d_L_law_694 rfl (lv_at hl 4 rfl) ?_
  refine lv_iload hx hb d_L_law_695 (lv_at hl 0 rfl) ?_
  refine lv_iconst (v := 1) hx hb d_L_law_697 (by decide) ?_
  refine lv_iadd hx hb d_L_law_698 ?_
  refine vq_top (y := nI (i + 1)) (nI_add i 1) ?_
  refine va_sld (i := nI (i + 1)) hx hb hX hbl hbA hS (vp_in_nI (by omega) (by omega)) d_L_law_699 ?_
  refine vq_top (y := xs (i + 1)) (by rw [nI_clamp (by omega)]) ?_
  refine lv_aload_n hx hb d_L_law_700 rfl (lv_at hl 4 rfl) ?_
  refine lv_iload hx hb d_L_law_701 (lv_at hl 0 rfl) ?_
  refine lv_iconst (v := 2) hx hb d_L_law_703 (by decide) ?_
  refine lv_iadd hx hb d_L_law_704 ?_
  refine vq_top (y := nI (i + 2)) (nI_add i 2) ?_
  refine va_sld (i := nI (i + 2)) hx hb hX hbl hbA hS (vp_in_nI (by omega) (by omega)) d_L_law_705 ?_
  refine vq_top (y := xs (i + 2)) (by rw [nI_clamp (by omega)]) ?_
  refine lv_aload_n hx hb d_L_law_706 rfl (lv_at hl 1 rfl) ?_
  obtain ⟨hPc, hDc⟩ := sp_xo hP hD
  have hKc := kt_xo hK
  have hFc := fe_xo hD hS hA
  refine va_calli (vq_runSH (n := 4) (As := [.ref (ad 0), .int (xs (i + 1)), .int (xs (i + 2)), .ref o]) (rest := []) ⟨hx, hb, hml, hown, hts⟩ (w_value_0 l htr dC dI ad ca o co fo N σx (xs (i + 1)) (xs (i + 2)) v hF H.size) WSk rfl rfl ⟨by decide, by decide⟩ k_722 k_776 k_861 k_862 (by decide +kernel) ⟨vq_blindN, vq_hereN hnc hst hS hN hPc hKc hDc⟩ rfl rfl hl.1 rfl (lv_room (Nat.le_of_ble_eq_true rfl)) d_L_law_707 ⟨by omega, by omega⟩) hS (fun q _ h => hFc q h) hFc (fun r u t H1 locs ht hvm hw hB hz1 hk1 hS => ?_)
  obtain ⟨hP1, -, hD1⟩ := hB
  rw [ht] at hP1
  have hw : r = 0 := hw
  subst hw
  obtain ⟨hP, hD⟩ := jn_xo hP hD hk1 hFc hP1 hD1
  generalize H1 = H at hP hS ⊢
  refine lv_istore (lv' := [(5, .int 0), (4, .int (nI i)), (3, .ref o), (2, .ref (bd 0)), (1, .ref (ad 0)), (0, .ref b)]) hx hb d_L_law_710 hl (by decide) rfl (fun ls hl => ?_)
  refine lv_aload_n hx hb d_L_law_712 rfl (lv_at hl 3 rfl) ?_
  refine lv_aload_n hx hb d_L_law_713 rfl (lv_at hl 5 rfl) ?_
  refine lv_iload hx hb d_L_law_714 (lv_at hl 1 rfl) ?_
  refine lv_iconst (v := 1) hx hb d_L_law_716 (by decide) ?_
  refine lv_iadd hx hb d_L_law_717 ?_
  refine vq_top (y := nI (i + 1)) (nI_add i 1) ?_
  refine va_sld (i := nI (i + 1)) hx hb hX hbl hbA hS (vp_in_nI (by omega) (by omega)) d_L_law_718 ?_
  refine vq_top (y := xs (i + 1)) (by rw [nI_clamp (by omega)]) ?_
  refine lv_aload_n hx hb d_L_law_719 rfl (lv_at hl 5 rfl) ?_
  refine lv_iload hx hb d_L_law_720 (lv_at hl 1 rfl) ?_
  refine lv_iconst (v := 2) hx hb d_L_law_722 (by decide) ?_
  refine lv_iadd hx hb d_L_law_723 ?_
  refine vq_top (y := nI (i + 2)) (nI_add i 2) ?_
  refine va_sld (i := nI (i + 2)) hx hb hX hbl hbA hS (vp_in_nI (by omega) (by omega)) d_L_law_724 ?_
  refine vq_top (y := xs (i + 2)) (by rw [nI_clamp (by omega)]) ?_
  obtain ⟨hPc, hDc⟩ := sp_m hP hD
  have hKc := kt_m hK
  have hFc := fe_m hD hS hA
  refine va_calli (va_runV (As := [.int (xs (i + 1)), .int (xs (i + 2))]) (rest := []) ⟨hx, hb, hml, hown, hts⟩ (c_M_value l htr dC dI bd cb N σm (xs (i + 1)) (xs (i + 2)) u1 hG1 H.size) (vq_cV WSk hts 2 rfl rfl ⟨by decide, by decide⟩ k_529 k_367 k_863 k_864 k_865 (by decide +kernel)) ⟨vq_blind, va_recv hKc hPc (ci := 8) (q0 := 0) rfl rfl, vq_here hst hS hN hPc hKc hDc⟩ rfl rfl hl.1 rfl (lv_room (Nat.le_of_ble_eq_true rfl)) d_L_law_725 ⟨by omega, by omega⟩) hS (fun q _ h => hFc q h) hFc (fun r u t H1 locs ht hvm hw hB hz1 hk1 hS => ?_)
  obtain ⟨hP1, -, hD1⟩ := hB
  rw [ht] at hP1
  have hw : r = u1.1 := hw
  subst hw
  obtain ⟨hP, hD⟩ := jn_m hP hD hk1 hFc hP1 hD1
  generalize H1 = H at hP hS ⊢
  refine lv_istore (lv' := [(6, .int (u1.1)), (5, .int 0), (4, .int (nI i)), (3, .ref o), (2, .ref (bd 0)), (1, .ref (ad 0)), (0, .ref b)]) hx hb d_L_law_728 hl (by decide) rfl (fun ls hl => ?_)
  refine lv_aload_n hx hb d_L_law_730 rfl (lv_at hl 4 rfl) ?_
  obtain ⟨hPc, hDc⟩ := sp_m hP hD
  have hKc := kt_m hK
  have hFc := fe_m hD hS hA
  refine va_calli (va_runV (As := []) (rest := []) ⟨hx, hb, hml, hown, hts⟩ (c_M_thrown l htr dC dI bd cb N u1.2 u2 hG2 H.size) (vq_cV WSk hts 0 rfl rfl ⟨by decide, by decide⟩ k_358 k_367 k_866 k_867 k_868 (by decide +kernel)) ⟨vq_blind, va_recv hKc hPc (ci := 8) (q0 := 0) rfl rfl, vq_here hst hS hN hPc hKc hDc⟩ rfl rfl hl.1 rfl (lv_room (Nat.le_of_ble_eq_true rfl)) d_L_law_731 ⟨by omega, by omega⟩) hS (fun q _ h => hFc q h) hFc (fun r u t H1 locs ht hvm hw hB hz1 hk1 hS => ?_)
  obtain ⟨hP1, -, hD1⟩ := hB
  rw [ht] at hP1
  have hw : r = u2.1 := hw
  subst hw
  obtain ⟨hP, hD⟩ := jn_m hP hD hk1 hFc hP1 hD1
  generalize H1 = H at hP hS ⊢
  refine lv_iload hx hb d_L_law_734 (lv_at hl 1 rfl) ?_
  refine lv_icmp_eq (tgt := 741) hx hb d_L_law_736 (by decide) (fun _ => ?_) (fun h9 => absurd hcmp h9)
  refine lv_iload hx hb d_L_law_741 (lv_at hl 1 rfl) ?_
  refine lv_if_ne (tgt := 758) hx hb d_L_law_743 (by decide) (fun h9 => absurd rfl h9) (fun _ => ?_)
  refine lv_aload_n hx hb d_L_law_746 rfl (lv_at hl 3 rfl) ?_
  refine lv_iconst (v := 0) hx hb d_L_law_747 (by decide) ?_
  refine va_lald (n := 1) (f := (vp_updL fo (0 : Int32).toNatClampNeg v.1.toInt64)) hx hb hK hP 35 27 rfl rfl (show ¬ ((0 : Int32) < 0 ∨ 1 ≤ Int32.toNatClampNeg 0) by decide) d_L_law_748 ?_
  refine vq_topl (y := v.1.toInt64) pk_uLs ?_
  refine lv_iload hx hb d_L_law_749 (lv_at hl 0 rfl) ?_
  refine lv_i2l hx hb d_L_law_751 rfl ?_
  refine W.lcmp hx hb d_L_law_752 ?_
  refine vq_top (y := 0) (by rw [hout]; exact vq_cmpS _) ?_
  refine lv_if_eq (tgt := 758) hx hb d_L_law_753 (by decide) (fun _ => ?_) (fun h9 => absurd rfl h9)
  refine lv_goto (tgt := 761) hx hb d_L_law_758 (by decide) ?_
  exact next H locs ls (lv_sub hl [2, 3, 4, 5, 6] rfl) hP hD hS

set_option maxHeartbeats 8000000 in
set_option maxRecDepth 100000 in
theorem arm_16_2 {p : Program} {e : Env} {s : State} {m : MethodId} {below : List Frame} {meth : Method} {c : Code} (l : Launch) (htr : l.stackTraces = false) {b L i : Nat} {xs : Nat → Int32} {A : Nat → Prop} (dC : Nat → ClassId) (dI : Nat → Nat → Nat) (ad : Nat → Nat) (ca : Nat → ClassId) (o : Nat) (co : ClassId) (bd : Nat → Nat) (cb : Nat → ClassId) (N : Nat) (σx : vS) (fo : Nat → Int64) (σm : vS) (v : Int32 × vS) (u1 : Int32 × vS) (u2 : Int32 × vS) {H : Heap} {locs : List Loc} {ls : Array Slot} {K S : Nat} {Q : State → Prop} (hF : f_V_value N σx (xs (i + 1)) (xs (i + 2)) = some ((2, v.1), v.2)) (hG1 : f_M_value N σm (xs (i + 1)) (xs (i + 2)) = some u1) (hG2 : f_M_thrown N u1.2 = some u2) (hcmp : (u2.1) = 2) (hL : L ≤ 3072) (hi : i + 6 ≤ L) (hKR : K + 1 ≤ 1107) (hSR : S + 6 ≤ 17414) (hx : p.tables.exec = Jvm.exec) (hb : c.code = code) (hml : c.maxLocals = 7) (hown : s.vm.findClass R_L = some m.cls) (hts : ∀ w ∈ WS, w.before #[Value.ref b] s = true) (hX : va_X b L xs s s.heap) (hbl : b < s.heap.size) (hst : vq_st s) (hnc : vq_nc s) (hA : ∀ q : Nat, s.heap.size ≤ q → A q) (hN : ∀ q : Nat, A q → ∀ cell : Cell, s.heap[q]? = some cell → cell.vm.isStatics = false) (hbA : ¬ A b) (hK : va_K (dC, dI) CL (LT ca co cb) s) (hP : va_P (dC, dI) CL (LW ad ca o co bd cb σx fo σm) H) (hD : va_D A (LW ad ca o co bd cb σx fo σm)) (hS : va_S A s.heap H locs) (hl : lv_has ls 7 [(4, .int (nI i)), (3, .ref o), (2, .ref (bd 0)), (1, .ref (ad 0)), (0, .ref b)])
    (next : ∀ (H : Heap) (locs : List Loc) (ls : Array Slot), lv_has ls 7 [(4, .int (nI i)), (3, .ref o), (2, .ref (bd 0)), (1, .ref (ad 0)), (0, .ref b)] → va_P (dC, dI) CL (LW ad ca o co bd cb v.2 fo u2.2) H → va_D A (LW ad ca o co bd cb v.2 fo u2.2) → va_S A s.heap H locs → W p l e room_1 s m #[Value.ref b] below meth c H locs (K + 1 + 0 + 0) (S + 6 + 0 + 0) Q (F0 m 761 ls [])) :
    W p l e room_1 s m #[Value.ref b] below meth c H locs K S Q (F0 m 693 ls []) := by
  have hR1 : room_1.cells = 1107 := rfl
  have hR2 : room_1.slots = 17414 := rfl
  refine lv_aload_n hx hb d_L_law_693 rfl (lv_at hl 3 rfl) ?_
  refine lv_aload_n hx hb d_L_law_694 rfl (lv_at hl 4 rfl) ?_
  refine lv_iload hx hb d_L_law_695 (lv_at hl 0 rfl) ?_
  refine lv_iconst (v := 1) hx hb d_L_law_697 (by decide) ?_
  refine lv_iadd hx hb d_L_law_698 ?_
  refine vq_top (y := nI (i + 1)) (nI_add i 1) ?_
  refine va_sld (i := nI (i + 1)) hx hb hX hbl hbA hS (vp_in_nI (by omega) (by omega)) d_L_law_699 ?_
  refine vq_top (y := xs (i + 1)) (by rw [nI_clamp (by omega)]) ?_
  refine lv_aload_n hx hb d_L_law_700 rfl (lv_at hl 4 rfl) ?_
  refine lv_iload hx hb d_L_law_701 (lv_at hl 0 rfl) ?_
  refine lv_iconst (v := 2) hx hb d_L_law_703 (by decide) ?_
  refine lv_iadd hx hb d_L_law_704 ?_
  refine vq_top (y := nI (i + 2)) (nI_add i 2) ?_
  refine va_sld (i := nI (i + 2)) hx hb hX hbl hbA hS (vp_in_nI (by omega) (by omega)) d_L_law_705 ?_
  refine vq_top (y := xs (i + 2)) (by rw [nI_clamp (by omega)]) ?_
  refine lv_aload_n hx hb d_L_law_706 rfl (lv_at hl 1 rfl) ?_
  obtain ⟨hPc, hDc⟩ := sp_xo hP hD
  have hKc := kt_xo hK
  have hFc := fe_xo hD hS hA
  refine va_calli (vq_runSH (n := 4) (As := [.ref (ad 0), .int (xs (i + 1)), .int (xs (i + 2)), .ref o]) (rest := []) ⟨hx, hb, hml, hown, hts⟩ (w_value_2 l htr dC dI ad ca o co fo N σx (xs (i + 1)) (xs (i + 2)) v hF H.size) WSk rfl rfl ⟨by decide, by decide⟩ k_722 k_776 k_861 k_862 (by decide +kernel) ⟨vq_blindN, vq_hereN hnc hst hS hN hPc hKc hDc⟩ rfl rfl hl.1 rfl (lv_room (Nat.le_of_ble_eq_true rfl)) d_L_law_707 ⟨by omega, by omega⟩) hS (fun q _ h => hFc q h) hFc (fun r u t H1 locs ht hvm hw hB hz1 hk1 hS => ?_)
  obtain ⟨hP1, -, hD1⟩ := hB
  rw [ht] at hP1
  have hw : r = 2 := hw
  subst hw
  obtain ⟨hP, hD⟩ := jn_xo hP hD hk1 hFc hP1 hD1
  generalize H1 = H at hP hS ⊢
  refine lv_istore (lv' := [(5, .int 2), (4, .int (nI i)), (3, .ref o), (2, .ref (bd 0)), (1, .ref (ad 0)), (0, .ref b)]) hx hb d_L_law_710 hl (by decide) rfl (fun ls hl => ?_)
  refine lv_aload_n hx hb d_L_law_712 rfl (lv_at hl 3 rfl) ?_
  refine lv_aload_n hx hb d_L_law_713 rfl (lv_at hl 5 rfl) ?_
  refine lv_iload hx hb d_L_law_714 (lv_at hl 1 rfl) ?_
  refine lv_iconst (v := 1) hx hb d_L_law_716 (by decide) ?_
  refine lv_iadd hx hb d_L_law_717 ?_
  refine vq_top (y := nI (i + 1)) (nI_add i 1) ?_
  refine va_sld (i := nI (i + 1)) hx hb hX hbl hbA hS (vp_in_nI (by omega) (by omega)) d_L_law_718 ?_
  refine vq_top (y := xs (i + 1)) (by rw [nI_clamp (by omega)]) ?_
  refine lv_aload_n hx hb d_L_law_719 rfl (lv_at hl 5 rfl) ?_
  refine lv_iload hx hb d_L_law_720 (lv_at hl 1 rfl) ?_
  refine lv_iconst (v := 2) hx hb d_L_law_722 (by decide) ?_
  refine lv_iadd hx hb d_L_law_723 ?_
  refine vq_top (y := nI (i + 2)) (nI_add i 2) ?_
  refine va_sld (i := nI (i + 2)) hx hb hX hbl hbA hS (vp_in_nI (by omega) (by omega)) d_L_law_724 ?_
  refine vq_top (y := xs (i + 2)) (by rw [nI_clamp (by omega)]) ?_
  obtain ⟨hPc, hDc⟩ := sp_m hP hD
  have hKc := kt_m hK
  have hFc := fe_m hD hS hA
  refine va_calli (va_runV (As := [.int (xs (i + 1)), .int (xs (i + 2))]) (rest := []) ⟨hx, hb, hml, hown, hts⟩ (c_M_value l htr dC dI bd cb N σm (xs (i + 1)) (xs (i + 2)) u1 hG1 H.size) (vq_cV WSk hts 2 rfl rfl ⟨by decide, by decide⟩ k_529 k_367 k_863 k_864 k_865 (by decide +kernel)) ⟨vq_blind, va_recv hKc hPc (ci := 8) (q0 := 0) rfl rfl, vq_here hst hS hN hPc hKc hDc⟩ rfl rfl hl.1 rfl (lv_room (Nat.le_of_ble_eq_true rfl)) d_L_law_725 ⟨by omega, by omega⟩) hS (fun q _ h => hFc q h) hFc (fun r u t H1 locs ht hvm hw hB hz1 hk1 hS => ?_)
  obtain ⟨hP1, -, hD1⟩ := hB
  rw [ht] at hP1
  have hw : r = u1.1 := hw
  subst hw
  obtain ⟨hP, hD⟩ := jn_m hP hD hk1 hFc hP1 hD1
  generalize H1 = H at hP hS ⊢
  refine lv_istore (lv' := [(6, .int (u1.1)), (5, .int 2), (4, .int (nI i)), (3, .ref o), (2, .ref (bd 0)), (1, .ref (ad 0)), (0, .ref b)]) hx hb d_L_law_728 hl (by decide) rfl (fun ls hl => ?_)
  refine lv_aload_n hx hb d_L_law_730 rfl (lv_at hl 4 rfl) ?_
  obtain ⟨hPc, hDc⟩ := sp_m hP hD
  have hKc := kt_m hK
  have hFc := fe_m hD hS hA
  refine va_calli (va_runV (As := []) (rest := []) ⟨hx, hb, hml, hown, hts⟩ (c_M_thrown l htr dC dI bd cb N u1.2 u2 hG2 H.size) (vq_cV WSk hts 0 rfl rfl ⟨by decide, by decide⟩ k_358 k_367 k_866 k_867 k_868 (by decide +kernel)) ⟨vq_blind, va_recv hKc hPc (ci := 8) (q0 := 0) rfl rfl, vq_here hst hS hN hPc hKc hDc⟩ rfl rfl hl.1 rfl (lv_room (Nat.le_of_ble_eq_true rfl)) d_L_law_731 ⟨by omega, by omega⟩) hS (fun q _ h => hFc q h) hFc (fun r u t H1 locs ht hvm hw hB hz1 hk1 hS => ?_)
  obtain ⟨hP1, -, hD1⟩ := hB
  rw [ht] at hP1
  have hw : r = u2.1 := hw
  subst hw
  obtain ⟨hP, hD⟩ := jn_m hP hD hk1 hFc hP1 hD1
  generalize H1 = H at hP hS ⊢
  refine lv_iload hx hb d_L_law_734 (lv_at hl 1 rfl) ?_
  refine lv_icmp_eq (tgt := 741) hx hb d_L_law_736 (by decide) (fun _ => ?_) (fun h9 => absurd hcmp h9)
  refine lv_iload hx hb d_L_law_741 (lv_at hl 1 rfl) ?_
  refine lv_if_ne (tgt := 758) hx hb d_L_law_743 (by decide) (fun _ => ?_) (fun h9 => absurd h9 (by decide))
  refine lv_goto (tgt := 761) hx hb d_L_law_758 (by decide) ?_
  exact next H locs ls (lv_sub hl [2, 3, 4, 5, 6] rfl) hP hD hS

set_option maxHeartbeats 8000000 in
set_option maxRecDepth 100000 in
theorem arm_16_3 {p : Program} {e : Env} {s : State} {m : MethodId} {below : List Frame} {meth : Method} {c : Code} (l : Launch) (htr : l.stackTraces = false) {b L i : Nat} {xs : Nat → Int32} {A : Nat → Prop} (dC : Nat → ClassId) (dI : Nat → Nat → Nat) (ad : Nat → Nat) (ca : Nat → ClassId) (o : Nat) (co : ClassId) (bd : Nat → Nat) (cb : Nat → ClassId) (N : Nat) (σx : vS) (fo : Nat → Int64) (σm : vS) (v : Int32 × vS) (u1 : Int32 × vS) (u2 : Int32 × vS) {H : Heap} {locs : List Loc} {ls : Array Slot} {K S : Nat} {Q : State → Prop} (hF : f_V_value N σx (xs (i + 1)) (xs (i + 2)) = some ((3, v.1), v.2)) (hG1 : f_M_value N σm (xs (i + 1)) (xs (i + 2)) = some u1) (hG2 : f_M_thrown N u1.2 = some u2) (hcmp : (u2.1) = 1) (hL : L ≤ 3072) (hi : i + 6 ≤ L) (hKR : K + 1 ≤ 1107) (hSR : S + 6 ≤ 17414) (hx : p.tables.exec = Jvm.exec) (hb : c.code = code) (hml : c.maxLocals = 7) (hown : s.vm.findClass R_L = some m.cls) (hts : ∀ w ∈ WS, w.before #[Value.ref b] s = true) (hX : va_X b L xs s s.heap) (hbl : b < s.heap.size) (hst : vq_st s) (hnc : vq_nc s) (hA : ∀ q : Nat, s.heap.size ≤ q → A q) (hN : ∀ q : Nat, A q → ∀ cell : Cell, s.heap[q]? = some cell → cell.vm.isStatics = false) (hbA : ¬ A b) (hK : va_K (dC, dI) CL (LT ca co cb) s) (hP : va_P (dC, dI) CL (LW ad ca o co bd cb σx fo σm) H) (hD : va_D A (LW ad ca o co bd cb σx fo σm)) (hS : va_S A s.heap H locs) (hl : lv_has ls 7 [(4, .int (nI i)), (3, .ref o), (2, .ref (bd 0)), (1, .ref (ad 0)), (0, .ref b)])
    (next : ∀ (H : Heap) (locs : List Loc) (ls : Array Slot), lv_has ls 7 [(4, .int (nI i)), (3, .ref o), (2, .ref (bd 0)), (1, .ref (ad 0)), (0, .ref b)] → va_P (dC, dI) CL (LW ad ca o co bd cb v.2 fo u2.2) H → va_D A (LW ad ca o co bd cb v.2 fo u2.2) → va_S A s.heap H locs → W p l e room_1 s m #[Value.ref b] below meth c H locs (K + 1 + 0 + 0) (S + 6 + 0 + 0) Q (F0 m 761 ls [])) :
    W p l e room_1 s m #[Value.ref b] below meth c H locs K S Q (F0 m 693 ls []) := by
  have hR1 : room_1.cells = 1107 := rfl
  have hR2 : room_1.slots = 17414 := rfl
  refine lv_aload_n hx hb d_L_law_693 rfl (lv_at hl 3 rfl) ?_
  refine lv_aload_n hx hb d_L_law_694 rfl (lv_at hl 4 rfl) ?_
  refine lv_iload hx hb d_L_law_695 (lv_at hl 0 rfl) ?_
  refine lv_iconst (v := 1) hx hb d_L_law_697 (by decide) ?_
  refine lv_iadd hx hb d_L_law_698 ?_
  refine vq_top (y := nI (i + 1)) (nI_add i 1) ?_
  refine va_sld (i := nI (i + 1)) hx hb hX hbl hbA hS (vp_in_nI (by omega) (by omega)) d_L_law_699 ?_
  refine vq_top (y := xs (i + 1)) (by rw [nI_clamp (by omega)]) ?_
  refine lv_aload_n hx hb d_L_law_700 rfl (lv_at hl 4 rfl) ?_
  refine lv_iload hx hb d_L_law_701 (lv_at hl 0 rfl) ?_
  refine lv_iconst (v := 2) hx hb d_L_law_703 (by decide) ?_
  refine lv_iadd hx hb d_L_law_704 ?_
  refine vq_top (y := nI (i + 2)) (nI_add i 2) ?_
  refine va_sld (i := nI (i + 2)) hx hb hX hbl hbA hS (vp_in_nI (by omega) (by omega)) d_L_law_705 ?_
  refine vq_top (y := xs (i + 2)) (by rw [nI_clamp (by omega)]) ?_
  refine lv_aload_n hx hb d_L_law_706 rfl (lv_at hl 1 rfl) ?_
  obtain ⟨hPc, hDc⟩ := sp_xo hP hD
  have hKc := kt_xo hK
  have hFc := fe_xo hD hS hA
  refine va_calli (vq_runSH (n := 4) (As := [.ref (ad 0), .int (xs (i + 1)), .int (xs (i + 2)), .ref o]) (rest := []) ⟨hx, hb, hml, hown, hts⟩ (w_value_3 l htr dC dI ad ca o co fo N σx (xs (i + 1)) (xs (i + 2)) v hF H.size) WSk rfl rfl ⟨by decide, by decide⟩ k_722 k_776 k_861 k_862 (by decide +kernel) ⟨vq_blindN, vq_hereN hnc hst hS hN hPc hKc hDc⟩ rfl rfl hl.1 rfl (lv_room (Nat.le_of_ble_eq_true rfl)) d_L_law_707 ⟨by omega, by omega⟩) hS (fun q _ h => hFc q h) hFc (fun r u t H1 locs ht hvm hw hB hz1 hk1 hS => ?_)
  obtain ⟨hP1, -, hD1⟩ := hB
  rw [ht] at hP1
  have hw : r = 1 := hw
  subst hw
  obtain ⟨hP, hD⟩ := jn_xo hP hD hk1 hFc hP1 hD1
  generalize H1 = H at hP hS ⊢
  refine lv_istore (lv' := [(5, .int 1), (4, .int (nI i)), (3, .ref o), (2, .ref (bd 0)), (1, .ref (ad 0)), (0, .ref b)]) hx hb d_L_law_710 hl (by decide) rfl (fun ls hl => ?_)
  refine lv_aload_n hx hb d_L_law_712 rfl (lv_at hl 3 rfl) ?_
  refine lv_aload_n hx hb d_L_law_713 rfl (lv_at hl 5 rfl) ?_
  refine lv_iload hx hb d_L_law_714 (lv_at hl 1 rfl) ?_
  refine lv_iconst (v := 1) hx hb d_L_law_716 (by decide) ?_
  refine lv_iadd hx hb d_L_law_717 ?_
  refine vq_top (y := nI (i + 1)) (nI_add i 1) ?_
  refine va_sld (i := nI (i + 1)) hx hb hX hbl hbA hS (vp_in_nI (by omega) (by omega)) d_L_law_718 ?_
  refine vq_top (y := xs (i + 1)) (by rw [nI_clamp (by omega)]) ?_
  refine lv_aload_n hx hb d_L_law_719 rfl (lv_at hl 5 rfl) ?_
  refine lv_iload hx hb d_L_law_720 (lv_at hl 1 rfl) ?_
  refine lv_iconst (v := 2) hx hb d_L_law_722 (by decide) ?_
  refine lv_iadd hx hb d_L_law_723 ?_
  refine vq_top (y := nI (i + 2)) (nI_add i 2) ?_
  refine va_sld (i := nI (i + 2)) hx hb hX hbl hbA hS (vp_in_nI (by omega) (by omega)) d_L_law_724 ?_
  refine vq_top (y := xs (i + 2)) (by rw [nI_clamp (by omega)]) ?_
  obtain ⟨hPc, hDc⟩ := sp_m hP hD
  have hKc := kt_m hK
  have hFc := fe_m hD hS hA
  refine va_calli (va_runV (As := [.int (xs (i + 1)), .int (xs (i + 2))]) (rest := []) ⟨hx, hb, hml, hown, hts⟩ (c_M_value l htr dC dI bd cb N σm (xs (i + 1)) (xs (i + 2)) u1 hG1 H.size) (vq_cV WSk hts 2 rfl rfl ⟨by decide, by decide⟩ k_529 k_367 k_863 k_864 k_865 (by decide +kernel)) ⟨vq_blind, va_recv hKc hPc (ci := 8) (q0 := 0) rfl rfl, vq_here hst hS hN hPc hKc hDc⟩ rfl rfl hl.1 rfl (lv_room (Nat.le_of_ble_eq_true rfl)) d_L_law_725 ⟨by omega, by omega⟩) hS (fun q _ h => hFc q h) hFc (fun r u t H1 locs ht hvm hw hB hz1 hk1 hS => ?_)
  obtain ⟨hP1, -, hD1⟩ := hB
  rw [ht] at hP1
  have hw : r = u1.1 := hw
  subst hw
  obtain ⟨hP, hD⟩ := jn_m hP hD hk1 hFc hP1 hD1
  generalize H1 = H at hP hS ⊢
  refine lv_istore (lv' := [(6, .int (u1.1)), (5, .int 1), (4, .int (nI i)), (3, .ref o), (2, .ref (bd 0)), (1, .ref (ad 0)), (0, .ref b)]) hx hb d_L_law_728 hl (by decide) rfl (fun ls hl => ?_)
  refine lv_aload_n hx hb d_L_law_730 rfl (lv_at hl 4 rfl) ?_
  obtain ⟨hPc, hDc⟩ := sp_m hP hD
  have hKc := kt_m hK
  have hFc := fe_m hD hS hA
  refine va_calli (va_runV (As := []) (rest := []) ⟨hx, hb, hml, hown, hts⟩ (c_M_thrown l htr dC dI bd cb N u1.2 u2 hG2 H.size) (vq_cV WSk hts 0 rfl rfl ⟨by decide, by decide⟩ k_358 k_367 k_866 k_867 k_868 (by decide +kernel)) ⟨vq_blind, va_recv hKc hPc (ci := 8) (q0 := 0) rfl rfl, vq_here hst hS hN hPc hKc hDc⟩ rfl rfl hl.1 rfl (lv_room (Nat.le_of_ble_eq_true rfl)) d_L_law_731 ⟨by omega, by omega⟩) hS (fun q _ h => hFc q h) hFc (fun r u t H1 locs ht hvm hw hB hz1 hk1 hS => ?_)
  obtain ⟨hP1, -, hD1⟩ := hB
  rw [ht] at hP1
  have hw : r = u2.1 := hw
  subst hw
  obtain ⟨hP, hD⟩ := jn_m hP hD hk1 hFc hP1 hD1
  generalize H1 = H at hP hS ⊢
  refine lv_iload hx hb d_L_law_734 (lv_at hl 1 rfl) ?_
  refine lv_icmp_eq (tgt := 741) hx hb d_L_law_736 (by decide) (fun _ => ?_) (fun h9 => absurd hcmp h9)
  refine lv_iload hx hb d_L_law_741 (lv_at hl 1 rfl) ?_
  refine lv_if_ne (tgt := 758) hx hb d_L_law_743 (by decide) (fun _ => ?_) (fun h9 => absurd h9 (by decide))
  refine lv_goto (tgt := 761) hx hb d_L_law_758 (by decide) ?_
  exact next H locs ls (lv_sub hl [2, 3, 4, 5, 6] rfl) hP hD hS
