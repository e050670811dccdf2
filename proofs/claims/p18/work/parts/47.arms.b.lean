set_option maxHeartbeats 8000000 in
set_option maxRecDepth 100000 in
theorem arm_0_0 {p : Program} {e : Env} {s : State} {m : MethodId} {below : List Frame} {meth : Method} {c : Code} (l : Launch) (htr : l.stackTraces = false) {b L i : Nat} {xs : Nat → Int32} {A : Nat → Prop} (dC : Nat → ClassId) (dI : Nat → Nat → Nat) (ad : Nat → Nat) (ca : Nat → ClassId) (o : Nat) (co : ClassId) (bd : Nat → Nat) (cb : Nat → ClassId) (N : Nat) (σx : vS) (fo : Nat → Int64) (σm : vS) (v : Int32 × vS) (u1 : Int32 × vS) {H : Heap} {locs : List Loc} {ls : Array Slot} {K S : Nat} {Q : State → Prop} (hF : f_V_symbol N σx (xs (i + 1)) (xs (i + 2)) = some ((0, v.1), v.2)) (hG1 : f_M_symbol N σm (xs (i + 1)) (xs (i + 2)) = some u1) (hL : L ≤ 3072) (hi : i + 6 ≤ L) (hKR : K + 1 ≤ 1107) (hSR : S + 6 ≤ 17414) (hx : p.tables.exec = Jvm.exec) (hb : c.code = code) (hml : c.maxLocals = 7) (hown : s.vm.findClass R_L = some m.cls) (hts : ∀ w ∈ WS, w.before #[Value.ref b] s = true) (hX : va_X b L xs s s.heap) (hbl : b < s.heap.size) (hst : vq_st s) (hnc : vq_nc s) (hA : ∀ q : Nat, s.heap.size ≤ q → A q) (hN : ∀ q : Nat, A q → ∀ cell : Cell, s.heap[q]? = some cell → cell.vm.isStatics = false) (hbA : ¬ A b) (hK : va_K (dC, dI) CL (LT ca co cb) s) (hP : va_P (dC, dI) CL (LW ad ca o co bd cb σx fo σm) H) (hD : va_D A (LW ad ca o co bd cb σx fo σm)) (hS : va_S A s.heap H locs) (hl : lv_has ls 7 [(4, .int (nI i)), (3, .ref o), (2, .ref (bd 0)), (1, .ref (ad 0)), (0, .ref b)])
    (next : ∀ (H : Heap) (locs : List Loc) (ls : Array Slot), lv_has ls 7 [(4, .int (nI i)), (3, .ref o), (2, .ref (bd 0)), (1, .ref (ad 0)), (0, .ref b)] → va_P (dC, dI) CL (LW ad ca o co bd cb v.2 (vp_updL fo (0 : Int32).toNatClampNeg v.1.toInt64) u1.2) H → va_D A (LW ad ca o co bd cb v.2 (vp_updL fo (0 : Int32).toNatClampNeg v.1.toInt64) u1.2) → va_S A s.heap H locs → W p l e room_1 s m #[Value.ref b] below meth c H locs (K + 0 + 0) (S + 0 + 0) Q (F0 m 761 ls [])) :
    W p l e room_1 s m #[Value.ref b] below meth c H locs K S Q (F0 m 124 ls []) := by
  have hR1 : room_1.cells = 1107 := rfl
  have hR2 : room_1.slots = 17414 := rfl
  refine lv_aload_n hx hb d_L_law_124 rfl (lv_at hl 3 rfl) ?_
  refine lv_aload_n hx hb d_L_law_125 rfl (lv_at hl 4 rfl) ?_
  refine lv_iload hx hb d_L_law_126 (lv_at hl 0 rfl) ?_
  refine lv_iconst (v := 1) hx hb d_L_law_128 (by decide) ?_
  refine lv_iadd hx hb d_L_law_129 ?_
  refine vq_top (y := nI (i + 1)) (nI_add i 1) ?_
  refine va_sld (i := nI (i + 1)) hx hb hX hbl hbA hS (vp_in_nI (by omega) (by omega)) d_L_law_130 ?_
  refine vq_top (y := xs (i + 1)) (by rw [nI_clamp (by omega)]) ?_
  refine lv_aload_n hx hb d_L_law_131 rfl (lv_at hl 4 rfl) ?_
  refine lv_iload hx hb d_L_law_132 (lv_at hl 0 rfl) ?_
  refine lv_iconst (v := 2) hx hb d_L_law_134 (by decide) ?_
  refine lv_iadd hx hb d_L_law_135 ?_
  refine vq_top (y := nI (i + 2)) (nI_add i 2) ?_
  refine va_sld (i := nI (i + 2)) hx hb hX hbl hbA hS (vp_in_nI (by omega) (by omega)) d_L_law_136 ?_
  refine vq_top (y := xs (i + 2)) (by rw [nI_clamp (by omega)]) ?_
  refine lv_aload_n hx hb d_L_law_137 rfl (lv_at hl 1 rfl) ?_
  obtain ⟨hPc, hDc⟩ := sp_xo hP hD
  have hKc := kt_xo hK
  have hFc := fe_xo hD hS hA
  refine va_calli (vq_runSH (n := 4) (As := [.ref (ad 0), .int (xs (i + 1)), .int (xs (i + 2)), .ref o]) (rest := []) ⟨hx, hb, hml, hown, hts⟩ (w_symbol_0 l htr dC dI ad ca o co fo N σx (xs (i + 1)) (xs (i + 2)) v hF H.size) WSk rfl rfl ⟨by decide, by decide⟩ k_666 k_776 k_777 k_778 (by decide +kernel) ⟨vq_blindN, vq_hereN hnc hst hS hN hPc hKc hDc⟩ rfl rfl hl.1 rfl (lv_room (Nat.le_of_ble_eq_true rfl)) d_L_law_138 ⟨by omega, by omega⟩) hS (fun q _ h => hFc q h) hFc (fun r u t H1 locs ht hvm hw hB hz1 hk1 hS => ?_)
  obtain ⟨hP1, -, hD1⟩ := hB
  rw [ht] at hP1
  have hw : r = 0 := hw
  subst hw
  obtain ⟨hP, hD⟩ := jn_xo hP hD hk1 hFc hP1 hD1
  generalize H1 = H at hP hS ⊢
  refine lv_istore (lv' := [(5, .int 0), (4, .int (nI i)), (3, .ref o), (2, .ref (bd 0)), (1, .ref (ad 0)), (0, .ref b)]) hx hb d_L_law_141 hl (by decide) rfl (fun ls hl => ?_)
  refine lv_aload_n hx hb d_L_law_143 rfl (lv_at hl 3 rfl) ?_
  refine lv_aload_n hx hb d_L_law_144 rfl (lv_at hl 5 rfl) ?_
  refine lv_iload hx hb d_L_law_145 (lv_at hl 1 rfl) ?_
  refine lv_iconst (v := 1) hx hb d_L_law_147 (by decide) ?_
  refine lv_iadd hx hb d_L_law_148 ?_
  refine vq_top (y := nI (i + 1)) (nI_add i 1) ?_
  refine va_sld (i := nI (i + 1)) hx hb hX hbl hbA hS (vp_in_nI (by omega) (by omega)) d_L_law_149 ?_
  refine vq_top (y := xs (i + 1)) (by rw [nI_clamp (by omega)]) ?_
  refine lv_aload_n hx hb d_L_law_150 rfl (lv_at hl 5 rfl) ?_
  refine lv_iload hx hb d_L_law_151 (lv_at hl 1 rfl) ?_
  refine lv_iconst (v := 2) hx hb d_L_law_153 (by decide) ?_
  refine lv_iadd hx hb d_L_law_154 ?_
  refine vq_top (y := nI (i + 2)) (nI_add i 2) ?_
  refine va_sld (i := nI (i + 2)) hx hb hX hbl hbA hS (vp_in_nI (by omega) (by omega)) d_L_law_155 ?_
  refine vq_top (y := xs (i + 2)) (by rw [nI_clamp (by omega)]) ?_
  obtain ⟨hPc, hDc⟩ := sp_m hP hD
  have hKc := kt_m hK
  have hFc := fe_m hD hS hA
  refine va_calli (va_runV (As := [.int (xs (i + 1)), .int (xs (i + 2))]) (rest := []) ⟨hx, hb, hml, hown, hts⟩ (c_M_symbol l htr dC dI bd cb N σm (xs (i + 1)) (xs (i + 2)) u1 hG1 H.size) (vq_cV WSk hts 2 rfl rfl ⟨by decide, by decide⟩ k_371 k_367 k_779 k_780 k_781 (by decide +kernel)) ⟨vq_blind, va_recv hKc hPc (ci := 8) (q0 := 0) rfl rfl, vq_here hst hS hN hPc hKc hDc⟩ rfl rfl hl.1 rfl (lv_room (Nat.le_of_ble_eq_true rfl)) d_L_law_156 ⟨by omega, by omega⟩) hS (fun q _ h => hFc q h) hFc (fun r u t H1 locs ht hvm hw hB hz1 hk1 hS => ?_)
  obtain ⟨hP1, -, hD1⟩ := hB
  rw [ht] at hP1
  have hw : r = u1.1 := hw
  subst hw
  obtain ⟨hP, hD⟩ := jn_m hP hD hk1 hFc hP1 hD1
  generalize H1 = H at hP hS ⊢
  refine lv_istore (lv' := [(6, .int (u1.1)), (5, .int 0), (4, .int (nI i)), (3, .ref o), (2, .ref (bd 0)), (1, .ref (ad 0)), (0, .ref b)]) hx hb d_L_law_159 hl (by decide) rfl (fun ls hl => ?_)
  refine lv_goto (tgt := 761) hx hb d_L_law_161 (by decide) ?_
  exact next H locs ls (lv_sub hl [2, 3, 4, 5, 6] rfl) hP hD hS

set_option maxHeartbeats 8000000 in
set_option maxRecDepth 100000 in
theorem arm_0_1 {p : Program} {e : Env} {s : State} {m : MethodId} {below : List Frame} {meth : Method} {c : Code} (l : Launch) (htr : l.stackTraces = false) {b L i : Nat} {xs : Nat → Int32} {A : Nat → Prop} (dC : Nat → ClassId) (dI : Nat → Nat → Nat) (ad : Nat → Nat) (ca : Nat → ClassId) (o : Nat) (co : ClassId) (bd : Nat → Nat) (cb : Nat → ClassId) (N : Nat) (σx : vS) (fo : Nat → Int64) (σm : vS) (v : Int32 × vS) (u1 : Int32 × vS) {H : Heap} {locs : List Loc} {ls : Array Slot} {K S : Nat} {Q : State → Prop} (hF : f_V_symbol N σx (xs (i + 1)) (xs (i + 2)) = some ((1, v.1), v.2)) (hG1 : f_M_symbol N σm (xs (i + 1)) (xs (i + 2)) = some u1) (hL : L ≤ 3072) (hi : i + 6 ≤ L) (hKR : K + 1 ≤ 1107) (hSR : S + 6 ≤ 17414) (hx : p.tables.exec = Jvm.exec) (hb : c.code = code) (hml : c.maxLocals = 7) (hown : s.vm.findClass R_L = some m.cls) (hts : ∀ w ∈ WS, w.before #[Value.ref b] s = true) (hX : va_X b L xs s s.heap) (hbl : b < s.heap.size) (hst : vq_st s) (hnc : vq_nc s) (hA : ∀ q : Nat, s.heap.size ≤ q → A q) (hN : ∀ q : Nat, A q → ∀ cell : Cell, s.heap[q]? = some cell → cell.vm.isStatics = false) (hbA : ¬ A b) (hK : va_K (dC, dI) CL (LT ca co cb) s) (hP : va_P (dC, dI) CL (LW ad ca o co bd cb σx fo σm) H) (hD : va_D A (LW ad ca o co bd cb σx fo σm)) (hS : va_S A s.heap H locs) (hl : lv_has ls 7 [(4, .int (nI i)), (3, .ref o), (2, .ref (bd 0)), (1, .ref (ad 0)), (0, .ref b)])
    (next : ∀ (H : Heap) (locs : List Loc) (ls : Array Slot), lv_has ls 7 [(4, .int (nI i)), (3, .ref o), (2, .ref (bd 0)), (1, .ref (ad 0)), (0, .ref b)] → va_P (dC, dI) CL (LW ad ca o co bd cb v.2 fo u1.2) H → va_D A (LW ad ca o co bd cb v.2 fo u1.2) → va_S A s.heap H locs → W p l e room_1 s m #[Value.ref b] below meth c H locs (K + 1 + 0) (S + 6 + 0) Q (F0 m 761 ls [])) :
    W p l e room_1 s m #[Value.ref b] below meth c H locs K S Q (F0 m 124 ls []) := by
  have hR1 : room_1.cells = 1107 := rfl
  have hR2 : room_1.slots = 17414 := rfl
  refine lv_aload_n hx hb d_L_law_124 rfl (lv_at hl 3 rfl) ?_
  refine lv_aload_n hx hb d_L_law_125 rfl (lv_at hl 4 rfl) ?_
  refine lv_iload hx hb d_L_law_126 (lv_at hl 0 rfl) ?_
  refine lv_iconst (v := 1) hx hb d_L_law_128 (by decide) ?_
  refine lv_iadd hx hb d_L_law_129 ?_
  refine vq_top (y := nI (i + 1)) (nI_add i 1) ?_
  refine va_sld (i := nI (i + 1)) hx hb hX hbl hbA hS (vp_in_nI (by omega) (by omega)) d_L_law_130 ?_
  refine vq_top (y := xs (i + 1)) (by rw [nI_clamp (by omega)]) ?_
  refine lv_aload_n hx hb d_L_law_131 rfl (lv_at hl 4 rfl) ?_
  refine lv_iload hx hb d_L_law_132 (lv_at hl 0 rfl) ?_
  refine lv_iconst (v := 2) hx hb d_L_law_134 (by decide) ?_
  refine lv_iadd hx hb d_L_law_135 ?_
  refine vq_top (y := nI (i + 2)) (nI_add i 2) ?_
  refine va_sld (i := nI (i + 2)) hx hb hX hbl hbA hS (vp_in_nI (by omega) (by omega)) d_L_law_136 ?_
  refine vq_top (y := xs (i + 2)) (by rw [nI_clamp (by omega)]) ?_
  refine lv_aload_n hx hb d_L_law_137 rfl (lv_at hl 1 rfl) ?_
  obtain ⟨hPc, hDc⟩ := sp_xo hP hD
  have hKc := kt_xo hK
  have hFc := fe_xo hD hS hA
  refine va_calli (vq_runSH (n := 4) (As := [.ref (ad 0), .int (xs (i + 1)), .int (xs (i + 2)), .ref o]) (rest := []) ⟨hx, hb, hml, hown, hts⟩ (w_symbol_1 l htr dC dI ad ca o co fo N σx (xs (i + 1)) (xs (i + 2)) v hF H.size) WSk rfl rfl ⟨by decide, by decide⟩ k_666 k_776 k_777 k_778 (by decide +kernel) ⟨vq_blindN, vq_hereN hnc hst hS hN hPc hKc hDc⟩ rfl rfl hl.1 rfl (lv_room (Nat.le_of_ble_eq_true rfl)) d_L_law_138 ⟨by omega, by omega⟩) hS (fun q _ h => hFc q h) hFc (fun r u t H1 locs ht hvm hw hB hz1 hk1 hS => ?_)
  obtain ⟨hP1, -, hD1⟩ := hB
  rw [ht] at hP1
  have hw : r = 1 := hw
  subst hw
  obtain ⟨hP, hD⟩ := jn_xo hP hD hk1 hFc hP1 hD1
  generalize H1 = H at hP hS ⊢
  refine lv_istore (lv' := [(5, .int 1), (4, .int (nI i)), (3, .ref o), (2, .ref (bd 0)), (1, .ref (ad 0)), (0, .ref b)]) hx hb d_L_law_141 hl (by decide) rfl (fun ls hl => ?_)
  refine lv_aload_n hx hb d_L_law_143 rfl (lv_at hl 3 rfl) ?_
  refine lv_aload_n hx hb d_L_law_144 rfl (lv_at hl 5 rfl) ?_
  refine lv_iload hx hb d_L_law_145 (lv_at hl 1 rfl) ?_
  refine lv_iconst (v := 1) hx hb d_L_law_147 (by decide) ?_
  refine lv_iadd hx hb d_L_law_148 ?_
  refine vq_top (y := nI (i + 1)) (nI_add i 1) ?_
  refine va_sld (i := nI (i + 1)) hx hb hX hbl hbA hS (vp_in_nI (by omega) (by omega)) d_L_law_149 ?_
  refine vq_top (y := xs (i + 1)) (by rw [nI_clamp (by omega)]) ?_
  refine lv_aload_n hx hb d_L_law_150 rfl (lv_at hl 5 rfl) ?_
  refine lv_iload hx hb d_L_law_151 (lv_at hl 1 rfl) ?_
  refine lv_iconst (v := 2) hx hb d_L_law_153 (by decide) ?_
  refine lv_iadd hx hb d_L_law_154 ?_
  refine vq_top (y := nI (i + 2)) (nI_add i 2) ?_
  refine va_sld (i := nI (i + 2)) hx hb hX hbl hbA hS (vp_in_nI (by omega) (by omega)) d_L_law_155 ?_
  refine vq_top (y := xs (i + 2)) (by rw [nI_clamp (by omega)]) ?_
  obtain ⟨hPc, hDc⟩ := sp_m hP hD
  have hKc := kt_m hK
  have hFc := fe_m hD hS hA
  refine va_calli (va_runV (As := [.int (xs (i + 1)), .int (xs (i + 2))]) (rest := []) ⟨hx, hb, hml, hown, hts⟩ (c_M_symbol l htr dC dI bd cb N σm (xs (i + 1)) (xs (i + 2)) u1 hG1 H.size) (vq_cV WSk hts 2 rfl rfl ⟨by decide, by decide⟩ k_371 k_367 k_779 k_780 k_781 (by decide +kernel)) ⟨vq_blind, va_recv hKc hPc (ci := 8) (q0 := 0) rfl rfl, vq_here hst hS hN hPc hKc hDc⟩ rfl rfl hl.1 rfl (lv_room (Nat.le_of_ble_eq_true rfl)) d_L_law_156 ⟨by omega, by omega⟩) hS (fun q _ h => hFc q h) hFc (fun r u t H1 locs ht hvm hw hB hz1 hk1 hS => ?_)
  obtain ⟨hP1, -, hD1⟩ := hB
  rw [ht] at hP1
  have hw : r = u1.1 := hw
  subst hw
  obtain ⟨hP, hD⟩ := jn_m hP hD hk1 hFc hP1 hD1
  generalize H1 = H at hP hS ⊢
  refine lv_istore (lv' := [(6, .int (u1.1)), (5, .int 1), (4, .int (nI i)), (3, .ref o), (2, .ref (bd 0)), (1, .ref (ad 0)), (0, .ref b)]) hx hb d_L_law_159 hl (by decide) rfl (fun ls hl => ?_)
  refine lv_goto (tgt := 761) hx hb d_L_law_161 (by decide) ?_
  exact next H locs ls (lv_sub hl [2, 3, 4, 5, 6] rfl) hP hD hS

set_option maxHeartbeats 8000000 in
set_option maxRecDepth 100000 in
theorem arm_0_2 {p : Program} {e : Env} {s : State} {m : MethodId} {below : List Frame} {meth : Method} {c : Code} (l : Launch) (htr : l.stackTraces = false) {b L i : Nat} {xs : Nat → Int32} {A : Nat → Prop} (dC : Nat → ClassId) (dI : Nat → Nat → Nat) (ad : Nat → Nat) (ca : Nat → ClassId) (o : Nat) (co : ClassId) (bd : Nat → Nat) (cb : Nat → ClassId) (N : Nat) (σx : vS) (fo : Nat → Int64) (σm : vS) (v : Int32 × vS) (u1 : Int32 × vS) {H : Heap} {locs : List Loc} {ls : Array Slot} {K S : Nat} {Q : State → Prop} (hF : f_V_symbol N σx (xs (i + 1)) (xs (i + 2)) = some ((2, v.1), v.2)) (hG1 : f_M_symbol N σm (xs (i + 1)) (xs (i + 2)) = some u1) (hL : L ≤ 3072) (hi : i + 6 ≤ L) (hKR : K + 1 ≤ 1107) (hSR : S + 6 ≤ 17414) (hx : p.tables.exec = Jvm.exec) (hb : c.code = code) (hml : c.maxLocals = 7) (hown : s.vm.findClass R_L = some m.cls) (hts : ∀ w ∈ WS, w.before #[Value.ref b] s = true) (hX : va_X b L xs s s.heap) (hbl : b < s.heap.size) (hst : vq_st s) (hnc : vq_nc s) (hA : ∀ q : Nat, s.heap.size ≤ q → A q) (hN : ∀ q : Nat, A q → ∀ cell : Cell, s.heap[q]? = some cell → cell.vm.isStatics = false) (hbA : ¬ A b) (hK : va_K (dC, dI) CL (LT ca co cb) s) (hP : va_P (dC, dI) CL (LW ad ca o co bd cb σx fo σm) H) (hD : va_D A (LW ad ca o co bd cb σx fo σm)) (hS : va_S A s.heap H locs) (hl : lv_has ls 7 [(4, .int (nI i)), (3, .ref o), (2, .ref (bd 0)), (1, .ref (ad 0)), (0, .ref b)])
    (next : ∀ (H : Heap) (locs : List Loc) (ls : Array Slot), lv_has ls 7 [(4, .int (nI i)), (3, .ref o), (2, .ref (bd 0)), (1, .ref (ad 0)), (0, .ref b)] → va_P (dC, dI) CL (LW ad ca o co bd cb v.2 fo u1.2) H → va_D A (LW ad ca o co bd cb v.2 fo u1.2) → va_S A s.heap H locs → W p l e room_1 s m #[Value.ref b] below meth c H locs (K + 1 + 0) (S + 6 + 0) Q (F0 m 761 ls [])) :
    W p l e room_1 s m #[Value.ref b] below meth c H locs K S Q (F0 m 124 ls []) := by
  have hR1 : room_1.cells = 1107 := rfl
  have hR2 : room_1.slots = 17414 := rfl
  refine lv_aload_n hx hb d_L_law_124 rfl (lv_at hl 3 rfl) ?_
  refine lv_aload_n hx hb d_L_law_125 rfl (lv_at hl 4 rfl) ?_
  refine lv_iload hx hb d_L_law_126 (lv_at hl 0 rfl) ?_
  refine lv_iconst (v := 1) hx hb d_L_law_128 (by decide) ?_
  refine lv_iadd hx hb d_L_law_129 ?_
  refine vq_top (y := nI (i + 1)) (nI_add i 1) ?_
  refine va_sld (i := nI (i + 1)) hx hb hX hbl hbA hS (vp_in_nI (by omega) (by omega)) d_L_law_130 ?_
  refine vq_top (y := xs (i + 1)) (by rw [nI_clamp (by omega)]) ?_
  refine lv_aload_n hx hb d_L_law_131 rfl (lv_at hl 4 rfl) ?_
  refine lv_iload hx hb d_L_law_132 (lv_at hl 0 rfl) ?_
  refine lv_iconst (v := 2) hx hb d_L_law_134 (by decide) ?_
  refine lv_iadd hx hb d_L_law_135 ?_
  refine vq_top (y := nI (i + 2)) (nI_add i 2) ?_
  refine va_sld (i := nI (i + 2)) hx hb hX hbl hbA hS (vp_in_nI (by omega) (by omega)) d_L_law_136 ?_
  refine vq_top (y := xs (i + 2)) (by rw [nI_clamp (by omega)]) ?_
  refine lv_aload_n hx hb d_L_law_137 rfl (lv_at hl 1 rfl) ?_
  obtain ⟨hPc, hDc⟩ := sp_xo hP hD
  have hKc := kt_xo hK
  have hFc := fe_xo hD hS hA
  refine va_calli (vq_runSH (n := 4) (As := [.ref (ad 0), .int (xs (i + 1)), .int (xs (i + 2)), .ref o]) (rest := []) ⟨hx, hb, hml, hown, hts⟩ (w_symbol_2 l htr dC dI ad ca o co fo N σx (xs (i + 1)) (xs (i + 2)) v hF H.size) WSk rfl rfl ⟨by decide, by decide⟩ k_666 k_776 k_777 k_778 (by decide +kernel) ⟨vq_blindN, vq_hereN hnc hst hS hN hPc hKc hDc⟩ rfl rfl hl.1 rfl (lv_room (Nat.le_of_ble_eq_true rfl)) d_L_law_138 ⟨by omega, by omega⟩) hS (fun q _ h => hFc q h) hFc (fun r u t H1 locs ht hvm hw hB hz1 hk1 hS => ?_)
  obtain ⟨hP1, -, hD1⟩ := hB
  rw [ht] at hP1
  have hw : r = 2 := hw
  subst hw
  obtain ⟨hP, hD⟩ := jn_xo hP hD hk1 hFc hP1 hD1
  generalize H1 = H at hP hS ⊢
  refine lv_istore (lv' := [(5, .int 2), (4, .int (nI i)), (3, .ref o), (2, .ref (bd 0)), (1, .ref (ad 0)), (0, .ref b)]) hx hb d_L_law_141 hl (by decide) rfl (fun ls hl => ?_)
  refine lv_aload_n hx hb d_L_law_143 rfl (lv_at hl 3 rfl) ?_
  refine lv_aload_n hx hb d_L_law_144 rfl (lv_at hl 5 rfl) ?_
  refine lv_iload hx hb d_L_law_145 (lv_at hl 1 rfl) ?_
  refine lv_iconst (v := 1) hx hb d_L_law_147 (by decide) ?_
  refine lv_iadd hx hb d_L_law_148 ?_
  refine vq_top (y := nI (i + 1)) (nI_add i 1) ?_
  refine va_sld (i := nI (i + 1)) hx hb hX hbl hbA hS (vp_in_nI (by omega) (by omega)) d_L_law_149 ?_
  refine vq_top (y := xs (i + 1)) (by rw [nI_clamp (by omega)]) ?_
  refine lv_aload_n hx hb d_L_law_150 rfl (lv_at hl 5 rfl) ?_
  refine lv_iload hx hb d_L_law_151 (lv_at hl 1 rfl) ?_
  refine lv_iconst (v := 2) hx hb d_L_law_153 (by decide) ?_
  refine lv_iadd hx hb d_L_law_154 ?_
  refine vq_top (y := nI (i + 2)) (nI_add i 2) ?_
  refine va_sld (i := nI (i + 2)) hx hb hX hbl hbA hS (vp_in_nI (by omega) (by omega)) d_L_law_155 ?_
  refine vq_top (y := xs (i + 2)) (by rw [nI_clamp (by omega)]) ?_
  obtain ⟨hPc, hDc⟩ := sp_m hP hD
  have hKc := kt_m hK
  have hFc := fe_m hD hS hA
  refine va_calli (va_runV (As := [.int (xs (i + 1)), .int (xs (i + 2))]) (rest := []) ⟨hx, hb, hml, hown, hts⟩ (c_M_symbol l htr dC dI bd cb N σm (xs (i + 1)) (xs (i + 2)) u1 hG1 H.size) (vq_cV WSk hts 2 rfl rfl ⟨by decide, by decide⟩ k_371 k_367 k_779 k_780 k_781 (by decide +kernel)) ⟨vq_blind, va_recv hKc hPc (ci := 8) (q0 := 0) rfl rfl, vq_here hst hS hN hPc hKc hDc⟩ rfl rfl hl.1 rfl (lv_room (Nat.le_of_ble_eq_true rfl)) d_L_law_156 ⟨by omega, by omega⟩) hS (fun q _ h => hFc q h) hFc (fun r u t H1 locs ht hvm hw hB hz1 hk1 hS => ?_)
  obtain ⟨hP1, -, hD1⟩ := hB
  rw [ht] at hP1
  have hw : r = u1.1 := hw
  subst hw
  obtain ⟨hP, hD⟩ := jn_m hP hD hk1 hFc hP1 hD1
  generalize H1 = H at hP hS ⊢
  refine lv_istore (lv' := [(6, .int (u1.1)), (5, .int 2), (4, .int (nI i)), (3, .ref o), (2, .ref (bd 0)), (1, .ref (ad 0)), (0, .ref b)]) hx hb d_L_law_159 hl (by decide) rfl (fun ls hl => ?_)
  refine lv_goto (tgt := 761) hx hb d_L_law_161 (by decide) ?_
  exact next H locs ls (lv_sub hl [2, 3, 4, 5, 6] rfl) hP hD hS

set_option maxHeartbeats 8000000 in
set_option maxRecDepth 100000 in
theorem arm_1_0 {p : Program} {e : Env} {s : State} {m : MethodId} {below : List Frame} {meth : Method} {c : Code} (l : Launch) (htr : l.stackTraces = false) {b L i : Nat} {xs : Nat → Int32} {A : Nat → Prop} (dC : Nat → ClassId) (dI : Nat → Nat → Nat) (ad : Nat → Nat) (ca : Nat → ClassId) (o : Nat) (co : ClassId) (bd : Nat → Nat) (cb : Nat → ClassId) (N : Nat) (σx : vS) (fo : Nat → Int64) (σm : vS) (v : Int32 × vS) (u1 : Int32 × vS) {H : Heap} {locs : List Loc} {ls : Array Slot} {K S : Nat} {Q : State → Prop} (hF : f_V_production N σx (xs (i + 1)) (xs (i + 2)) (xs (i + 3)) (xs (i + 4)) = some ((0, v.1), v.2)) (hG1 : f_M_production N σm (xs (i + 1)) (xs (i + 2)) (xs (i + 3)) (xs (i + 4)) = some u1) (hL : L ≤ 3072) (hi : i + 6 ≤ L) (hKR : K + 1 ≤ 1107) (hSR : S + 6 ≤ 17414) (hx : p.tables.exec = Jvm.exec) (hb : c.code = code) (hml : c.maxLocals = 7) (hown : s.vm.findClass R_L = some m.cls) (hts : ∀ w ∈ WS, w.before #[Value.ref b] s = true) (hX : va_X b L xs s s.heap) (hbl : b < s.heap.size) (hst : vq_st s) (hnc : vq_nc s) (hA : ∀ q : Nat, s.heap.size ≤ q → A q) (hN : ∀ q : Nat, A q → ∀ cell : Cell, s.heap[q]? = some cell → cell.vm.isStatics = false) (hbA : ¬ A b) (hK : va_K (dC, dI) CL (LT ca co cb) s) (hP : va_P (dC, dI) CL (LW ad ca o co bd cb σx fo σm) H) (hD : va_D A (LW ad ca o co bd cb σx fo σm)) (hS : va_S A s.heap H locs) (hl : lv_has ls 7 [(4, .int (nI i)), (3, .ref o), (2, .ref (bd 0)), (1, .ref (ad 0)), (0, .ref b)])
    (next : ∀ (H : Heap) (locs : List Loc) (ls : Array Slot), lv_has ls 7 [(4, .int (nI i)), (3, .ref o), (2, .ref (bd 0)), (1, .ref (ad 0)), (0, .ref b)] → va_P (dC, dI) CL (LW ad ca o co bd cb v.2 (vp_updL fo (0 : Int32).toNatClampNeg v.1.toInt64) u1.2) H → va_D A (LW ad ca o co bd cb v.2 (vp_updL fo (0 : Int32).toNatClampNeg v.1.toInt64) u1.2) → va_S A s.heap H locs → W p l e room_1 s m #[Value.ref b] below meth c H locs (K + 0 + 0) (S + 0 + 0) Q (F0 m 761 ls [])) :
    W p l e room_1 s m #[Value.ref b] below meth c H locs K S Q (F0 m 164 ls []) := by
  have hR1 : room_1.cells = 1107 := rfl
  have hR2 : room_1.slots = 17414 := rfl
  refine lv_aload_n hx hb d_L_law_164 rfl (lv_at hl 3 rfl) ?_
  refine lv_aload_n hx hb d_L_law_165 rfl (lv_at hl 4 rfl) ?_
  refine lv_iload hx hb d_L_law_166 (lv_at hl 0 rfl) ?_
  refine lv_iconst (v := 1) hx hb d_L_law_168 (by decide) ?_
  refine lv_iadd hx hb d_L_law_169 ?_
  refine vq_top (y := nI (i + 1)) (nI_add i 1) ?_
  refine va_sld (i := nI (i + 1)) hx hb hX hbl hbA hS (vp_in_nI (by omega) (by omega)) d_L_law_170 ?_
  refine vq_top (y := xs (i + 1)) (by rw [nI_clamp (by omega)]) ?_
  refine lv_aload_n hx hb d_L_law_171 rfl (lv_at hl 4 rfl) ?_
  refine lv_iload hx hb d_L_law_172 (lv_at hl 0 rfl) ?_
  refine lv_iconst (v := 2) hx hb d_L_law_174 (by decide) ?_
  refine lv_iadd hx hb d_L_law_175 ?_
  refine vq_top (y := nI (i + 2)) (nI_add i 2) ?_
  refine va_sld (i := nI (i + 2)) hx hb hX hbl hbA hS (vp_in_nI (by omega) (by omega)) d_L_law_176 ?_
  refine vq_top (y := xs (i + 2)) (by rw [nI_clamp (by omega)]) ?_
  refine lv_aload_n hx hb d_L_law_177 rfl (lv_at hl 4 rfl) ?_
  refine lv_iload hx hb d_L_law_178 (lv_at hl 0 rfl) ?_
  refine lv_iconst (v := 3) hx hb d_L_law_180 (by decide) ?_
  refine lv_iadd hx hb d_L_law_181 ?_
  refine vq_top (y := nI (i + 3)) (nI_add i 3) ?_
  refine va_sld (i := nI (i + 3)) hx hb hX hbl hbA hS (vp_in_nI (by omega) (by omega)) d_L_law_182 ?_
  refine vq_top (y := xs (i + 3)) (by rw [nI_clamp (by omega)]) ?_
  refine lv_aload_n hx hb d_L_law_183 rfl (lv_at hl 4 rfl) ?_
  refine lv_iload hx hb d_L_law_184 (lv_at hl 0 rfl) ?_
  refine lv_iconst (v := 4) hx hb d_L_law_186 (by decide) ?_
  refine lv_iadd hx hb d_L_law_187 ?_
  refine vq_top (y := nI (i + 4)) (nI_add i 4) ?_
  refine va_sld (i := nI (i + 4)) hx hb hX hbl hbA hS (vp_in_nI (by omega) (by omega)) d_L_law_188 ?_
  refine vq_top (y := xs (i + 4)) (by rw [nI_clamp (by omega)]) ?_
  refine lv_aload_n hx hb d_L_law_189 rfl (lv_at hl 1 rfl) ?_
  obtain ⟨hPc, hDc⟩ := sp_xo hP hD
  have hKc := kt_xo hK
  have hFc := fe_xo hD hS hA
  refine va_calli (vq_runSH (n := 6) (As := [.ref (ad 0), .int (xs (i + 1)), .int (xs (i + 2)), .int (xs (i + 3)), .int (xs (i + 4)), .ref o]) (rest := []) ⟨hx, hb, hml, hown, hts⟩ (w_production_0 l htr dC dI ad ca o co fo N σx (xs (i + 1)) (xs (i + 2)) (xs (i + 3)) (xs (i + 4)) v hF H.size) WSk rfl rfl ⟨by decide, by decide⟩ k_674 k_776 k_782 k_783 (by decide +kernel) ⟨vq_blindN, vq_hereN hnc hst hS hN hPc hKc hDc⟩ rfl rfl hl.1 rfl (lv_room (Nat.le_of_ble_eq_true rfl)) d_L_law_190 ⟨by omega, by omega⟩) hS (fun q _ h => hFc q h) hFc (fun r u t H1 locs ht hvm hw hB hz1 hk1 hS => ?_)
  obtain ⟨hP1, -, hD1⟩ := hB
  rw [ht] at hP1
  have hw : r = 0 := hw
  subst hw
  obtain ⟨hP, hD⟩ := jn_xo hP hD hk1 hFc hP1 hD1
  generalize H1 = H at hP hS ⊢
  refine lv_istore (lv' := [(5, .int 0), (4, .int (nI i)), (3, .ref o), (2, .ref (bd 0)), (1, .ref (ad 0)), (0, .ref b)]) hx hb d_L_law_193 hl (by decide) rfl (fun ls hl => ?_)
  refine lv_aload_n hx hb d_L_law_195 rfl (lv_at hl 3 rfl) ?_
  refine lv_aload_n hx hb d_L_law_196 rfl (lv_at hl 5 rfl) ?_
  refine lv_iload hx hb d_L_law_197 (lv_at hl 1 rfl) ?_
  refine lv_iconst (v := 1) hx hb d_L_law_199 (by decide) ?_
  refine lv_iadd hx hb d_L_law_200 ?_
  refine vq_top (y := nI (i + 1)) (nI_add i 1) ?_
  refine va_sld (i := nI (i + 1)) hx hb hX hbl hbA hS (vp_in_nI (by omega) (by omega)) d_L_law_201 ?_
  refine vq_top (y := xs (i + 1)) (by rw [nI_clamp (by omega)]) ?_
  refine lv_aload_n hx hb d_L_law_202 rfl (lv_at hl 5 rfl) ?_
  refine lv_iload hx hb d_L_law_203 (lv_at hl 1 rfl) ?_
  refine lv_iconst (v := 2) hx hb d_L_law_205 (by decide) ?_
  refine lv_iadd hx hb d_L_law_206 ?_
  refine vq_top (y := nI (i + 2)) (nI_add i 2) ?_
  refine va_sld (i := nI (i + 2)) hx hb hX hbl hbA hS (vp_in_nI (by omega) (by omega)) d_L_law_207 ?_
  refine vq_top (y := xs (i + 2)) (by rw [nI_clamp (by omega)]) ?_
  refine lv_aload_n hx hb d_L_law_208 rfl (lv_at hl 5 rfl) ?_
  refine lv_iload hx hb d_L_law_209 (lv_at hl 1 rfl) ?_
  refine lv_iconst (v := 3) hx hb d_L_law_211 (by decide) ?_
  refine lv_iadd hx hb d_L_law_212 ?_
  refine vq_top (y := nI (i + 3)) (nI_add i 3) ?_
  refine va_sld (i := nI (i + 3)) hx hb hX hbl hbA hS (vp_in_nI (by omega) (by omega)) d_L_law_213 ?_
  refine vq_top (y := xs (i + 3)) (by rw [nI_clamp (by omega)]) ?_
  refine lv_aload_n hx hb d_L_law_214 rfl (lv_at hl 5 rfl) ?_
  refine lv_iload hx hb d_L_law_215 (lv_at hl 1 rfl) ?_
  refine lv_iconst (v := 4) hx hb d_L_law_217 (by decide) ?_
  refine lv_iadd hx hb d_L_law_218 ?_
  refine vq_top (y := nI (i + 4)) (nI_add i 4) ?_
  refine va_sld (i := nI (i + 4)) hx hb hX hbl hbA hS (vp_in_nI (by omega) (by omega)) d_L_law_219 ?_
  refine vq_top (y := xs (i + 4)) (by rw [nI_clamp (by omega)]) ?_
  obtain ⟨hPc, hDc⟩ := sp_m hP hD
  have hKc := kt_m hK
  have hFc := fe_m hD hS hA
  refine va_calli (va_runV (As := [.int (xs (i + 1)), .int (xs (i + 2)), .int (xs (i + 3)), .int (xs (i + 4))]) (rest := []) ⟨hx, hb, hml, hown, hts⟩ (c_M_production l htr dC dI bd cb N σm (xs (i + 1)) (xs (i + 2)) (xs (i + 3)) (xs (i + 4)) u1 hG1 H.size) (vq_cV WSk hts 4 rfl rfl ⟨by decide, by decide⟩ k_379 k_367 k_784 k_785 k_786 (by decide +kernel)) ⟨vq_blind, va_recv hKc hPc (ci := 8) (q0 := 0) rfl rfl, vq_here hst hS hN hPc hKc hDc⟩ rfl rfl hl.1 rfl (lv_room (Nat.le_of_ble_eq_true rfl)) d_L_law_220 ⟨by omega, by omega⟩) hS (fun q _ h => hFc q h) hFc (fun r u t H1 locs ht hvm hw hB hz1 hk1 hS => ?_)
  obtain ⟨hP1, -, hD1⟩ := hB
  rw [ht] at hP1
  have hw : r = u1.1 := hw
  subst hw
  obtain ⟨hP, hD⟩ := jn_m hP hD hk1 hFc hP1 hD1
  generalize H1 = H at hP hS ⊢
  refine lv_istore (lv' := [(6, .int (u1.1)), (5, .int 0), (4, .int (nI i)), (3, .ref o), (2, .ref (bd 0)), (1, .ref (ad 0)), (0, .ref b)]) hx hb d_L_law_223 hl (by decide) rfl (fun ls hl => ?_)
  refine lv_goto (tgt := 761) hx hb d_L_law_225 (by decide) ?_
  exact next H locs ls (lv_sub hl [2, 3, 4, 5, 6] rfl) hP hD hS

set_option maxHeartbeats 8000000 in
set_option maxRecDepth 100000 in
theorem arm_1_1 {p : Program} {e : Env} {s : State} {m : MethodId} {below : List Frame} {meth : Method} {c : Code} (l : Launch) (htr : l.stackTraces = false) {b L i : Nat} {xs : Nat → Int32} {A : Nat → Prop} (dC : Nat → ClassId) (dI : Nat → Nat → Nat) (ad : Nat → Nat) (ca : Nat → ClassId) (o : Nat) (co : ClassId) (bd : Nat → Nat) (cb : Nat → ClassId) (N : Nat) (σx : vS) (fo : Nat → Int64) (σm : vS) (v : Int32 × vS) (u1 : Int32 × vS) {H : Heap} {locs : List Loc} {ls : Array Slot} {K S : Nat} {Q : State → Prop} (hF : f_V_production N σx (xs (i + 1)) (xs (i + 2)) (xs (i + 3)) (xs (i + 4)) = some ((1, v.1), v.2)) (hG1 : f_M_production N σm (xs (i + 1)) (xs (i + 2)) (xs (i + 3)) (xs (i + 4)) = some u1) (hL : L ≤ 3072) (hi : i + 6 ≤ L) (hKR : K + 1 ≤ 1107) (hSR : S + 6 ≤ 17414) (hx : p.tables.exec = Jvm.exec) (hb : c.code = code) (hml : c.maxLocals = 7) (hown : s.vm.findClass R_L = some m.cls) (hts : ∀ w ∈ WS, w.before #[Value.ref b] s = true) (hX : va_X b L xs s s.heap) (hbl : b < s.heap.size) (hst : vq_st s) (hnc : vq_nc s) (hA : ∀ q : Nat, s.heap.size ≤ q → A q) (hN : ∀ q : Nat, A q → ∀ cell : Cell, s.heap[q]? = some cell → cell.vm.isStatics = false) (hbA : ¬ A b) (hK : va_K (dC, dI) CL (LT ca co cb) s) (hP : va_P (dC, dI) CL (LW ad ca o co bd cb σx fo σm) H) (hD : va_D A (LW ad ca o co bd cb σx fo σm)) (hS : va_S A s.heap H locs) (hl : lv_has ls 7 [(4, .int (nI i)), (3, .ref o), (2, .ref (bd 0)), (1, .ref (ad 0)), (0, .ref b)])
    (next : ∀ (H : Heap) (locs : List Loc) (ls : Array Slot), lv_has ls 7 [(4, .int (nI i)), (3, .ref o), (2, .ref (bd 0)), (1, .ref (ad 0)), (0, .ref b)] → va_P (dC, dI) CL (LW ad ca o co bd cb v.2 fo u1.2) H → va_D A (LW ad ca o co bd cb v.2 fo u1.2) → va_S A s.heap H locs → W p l e room_1 s m #[Value.ref b] below meth c H locs (K + 1 + 0) (S + 6 + 0) Q (F0 m 761 ls [])) :
    W p l e room_1 s m #[Value.ref b] below meth c H locs K S Q (F0 m 164 ls []) := by
  have hR1 : room_1.cells = 1107 := rfl
  have hR2 : room_1.slots = 17414 := rfl
  refine lv_aload_n hx hb d_L_law_164 rfl (lv_at hl 3 rfl) ?_
  refine lv_aload_n hx hb d_L_law_165 rfl (lv_at hl 4 rfl) ?_
  refine lv_iload hx hb d_L_law_166 (lv_at hl 0 rfl) ?_
  refine lv_iconst (v := 1) hx hb d_L_law_168 (by decide) ?_
  refine lv_iadd hx hb d_L_law_169 ?_
  refine vq_top (y := nI (i + 1)) (nI_add i 1) ?_
  refine va_sld (i := nI (i + 1)) hx hb hX hbl hbA hS (vp_in_nI (by omega) (by omega)) d_L_law_170 ?_
  refine vq_top (y := xs (i + 1)) (by rw [nI_clamp (by omega)]) ?_
  refine lv_aload_n hx hb d_L_law_171 rfl (lv_at hl 4 rfl) ?_
  refine lv_iload hx hb d_L_law_172 (lv_at hl 0 rfl) ?_
  refine lv_iconst (v := 2) hx hb d_L_law_174 (by decide) ?_
  refine lv_iadd hx hb d_L_law_175 ?_
  refine vq_top (y := nI (i + 2)) (nI_add i 2) ?_
  refine va_sld (i := nI (i + 2)) hx hb hX hbl hbA hS (vp_in_nI (by omega) (by omega)) d_L_law_176 ?_
  refine vq_top (y := xs (i + 2)) (by rw [nI_clamp (by omega)]) ?_
  refine lv_aload_n hx hb d_L_law_177 rfl (lv_at hl 4 rfl) ?_
  refine lv_iload hx hb d_L_law_178 (lv_at hl 0 rfl) ?_
  refine lv_iconst (v := 3) hx hb d_L_law_180 (by decide) ?_
  refine lv_iadd hx hb d_L_law_181 ?_
  refine vq_top (y := nI (i + 3)) (nI_add i 3) ?_
  refine va_sld (i := nI (i + 3)) hx hb hX hbl hbA hS (vp_in_nI (by omega) (by omega)) d_L_law_182 ?_
  refine vq_top (y := xs (i + 3)) (by rw [nI_clamp (by omega)]) ?_
  refine lv_aload_n hx hb d_L_law_183 rfl (lv_at hl 4 rfl) ?_
  refine lv_iload hx hb d_L_law_184 (lv_at hl 0 rfl) ?_
  refine lv_iconst (v := 4) hx hb d_L_law_186 (by decide) ?_
  refine lv_iadd hx hb d_L_law_187 ?_
  refine vq_top (y := nI (i + 4)) (nI_add i 4) ?_
  refine va_sld (i := nI (i + 4)) hx hb hX hbl hbA hS (vp_in_nI (by omega) (by omega)) d_L_law_188 ?_
  refine vq_top (y := xs (i + 4)) (by rw [nI_clamp (by omega)]) ?_
  refine lv_aload_n hx hb d_L_law_189 rfl (lv_at hl 1 rfl) ?_
  obtain ⟨hPc, hDc⟩ := sp_xo hP hD
  have hKc := kt_xo hK
  have hFc := fe_xo hD hS hA
  refine va_calli (vq_runSH (n := 6) (As := [.ref (ad 0), .int (xs (i + 1)), .int (xs (i + 2)), .int (xs (i + 3)), .int (xs (i + 4)), .ref o]) (rest := []) ⟨hx, hb, hml, hown, hts⟩ (w_production_1 l htr dC dI ad ca o co fo N σx (xs (i + 1)) (xs (i + 2)) (xs (i + 3)) (xs (i + 4)) v hF H.size) WSk rfl rfl ⟨by decide, by decide⟩ k_674 k_776 k_782 k_783 (by decide +kernel) ⟨vq_blindN, vq_hereN hnc hst hS hN hPc hKc hDc⟩ rfl rfl hl.1 rfl (lv_room (Nat.le_of_ble_eq_true rfl)) d_L_law_190 ⟨by omega, by omega⟩) hS (fun q _ h => hFc q h) hFc (fun r u t H1 locs ht hvm hw hB hz1 hk1 hS => ?_)
  obtain ⟨hP1, -, hD1⟩ := hB
  rw [ht] at hP1
  have hw : r = 1 := hw
  subst hw
  obtain ⟨hP, hD⟩ := jn_xo hP hD hk1 hFc hP1 hD1
  generalize H1 = H at hP hS ⊢
  refine lv_istore (lv' := [(5, .int 1), (4, .int (nI i)), (3, .ref o), (2, .ref (bd 0)), (1, .ref (ad 0)), (0, .ref b)]) hx hb d_L_law_193 hl (by decide) rfl (fun ls hl => ?_)
  refine lv_aload_n hx hb d_L_law_195 rfl (lv_at hl 3 rfl) ?_
  refine lv_aload_n hx hb d_L_law_196 rfl (lv_at hl 5 rfl) ?_
  refine lv_iload hx hb d_L_law_197 (lv_at hl 1 rfl) ?_
  refine lv_iconst (v := 1) hx hb d_L_law_199 (by decide) ?_
  refine lv_iadd hx hb d_L_law_200 ?_
  refine vq_top (y := nI (i + 1)) (nI_add i 1) ?_
  refine va_sld (i := nI (i + 1)) hx hb hX hbl hbA hS (vp_in_nI (by omega) (by omega)) d_L_law_201 ?_
  refine vq_top (y := xs (i + 1)) (by rw [nI_clamp (by omega)]) ?_
  refine lv_aload_n hx hb d_L_law_202 rfl (lv_at hl 5 rfl) ?_
  refine lv_iload hx hb d_L_law_203 (lv_at hl 1 rfl) ?_
  refine lv_iconst (v := 2) hx hb d_L_law_205 (by decide) ?_
  refine lv_iadd hx hb d_L_law_206 ?_
  refine vq_top (y := nI (i + 2)) (nI_add i 2) ?_
  refine va_sld (i := nI (i + 2)) hx hb hX hbl hbA hS (vp_in_nI (by omega) (by omega)) d_L_law_207 ?_
  refine vq_top (y := xs (i + 2)) (by rw [nI_clamp (by omega)]) ?_
  refine lv_aload_n hx hb d_L_law_208 rfl (lv_at hl 5 rfl) ?_
  refine lv_iload hx hb d_L_law_209 (lv_at hl 1 rfl) ?_
  refine lv_iconst (v := 3) hx hb d_L_law_211 (by decide) ?_
  refine lv_iadd hx hb d_L_law_212 ?_
  refine vq_top (y := nI (i + 3)) (nI_add i 3) ?_
  refine va_sld (i := nI (i + 3)) hx hb hX hbl hbA hS (vp_in_nI (by omega) (by omega)) d_L_law_213 ?_
  refine vq_top (y := xs (i + 3)) (by rw [nI_clamp (by omega)]) ?_
  refine lv_aload_n hx hb d_L_law_214 rfl (lv_at hl 5 rfl) ?_
  refine lv_iload hx hb d_L_law_215 (lv_at hl 1 rfl) ?_
  refine lv_iconst (v := 4) hx hb d_L_law_217 (by decide) ?_
  refine lv_iadd hx hb d_L_law_218 ?_
  refine vq_top (y := nI (i + 4)) (nI_add i 4) ?_
  refine va_sld (i := nI (i + 4)) hx hb hX hbl hbA hS (vp_in_nI (by omega) (by omega)) d_L_law_219 ?_
  refine vq_top (y := xs (i + 4)) (by rw [nI_clamp (by omega)]) ?_
  obtain ⟨hPc, hDc⟩ := sp_m hP hD
  have hKc := kt_m hK
  have hFc := fe_m hD hS hA
  refine va_calli (va_runV (As := [.int (xs (i + 1)), .int (xs (i + 2)), .int (xs (i + 3)), .int (xs (i + 4))]) (rest := []) ⟨hx, hb, hml, hown, hts⟩ (c_M_production l htr dC dI bd cb N σm (xs (i + 1)) (xs (i + 2)) (xs (i + 3)) (xs (i + 4)) u1 hG1 H.size) (vq_cV WSk hts 4 rfl rfl ⟨by decide, by decide⟩ k_379 k_367 k_784 k_785 k_786 (by decide +kernel)) ⟨vq_blind, va_recv hKc hPc (ci := 8) (q0 := 0) rfl rfl, vq_here hst hS hN hPc hKc hDc⟩ rfl rfl hl.1 rfl (lv_room (Nat.le_of_ble_eq_true rfl)) d_L_law_220 ⟨by omega, by omega⟩) hS (fun q _ h => hFc q h) hFc (fun r u t H1 locs ht hvm hw hB hz1 hk1 hS => ?_)
  obtain ⟨hP1, -, hD1⟩ := hB
  rw [ht] at hP1
  have hw : r = u1.1 := hw
  subst hw
  obtain ⟨hP, hD⟩ := jn_m hP hD hk1 hFc hP1 hD1
  generalize H1 = H at hP hS ⊢
  refine lv_istore (lv' := [(6, .int (u1.1)), (5, .int 1), (4, .int (nI i)), (3, .ref o), (2, .ref (bd 0)), (1, .ref (ad 0)), (0, .ref b)]) hx hb d_L_law_223 hl (by decide) rfl (fun ls hl => ?_)
  refine lv_goto (tgt := 761) hx hb d_L_law_225 (by decide) ?_
  exact next H locs ls (lv_sub hl [2, 3, 4, 5, 6] rfl) hP hD hS

set_option maxHeartbeats 8000000 in
set_option maxRecDepth 100000 in
theorem arm_1_2 {p : Program} {e : Env} {s : State} {m : MethodId} {below : List Frame} {meth : Method} {c : Code} (l : Launch) (htr : l.stackTraces = false) {b L i : Nat} {xs : Nat → Int32} {A : Nat → Prop} (dC : Nat → ClassId) (dI : Nat → Nat → Nat) (ad : Nat → Nat) (ca : Nat → ClassId) (o : Nat) (co : ClassId) (bd : Nat → Nat) (cb : Nat → ClassId) (N : Nat) (σx : vS) (fo : Nat → Int64) (σm : vS) (v : Int32 × vS) (u1 : Int32 × vS) {H : Heap} {locs : List Loc} {ls : Array Slot} {K S : Nat} {Q : State → Prop} (hF : f_V_production N σx (xs (i + 1)) (xs (i + 2)) (xs (i + 3)) (xs (i + 4)) = some ((2, v.1), v.2)) (hG1 : f_M_production N σm (xs (i + 1)) (xs (i + 2)) (xs (i + 3)) (xs (i + 4)) = some u1) (hL : L ≤ 3072) (hi : i + 6 ≤ L) (hKR : K + 1 ≤ 1107) (hSR : S + 6 ≤ 17414) (hx : p.tables.exec = Jvm.exec) (hb : c.code = code) (hml : c.maxLocals = 7) (hown : s.vm.findClass R_L = some m.cls) (hts : ∀ w ∈ WS, w.before #[Value.ref b] s = true) (hX : va_X b L xs s s.heap) (hbl : b < s.heap.size) (hst : vq_st s) (hnc : vq_nc s) (hA : ∀ q : Nat, s.heap.size ≤ q → A q) (hN : ∀ q : Nat, A q → ∀ cell : Cell, s.heap[q]? = some cell → cell.vm.isStatics = false) (hbA : ¬ A b) (hK : va_K (dC, dI) CL (LT ca co cb) s) (hP : va_P (dC, dI) CL (LW ad ca o co bd cb σx fo σm) H) (hD : va_D A (LW ad ca o co bd cb σx fo σm)) (hS : va_S A s.heap H locs) (hl : lv_has ls 7 [(4, .int (nI i)), (3, .ref o), (2, .ref (bd 0)), (1, .ref (ad 0)), (0, .ref b)])
    (next : ∀ (H : Heap) (locs : List Loc) (ls : Array Slot), lv_has ls 7 [(4, .int (nI i)), (3, .ref o), (2, .ref (bd 0)), (1, .ref (ad 0)), (0, .ref b)] → va_P (dC, dI) CL (LW ad ca o co bd cb v.2 fo u1.2) H → va_D A (LW ad ca o co bd cb v.2 fo u1.2) → va_S A s.heap H locs → W p l e room_1 s m #[Value.ref b] below meth c H locs (K + 1 + 0) (S + 6 + 0) Q (F0 m 761 ls [])) :
    W p l e room_1 s m #[Value.ref b] below meth c H locs K S Q (F0 m 164 ls []) := by
  have hR1 : room_1.cells = 1107 := rfl
  have hR2 : room_1.slots = 17414 := rfl
  refine lv_aload_n hx hb d_L_law_164 rfl (lv_at hl 3 rfl) ?_
  refine lv_aload_n hx hb d_L_law_165 rfl (lv_at hl 4 rfl) ?_
  refine lv_iload hx hb d_L_law_166 (lv_at hl 0 rfl) ?_
  refine lv_iconst (v := 1) hx hb d_L_law_168 (by decide) ?_
  refine lv_iadd hx hb d_L_law_169 ?_
  refine vq_top (y := nI (i + 1)) (nI_add i 1) ?_
  refine va_sld (i := nI (i + 1)) hx hb hX hbl hbA hS (vp_in_nI (by omega) (by omega)) d_L_law_170 ?_
  refine vq_top (y := xs (i + 1)) (by rw [nI_clamp (by omega)]) ?_
  refine lv_aload_n hx hb d_L_law_171 rfl (lv_at hl 4 rfl) ?_
  refine lv_iload hx hb d_L_law_172 (lv_at hl 0 rfl) ?_
  refine lv_iconst (v := 2) hx hb d_L_law_174 (by decide) ?_
  refine lv_iadd hx hb d_L_law_175 ?_
  refine vq_top (y := nI (i + 2)) (nI_add i 2) ?_
  refine va_sld (i := nI (i + 2)) hx hb hX hbl hbA hS (vp_in_nI (by omega) (by omega)) d_L_law_176 ?_
  refine vq_top (y := xs (i + 2)) (by rw [nI_clamp (by omega)]) ?_
  refine lv_aload_n hx hb d_L_law_177 rfl (lv_at hl 4 rfl) ?_
  refine lv_iload hx hb d_L_law_178 (lv_at hl 0 rfl) ?_
  refine lv_iconst (v := 3) hx hb d_L_law_180 (by decide) ?_
  refine lv_iadd hx hb d_L_law_181 ?_
  refine vq_top (y := nI (i + 3)) (nI_add i 3) ?_
  refine va_sld (i := nI (i + 3)) hx hb hX hbl hbA hS (vp_in_nI (by omega) (by omega)) d_L_law_182 ?_
  refine vq_top (y := xs (i + 3)) (by rw [nI_clamp (by omega)]) ?_
  refine lv_aload_n hx hb d_L_law_183 rfl (lv_at hl 4 rfl) ?_
  refine lv_iload hx hb d_L_law_184 (lv_at hl 0 rfl) ?_
  refine lv_iconst (v := 4) hx hb d_L_law_186 (by decide) ?_
  refine lv_iadd hx hb d_L_law_187 ?_
  refine vq_top (y := nI (i + 4)) (nI_add i 4) ?_
  refine va_sld (i := nI (i + 4)) hx hb hX hbl hbA hS (vp_in_nI (by omega) (by omega)) d_L_law_188 ?_
  refine vq_top (y := xs (i + 4)) (by rw [nI_clamp (by omega)]) ?_
  refine lv_aload_n hx hb d_L_law_189 rfl (lv_at hl 1 rfl) ?_
  obtain ⟨hPc, hDc⟩ := sp_xo hP hD
  have hKc := kt_xo hK
  have hFc := fe_xo hD hS hA
  refine va_calli (vq_runSH (n := 6) (As := [.ref (ad 0), .int (xs (i + 1)), .int (xs (i + 2)), .int (xs (i + 3)), .int (xs (i + 4)), .ref o]) (rest := []) ⟨hx, hb, hml, hown, hts⟩ (w_production_2 l htr dC dI ad ca o co fo N σx (xs (i + 1)) (xs (i + 2)) (xs (i + 3)) (xs (i + 4)) v hF H.size) WSk rfl rfl ⟨by decide, by decide⟩ k_674 k_776 k_782 k_783 (by decide +kernel) ⟨vq_blindN, vq_hereN hnc hst hS hN hPc hKc hDc⟩ rfl rfl hl.1 rfl (lv_room (Nat.le_of_ble_eq_true rfl)) d_L_law_190 ⟨by omega, by omega⟩) hS (fun q _ h => hFc q h) hFc (fun r u t H1 locs ht hvm hw hB hz1 hk1 hS => ?_)
  obtain ⟨hP1, -, hD1⟩ := hB
  rw [ht] at hP1
  have hw : r = 2 := hw
  subst hw
  obtain ⟨hP, hD⟩ := jn_xo hP hD hk1 hFc hP1 hD1
  generalize H1 = H at hP hS ⊢
  refine lv_istore (lv' := [(5, .int 2), (4, .int (nI i)), (3, .ref o), (2, .ref (bd 0)), (1, .ref (ad 0)), (0, .ref b)]) hx hb d_L_law_193 hl (by decide) rfl (fun ls hl => ?_)
  refine lv_aload_n hx hb d_L_law_195 rfl (lv_at hl 3 rfl) ?_
  refine lv_aload_n hx hb d_L_law_196 rfl (lv_at hl 5 rfl) ?_
  refine lv_iload hx hb d_L_law_197 (lv_at hl 1 rfl) ?_
  refine lv_iconst (v := 1) hx hb d_L_law_199 (by decide) ?_
  refine lv_iadd hx hb d_L_law_200 ?_
  refine vq_top (y := nI (i + 1)) (nI_add i 1) ?_
  refine va_sld (i := nI (i + 1)) hx hb hX hbl hbA hS (vp_in_nI (by omega) (by omega)) d_L_law_201 ?_
  refine vq_top (y := xs (i + 1)) (by rw [nI_clamp (by omega)]) ?_
  refine lv_aload_n hx hb d_L_law_202 rfl (lv_at hl 5 rfl) ?_
  refine lv_iload hx hb d_L_law_203 (lv_at hl 1 rfl) ?_
  refine lv_iconst (v := 2) hx hb d_L_law_205 (by decide) ?_
  refine lv_iadd hx hb d_L_law_206 ?_
  refine vq_top (y := nI (i + 2)) (nI_add i 2) ?_
  refine va_sld (i := nI (i + 2)) hx hb hX hbl hbA hS (vp_in_nI (by omega) (by omega)) d_L_law_207 ?_
  refine vq_top (y := xs (i + 2)) (by rw [nI_clamp (by omega)]) ?_
  refine lv_aload_n hx hb d_L_law_208 rfl (lv_at hl 5 rfl) ?_
  refine lv_iload hx hb d_L_law_209 (lv_at hl 1 rfl) ?_
  refine lv_iconst (v := 3) hx hb d_L_law_211 (by decide) ?_
  refine lv_iadd hx hb d_L_law_212 ?_
  refine vq_top (y := nI (i + 3)) (nI_add i 3) ?_
  refine va_sld (i := nI (i + 3)) hx hb hX hbl hbA hS (vp_in_nI (by omega) (by omega)) d_L_law_213 ?_
  refine vq_top (y := xs (i + 3)) (by rw [nI_clamp (by omega)]) ?_
  refine lv_aload_n hx hb d_L_law_214 rfl (lv_at hl 5 rfl) ?_
  refine lv_iload hx hb d_L_law_215 (lv_at hl 1 rfl) ?_
  refine lv_iconst (v := 4) hx hb d_L_law_217 (by decide) ?_
  refine lv_iadd hx hb d_L_law_218 ?_
  refine vq_top (y := nI (i + 4)) (nI_add i 4) ?_
  refine va_sld (i := nI (i + 4)) hx hb hX hbl hbA hS (vp_in_nI (by omega) (by omega)) d_L_law_219 ?_
  refine vq_top (y := xs (i + 4)) (by rw [nI_clamp (by omega)]) ?_
  obtain ⟨hPc, hDc⟩ := sp_m hP hD
  have hKc := kt_m hK
  have hFc := fe_m hD hS hA
  refine va_calli (va_runV (As := [.int (xs (i + 1)), .int (xs (i + 2)), .int (xs (i + 3)), .int (xs (i + 4))]) (rest := []) ⟨hx, hb, hml, hown, hts⟩ (c_M_production l htr dC dI bd cb N σm (xs (i + 1)) (xs (i + 2)) (xs (i + 3)) (xs (i + 4)) u1 hG1 H.size) (vq_cV WSk hts 4 rfl rfl ⟨by decide, by decide⟩ k_379 k_367 k_784 k_785 k_786 (by decide +kernel)) ⟨vq_blind, va_recv hKc hPc (ci := 8) (q0 := 0) rfl rfl, vq_here hst hS hN hPc hKc hDc⟩ rfl rfl hl.1 rfl (lv_room (Nat.le_of_ble_eq_true rfl)) d_L_law_220 ⟨by omega, by omega⟩) hS (fun q _ h => hFc q h) hFc (fun r u t H1 locs ht hvm hw hB hz1 hk1 hS => ?_)
  obtain ⟨hP1, -, hD1⟩ := hB
  rw [ht] at hP1
  have hw : r = u1.1 := hw
  subst hw
  obtain ⟨hP, hD⟩ := jn_m hP hD hk1 hFc hP1 hD1
  generalize H1 = H at hP hS ⊢
  refine lv_istore (lv' := [(6, .int (u1.1)), (5, .int 2), (4, .int (nI i)), (3, .ref o), (2, .ref (bd 0)), (1, .ref (ad 0)), (0, .ref b)]) hx hb d_L_law_223 hl (by decide) rfl (fun ls hl => ?_)
  refine lv_goto (tgt := 761) hx hb d_L_law_225 (by decide) ?_
  exact next H locs ls (lv_sub hl [2, 3, 4, 5, 6] rfl) hP hD hS

set_option maxHeartbeats 8000000 in
set_option maxRecDepth 100000 in
theorem arm_2_0 {p : Program} {e : Env} {s : State} {m : MethodId} {below : List Frame} {meth : Method} {c : Code} (l : Launch) (htr : l.stackTraces = false) {b L i : Nat} {xs : Nat → Int32} {A : Nat → Prop} (dC : Nat → ClassId) (dI : Nat → Nat → Nat) (ad : Nat → Nat) (ca : Nat → ClassId) (o : Nat) (co : ClassId) (bd : Nat → Nat) (cb : Nat → ClassId) (N : Nat) (σx : vS) (fo : Nat → Int64) (σm : vS) (v : Int32 × vS) (u1 : Int32 × vS) {H : Heap} {locs : List Loc} {ls : Array Slot} {K S : Nat} {Q : State → Prop} (hF : f_V_rule N σx (xs (i + 1)) (xs (i + 2)) (xs (i + 3)) (xs (i + 4)) (xs (i + 5)) = some ((0, v.1), v.2)) (hG1 : f_M_rule N σm (xs (i + 1)) (xs (i + 2)) (xs (i + 3)) (xs (i + 4)) (xs (i + 5)) = some u1) (hL : L ≤ 3072) (hi : i + 6 ≤ L) (hKR : K + 1 ≤ 1107) (hSR : S + 6 ≤ 17414) (hx : p.tables.exec = Jvm.exec) (hb : c.code = code) (hml : c.maxLocals = 7) (hown : s.vm.findClass R_L = some m.cls) (hts : ∀ w ∈ WS, w.before #[Value.ref b] s = true) (hX : va_X b L xs s s.heap) (hbl : b < s.heap.size) (hst : vq_st s) (hnc : vq_nc s) (hA : ∀ q : Nat, s.heap.size ≤ q → A q) (hN : ∀ q : Nat, A q → ∀ cell : Cell, s.heap[q]? = some cell → cell.vm.isStatics = false) (hbA : ¬ A b) (hK : va_K (dC, dI) CL (LT ca co cb) s) (hP : va_P (dC, dI) CL (LW ad ca o co bd cb σx fo σm) H) (hD : va_D A (LW ad ca o co bd cb σx fo σm)) (hS : va_S A s.heap H locs) (hl : lv_has ls 7 [(4, .int (nI i)), (3, .ref o), (2, .ref (bd 0)), (1, .ref (ad 0)), (0, .ref b)])
    (next : ∀ (H : Heap) (locs : List Loc) (ls : Array Slot), lv_has ls 7 [(4, .int (nI i)), (3, .ref o), (2, .ref (bd 0)), (1, .ref (ad 0)), (0, .ref b)] → va_P (dC, dI) CL (LW ad ca o co bd cb v.2 fo u1.2) H → va_D A (LW ad ca o co bd cb v.2 fo u1.2) → va_S A s.heap H locs → W p l e room_1 s m #[Value.ref b] below meth c H locs (K + 0 + 0) (S + 0 + 0) Q (F0 m 761 ls [])) :
    W p l e room_1 s m #[Value.ref b] below meth c H locs K S Q (F0 m 228 ls []) := by
  have hR1 : room_1.cells = 1107 := rfl
  have hR2 : room_1.slots = 17414 := rfl
  refine lv_aload_n hx hb d_L_law_228 rfl (lv_at hl 3 rfl) ?_
  refine lv_aload_n hx hb d_L_law_229 rfl (lv_at hl 4 rfl) ?_
  refine lv_iload hx hb d_L_law_230 (lv_at hl 0 rfl) ?_
  refine lv_iconst (v := 1) hx hb d_L_law_232 (by decide) ?_
  refine lv_iadd hx hb d_L_law_233 ?_
  refine vq_top (y := nI (i + 1)) (nI_add i 1) ?_
  refine va_sld (i := nI (i + 1)) hx hb hX hbl hbA hS (vp_in_nI (by omega) (by omega)) d_L_law_234 ?_
  refine vq_top (y := xs (i + 1)) (by rw [nI_clamp (by omega)]) ?_
  refine lv_aload_n hx hb d_L_law_235 rfl (lv_at hl 4 rfl) ?_
  refine lv_iload hx hb d_L_law_236 (lv_at hl 0 rfl) ?_
  refine lv_iconst (v := 2) hx hb d_L_law_238 (by decide) ?_
  refine lv_iadd hx hb d_L_law_239 ?_
  refine vq_top (y := nI (i + 2)) (nI_add i 2) ?_
  refine va_sld (i := nI (i + 2)) hx hb hX hbl hbA hS (vp_in_nI (by omega) (by omega)) d_L_law_240 ?_
  refine vq_top (y := xs (i + 2)) (by rw [nI_clamp (by omega)]) ?_
  refine lv_aload_n hx hb d_L_law_241 rfl (lv_at hl 4 rfl) ?_
  refine lv_iload hx hb d_L_law_242 (lv_at hl 0 rfl) ?_
  refine lv_iconst (v := 3) hx hb d_L_law_244 (by decide) ?_
  refine lv_iadd hx hb d_L_law_245 ?_
  refine vq_top (y := nI (i + 3)) (nI_add i 3) ?_
  refine va_sld (i := nI (i + 3)) hx hb hX hbl hbA hS (vp_in_nI (by omega) (by omega)) d_L_law_246 ?_
  refine vq_top (y := xs (i + 3)) (by rw [nI_clamp (by omega)]) ?_
  refine lv_aload_n hx hb d_L_law_247 rfl (lv_at hl 4 rfl) ?_
  refine lv_iload hx hb d_L_law_248 (lv_at hl 0 rfl) ?_
  refine lv_iconst (v := 4) hx hb d_L_law_250 (by decide) ?_
  refine lv_iadd hx hb d_L_law_251 ?_
  refine vq_top (y := nI (i + 4)) (nI_add i 4) ?_
  refine va_sld (i := nI (i + 4)) hx hb hX hbl hbA hS (vp_in_nI (by omega) (by omega)) d_L_law_252 ?_
  refine vq_top (y := xs (i + 4)) (by rw [nI_clamp (by omega)]) ?_
  refine lv_aload_n hx hb d_L_law_253 rfl (lv_at hl 4 rfl) ?_
  refine lv_iload hx hb d_L_law_254 (lv_at hl 0 rfl) ?_
  refine lv_iconst (v := 5) hx hb d_L_law_256 (by decide) ?_
  refine lv_iadd hx hb d_L_law_257 ?_
  refine vq_top (y := nI (i + 5)) (nI_add i 5) ?_
  refine va_sld (i := nI (i + 5)) hx hb hX hbl hbA hS (vp_in_nI (by omega) (by omega)) d_L_law_258 ?_
  refine vq_top (y := xs (i + 5)) (by rw [nI_clamp (by omega)]) ?_
  obtain ⟨hPc, hDc⟩ := sp_x hP hD
  have hKc := kt_x hK
  have hFc := fe_x hD hS hA
  refine va_calli (vq_runSH (n := 6) (As := [.ref (ad 0), .int (xs (i + 1)), .int (xs (i + 2)), .int (xs (i + 3)), .int (xs (i + 4)), .int (xs (i + 5))]) (rest := []) ⟨hx, hb, hml, hown, hts⟩ (w_rule_0 l htr dC dI ad ca N σx (xs (i + 1)) (xs (i + 2)) (xs (i + 3)) (xs (i + 4)) (xs (i + 5)) v hF H.size) WSk rfl rfl ⟨by decide, by decide⟩ k_678 k_776 k_787 k_788 (by decide +kernel) ⟨vq_blindN, vq_hereN hnc hst hS hN hPc hKc hDc⟩ rfl rfl hl.1 rfl (lv_room (Nat.le_of_ble_eq_true rfl)) d_L_law_259 ⟨by omega, by omega⟩) hS (fun q _ h => hFc q h) hFc (fun r u t H1 locs ht hvm hw hB hz1 hk1 hS => ?_)
  obtain ⟨hP1, -, hD1⟩ := hB
  rw [ht] at hP1
  have hw : r = 0 := hw
  subst hw
  obtain ⟨hP, hD⟩ := jn_x hP hD hk1 hFc hP1 hD1
  generalize H1 = H at hP hS ⊢
  refine lv_istore (lv' := [(5, .int 0), (4, .int (nI i)), (3, .ref o), (2, .ref (bd 0)), (1, .ref (ad 0)), (0, .ref b)]) hx hb d_L_law_262 hl (by decide) rfl (fun ls hl => ?_)
  refine lv_aload_n hx hb d_L_law_264 rfl (lv_at hl 3 rfl) ?_
  refine lv_aload_n hx hb d_L_law_265 rfl (lv_at hl 5 rfl) ?_
  refine lv_iload hx hb d_L_law_266 (lv_at hl 1 rfl) ?_
  refine lv_iconst (v := 1) hx hb d_L_law_268 (by decide) ?_
  refine lv_iadd hx hb d_L_law_269 ?_
  refine vq_top (y := nI (i + 1)) (nI_add i 1) ?_
  refine va_sld (i := nI (i + 1)) hx hb hX hbl hbA hS (vp_in_nI (by omega) (by omega)) d_L_law_270 ?_
  refine vq_top (y := xs (i + 1)) (by rw [nI_clamp (by omega)]) ?_
  refine lv_aload_n hx hb d_L_law_271 rfl (lv_at hl 5 rfl) ?_
  refine lv_iload hx hb d_L_law_272 (lv_at hl 1 rfl) ?_
  refine lv_iconst (v := 2) hx hb d_L_law_274 (by decide) ?_
  refine lv_iadd hx hb d_L_law_275 ?_
  refine vq_top (y := nI (i + 2)) (nI_add i 2) ?_
  refine va_sld (i := nI (i + 2)) hx hb hX hbl hbA hS (vp_in_nI (by omega) (by omega)) d_L_law_276 ?_
  refine vq_top (y := xs (i + 2)) (by rw [nI_clamp (by omega)]) ?_
  refine lv_aload_n hx hb d_L_law_277 rfl (lv_at hl 5 rfl) ?_
  refine lv_iload hx hb d_L_law_278 (lv_at hl 1 rfl) ?_
  refine lv_iconst (v := 3) hx hb d_L_law_280 (by decide) ?_
  refine lv_iadd hx hb d_L_law_281 ?_
  refine vq_top (y := nI (i + 3)) (nI_add i 3) ?_
  refine va_sld (i := nI (i + 3)) hx hb hX hbl hbA hS (vp_in_nI (by omega) (by omega)) d_L_law_282 ?_
  refine vq_top (y := xs (i + 3)) (by rw [nI_clamp (by omega)]) ?_
  refine lv_aload_n hx hb d_L_law_283 rfl (lv_at hl 5 rfl) ?_
  refine lv_iload hx hb d_L_law_284 (lv_at hl 1 rfl) ?_
  refine lv_iconst (v := 4) hx hb d_L_law_286 (by decide) ?_
  refine lv_iadd hx hb d_L_law_287 ?_
  refine vq_top (y := nI (i + 4)) (nI_add i 4) ?_
  refine va_sld (i := nI (i + 4)) hx hb hX hbl hbA hS (vp_in_nI (by omega) (by omega)) d_L_law_288 ?_
  refine vq_top (y := xs (i + 4)) (by rw [nI_clamp (by omega)]) ?_
  refine lv_aload_n hx hb d_L_law_289 rfl (lv_at hl 5 rfl) ?_
  refine lv_iload hx hb d_L_law_290 (lv_at hl 1 rfl) ?_
  refine lv_iconst (v := 5) hx hb d_L_law_292 (by decide) ?_
  refine lv_iadd hx hb d_L_law_293 ?_
  refine vq_top (y := nI (i + 5)) (nI_add i 5) ?_
  refine va_sld (i := nI (i + 5)) hx hb hX hbl hbA hS (vp_in_nI (by omega) (by omega)) d_L_law_294 ?_
  refine vq_top (y := xs (i + 5)) (by rw [nI_clamp (by omega)]) ?_
  obtain ⟨hPc, hDc⟩ := sp_m hP hD
  have hKc := kt_m hK
  have hFc := fe_m hD hS hA
  refine va_callv (va_runV (As := [.int (xs (i + 1)), .int (xs (i + 2)), .int (xs (i + 3)), .int (xs (i + 4)), .int (xs (i + 5))]) (rest := []) ⟨hx, hb, hml, hown, hts⟩ (c_M_rule l htr dC dI bd cb N σm (xs (i + 1)) (xs (i + 2)) (xs (i + 3)) (xs (i + 4)) (xs (i + 5)) u1 hG1 H.size) (vq_cV WSk hts 5 rfl rfl ⟨by decide, by decide⟩ k_395 k_367 k_789 k_790 k_791 (by decide +kernel)) ⟨vq_blind, va_recv hKc hPc (ci := 8) (q0 := 0) rfl rfl, vq_here hst hS hN hPc hKc hDc⟩ rfl rfl hl.1 rfl (lv_room (Nat.le_of_ble_eq_true rfl)) d_L_law_295 ⟨by omega, by omega⟩) hS (fun q _ h => hFc q h) hFc (fun u t H1 locs ht hvm hw hB hz1 hk1 hS => ?_)
  obtain ⟨hP1, -, hD1⟩ := hB
  rw [ht] at hP1
  obtain ⟨hP, hD⟩ := jn_m hP hD hk1 hFc hP1 hD1
  generalize H1 = H at hP hS ⊢
  refine lv_goto (tgt := 761) hx hb d_L_law_298 (by decide) ?_
  exact next H locs ls (lv_sub hl [1, 2, 3, 4, 5] rfl) hP hD hS

set_option maxHeartbeats 8000000 in
set_option maxRecDepth 100000 in
theorem arm_2_1 {p : Program} {e : Env} {s : State} {m : MethodId} {below : List Frame} {meth : Method} {c : Code} (l : Launch) (htr : l.stackTraces = false) {b L i : Nat} {xs : Nat → Int32} {A : Nat → Prop} (dC : Nat → ClassId) (dI : Nat → Nat → Nat) (ad : Nat → Nat) (ca : Nat → ClassId) (o : Nat) (co : ClassId) (bd : Nat → Nat) (cb : Nat → ClassId) (N : Nat) (σx : vS) (fo : Nat → Int64) (σm : vS) (v : Int32 × vS) (u1 : Int32 × vS) {H : Heap} {locs : List Loc} {ls : Array Slot} {K S : Nat} {Q : State → Prop} (hF : f_V_rule N σx (xs (i + 1)) (xs (i + 2)) (xs (i + 3)) (xs (i + 4)) (xs (i + 5)) = some ((1, v.1), v.2)) (hG1 : f_M_rule N σm (xs (i + 1)) (xs (i + 2)) (xs (i + 3)) (xs (i + 4)) (xs (i + 5)) = some u1) (hL : L ≤ 3072) (hi : i + 6 ≤ L) (hKR : K + 1 ≤ 1107) (hSR : S + 6 ≤ 17414) (hx : p.tables.exec = Jvm.exec) (hb : c.code = code) (hml : c.maxLocals = 7) (hown : s.vm.findClass R_L = some m.cls) (hts : ∀ w ∈ WS, w.before #[Value.ref b] s = true) (hX : va_X b L xs s s.heap) (hbl : b < s.heap.size) (hst : vq_st s) (hnc : vq_nc s) (hA : ∀ q : Nat, s.heap.size ≤ q → A q) (hN : ∀ q : Nat, A q → ∀ cell : Cell, s.heap[q]? = some cell → cell.vm.isStatics = false) (hbA : ¬ A b) (hK : va_K (dC, dI) CL (LT ca co cb) s) (hP : va_P (dC, dI) CL (LW ad ca o co bd cb σx fo σm) H) (hD : va_D A (LW ad ca o co bd cb σx fo σm)) (hS : va_S A s.heap H locs) (hl : lv_has ls 7 [(4, .int (nI i)), (3, .ref o), (2, .ref (bd 0)), (1, .ref (ad 0)), (0, .ref b)])
    (next : ∀ (H : Heap) (locs : List Loc) (ls : Array Slot), lv_has ls 7 [(4, .int (nI i)), (3, .ref o), (2, .ref (bd 0)), (1, .ref (ad 0)), (0, .ref b)] → va_P (dC, dI) CL (LW ad ca o co bd cb v.2 fo u1.2) H → va_D A (LW ad ca o co bd cb v.2 fo u1.2) → va_S A s.heap H locs → W p l e room_1 s m #[Value.ref b] below meth c H locs (K + 1 + 0) (S + 6 + 0) Q (F0 m 761 ls [])) :
    W p l e room_1 s m #[Value.ref b] below meth c H locs K S Q (F0 m 228 ls []) := by
  have hR1 : room_1.cells = 1107 := rfl
  have hR2 : room_1.slots = 17414 := rfl
  refine lv_aload_n hx hb d_L_law_228 rfl (lv_at hl 3 rfl) ?_
  refine lv_aload_n hx hb d_L_law_229 rfl (lv_at hl 4 rfl) ?_
  refine lv_iload hx hb d_L_law_230 (lv_at hl 0 rfl) ?_
  refine lv_iconst (v := 1) hx hb d_L_law_232 (by decide) ?_
  refine lv_iadd hx hb d_L_law_233 ?_
  refine vq_top (y := nI (i + 1)) (nI_add i 1) ?_
  refine va_sld (i := nI (i + 1)) hx hb hX hbl hbA hS (vp_in_nI (by omega) (by omega)) d_L_law_234 ?_
  refine vq_top (y := xs (i + 1)) (by rw [nI_clamp (by omega)]) ?_
  refine lv_aload_n hx hb d_L_law_235 rfl (lv_at hl 4 rfl) ?_
  refine lv_iload hx hb d_L_law_236 (lv_at hl 0 rfl) ?_
  refine lv_iconst (v := 2) hx hb d_L_law_238 (by decide) ?_
  refine lv_iadd hx hb d_L_law_239 ?_
  refine vq_top (y := nI (i + 2)) (nI_add i 2) ?_
  refine va_sld (i := nI (i + 2)) hx hb hX hbl hbA hS (vp_in_nI (by omega) (by omega)) d_L_law_240 ?_
  refine vq_top (y := xs (i + 2)) (by rw [nI_clamp (by omega)]) ?_
  refine lv_aload_n hx hb d_L_law_241 rfl (lv_at hl 4 rfl) ?_
  refine lv_iload hx hb d_L_law_242 (lv_at hl 0 rfl) ?_
  refine lv_iconst (v := 3) hx hb d_L_law_244 (by decide) ?_
  refine lv_iadd hx hb d_L_law_245 ?_
  refine vq_top (y := nI (i + 3)) (nI_add i 3) ?_
  refine va_sld (i := nI (i + 3)) hx hb hX hbl hbA hS (vp_in_nI (by omega) (by omega)) d_L_law_246 ?_
  refine vq_top (y := xs (i + 3)) (by rw [nI_clamp (by omega)]) ?_
  refine lv_aload_n hx hb d_L_law_247 rfl (lv_at hl 4 rfl) ?_
  refine lv_iload hx hb d_L_law_248 (lv_at hl 0 rfl) ?_
  refine lv_iconst (v := 4) hx hb d_L_law_250 (by decide) ?_
  refine lv_iadd hx hb d_L_law_251 ?_
  refine vq_top (y := nI (i + 4)) (nI_add i 4) ?_
  refine va_sld (i := nI (i + 4)) hx hb hX hbl hbA hS (vp_in_nI (by omega) (by omega)) d_L_law_252 ?_
  refine vq_top (y := xs (i + 4)) (by rw [nI_clamp (by omega)]) ?_
  refine lv_aload_n hx hb d_L_law_253 rfl (lv_at hl 4 rfl) ?_
  refine lv_iload hx hb d_L_law_254 (lv_at hl 0 rfl) ?_
  refine lv_iconst (v := 5) hx hb d_L_law_256 (by decide) ?_
  refine lv_iadd hx hb d_L_law_257 ?_
  refine vq_top (y := nI (i + 5)) (nI_add i 5) ?_
  refine va_sld (i := nI (i + 5)) hx hb hX hbl hbA hS (vp_in_nI (by omega) (by omega)) d_L_law_258 ?_
  refine vq_top (y := xs (i + 5)) (by rw [nI_clamp (by omega)]) ?_
  obtain ⟨hPc, hDc⟩ := sp_x hP hD
  have hKc := kt_x hK
  have hFc := fe_x hD hS hA
  refine va_calli (vq_runSH (n := 6) (As := [.ref (ad 0), .int (xs (i + 1)), .int (xs (i + 2)), .int (xs (i + 3)), .int (xs (i + 4)), .int (xs (i + 5))]) (rest := []) ⟨hx, hb, hml, hown, hts⟩ (w_rule_1 l htr dC dI ad ca N σx (xs (i + 1)) (xs (i + 2)) (xs (i + 3)) (xs (i + 4)) (xs (i + 5)) v hF H.size) WSk rfl rfl ⟨by decide, by decide⟩ k_678 k_776 k_787 k_788 (by decide +kernel) ⟨vq_blindN, vq_hereN hnc hst hS hN hPc hKc hDc⟩ rfl rfl hl.1 rfl (lv_room (Nat.le_of_ble_eq_true rfl)) d_L_law_259 ⟨by omega, by omega⟩) hS (fun q _ h => hFc q h) hFc (fun r u t H1 locs ht hvm hw hB hz1 hk1 hS => ?_)
  obtain ⟨hP1, -, hD1⟩ := hB
  rw [ht] at hP1
  have hw : r = 2 := hw
  subst hw
  obtain ⟨hP, hD⟩ := jn_x hP hD hk1 hFc hP1 hD1
  generalize H1 = H at hP hS ⊢
  refine lv_istore (lv' := [(5, .int 2), (4, .int (nI i)), (3, .ref o), (2, .ref (bd 0)), (1, .ref (ad 0)), (0, .ref b)]) hx hb d_L_law_262 hl (by decide) rfl (fun ls hl => ?_)
  refine lv_aload_n hx hb d_L_law_264 rfl (lv_at hl 3 rfl) ?_
  refine lv_aload_n hx hb d_L_law_265 rfl (lv_at hl 5 rfl) ?_
  refine lv_iload hx hb d_L_law_266 (lv_at hl 1 rfl) ?_
  refine lv_iconst (v := 1) hx hb d_L_law_268 (by decide) ?_
  refine lv_iadd hx hb d_L_law_269 ?_
  refine vq_top (y := nI (i + 1)) (nI_add i 1) ?_
  refine va_sld (i := nI (i + 1)) hx hb hX hbl hbA hS (vp_in_nI (by omega) (by omega)) d_L_law_270 ?_
  refine vq_top (y := xs (i + 1)) (by rw [nI_clamp (by omega)]) ?_
  refine lv_aload_n hx hb d_L_law_271 rfl (lv_at hl 5 rfl) ?_
  refine lv_iload hx hb d_L_law_272 (lv_at hl 1 rfl) ?_
  refine lv_iconst (v := 2) hx hb d_L_law_274 (by decide) ?_
  refine lv_iadd hx hb d_L_law_275 ?_
  refine vq_top (y := nI (i + 2)) (nI_add i 2) ?_
  refine va_sld (i := nI (i + 2)) hx hb hX hbl hbA hS (vp_in_nI (by omega) (by omega)) d_L_law_276 ?_
  refine vq_top (y := xs (i + 2)) (by rw [nI_clamp (by omega)]) ?_
  refine lv_aload_n hx hb d_L_law_277 rfl (lv_at hl 5 rfl) ?_
  refine lv_iload hx hb d_L_law_278 (lv_at hl 1 rfl) ?_
  refine lv_iconst (v := 3) hx hb d_L_law_280 (by decide) ?_
  refine lv_iadd hx hb d_L_law_281 ?_
  refine vq_top (y := nI (i + 3)) (nI_add i 3) ?_
  refine va_sld (i := nI (i + 3)) hx hb hX hbl hbA hS (vp_in_nI (by omega) (by omega)) d_L_law_282 ?_
  refine vq_top (y := xs (i + 3)) (by rw [nI_clamp (by omega)]) ?_
  refine lv_aload_n hx hb d_L_law_283 rfl (lv_at hl 5 rfl) ?_
  refine lv_iload hx hb d_L_law_284 (lv_at hl 1 rfl) ?_
  refine lv_iconst (v := 4) hx hb d_L_law_286 (by decide) ?_
  refine lv_iadd hx hb d_L_law_287 ?_
  refine vq_top (y := nI (i + 4)) (nI_add i 4) ?_
  refine va_sld (i := nI (i + 4)) hx hb hX hbl hbA hS (vp_in_nI (by omega) (by omega)) d_L_law_288 ?_
  refine vq_top (y := xs (i + 4)) (by rw [nI_clamp (by omega)]) ?_
  refine lv_aload_n hx hb d_L_law_289 rfl (lv_at hl 5 rfl) ?_
  refine lv_iload hx hb d_L_law_290 (lv_at hl 1 rfl) ?_
  refine lv_iconst (v := 5) hx hb d_L_law_292 (by decide) ?_
  refine lv_iadd hx hb d_L_law_293 ?_
  refine vq_top (y := nI (i + 5)) (nI_add i 5) ?_
  refine va_sld (i := nI (i + 5)) hx hb hX hbl hbA hS (vp_in_nI (by omega) (by omega)) d_L_law_294 ?_
  refine vq_top (y := xs (i + 5)) (by rw [nI_clamp (by omega)]) ?_
  obtain ⟨hPc, hDc⟩ := sp_m hP hD
  have hKc := kt_m hK
  have hFc := fe_m hD hS hA
  refine va_callv (va_runV (As := [.int (xs (i + 1)), .int (xs (i + 2)), .int (xs (i + 3)), .int (xs (i + 4)), .int (xs (i + 5))]) (rest := []) ⟨hx, hb, hml, hown, hts⟩ (c_M_rule l htr dC dI bd cb N σm (xs (i + 1)) (xs (i + 2)) (xs (i + 3)) (xs (i + 4)) (xs (i + 5)) u1 hG1 H.size) (vq_cV WSk hts 5 rfl rfl ⟨by decide, by decide⟩ k_395 k_367 k_789 k_790 k_791 (by decide +kernel)) ⟨vq_blind, va_recv hKc hPc (ci := 8) (q0 := 0) rfl rfl, vq_here hst hS hN hPc hKc hDc⟩ rfl rfl hl.1 rfl (lv_room (Nat.le_of_ble_eq_true rfl)) d_L_law_295 ⟨by omega, by omega⟩) hS (fun q _ h => hFc q h) hFc (fun u t H1 locs ht hvm hw hB hz1 hk1 hS => ?_)
  obtain ⟨hP1, -, hD1⟩ := hB
  rw [ht] at hP1
  obtain ⟨hP, hD⟩ := jn_m hP hD hk1 hFc hP1 hD1
  generalize H1 = H at hP hS ⊢
  refine lv_goto (tgt := 761) hx hb d_L_law_298 (by decide) ?_
  exact next H locs ls (lv_sub hl [1, 2, 3, 4, 5] rfl) hP hD hS

set_option maxHeartbeats 8000000 in
set_option maxRecDepth 100000 in
theorem arm_2_3 {p : Program} {e : Env} {s : State} {m : MethodId} {below : List Frame} {meth : Method} {c : Code} (l : Launch) (htr : l.stackTraces = false) {b L i : Nat} {xs : Nat → Int32} {A : Nat → Prop} (dC : Nat → ClassId) (dI : Nat → Nat → Nat) (ad : Nat → Nat) (ca : Nat → ClassId) (o : Nat) (co : ClassId) (bd : Nat → Nat) (cb : Nat → ClassId) (N : Nat) (σx : vS) (fo : Nat → Int64) (σm : vS) (v : Int32 × vS) (u1 : Int32 × vS) {H : Heap} {locs : List Loc} {ls : Array Slot} {K S : Nat} {Q : State → Prop} (hF : f_V_rule N σx (xs (i + 1)) (xs (i + 2)) (xs (i + 3)) (xs (i + 4)) (xs (i + 5)) = some ((3, v.1), v.2)) (hG1 : f_M_rule N σm (xs (i + 1)) (xs (i + 2)) (xs (i + 3)) (xs (i + 4)) (xs (i + 5)) = some u1) (hL : L ≤ 3072) (hi : i + 6 ≤ L) (hKR : K + 1 ≤ 1107) (hSR : S + 6 ≤ 17414) (hx : p.tables.exec = Jvm.exec) (hb : c.code = code) (hml : c.maxLocals = 7) (hown : s.vm.findClass R_L = some m.cls) (hts : ∀ w ∈ WS, w.before #[Value.ref b] s = true) (hX : va_X b L xs s s.heap) (hbl : b < s.heap.size) (hst : vq_st s) (hnc : vq_nc s) (hA : ∀ q : Nat, s.heap.size ≤ q → A q) (hN : ∀ q : Nat, A q → ∀ cell : Cell, s.heap[q]? = some cell → cell.vm.isStatics = false) (hbA : ¬ A b) (hK : va_K (dC, dI) CL (LT ca co cb) s) (hP : va_P (dC, dI) CL (LW ad ca o co bd cb σx fo σm) H) (hD : va_D A (LW ad ca o co bd cb σx fo σm)) (hS : va_S A s.heap H locs) (hl : lv_has ls 7 [(4, .int (nI i)), (3, .ref o), (2, .ref (bd 0)), (1, .ref (ad 0)), (0, .ref b)])
    (next : ∀ (H : Heap) (locs : List Loc) (ls : Array Slot), lv_has ls 7 [(4, .int (nI i)), (3, .ref o), (2, .ref (bd 0)), (1, .ref (ad 0)), (0, .ref b)] → va_P (dC, dI) CL (LW ad ca o co bd cb v.2 fo u1.2) H → va_D A (LW ad ca o co bd cb v.2 fo u1.2) → va_S A s.heap H locs → W p l e room_1 s m #[Value.ref b] below meth c H locs (K + 1 + 0) (S + 6 + 0) Q (F0 m 761 ls [])) :
    W p l e room_1 s m #[Value.ref b] below meth c H locs K S Q (F0 m 228 ls []) := by
  have hR1 : room_1.cells = 1107 := rfl
  have hR2 : room_1.slots = 17414 := rfl
  refine lv_aload_n hx hb d_L_law_228 rfl (lv_at hl 3 rfl) ?_
  refine lv_aload_n hx hb d_L_law_229 rfl (lv_at hl 4 rfl) ?_
  refine lv_iload hx hb d_L_law_230 (lv_at hl 0 rfl) ?_
  refine lv_iconst (v := 1) hx hb d_L_law_232 (by decide) ?_
  refine lv_iadd hx hb d_L_law_233 ?_
  refine vq_top (y := nI (i + 1)) (nI_add i 1) ?_
  refine va_sld (i := nI (i + 1)) hx hb hX hbl hbA hS (vp_in_nI (by omega) (by omega)) d_L_law_234 ?_
  refine vq_top (y := xs (i + 1)) (by rw [nI_clamp (by omega)]) ?_
  refine lv_aload_n hx hb d_L_law_235 rfl (lv_at hl 4 rfl) ?_
  refine lv_iload hx hb d_L_law_236 (lv_at hl 0 rfl) ?_
  refine lv_iconst (v := 2) hx hb d_L_law_238 (by decide) ?_
  refine lv_iadd hx hb d_L_law_239 ?_
  refine vq_top (y := nI (i + 2)) (nI_add i 2) ?_
  refine va_sld (i := nI (i + 2)) hx hb hX hbl hbA hS (vp_in_nI (by omega) (by omega)) d_L_law_240 ?_
  refine vq_top (y := xs (i + 2)) (by rw [nI_clamp (by omega)]) ?_
  refine lv_aload_n hx hb d_L_law_241 rfl (lv_at hl 4 rfl) ?_
  refine lv_iload hx hb d_L_law_242 (lv_at hl 0 rfl) ?_
  refine lv_iconst (v := 3) hx hb d_L_law_244 (by decide) ?_
  refine lv_iadd hx hb d_L_law_245 ?_
  refine vq_top (y := nI (i + 3)) (nI_add i 3) ?_
  refine va_sld (i := nI (i + 3)) hx hb hX hbl hbA hS (vp_in_nI (by omega) (by omega)) d_L_law_246 ?_
  refine vq_top (y := xs (i + 3)) (by rw [nI_clamp (by omega)]) ?_
  refine lv_aload_n hx hb d_L_law_247 rfl (lv_at hl 4 rfl) ?_
  refine lv_iload hx hb d_L_law_248 (lv_at hl 0 rfl) ?_
  refine lv_iconst (v := 4) hx hb d_L_law_250 (by decide) ?_
  refine lv_iadd hx hb d_L_law_251 ?_
  refine vq_top (y := nI (i + 4)) (nI_add i 4) ?_
  refine va_sld (i := nI (i + 4)) hx hb hX hbl hbA hS (vp_in_nI (by omega) (by omega)) d_L_law_252 ?_
  refine vq_top (y := xs (i + 4)) (by rw [nI_clamp (by omega)]) ?_
  refine lv_aload_n hx hb d_L_law_253 rfl (lv_at hl 4 rfl) ?_
  refine lv_iload hx hb d_L_law_254 (lv_at hl 0 rfl) ?_
  refine lv_iconst (v := 5) hx hb d_L_law_256 (by decide) ?_
  refine lv_iadd hx hb d_L_law_257 ?_
  refine vq_top (y := nI (i + 5)) (nI_add i 5) ?_
  refine va_sld (i := nI (i + 5)) hx hb hX hbl hbA hS (vp_in_nI (by omega) (by omega)) d_L_law_258 ?_
  refine vq_top (y := xs (i + 5)) (by rw [nI_clamp (by omega)]) ?_
  obtain ⟨hPc, hDc⟩ := sp_x hP hD
  have hKc := kt_x hK
  have hFc := fe_x hD hS hA
  refine va_calli (vq_runSH (n := 6) (As := [.ref (ad 0), .int (xs (i + 1)), .int (xs (i + 2)), .int (xs (i + 3)), .int (xs (i + 4)), .int (xs (i + 5))]) (rest := []) ⟨hx, hb, hml, hown, hts⟩ (w_rule_3 l htr dC dI ad ca N σx (xs (i + 1)) (xs (i + 2)) (xs (i + 3)) (xs (i + 4)) (xs (i + 5)) v hF H.size) WSk rfl rfl ⟨by decide, by decide⟩ k_678 k_776 k_787 k_788 (by decide +kernel) ⟨vq_blindN, vq_hereN hnc hst hS hN hPc hKc hDc⟩ rfl rfl hl.1 rfl (lv_room (Nat.le_of_ble_eq_true rfl)) d_L_law_259 ⟨by omega, by omega⟩) hS (fun q _ h => hFc q h) hFc (fun r u t H1 locs ht hvm hw hB hz1 hk1 hS => ?_)
  obtain ⟨hP1, -, hD1⟩ := hB
  rw [ht] at hP1
  have hw : r = 1 := hw
  subst hw
  obtain ⟨hP, hD⟩ := jn_x hP hD hk1 hFc hP1 hD1
  generalize H1 = H at hP hS ⊢
  refine lv_istore (lv' := [(5, .int 1), (4, .int (nI i)), (3, .ref o), (2, .ref (bd 0)), (1, .ref (ad 0)), (0, .ref b)]) hx hb d_L_law_262 hl (by decide) rfl (fun ls hl => ?_)
  refine lv_aload_n hx hb d_L_law_264 rfl (lv_at hl 3 rfl) ?_
  refine lv_aload_n hx hb d_L_law_265 rfl (lv_at hl 5 rfl) ?_
  refine lv_iload hx hb d_L_law_266 (lv_at hl 1 rfl) ?_
  refine lv_iconst (v := 1) hx hb d_L_law_268 (by decide) ?_
  refine lv_iadd hx hb d_L_law_269 ?_
  refine vq_top (y := nI (i + 1)) (nI_add i 1) ?_
  refine va_sld (i := nI (i + 1)) hx hb hX hbl hbA hS (vp_in_nI (by omega) (by omega)) d_L_law_270 ?_
  refine vq_top (y := xs (i + 1)) (by rw [nI_clamp (by omega)]) ?_
  refine lv_aload_n hx hb d_L_law_271 rfl (lv_at hl 5 rfl) ?_
  refine lv_iload hx hb d_L_law_272 (lv_at hl 1 rfl) ?_
  refine lv_iconst (v := 2) hx hb d_L_law_274 (by decide) ?_
  refine lv_iadd hx hb d_L_law_275 ?_
  refine vq_top (y := nI (i + 2)) (nI_add i 2) ?_
  refine va_sld (i := nI (i + 2)) hx hb hX hbl hbA hS (vp_in_nI (by omega) (by omega)) d_L_law_276 ?_
  refine vq_top (y := xs (i + 2)) (by rw [nI_clamp (by omega)]) ?_
  refine lv_aload_n hx hb d_L_law_277 rfl (lv_at hl 5 rfl) ?_
  refine lv_iload hx hb d_L_law_278 (lv_at hl 1 rfl) ?_
  refine lv_iconst (v := 3) hx hb d_L_law_280 (by decide) ?_
  refine lv_iadd hx hb d_L_law_281 ?_
  refine vq_top (y := nI (i + 3)) (nI_add i 3) ?_
  refine va_sld (i := nI (i + 3)) hx hb hX hbl hbA hS (vp_in_nI (by omega) (by omega)) d_L_law_282 ?_
  refine vq_top (y := xs (i + 3)) (by rw [nI_clamp (by omega)]) ?_
  refine lv_aload_n hx hb d_L_law_283 rfl (lv_at hl 5 rfl) ?_
  refine lv_iload hx hb d_L_law_284 (lv_at hl 1 rfl) ?_
  refine lv_iconst (v := 4) hx hb d_L_law_286 (by decide) ?_
  refine lv_iadd hx hb d_L_law_287 ?_
  refine vq_top (y := nI (i + 4)) (nI_add i 4) ?_
  refine va_sld (i := nI (i + 4)) hx hb hX hbl hbA hS (vp_in_nI (by omega) (by omega)) d_L_law_288 ?_
  refine vq_top (y := xs (i + 4)) (by rw [nI_clamp (by omega)]) ?_
  refine lv_aload_n hx hb d_L_law_289 rfl (lv_at hl 5 rfl) ?_
  refine lv_iload hx hb d_L_law_290 (lv_at hl 1 rfl) ?_
  refine lv_iconst (v := 5) hx hb d_L_law_292 (by decide) ?_
  refine lv_iadd hx hb d_L_law_293 ?_
  refine vq_top (y := nI (i + 5)) (nI_add i 5) ?_
  refine va_sld (i := nI (i + 5)) hx hb hX hbl hbA hS (vp_in_nI (by omega) (by omega)) d_L_law_294 ?_
  refine vq_top (y := xs (i + 5)) (by rw [nI_clamp (by omega)]) ?_
  obtain ⟨hPc, hDc⟩ := sp_m hP hD
  have hKc := kt_m hK
  have hFc := fe_m hD hS hA
  refine va_callv (va_runV (As := [.int (xs (i + 1)), .int (xs (i + 2)), .int (xs (i + 3)), .int (xs (i + 4)), .int (xs (i + 5))]) (rest := []) ⟨hx, hb, hml, hown, hts⟩ (c_M_rule l htr dC dI bd cb N σm (xs (i + 1)) (xs (i + 2)) (xs (i + 3)) (xs (i + 4)) (xs (i + 5)) u1 hG1 H.size) (vq_cV WSk hts 5 rfl rfl ⟨by decide, by decide⟩ k_395 k_367 k_789 k_790 k_791 (by decide +kernel)) ⟨vq_blind, va_recv hKc hPc (ci := 8) (q0 := 0) rfl rfl, vq_here hst hS hN hPc hKc hDc⟩ rfl rfl hl.1 rfl (lv_room (Nat.le_of_ble_eq_true rfl)) d_L_law_295 ⟨by omega, by omega⟩) hS (fun q _ h => hFc q h) hFc (fun u t H1 locs ht hvm hw hB hz1 hk1 hS => ?_)
  obtain ⟨hP1, -, hD1⟩ := hB
  rw [ht] at hP1
  obtain ⟨hP, hD⟩ := jn_m hP hD hk1 hFc hP1 hD1
  generalize H1 = H at hP hS ⊢
  refine lv_goto (tgt := 761) hx hb d_L_law_298 (by decide) ?_
  exact next H locs ls (lv_sub hl [1, 2, 3, 4, 5] rfl) hP hD hS

set_option maxHeartbeats 8000000 in
set_option maxRecDepth 100000 in
theorem arm_3_0 {p : Program} {e : Env} {s : State} {m : MethodId} {below : List Frame} {meth : Method} {c : Code} (l : Launch) (htr : l.stackTraces = false) {b L i : Nat} {xs : Nat → Int32} {A : Nat → Prop} (dC : Nat → ClassId) (dI : Nat → Nat → Nat) (ad : Nat → Nat) (ca : Nat → ClassId) (o : Nat) (co : ClassId) (bd : Nat → Nat) (cb : Nat → ClassId) (N : Nat) (σx : vS) (fo : Nat → Int64) (σm : vS) (v : Int32 × vS) (u1 : Int32 × vS) {H : Heap} {locs : List Loc} {ls : Array Slot} {K S : Nat} {Q : State → Prop} (hF : f_V_analyse N σx = some ((0, v.1), v.2)) (hG1 : f_M_analyse N σm = some u1) (hL : L ≤ 3072) (hi : i + 6 ≤ L) (hKR : K + 1 ≤ 1107) (hSR : S + 6 ≤ 17414) (hx : p.tables.exec = Jvm.exec) (hb : c.code = code) (hml : c.maxLocals = 7) (hown : s.vm.findClass R_L = some m.cls) (hts : ∀ w ∈ WS, w.before #[Value.ref b] s = true) (hX : va_X b L xs s s.heap) (hbl : b < s.heap.size) (hst : vq_st s) (hnc : vq_nc s) (hA : ∀ q : Nat, s.heap.size ≤ q → A q) (hN : ∀ q : Nat, A q → ∀ cell : Cell, s.heap[q]? = some cell → cell.vm.isStatics = false) (hbA : ¬ A b) (hK : va_K (dC, dI) CL (LT ca co cb) s) (hP : va_P (dC, dI) CL (LW ad ca o co bd cb σx fo σm) H) (hD : va_D A (LW ad ca o co bd cb σx fo σm)) (hS : va_S A s.heap H locs) (hl : lv_has ls 7 [(4, .int (nI i)), (3, .ref o), (2, .ref (bd 0)), (1, .ref (ad 0)), (0, .ref b)])
    (next : ∀ (H : Heap) (locs : List Loc) (ls : Array Slot), lv_has ls 7 [(4, .int (nI i)), (3, .ref o), (2, .ref (bd 0)), (1, .ref (ad 0)), (0, .ref b)] → va_P (dC, dI) CL (LW ad ca o co bd cb v.2 (vp_updL fo (0 : Int32).toNatClampNeg v.1.toInt64) u1.2) H → va_D A (LW ad ca o co bd cb v.2 (vp_updL fo (0 : Int32).toNatClampNeg v.1.toInt64) u1.2) → va_S A s.heap H locs → W p l e room_1 s m #[Value.ref b] below meth c H locs (K + 0 + 0) (S + 0 + 0) Q (F0 m 761 ls [])) :
    W p l e room_1 s m #[Value.ref b] below meth c H locs K S Q (F0 m 301 ls []) := by
  have hR1 : room_1.cells = 1107 := rfl
  have hR2 : room_1.slots = 17414 := rfl
  refine lv_aload_n hx hb d_L_law_301 rfl (lv_at hl 3 rfl) ?_
  refine lv_aload_n hx hb d_L_law_302 rfl (lv_at hl 1 rfl) ?_
  obtain ⟨hPc, hDc⟩ := sp_xo hP hD
  have hKc := kt_xo hK
  have hFc := fe_xo hD hS hA
  refine va_calli (vq_runSH (n := 2) (As := [.ref (ad 0), .ref o]) (rest := []) ⟨hx, hb, hml, hown, hts⟩ (w_analyse_0 l htr dC dI ad ca o co fo N σx v hF H.size) WSk rfl rfl ⟨by decide, by decide⟩ k_684 k_776 k_792 k_793 (by decide +kernel) ⟨vq_blindN, vq_hereN hnc hst hS hN hPc hKc hDc⟩ rfl rfl hl.1 rfl (lv_room (Nat.le_of_ble_eq_true rfl)) d_L_law_303 ⟨by omega, by omega⟩) hS (fun q _ h => hFc q h) hFc (fun r u t H1 locs ht hvm hw hB hz1 hk1 hS => ?_)
  obtain ⟨hP1, -, hD1⟩ := hB
  rw [ht] at hP1
  have hw : r = 0 := hw
  subst hw
  obtain ⟨hP, hD⟩ := jn_xo hP hD hk1 hFc hP1 hD1
  generalize H1 = H at hP hS ⊢
  refine lv_istore (lv' := [(5, .int 0), (4, .int (nI i)), (3, .ref o), (2, .ref (bd 0)), (1, .ref (ad 0)), (0, .ref b)]) hx hb d_L_law_306 hl (by decide) rfl (fun ls hl => ?_)
  refine lv_aload_n hx hb d_L_law_308 rfl (lv_at hl 3 rfl) ?_
  obtain ⟨hPc, hDc⟩ := sp_m hP hD
  have hKc := kt_m hK
  have hFc := fe_m hD hS hA
  refine va_calli (va_runV (As := []) (rest := []) ⟨hx, hb, hml, hown, hts⟩ (c_M_analyse l htr dC dI bd cb N σm u1 hG1 H.size) (vq_cV WSk hts 0 rfl rfl ⟨by decide, by decide⟩ k_463 k_367 k_794 k_795 k_796 (by decide +kernel)) ⟨vq_blind, va_recv hKc hPc (ci := 8) (q0 := 0) rfl rfl, vq_here hst hS hN hPc hKc hDc⟩ rfl rfl hl.1 rfl (lv_room (Nat.le_of_ble_eq_true rfl)) d_L_law_309 ⟨by omega, by omega⟩) hS (fun q _ h => hFc q h) hFc (fun r u t H1 locs ht hvm hw hB hz1 hk1 hS => ?_)
  obtain ⟨hP1, -, hD1⟩ := hB
  rw [ht] at hP1
  have hw : r = u1.1 := hw
  subst hw
  obtain ⟨hP, hD⟩ := jn_m hP hD hk1 hFc hP1 hD1
  generalize H1 = H at hP hS ⊢
  refine lv_istore (lv' := [(6, .int (u1.1)), (5, .int 0), (4, .int (nI i)), (3, .ref o), (2, .ref (bd 0)), (1, .ref (ad 0)), (0, .ref b)]) hx hb d_L_law_312 hl (by decide) rfl (fun ls hl => ?_)
  refine lv_goto (tgt := 761) hx hb d_L_law_314 (by decide) ?_
  exact next H locs ls (lv_sub hl [2, 3, 4, 5, 6] rfl) hP hD hS

set_option maxHeartbeats 8000000 in
set_option maxRecDepth 100000 in
theorem arm_3_2 {p : Program} {e : Env} {s : State} {m : MethodId} {below : List Frame} {meth : Method} {c : Code} (l : Launch) (htr : l.stackTraces = false) {b L i : Nat} {xs : Nat → Int32} {A : Nat → Prop} (dC : Nat → ClassId) (dI : Nat → Nat → Nat) (ad : Nat → Nat) (ca : Nat → ClassId) (o : Nat) (co : ClassId) (bd : Nat → Nat) (cb : Nat → ClassId) (N : Nat) (σx : vS) (fo : Nat → Int64) (σm : vS) (v : Int32 × vS) (u1 : Int32 × vS) {H : Heap} {locs : List Loc} {ls : Array Slot} {K S : Nat} {Q : State → Prop} (hF : f_V_analyse N σx = some ((2, v.1), v.2)) (hG1 : f_M_analyse N σm = some u1) (hL : L ≤ 3072) (hi : i + 6 ≤ L) (hKR : K + 1 ≤ 1107) (hSR : S + 6 ≤ 17414) (hx : p.tables.exec = Jvm.exec) (hb : c.code = code) (hml : c.maxLocals = 7) (hown : s.vm.findClass R_L = some m.cls) (hts : ∀ w ∈ WS, w.before #[Value.ref b] s = true) (hX : va_X b L xs s s.heap) (hbl : b < s.heap.size) (hst : vq_st s) (hnc : vq_nc s) (hA : ∀ q : Nat, s.heap.size ≤ q → A q) (hN : ∀ q : Nat, A q → ∀ cell : Cell, s.heap[q]? = some cell → cell.vm.isStatics = false) (hbA : ¬ A b) (hK : va_K (dC, dI) CL (LT ca co cb) s) (hP : va_P (dC, dI) CL (LW ad ca o co bd cb σx fo σm) H) (hD : va_D A (LW ad ca o co bd cb σx fo σm)) (hS : va_S A s.heap H locs) (hl : lv_has ls 7 [(4, .int (nI i)), (3, .ref o), (2, .ref (bd 0)), (1, .ref (ad 0)), (0, .ref b)])
    (next : ∀ (H : Heap) (locs : List Loc) (ls : Array Slot), lv_has ls 7 [(4, .int (nI i)), (3, .ref o), (2, .ref (bd 0)), (1, .ref (ad 0)), (0, .ref b)] → va_P (dC, dI) CL (LW ad ca o co bd cb v.2 fo u1.2) H → va_D A (LW ad ca o co bd cb v.2 fo u1.2) → va_S A s.heap H locs → W p l e room_1 s m #[Value.ref b] below meth c H locs (K + 1 + 0) (S + 6 + 0) Q (F0 m 761 ls [])) :
    W p l e room_1 s m #[Value.ref b] below meth c H locs K S Q (F0 m 301 ls []) := by
  have hR1 : room_1.cells = 1107 := rfl
  have hR2 : room_1.slots = 17414 := rfl
  refine lv_aload_n hx hb d_L_law_301 rfl (lv_at hl 3 rfl) ?_
  refine lv_aload_n hx hb d_L_law_302 rfl (lv_at hl 1 rfl) ?_
  obtain ⟨hPc, hDc⟩ := sp_xo hP hD
  have hKc := kt_xo hK
  have hFc := fe_xo hD hS hA
  refine va_calli (vq_runSH (n := 2) (As := [.ref (ad 0), .ref o]) (rest := []) ⟨hx, hb, hml, hown, hts⟩ (w_analyse_2 l htr dC dI ad ca o co fo N σx v hF H.size) WSk rfl rfl ⟨by decide, by decide⟩ k_684 k_776 k_792 k_793 (by decide +kernel) ⟨vq_blindN, vq_hereN hnc hst hS hN hPc hKc hDc⟩ rfl rfl hl.1 rfl (lv_room (Nat.le_of_ble_eq_true rfl)) d_L_law_303 ⟨by omega, by omega⟩) hS (fun q _ h => hFc q h) hFc (fun r u t H1 locs ht hvm hw hB hz1 hk1 hS => ?_)
  obtain ⟨hP1, -, hD1⟩ := hB
  rw [ht] at hP1
  have hw : r = 1 := hw
  subst hw
  obtain ⟨hP, hD⟩ := jn_xo hP hD hk1 hFc hP1 hD1
  generalize H1 = H at hP hS ⊢
  refine lv_istore (lv' := [(5, .int 1), (4, .int (nI i)), (3, .ref o), (2, .ref (bd 0)), (1, .ref (ad 0)), (0, .ref b)]) hx hb d_L_law_306 hl (by decide) rfl (fun ls hl => ?_)
  refine lv_aload_n hx hb d_L_law_308 rfl (lv_at hl 3 rfl) ?_
  obtain ⟨hPc, hDc⟩ := sp_m hP hD
  have hKc := kt_m hK
  have hFc := fe_m hD hS hA
  refine va_calli (va_runV (As := []) (rest := []) ⟨hx, hb, hml, hown, hts⟩ (c_M_analyse l htr dC dI bd cb N σm u1 hG1 H.size) (vq_cV WSk hts 0 rfl rfl ⟨by decide, by decide⟩ k_463 k_367 k_794 k_795 k_796 (by decide +kernel)) ⟨vq_blind, va_recv hKc hPc (ci := 8) (q0 := 0) rfl rfl, vq_here hst hS hN hPc hKc hDc⟩ rfl rfl hl.1 rfl (lv_room (Nat.le_of_ble_eq_true rfl)) d_L_law_309 ⟨by omega, by omega⟩) hS (fun q _ h => hFc q h) hFc (fun r u t H1 locs ht hvm hw hB hz1 hk1 hS => ?_)
  obtain ⟨hP1, -, hD1⟩ := hB
  rw [ht] at hP1
  have hw : r = u1.1 := hw
  subst hw
  obtain ⟨hP, hD⟩ := jn_m hP hD hk1 hFc hP1 hD1
  generalize H1 = H at hP hS ⊢
  refine lv_istore (lv' := [(6, .int (u1.1)), (5, .int 1), (4, .int (nI i)), (3, .ref o), (2, .ref (bd 0)), (1, .ref (ad 0)), (0, .ref b)]) hx hb d_L_law_312 hl (by decide) rfl (fun ls hl => ?_)
  refine lv_goto (tgt := 761) hx hb d_L_law_314 (by decide) ?_
  exact next H locs ls (lv_sub hl [2, 3, 4, 5, 6] rfl) hP hD hS

set_option maxHeartbeats 8000000 in
set_option maxRecDepth 100000 in
theorem arm_3_4 {p : Program} {e : Env} {s : State} {m : MethodId} {below : List Frame} {meth : Method} {c : Code} (l : Launch) (htr : l.stackTraces = false) {b L i : Nat} {xs : Nat → Int32} {A : Nat → Prop} (dC : Nat → ClassId) (dI : Nat → Nat → Nat) (ad : Nat → Nat) (ca : Nat → ClassId) (o : Nat) (co : ClassId) (bd : Nat → Nat) (cb : Nat → ClassId) (N : Nat) (σx : vS) (fo : Nat → Int64) (σm : vS) (v : Int32 × vS) (u1 : Int32 × vS) {H : Heap} {locs : List Loc} {ls : Array Slot} {K S : Nat} {Q : State → Prop} (hF : f_V_analyse N σx = some ((4, v.1), v.2)) (hG1 : f_M_analyse N σm = some u1) (hL : L ≤ 3072) (hi : i + 6 ≤ L) (hKR : K + 1 ≤ 1107) (hSR : S + 6 ≤ 17414) (hx : p.tables.exec = Jvm.exec) (hb : c.code = code) (hml : c.maxLocals = 7) (hown : s.vm.findClass R_L = some m.cls) (hts : ∀ w ∈ WS, w.before #[Value.ref b] s = true) (hX : va_X b L xs s s.heap) (hbl : b < s.heap.size) (hst : vq_st s) (hnc : vq_nc s) (hA : ∀ q : Nat, s.heap.size ≤ q → A q) (hN : ∀ q : Nat, A q → ∀ cell : Cell, s.heap[q]? = some cell → cell.vm.isStatics = false) (hbA : ¬ A b) (hK : va_K (dC, dI) CL (LT ca co cb) s) (hP : va_P (dC, dI) CL (LW ad ca o co bd cb σx fo σm) H) (hD : va_D A (LW ad ca o co bd cb σx fo σm)) (hS : va_S A s.heap H locs) (hl : lv_has ls 7 [(4, .int (nI i)), (3, .ref o), (2, .ref (bd 0)), (1, .ref (ad 0)), (0, .ref b)])
    (next : ∀ (H : Heap) (locs : List Loc) (ls : Array Slot), lv_has ls 7 [(4, .int (nI i)), (3, .ref o), (2, .ref (bd 0)), (1, .ref (ad 0)), (0, .ref b)] → va_P (dC, dI) CL (LW ad ca o co bd cb v.2 fo u1.2) H → va_D A (LW ad ca o co bd cb v.2 fo u1.2) → va_S A s.heap H locs → W p l e room_1 s m #[Value.ref b] below meth c H locs (K + 1 + 0) (S + 6 + 0) Q (F0 m 761 ls [])) :
    W p l e room_1 s m #[Value.ref b] below meth c H locs K S Q (F0 m 301 ls []) := by
  have hR1 : room_1.cells = 1107 := rfl
  have hR2 : room_1.slots = 17414 := rfl
  refine lv_aload_n hx hb d_L_law_301 rfl (lv_at hl 3 rfl) ?_
  refine lv_aload_n hx hb d_L_law_302 rfl (lv_at hl 1 rfl) ?_
  obtain ⟨hPc, hDc⟩ := sp_xo hP hD
  have hKc := kt_xo hK
  have hFc := fe_xo hD hS hA
  refine va_calli (vq_runSH (n := 2) (As := [.ref (ad 0), .ref o]) (rest := []) ⟨hx, hb, hml, hown, hts⟩ (w_analyse_4 l htr dC dI ad ca o co fo N σx v hF H.size) WSk rfl rfl ⟨by decide, by decide⟩ k_684 k_776 k_792 k_793 (by decide +kernel) ⟨vq_blindN, vq_hereN hnc hst hS hN hPc hKc hDc⟩ rfl rfl hl.1 rfl (lv_room (Nat.le_of_ble_eq_true rfl)) d_L_law_303 ⟨by omega, by omega⟩) hS (fun q _ h => hFc q h) hFc (fun r u t H1 locs ht hvm hw hB hz1 hk1 hS => ?_)
  obtain ⟨hP1, -, hD1⟩ := hB
  rw [ht] at hP1
  have hw : r = 2 := hw
  subst hw
  obtain ⟨hP, hD⟩ := jn_xo hP hD hk1 hFc hP1 hD1
  generalize H1 = H at hP hS ⊢
  refine lv_istore (lv' := [(5, .int 2), (4, .int (nI i)), (3, .ref o), (2, .ref (bd 0)), (1, .ref (ad 0)), (0, .ref b)]) hx hb d_L_law_306 hl (by decide) rfl (fun ls hl => ?_)
  refine lv_aload_n hx hb d_L_law_308 rfl (lv_at hl 3 rfl) ?_
  obtain ⟨hPc, hDc⟩ := sp_m hP hD
  have hKc := kt_m hK
  have hFc := fe_m hD hS hA
  refine va_calli (va_runV (As := []) (rest := []) ⟨hx, hb, hml, hown, hts⟩ (c_M_analyse l htr dC dI bd cb N σm u1 hG1 H.size) (vq_cV WSk hts 0 rfl rfl ⟨by decide, by decide⟩ k_463 k_367 k_794 k_795 k_796 (by decide +kernel)) ⟨vq_blind, va_recv hKc hPc (ci := 8) (q0 := 0) rfl rfl, vq_here hst hS hN hPc hKc hDc⟩ rfl rfl hl.1 rfl (lv_room (Nat.le_of_ble_eq_true rfl)) d_L_law_309 ⟨by omega, by omega⟩) hS (fun q _ h => hFc q h) hFc (fun r u t H1 locs ht hvm hw hB hz1 hk1 hS => ?_)
  obtain ⟨hP1, -, hD1⟩ := hB
  rw [ht] at hP1
  have hw : r = u1.1 := hw
  subst hw
  obtain ⟨hP, hD⟩ := jn_m hP hD hk1 hFc hP1 hD1
  generalize H1 = H at hP hS ⊢
  refine lv_istore (lv' := [(6, .int (u1.1)), (5, .int 2), (4, .int (nI i)), (3, .ref o), (2, .ref (bd 0)), (1, .ref (ad 0)), (0, .ref b)]) hx hb d_L_law_312 hl (by decide) rfl (fun ls hl => ?_)
  refine lv_goto (tgt := 761) hx hb d_L_law_314 (by decide) ?_
  exact next H locs ls (lv_sub hl [2, 3, 4, 5, 6] rfl) hP hD hS

set_option maxHeartbeats 8000000 in
set_option maxRecDepth 100000 in
theorem arm_4 {p : Program} {e : Env} {s : State} {m : MethodId} {below : List Frame} {meth : Method} {c : Code} (l : Launch) (htr : l.stackTraces = false) {b L i : Nat} {xs : Nat → Int32} {A : Nat → Prop} (dC : Nat → ClassId) (dI : Nat → Nat → Nat) (ad : Nat → Nat) (ca : Nat → ClassId) (o : Nat) (co : ClassId) (bd : Nat → Nat) (cb : Nat → ClassId) (N : Nat) (σx : vS) (fo : Nat → Int64) (σm : vS) (u1 : Int32 × vS) (u2 : Int32 × vS) {H : Heap} {locs : List Loc} {ls : Array Slot} {K S : Nat} {Q : State → Prop} (hG1 : f_V_fault N σx (xs (i + 1)) = some u1) (hG2 : f_M_fault N σm (xs (i + 1)) = some u2) (hL : L ≤ 3072) (hi : i + 6 ≤ L) (hKR : K + 1 ≤ 1107) (hSR : S + 6 ≤ 17414) (hx : p.tables.exec = Jvm.exec) (hb : c.code = code) (hml : c.maxLocals = 7) (hown : s.vm.findClass R_L = some m.cls) (hts : ∀ w ∈ WS, w.before #[Value.ref b] s = true) (hX : va_X b L xs s s.heap) (hbl : b < s.heap.size) (hst : vq_st s) (hnc : vq_nc s) (hA : ∀ q : Nat, s.heap.size ≤ q → A q) (hN : ∀ q : Nat, A q → ∀ cell : Cell, s.heap[q]? = some cell → cell.vm.isStatics = false) (hbA : ¬ A b) (hK : va_K (dC, dI) CL (LT ca co cb) s) (hP : va_P (dC, dI) CL (LW ad ca o co bd cb σx fo σm) H) (hD : va_D A (LW ad ca o co bd cb σx fo σm)) (hS : va_S A s.heap H locs) (hl : lv_has ls 7 [(4, .int (nI i)), (3, .ref o), (2, .ref (bd 0)), (1, .ref (ad 0)), (0, .ref b)])
    (next : ∀ (H : Heap) (locs : List Loc) (ls : Array Slot), lv_has ls 7 [(4, .int (nI i)), (3, .ref o), (2, .ref (bd 0)), (1, .ref (ad 0)), (0, .ref b)] → va_P (dC, dI) CL (LW ad ca o co bd cb u1.2 fo u2.2) H → va_D A (LW ad ca o co bd cb u1.2 fo u2.2) → va_S A s.heap H locs → W p l e room_1 s m #[Value.ref b] below meth c H locs (K + 0 + 0) (S + 0 + 0) Q (F0 m 761 ls [])) :
    W p l e room_1 s m #[Value.ref b] below meth c H locs K S Q (F0 m 317 ls []) := by
  have hR1 : room_1.cells = 1107 := rfl
  have hR2 : room_1.slots = 17414 := rfl
  refine lv_aload_n hx hb d_L_law_317 rfl (lv_at hl 3 rfl) ?_
  refine lv_aload_n hx hb d_L_law_318 rfl (lv_at hl 4 rfl) ?_
  refine lv_iload hx hb d_L_law_319 (lv_at hl 0 rfl) ?_
  refine lv_iconst (v := 1) hx hb d_L_law_321 (by decide) ?_
  refine lv_iadd hx hb d_L_law_322 ?_
  refine vq_top (y := nI (i + 1)) (nI_add i 1) ?_
  refine va_sld (i := nI (i + 1)) hx hb hX hbl hbA hS (vp_in_nI (by omega) (by omega)) d_L_law_323 ?_
  refine vq_top (y := xs (i + 1)) (by rw [nI_clamp (by omega)]) ?_
  obtain ⟨hPc, hDc⟩ := sp_x hP hD
  have hKc := kt_x hK
  have hFc := fe_x hD hS hA
  refine va_calli (va_runV (As := [.int (xs (i + 1))]) (rest := []) ⟨hx, hb, hml, hown, hts⟩ (c_V_fault l htr dC dI ad ca N σx (xs (i + 1)) u1 hG1 H.size) (vq_cV WSk hts 1 rfl rfl ⟨by decide, by decide⟩ k_608 k_22 k_797 k_798 k_799 (by decide +kernel)) ⟨vq_blind, va_recv hKc hPc (ci := 0) (q0 := 0) rfl rfl, vq_here hst hS hN hPc hKc hDc⟩ rfl rfl hl.1 rfl (lv_room (Nat.le_of_ble_eq_true rfl)) d_L_law_324 ⟨by omega, by omega⟩) hS (fun q _ h => hFc q h) hFc (fun r u t H1 locs ht hvm hw hB hz1 hk1 hS => ?_)
  obtain ⟨hP1, -, hD1⟩ := hB
  rw [ht] at hP1
  have hw : r = u1.1 := hw
  subst hw
  obtain ⟨hP, hD⟩ := jn_x hP hD hk1 hFc hP1 hD1
  generalize H1 = H at hP hS ⊢
  refine lv_pop hx hb d_L_law_327 rfl ?_
  refine lv_aload_n hx hb d_L_law_328 rfl (lv_at hl 2 rfl) ?_
  refine lv_aload_n hx hb d_L_law_329 rfl (lv_at hl 4 rfl) ?_
  refine lv_iload hx hb d_L_law_330 (lv_at hl 0 rfl) ?_
  refine lv_iconst (v := 1) hx hb d_L_law_332 (by decide) ?_
  refine lv_iadd hx hb d_L_law_333 ?_
  refine vq_top (y := nI (i + 1)) (nI_add i 1) ?_
  refine va_sld (i := nI (i + 1)) hx hb hX hbl hbA hS (vp_in_nI (by omega) (by omega)) d_L_law_334 ?_
  refine vq_top (y := xs (i + 1)) (by rw [nI_clamp (by omega)]) ?_
  obtain ⟨hPc, hDc⟩ := sp_m hP hD
  have hKc := kt_m hK
  have hFc := fe_m hD hS hA
  refine va_calli (va_runV (As := [.int (xs (i + 1))]) (rest := []) ⟨hx, hb, hml, hown, hts⟩ (c_M_fault l htr dC dI bd cb N σm (xs (i + 1)) u2 hG2 H.size) (vq_cV WSk hts 1 rfl rfl ⟨by decide, by decide⟩ k_485 k_367 k_800 k_801 k_802 (by decide +kernel)) ⟨vq_blind, va_recv hKc hPc (ci := 8) (q0 := 0) rfl rfl, vq_here hst hS hN hPc hKc hDc⟩ rfl rfl hl.1 rfl (lv_room (Nat.le_of_ble_eq_true rfl)) d_L_law_335 ⟨by omega, by omega⟩) hS (fun q _ h => hFc q h) hFc (fun r u t H1 locs ht hvm hw hB hz1 hk1 hS => ?_)
  obtain ⟨hP1, -, hD1⟩ := hB
  rw [ht] at hP1
  have hw : r = u2.1 := hw
  subst hw
  obtain ⟨hP, hD⟩ := jn_m hP hD hk1 hFc hP1 hD1
  generalize H1 = H at hP hS ⊢
  refine lv_pop hx hb d_L_law_338 rfl ?_
  refine lv_goto (tgt := 761) hx hb d_L_law_339 (by decide) ?_
  exact next H locs ls (lv_sub hl [0, 1, 2, 3, 4] rfl) hP hD hS

set_option maxHeartbeats 8000000 in
set_option maxRecDepth 100000 in
theorem arm_5_0 {p : Program} {e : Env} {s : State} {m : MethodId} {below : List Frame} {meth : Method} {c : Code} (l : Launch) (htr : l.stackTraces = false) {b L i : Nat} {xs : Nat → Int32} {A : Nat → Prop} (dC : Nat → ClassId) (dI : Nat → Nat → Nat) (ad : Nat → Nat) (ca : Nat → ClassId) (o : Nat) (co : ClassId) (bd : Nat → Nat) (cb : Nat → ClassId) (N : Nat) (σx : vS) (fo : Nat → Int64) (σm : vS) (v : Int32 × vS) (u1 : Int32 × vS) {H : Heap} {locs : List Loc} {ls : Array Slot} {K S : Nat} {Q : State → Prop} (hF : f_V_visits N σx (xs (i + 1)) = some ((0, v.1), v.2)) (hG1 : f_M_visits N σm (xs (i + 1)) = some u1) (hL : L ≤ 3072) (hi : i + 6 ≤ L) (hKR : K + 1 ≤ 1107) (hSR : S + 6 ≤ 17414) (hx : p.tables.exec = Jvm.exec) (hb : c.code = code) (hml : c.maxLocals = 7) (hown : s.vm.findClass R_L = some m.cls) (hts : ∀ w ∈ WS, w.before #[Value.ref b] s = true) (hX : va_X b L xs s s.heap) (hbl : b < s.heap.size) (hst : vq_st s) (hnc : vq_nc s) (hA : ∀ q : Nat, s.heap.size ≤ q → A q) (hN : ∀ q : Nat, A q → ∀ cell : Cell, s.heap[q]? = some cell → cell.vm.isStatics = false) (hbA : ¬ A b) (hK : va_K (dC, dI) CL (LT ca co cb) s) (hP : va_P (dC, dI) CL (LW ad ca o co bd cb σx fo σm) H) (hD : va_D A (LW ad ca o co bd cb σx fo σm)) (hS : va_S A s.heap H locs) (hl : lv_has ls 7 [(4, .int (nI i)), (3, .ref o), (2, .ref (bd 0)), (1, .ref (ad 0)), (0, .ref b)])
    (next : ∀ (H : Heap) (locs : List Loc) (ls : Array Slot), lv_has ls 7 [(4, .int (nI i)), (3, .ref o), (2, .ref (bd 0)), (1, .ref (ad 0)), (0, .ref b)] → va_P (dC, dI) CL (LW ad ca o co bd cb v.2 (vp_updL fo (0 : Int32).toNatClampNeg v.1.toInt64) u1.2) H → va_D A (LW ad ca o co bd cb v.2 (vp_updL fo (0 : Int32).toNatClampNeg v.1.toInt64) u1.2) → va_S A s.heap H locs → W p l e room_1 s m #[Value.ref b] below meth c H locs (K + 0 + 0) (S + 0 + 0) Q (F0 m 761 ls [])) :
    W p l e room_1 s m #[Value.ref b] below meth c H locs K S Q (F0 m 342 ls []) := by
  have hR1 : room_1.cells = 1107 := rfl
  have hR2 : room_1.slots = 17414 := rfl
  refine lv_aload_n hx hb d_L_law_342 rfl (lv_at hl 3 rfl) ?_
  refine lv_aload_n hx hb d_L_law_343 rfl (lv_at hl 4 rfl) ?_
  refine lv_iload hx hb d_L_law_344 (lv_at hl 0 rfl) ?_
  refine lv_iconst (v := 1) hx hb d_L_law_346 (by decide) ?_
  refine lv_iadd hx hb d_L_law_347 ?_
  refine vq_top (y := nI (i + 1)) (nI_add i 1) ?_
  refine va_sld (i := nI (i + 1)) hx hb hX hbl hbA hS (vp_in_nI (by omega) (by omega)) d_L_law_348 ?_
  refine vq_top (y := xs (i + 1)) (by rw [nI_clamp (by omega)]) ?_
  refine lv_aload_n hx hb d_L_law_349 rfl (lv_at hl 1 rfl) ?_
  obtain ⟨hPc, hDc⟩ := sp_xo hP hD
  have hKc := kt_xo hK
  have hFc := fe_xo hD hS hA
  refine va_calli (vq_runSH (n := 3) (As := [.ref (ad 0), .int (xs (i + 1)), .ref o]) (rest := []) ⟨hx, hb, hml, hown, hts⟩ (w_visits_0 l htr dC dI ad ca o co fo N σx (xs (i + 1)) v hF H.size) WSk rfl rfl ⟨by decide, by decide⟩ k_690 k_776 k_803 k_804 (by decide +kernel) ⟨vq_blindN, vq_hereN hnc hst hS hN hPc hKc hDc⟩ rfl rfl hl.1 rfl (lv_room (Nat.le_of_ble_eq_true rfl)) d_L_law_350 ⟨by omega, by omega⟩) hS (fun q _ h => hFc q h) hFc (fun r u t H1 locs ht hvm hw hB hz1 hk1 hS => ?_)
  obtain ⟨hP1, -, hD1⟩ := hB
  rw [ht] at hP1
  have hw : r = 0 := hw
  subst hw
  obtain ⟨hP, hD⟩ := jn_xo hP hD hk1 hFc hP1 hD1
  generalize H1 = H at hP hS ⊢
  refine lv_istore (lv' := [(5, .int 0), (4, .int (nI i)), (3, .ref o), (2, .ref (bd 0)), (1, .ref (ad 0)), (0, .ref b)]) hx hb d_L_law_353 hl (by decide) rfl (fun ls hl => ?_)
  refine lv_aload_n hx hb d_L_law_355 rfl (lv_at hl 3 rfl) ?_
  refine lv_aload_n hx hb d_L_law_356 rfl (lv_at hl 5 rfl) ?_
  refine lv_iload hx hb d_L_law_357 (lv_at hl 1 rfl) ?_
  refine lv_iconst (v := 1) hx hb d_L_law_359 (by decide) ?_
  refine lv_iadd hx hb d_L_law_360 ?_
  refine vq_top (y := nI (i + 1)) (nI_add i 1) ?_
  refine va_sld (i := nI (i + 1)) hx hb hX hbl hbA hS (vp_in_nI (by omega) (by omega)) d_L_law_361 ?_
  refine vq_top (y := xs (i + 1)) (by rw [nI_clamp (by omega)]) ?_
  obtain ⟨hPc, hDc⟩ := sp_m hP hD
  have hKc := kt_m hK
  have hFc := fe_m hD hS hA
  refine va_calli (va_runV (As := [.int (xs (i + 1))]) (rest := []) ⟨hx, hb, hml, hown, hts⟩ (c_M_visits l htr dC dI bd cb N σm (xs (i + 1)) u1 hG1 H.size) (vq_cV WSk hts 1 rfl rfl ⟨by decide, by decide⟩ k_486 k_367 k_805 k_806 k_807 (by decide +kernel)) ⟨vq_blind, va_recv hKc hPc (ci := 8) (q0 := 0) rfl rfl, vq_here hst hS hN hPc hKc hDc⟩ rfl rfl hl.1 rfl (lv_room (Nat.le_of_ble_eq_true rfl)) d_L_law_362 ⟨by omega, by omega⟩) hS (fun q _ h => hFc q h) hFc (fun r u t H1 locs ht hvm hw hB hz1 hk1 hS => ?_)
  obtain ⟨hP1, -, hD1⟩ := hB
  rw [ht] at hP1
  have hw : r = u1.1 := hw
  subst hw
  obtain ⟨hP, hD⟩ := jn_m hP hD hk1 hFc hP1 hD1
  generalize H1 = H at hP hS ⊢
  refine lv_istore (lv' := [(6, .int (u1.1)), (5, .int 0), (4, .int (nI i)), (3, .ref o), (2, .ref (bd 0)), (1, .ref (ad 0)), (0, .ref b)]) hx hb d_L_law_365 hl (by decide) rfl (fun ls hl => ?_)
  refine lv_goto (tgt := 761) hx hb d_L_law_367 (by decide) ?_
  exact next H locs ls (lv_sub hl [2, 3, 4, 5, 6] rfl) hP hD hS

set_option maxHeartbeats 8000000 in
set_option maxRecDepth 100000 in
theorem arm_5_2 {p : Program} {e : Env} {s : State} {m : MethodId} {below : List Frame} {meth : Method} {c : Code} (l : Launch) (htr : l.stackTraces = false) {b L i : Nat} {xs : Nat → Int32} {A : Nat → Prop} (dC : Nat → ClassId) (dI : Nat → Nat → Nat) (ad : Nat → Nat) (ca : Nat → ClassId) (o : Nat) (co : ClassId) (bd : Nat → Nat) (cb : Nat → ClassId) (N : Nat) (σx : vS) (fo : Nat → Int64) (σm : vS) (v : Int32 × vS) (u1 : Int32 × vS) {H : Heap} {locs : List Loc} {ls : Array Slot} {K S : Nat} {Q : State → Prop} (hF : f_V_visits N σx (xs (i + 1)) = some ((2, v.1), v.2)) (hG1 : f_M_visits N σm (xs (i + 1)) = some u1) (hL : L ≤ 3072) (hi : i + 6 ≤ L) (hKR : K + 1 ≤ 1107) (hSR : S + 6 ≤ 17414) (hx : p.tables.exec = Jvm.exec) (hb : c.code = code) (hml : c.maxLocals = 7) (hown : s.vm.findClass R_L = some m.cls) (hts : ∀ w ∈ WS, w.before #[Value.ref b] s = true) (hX : va_X b L xs s s.heap) (hbl : b < s.heap.size) (hst : vq_st s) (hnc : vq_nc s) (hA : ∀ q : Nat, s.heap.size ≤ q → A q) (hN : ∀ q : Nat, A q → ∀ cell : Cell, s.heap[q]? = some cell → cell.vm.isStatics = false) (hbA : ¬ A b) (hK : va_K (dC, dI) CL (LT ca co cb) s) (hP : va_P (dC, dI) CL (LW ad ca o co bd cb σx fo σm) H) (hD : va_D A (LW ad ca o co bd cb σx fo σm)) (hS : va_S A s.heap H locs) (hl : lv_has ls 7 [(4, .int (nI i)), (3, .ref o), (2, .ref (bd 0)), (1, .ref (ad 0)), (0, .ref b)])
    (next : ∀ (H : Heap) (locs : List Loc) (ls : Array Slot), lv_has ls 7 [(4, .int (nI i)), (3, .ref o), (2, .ref (bd 0)), (1, .ref (ad 0)), (0, .ref b)] → va_P (dC, dI) CL (LW ad ca o co bd cb v.2 fo u1.2) H → va_D A (LW ad ca o co bd cb v.2 fo u1.2) → va_S A s.heap H locs → W p l e room_1 s m #[Value.ref b] below meth c H locs (K + 1 + 0) (S + 6 + 0) Q (F0 m 761 ls [])) :
    W p l e room_1 s m #[Value.ref b] below meth c H locs K S Q (F0 m 342 ls []) := by
  have hR1 : room_1.cells = 1107 := rfl
  have hR2 : room_1.slots = 17414 := rfl
  refine lv_aload_n hx hb d_L_law_342 rfl (lv_at hl 3 rfl) ?_
  refine lv_aload_n hx hb d_L_law_343 rfl (lv_at hl 4 rfl) ?_
  refine lv_iload hx hb d_L_law_344 (lv_at hl 0 rfl) ?_
  refine lv_iconst (v := 1) hx hb d_L_law_346 (by decide) ?_
  refine lv_iadd hx hb d_L_law_347 ?_
  refine vq_top (y := nI (i + 1)) (nI_add i 1) ?_
  refine va_sld (i := nI (i + 1)) hx hb hX hbl hbA hS (vp_in_nI (by omega) (by omega)) d_L_law_348 ?_
  refine vq_top (y := xs (i + 1)) (by rw [nI_clamp (by omega)]) ?_
  refine lv_aload_n hx hb d_L_law_349 rfl (lv_at hl 1 rfl) ?_
  obtain ⟨hPc, hDc⟩ := sp_xo hP hD
  have hKc := kt_xo hK
  have hFc := fe_xo hD hS hA
  refine va_calli (vq_runSH (n := 3) (As := [.ref (ad 0), .int (xs (i + 1)), .ref o]) (rest := []) ⟨hx, hb, hml, hown, hts⟩ (w_visits_2 l htr dC dI ad ca o co fo N σx (xs (i + 1)) v hF H.size) WSk rfl rfl ⟨by decide, by decide⟩ k_690 k_776 k_803 k_804 (by decide +kernel) ⟨vq_blindN, vq_hereN hnc hst hS hN hPc hKc hDc⟩ rfl rfl hl.1 rfl (lv_room (Nat.le_of_ble_eq_true rfl)) d_L_law_350 ⟨by omega, by omega⟩) hS (fun q _ h => hFc q h) hFc (fun r u t H1 locs ht hvm hw hB hz1 hk1 hS => ?_)
  obtain ⟨hP1, -, hD1⟩ := hB
  rw [ht] at hP1
  have hw : r = 1 := hw
  subst hw
  obtain ⟨hP, hD⟩ := jn_xo hP hD hk1 hFc hP1 hD1
  generalize H1 = H at hP hS ⊢
  refine lv_istore (lv' := [(5, .int 1), (4, .int (nI i)), (3, .ref o), (2, .ref (bd 0)), (1, .ref (ad 0)), (0, .ref b)]) hx hb d_L_law_353 hl (by decide) rfl (fun ls hl => ?_)
  refine lv_aload_n hx hb d_L_law_355 rfl (lv_at hl 3 rfl) ?_
  refine lv_aload_n hx hb d_L_law_356 rfl (lv_at hl 5 rfl) ?_
  refine lv_iload hx hb d_L_law_357 (lv_at hl 1 rfl) ?_
  refine lv_iconst (v := 1) hx hb d_L_law_359 (by decide) ?_
  refine lv_iadd hx hb d_L_law_360 ?_
  refine vq_top (y := nI (i + 1)) (nI_add i 1) ?_
  refine va_sld (i := nI (i + 1)) hx hb hX hbl hbA hS (vp_in_nI (by omega) (by omega)) d_L_law_361 ?_
  refine vq_top (y := xs (i + 1)) (by rw [nI_clamp (by omega)]) ?_
  obtain ⟨hPc, hDc⟩ := sp_m hP hD
  have hKc := kt_m hK
  have hFc := fe_m hD hS hA
  refine va_calli (va_runV (As := [.int (xs (i + 1))]) (rest := []) ⟨hx, hb, hml, hown, hts⟩ (c_M_visits l htr dC dI bd cb N σm (xs (i + 1)) u1 hG1 H.size) (vq_cV WSk hts 1 rfl rfl ⟨by decide, by decide⟩ k_486 k_367 k_805 k_806 k_807 (by decide +kernel)) ⟨vq_blind, va_recv hKc hPc (ci := 8) (q0 := 0) rfl rfl, vq_here hst hS hN hPc hKc hDc⟩ rfl rfl hl.1 rfl (lv_room (Nat.le_of_ble_eq_true rfl)) d_L_law_362 ⟨by omega, by omega⟩) hS (fun q _ h => hFc q h) hFc (fun r u t H1 locs ht hvm hw hB hz1 hk1 hS => ?_)
  obtain ⟨hP1, -, hD1⟩ := hB
  rw [ht] at hP1
  have hw : r = u1.1 := hw
  subst hw
  obtain ⟨hP, hD⟩ := jn_m hP hD hk1 hFc hP1 hD1
  generalize H1 = H at hP hS ⊢
  refine lv_istore (lv' := [(6, .int (u1.1)), (5, .int 1), (4, .int (nI i)), (3, .ref o), (2, .ref (bd 0)), (1, .ref (ad 0)), (0, .ref b)]) hx hb d_L_law_365 hl (by decide) rfl (fun ls hl => ?_)
  refine lv_goto (tgt := 761) hx hb d_L_law_367 (by decide) ?_
  exact next H locs ls (lv_sub hl [2, 3, 4, 5, 6] rfl) hP hD hS

set_option maxHeartbeats 8000000 in
set_option maxRecDepth 100000 in
theorem arm_5_3 {p : Program} {e : Env} {s : State} {m : MethodId} {below : List Frame} {meth : Method} {c : Code} (l : Launch) (htr : l.stackTraces = false) {b L i : Nat} {xs : Nat → Int32} {A : Nat → Prop} (dC : Nat → ClassId) (dI : Nat → Nat → Nat) (ad : Nat → Nat) (ca : Nat → ClassId) (o : Nat) (co : ClassId) (bd : Nat → Nat) (cb : Nat → ClassId) (N : Nat) (σx : vS) (fo : Nat → Int64) (σm : vS) (v : Int32 × vS) (u1 : Int32 × vS) {H : Heap} {locs : List Loc} {ls : Array Slot} {K S : Nat} {Q : State → Prop} (hF : f_V_visits N σx (xs (i + 1)) = some ((3, v.1), v.2)) (hG1 : f_M_visits N σm (xs (i + 1)) = some u1) (hL : L ≤ 3072) (hi : i + 6 ≤ L) (hKR : K + 1 ≤ 1107) (hSR : S + 6 ≤ 17414) (hx : p.tables.exec = Jvm.exec) (hb : c.code = code) (hml : c.maxLocals = 7) (hown : s.vm.findClass R_L = some m.cls) (hts : ∀ w ∈ WS, w.before #[Value.ref b] s = true) (hX : va_X b L xs s s.heap) (hbl : b < s.heap.size) (hst : vq_st s) (hnc : vq_nc s) (hA : ∀ q : Nat, s.heap.size ≤ q → A q) (hN : ∀ q : Nat, A q → ∀ cell : Cell, s.heap[q]? = some cell → cell.vm.isStatics = false) (hbA : ¬ A b) (hK : va_K (dC, dI) CL (LT ca co cb) s) (hP : va_P (dC, dI) CL (LW ad ca o co bd cb σx fo σm) H) (hD : va_D A (LW ad ca o co bd cb σx fo σm)) (hS : va_S A s.heap H locs) (hl : lv_has ls 7 [(4, .int (nI i)), (3, .ref o), (2, .ref (bd 0)), (1, .ref (ad 0)), (0, .ref b)])
    (next : ∀ (H : Heap) (locs : List Loc) (ls : Array Slot), lv_has ls 7 [(4, .int (nI i)), (3, .ref o), (2, .ref (bd 0)), (1, .ref (ad 0)), (0, .ref b)] → va_P (dC, dI) CL (LW ad ca o co bd cb v.2 fo u1.2) H → va_D A (LW ad ca o co bd cb v.2 fo u1.2) → va_S A s.heap H locs → W p l e room_1 s m #[Value.ref b] below meth c H locs (K + 1 + 0) (S + 6 + 0) Q (F0 m 761 ls [])) :
    W p l e room_1 s m #[Value.ref b] below meth c H locs K S Q (F0 m 342 ls []) := by
  have hR1 : room_1.cells = 1107 := rfl
  have hR2 : room_1.slots = 17414 := rfl
  refine lv_aload_n hx hb d_L_law_342 rfl (lv_at hl 3 rfl) ?_
  refine lv_aload_n hx hb d_L_law_343 rfl (lv_at hl 4 rfl) ?_
  refine lv_iload hx hb d_L_law_344 (lv_at hl 0 rfl) ?_
  refine lv_iconst (v := 1) hx hb d_L_law_346 (by decide) ?_
  refine lv_iadd hx hb d_L_law_347 ?_
  refine vq_top (y := nI (i + 1)) (nI_add i 1) ?_
  refine va_sld (i := nI (i + 1)) hx hb hX hbl hbA hS (vp_in_nI (by omega) (by omega)) d_L_law_348 ?_
  refine vq_top (y := xs (i + 1)) (by rw [nI_clamp (by omega)]) ?_
  refine lv_aload_n hx hb d_L_law_349 rfl (lv_at hl 1 rfl) ?_
  obtain ⟨hPc, hDc⟩ := sp_xo hP hD
  have hKc := kt_xo hK
  have hFc := fe_xo hD hS hA
  refine va_calli (vq_runSH (n := 3) (As := [.ref (ad 0), .int (xs (i + 1)), .ref o]) (rest := []) ⟨hx, hb, hml, hown, hts⟩ (w_visits_3 l htr dC dI ad ca o co fo N σx (xs (i + 1)) v hF H.size) WSk rfl rfl ⟨by decide, by decide⟩ k_690 k_776 k_803 k_804 (by decide +kernel) ⟨vq_blindN, vq_hereN hnc hst hS hN hPc hKc hDc⟩ rfl rfl hl.1 rfl (lv_room (Nat.le_of_ble_eq_true rfl)) d_L_law_350 ⟨by omega, by omega⟩) hS (fun q _ h => hFc q h) hFc (fun r u t H1 locs ht hvm hw hB hz1 hk1 hS => ?_)
  obtain ⟨hP1, -, hD1⟩ := hB
  rw [ht] at hP1
  have hw : r = 2 := hw
  subst hw
  obtain ⟨hP, hD⟩ := jn_xo hP hD hk1 hFc hP1 hD1
  generalize H1 = H at hP hS ⊢
  refine lv_istore (lv' := [(5, .int 2), (4, .int (nI i)), (3, .ref o), (2, .ref (bd 0)), (1, .ref (ad 0)), (0, .ref b)]) hx hb d_L_law_353 hl (by decide) rfl (fun ls hl => ?_)
  refine lv_aload_n hx hb d_L_law_355 rfl (lv_at hl 3 rfl) ?_
  refine lv_aload_n hx hb d_L_law_356 rfl (lv_at hl 5 rfl) ?_
  refine lv_iload hx hb d_L_law_357 (lv_at hl 1 rfl) ?_
  refine lv_iconst (v := 1) hx hb d_L_law_359 (by decide) ?_
  refine lv_iadd hx hb d_L_law_360 ?_
  refine vq_top (y := nI (i + 1)) (nI_add i 1) ?_
  refine va_sld (i := nI (i + 1)) hx hb hX hbl hbA hS (vp_in_nI (by omega) (by omega)) d_L_law_361 ?_
  refine vq_top (y := xs (i + 1)) (by rw [nI_clamp (by omega)]) ?_
  obtain ⟨hPc, hDc⟩ := sp_m hP hD
  have hKc := kt_m hK
  have hFc := fe_m hD hS hA
  refine va_calli (va_runV (As := [.int (xs (i + 1))]) (rest := []) ⟨hx, hb, hml, hown, hts⟩ (c_M_visits l htr dC dI bd cb N σm (xs (i + 1)) u1 hG1 H.size) (vq_cV WSk hts 1 rfl rfl ⟨by decide, by decide⟩ k_486 k_367 k_805 k_806 k_807 (by decide +kernel)) ⟨vq_blind, va_recv hKc hPc (ci := 8) (q0 := 0) rfl rfl, vq_here hst hS hN hPc hKc hDc⟩ rfl rfl hl.1 rfl (lv_room (Nat.le_of_ble_eq_true rfl)) d_L_law_362 ⟨by omega, by omega⟩) hS (fun q _ h => hFc q h) hFc (fun r u t H1 locs ht hvm hw hB hz1 hk1 hS => ?_)
  obtain ⟨hP1, -, hD1⟩ := hB
  rw [ht] at hP1
  have hw : r = u1.1 := hw
  subst hw
  obtain ⟨hP, hD⟩ := jn_m hP hD hk1 hFc hP1 hD1
  generalize H1 = H at hP hS ⊢
  refine lv_istore (lv' := [(6, .int (u1.1)), (5, .int 2), (4, .int (nI i)), (3, .ref o), (2, .ref (bd 0)), (1, .ref (ad 0)), (0, .ref b)]) hx hb d_L_law_365 hl (by decide) rfl (fun ls hl => ?_)
  refine lv_goto (tgt := 761) hx hb d_L_law_367 (by decide) ?_
  exact next H locs ls (lv_sub hl [2, 3, 4, 5, 6] rfl) hP hD hS

set_option maxHeartbeats 8000000 in
set_option maxRecDepth 100000 in
theorem arm_6_0 {p : Program} {e : Env} {s : State} {m : MethodId} {below : List Frame} {meth : Method} {c : Code} (l : Launch) (htr : l.stackTraces = false) {b L i : Nat} {xs : Nat → Int32} {A : Nat → Prop} (dC : Nat → ClassId) (dI : Nat → Nat → Nat) (ad : Nat → Nat) (ca : Nat → ClassId) (o : Nat) (co : ClassId) (bd : Nat → Nat) (cb : Nat → ClassId) (N : Nat) (σx : vS) (fo : Nat → Int64) (σm : vS) (v : Int32 × vS) (u1 : Int32 × vS) {H : Heap} {locs : List Loc} {ls : Array Slot} {K S : Nat} {Q : State → Prop} (hF : f_V_rank N σx (xs (i + 1)) (xs (i + 2)) = some ((0, v.1), v.2)) (hG1 : f_M_rank N σm (xs (i + 1)) (xs (i + 2)) = some u1) (hL : L ≤ 3072) (hi : i + 6 ≤ L) (hKR : K + 1 ≤ 1107) (hSR : S + 6 ≤ 17414) (hx : p.tables.exec = Jvm.exec) (hb : c.code = code) (hml : c.maxLocals = 7) (hown : s.vm.findClass R_L = some m.cls) (hts : ∀ w ∈ WS, w.before #[Value.ref b] s = true) (hX : va_X b L xs s s.heap) (hbl : b < s.heap.size) (hst : vq_st s) (hnc : vq_nc s) (hA : ∀ q : Nat, s.heap.size ≤ q → A q) (hN : ∀ q : Nat, A q → ∀ cell : Cell, s.heap[q]? = some cell → cell.vm.isStatics = false) (hbA : ¬ A b) (hK : va_K (dC, dI) CL (LT ca co cb) s) (hP : va_P (dC, dI) CL (LW ad ca o co bd cb σx fo σm) H) (hD : va_D A (LW ad ca o co bd cb σx fo σm)) (hS : va_S A s.heap H locs) (hl : lv_has ls 7 [(4, .int (nI i)), (3, .ref o), (2, .ref (bd 0)), (1, .ref (ad 0)), (0, .ref b)])
    (next : ∀ (H : Heap) (locs : List Loc) (ls : Array Slot), lv_has ls 7 [(4, .int (nI i)), (3, .ref o), (2, .ref (bd 0)), (1, .ref (ad 0)), (0, .ref b)] → va_P (dC, dI) CL (LW ad ca o co bd cb v.2 (vp_updL fo (0 : Int32).toNatClampNeg v.1.toInt64) u1.2) H → va_D A (LW ad ca o co bd cb v.2 (vp_updL fo (0 : Int32).toNatClampNeg v.1.toInt64) u1.2) → va_S A s.heap H locs → W p l e room_1 s m #[Value.ref b] below meth c H locs (K + 0 + 0) (S + 0 + 0) Q (F0 m 761 ls [])) :
    W p l e room_1 s m #[Value.ref b] below meth c H locs K S Q (F0 m 370 ls []) := by
  have hR1 : room_1.cells = 1107 := rfl
  have hR2 : room_1.slots = 17414 := rfl
  refine lv_aload_n hx hb d_L_law_370 rfl (lv_at hl 3 rfl) ?_
  refine lv_aload_n hx hb d_L_law_371 rfl (lv_at hl 4 rfl) ?_
  refine lv_iload hx hb d_L_law_372 (lv_at hl 0 rfl) ?_
  refine lv_iconst (v := 1) hx hb d_L_law_374 (by decide) ?_
  refine lv_iadd hx hb d_L_law_375 ?_
  refine vq_top (y := nI (i + 1)) (nI_add i 1) ?_
  refine va_sld (i := nI (i + 1)) hx hb hX hbl hbA hS (vp_in_nI (by omega) (by omega)) d_L_law_376 ?_
  refine vq_top (y := xs (i + 1)) (by rw [nI_clamp (by omega)]) ?_
  refine lv_aload_n hx hb d_L_law_377 rfl (lv_at hl 4 rfl) ?_
  refine lv_iload hx hb d_L_law_378 (lv_at hl 0 rfl) ?_
  refine lv_iconst (v := 2) hx hb d_L_law_380 (by decide) ?_
  refine lv_iadd hx hb d_L_law_381 ?_
  refine vq_top (y := nI (i + 2)) (nI_add i 2) ?_
  refine va_sld (i := nI (i + 2)) hx hb hX hbl hbA hS (vp_in_nI (by omega) (by omega)) d_L_law_382 ?_
  refine vq_top (y := xs (i + 2)) (by rw [nI_clamp (by omega)]) ?_
  refine lv_aload_n hx hb d_L_law_383 rfl (lv_at hl 1 rfl) ?_
  obtain ⟨hPc, hDc⟩ := sp_xo hP hD
  have hKc := kt_xo hK
  have hFc := fe_xo hD hS hA
  refine va_calli (vq_runSH (n := 4) (As := [.ref (ad 0), .int (xs (i + 1)), .int (xs (i + 2)), .ref o]) (rest := []) ⟨hx, hb, hml, hown, hts⟩ (w_rank_0 l htr dC dI ad ca o co fo N σx (xs (i + 1)) (xs (i + 2)) v hF H.size) WSk rfl rfl ⟨by decide, by decide⟩ k_694 k_776 k_808 k_809 (by decide +kernel) ⟨vq_blindN, vq_hereN hnc hst hS hN hPc hKc hDc⟩ rfl rfl hl.1 rfl (lv_room (Nat.le_of_ble_eq_true rfl)) d_L_law_384 ⟨by omega, by omega⟩) hS (fun q _ h => hFc q h) hFc (fun r u t H1 locs ht hvm hw hB hz1 hk1 hS => ?_)
  obtain ⟨hP1, -, hD1⟩ := hB
  rw [ht] at hP1
  have hw : r = 0 := hw
  subst hw
  obtain ⟨hP, hD⟩ := jn_xo hP hD hk1 hFc hP1 hD1
  generalize H1 = H at hP hS ⊢
  refine lv_istore (lv' := [(5, .int 0), (4, .int (nI i)), (3, .ref o), (2, .ref (bd 0)), (1, .ref (ad 0)), (0, .ref b)]) hx hb d_L_law_387 hl (by decide) rfl (fun ls hl => ?_)
  refine lv_aload_n hx hb d_L_law_389 rfl (lv_at hl 3 rfl) ?_
  refine lv_aload_n hx hb d_L_law_390 rfl (lv_at hl 5 rfl) ?_
  refine lv_iload hx hb d_L_law_391 (lv_at hl 1 rfl) ?_
  refine lv_iconst (v := 1) hx hb d_L_law_393 (by decide) ?_
  refine lv_iadd hx hb d_L_law_394 ?_
  refine vq_top (y := nI (i + 1)) (nI_add i 1) ?_
  refine va_sld (i := nI (i + 1)) hx hb hX hbl hbA hS (vp_in_nI (by omega) (by omega)) d_L_law_395 ?_
  refine vq_top (y := xs (i + 1)) (by rw [nI_clamp (by omega)]) ?_
  refine lv_aload_n hx hb d_L_law_396 rfl (lv_at hl 5 rfl) ?_
  refine lv_iload hx hb d_L_law_397 (lv_at hl 1 rfl) ?_
  refine lv_iconst (v := 2) hx hb d_L_law_399 (by decide) ?_
  refine lv_iadd hx hb d_L_law_400 ?_
  refine vq_top (y := nI (i + 2)) (nI_add i 2) ?_
  refine va_sld (i := nI (i + 2)) hx hb hX hbl hbA hS (vp_in_nI (by omega) (by omega)) d_L_law_401 ?_
  refine vq_top (y := xs (i + 2)) (by rw [nI_clamp (by omega)]) ?_
  obtain ⟨hPc, hDc⟩ := sp_m hP hD
  have hKc := kt_m hK
  have hFc := fe_m hD hS hA
  refine va_calli (va_runV (As := [.int (xs (i + 1)), .int (xs (i + 2))]) (rest := []) ⟨hx, hb, hml, hown, hts⟩ (c_M_rank l htr dC dI bd cb N σm (xs (i + 1)) (xs (i + 2)) u1 hG1 H.size) (vq_cV WSk hts 2 rfl rfl ⟨by decide, by decide⟩ k_487 k_367 k_810 k_811 k_812 (by decide +kernel)) ⟨vq_blind, va_recv hKc hPc (ci := 8) (q0 := 0) rfl rfl, vq_here hst hS hN hPc hKc hDc⟩ rfl rfl hl.1 rfl (lv_room (Nat.le_of_ble_eq_true rfl)) d_L_law_402 ⟨by omega, by omega⟩) hS (fun q _ h => hFc q h) hFc (fun r u t H1 locs ht hvm hw hB hz1 hk1 hS => ?_)
  obtain ⟨hP1, -, hD1⟩ := hB
  rw [ht] at hP1
  have hw : r = u1.1 := hw
  subst hw
  obtain ⟨hP, hD⟩ := jn_m hP hD hk1 hFc hP1 hD1
  generalize H1 = H at hP hS ⊢
  refine lv_istore (lv' := [(6, .int (u1.1)), (5, .int 0), (4, .int (nI i)), (3, .ref o), (2, .ref (bd 0)), (1, .ref (ad 0)), (0, .ref b)]) hx hb d_L_law_405 hl (by decide) rfl (fun ls hl => ?_)
  refine lv_goto (tgt := 761) hx hb d_L_law_407 (by decide) ?_
  exact next H locs ls (lv_sub hl [2, 3, 4, 5, 6] rfl) hP hD hS

set_option maxHeartbeats 8000000 in
set_option maxRecDepth 100000 in
theorem arm_6_2 {p : Program} {e : Env} {s : State} {m : MethodId} {below : List Frame} {meth : Method} {c : Code} (l : Launch) (htr : l.stackTraces = false) {b L i : Nat} {xs : Nat → Int32} {A : Nat → Prop} (dC : Nat → ClassId) (dI : Nat → Nat → Nat) (ad : Nat → Nat) (ca : Nat → ClassId) (o : Nat) (co : ClassId) (bd : Nat → Nat) (cb : Nat → ClassId) (N : Nat) (σx : vS) (fo : Nat → Int64) (σm : vS) (v : Int32 × vS) (u1 : Int32 × vS) {H : Heap} {locs : List Loc} {ls : Array Slot} {K S : Nat} {Q : State → Prop} (hF : f_V_rank N σx (xs (i + 1)) (xs (i + 2)) = some ((2, v.1), v.2)) (hG1 : f_M_rank N σm (xs (i + 1)) (xs (i + 2)) = some u1) (hL : L ≤ 3072) (hi : i + 6 ≤ L) (hKR : K + 1 ≤ 1107) (hSR : S + 6 ≤ 17414) (hx : p.tables.exec = Jvm.exec) (hb : c.code = code) (hml : c.maxLocals = 7) (hown : s.vm.findClass R_L = some m.cls) (hts : ∀ w ∈ WS, w.before #[Value.ref b] s = true) (hX : va_X b L xs s s.heap) (hbl : b < s.heap.size) (hst : vq_st s) (hnc : vq_nc s) (hA : ∀ q : Nat, s.heap.size ≤ q → A q) (hN : ∀ q : Nat, A q → ∀ cell : Cell, s.heap[q]? = some cell → cell.vm.isStatics = false) (hbA : ¬ A b) (hK : va_K (dC, dI) CL (LT ca co cb) s) (hP : va_P (dC, dI) CL (LW ad ca o co bd cb σx fo σm) H) (hD : va_D A (LW ad ca o co bd cb σx fo σm)) (hS : va_S A s.heap H locs) (hl : lv_has ls 7 [(4, .int (nI i)), (3, .ref o), (2, .ref (bd 0)), (1, .ref (ad 0)), (0, .ref b)])
    (next : ∀ (H : Heap) (locs : List Loc) (ls : Array Slot), lv_has ls 7 [(4, .int (nI i)), (3, .ref o), (2, .ref (bd 0)), (1, .ref (ad 0)), (0, .ref b)] → va_P (dC, dI) CL (LW ad ca o co bd cb v.2 fo u1.2) H → va_D A (LW ad ca o co bd cb v.2 fo u1.2) → va_S A s.heap H locs → W p l e room_1 s m #[Value.ref b] below meth c H locs (K + 1 + 0) (S + 6 + 0) Q (F0 m 761 ls [])) :
    W p l e room_1 s m #[Value.ref b] below meth c H locs K S Q (F0 m 370 ls []) := by
  have hR1 : room_1.cells = 1107 := rfl
  have hR2 : room_1.slots = 17414 := rfl
  refine lv_aload_n hx hb d_L_law_370 rfl (lv_at hl 3 rfl) ?_
  refine lv_aload_n hx hb d_L_law_371 rfl (lv_at hl 4 rfl) ?_
  refine lv_iload hx hb d_L_law_372 (lv_at hl 0 rfl) ?_
  refine lv_iconst (v := 1) hx hb d_L_law_374 (by decide) ?_
  refine lv_iadd hx hb d_L_law_375 ?_
  refine vq_top (y := nI (i + 1)) (nI_add i 1) ?_
  refine va_sld (i := nI (i + 1)) hx hb hX hbl hbA hS (vp_in_nI (by omega) (by omega)) d_L_law_376 ?_
  refine vq_top (y := xs (i + 1)) (by rw [nI_clamp (by omega)]) ?_
  refine lv_aload_n hx hb d_L_law_377 rfl (lv_at hl 4 rfl) ?_
  refine lv_iload hx hb d_L_law_378 (lv_at hl 0 rfl) ?_
  refine lv_iconst (v := 2) hx hb d_L_law_380 (by decide) ?_
  refine lv_iadd hx hb d_L_law_381 ?_
  refine vq_top (y := nI (i + 2)) (nI_add i 2) ?_
  refine va_sld (i := nI (i + 2)) hx hb hX hbl hbA hS (vp_in_nI (by omega) (by omega)) d_L_law_382 ?_
  refine vq_top (y := xs (i + 2)) (by rw [nI_clamp (by omega)]) ?_
  refine lv_aload_n hx hb d_L_law_383 rfl (lv_at hl 1 rfl) ?_
  obtain ⟨hPc, hDc⟩ := sp_xo hP hD
  have hKc := kt_xo hK
  have hFc := fe_xo hD hS hA
  refine va_calli (vq_runSH (n := 4) (As := [.ref (ad 0), .int (xs (i + 1)), .int (xs (i + 2)), .ref o]) (rest := []) ⟨hx, hb, hml, hown, hts⟩ (w_rank_2 l htr dC dI ad ca o co fo N σx (xs (i + 1)) (xs (i + 2)) v hF H.size) WSk rfl rfl ⟨by decide, by decide⟩ k_694 k_776 k_808 k_809 (by decide +kernel) ⟨vq_blindN, vq_hereN hnc hst hS hN hPc hKc hDc⟩ rfl rfl hl.1 rfl (lv_room (Nat.le_of_ble_eq_true rfl)) d_L_law_384 ⟨by omega, by omega⟩) hS (fun q _ h => hFc q h) hFc (fun r u t H1 locs ht hvm hw hB hz1 hk1 hS => ?_)
  obtain ⟨hP1, -, hD1⟩ := hB
  rw [ht] at hP1
  have hw : r = 1 := hw
  subst hw
  obtain ⟨hP, hD⟩ := jn_xo hP hD hk1 hFc hP1 hD1
  generalize H1 = H at hP hS ⊢
  refine lv_istore (lv' := [(5, .int 1), (4, .int (nI i)), (3, .ref o), (2, .ref (bd 0)), (1, .ref (ad 0)), (0, .ref b)]) hx hb d_L_law_387 hl (by decide) rfl (fun ls hl => ?_)
  refine lv_aload_n hx hb d_L_law_389 rfl (lv_at hl 3 rfl) ?_
  refine lv_aload_n hx hb d_L_law_390 rfl (lv_at hl 5 rfl) ?_
  refine lv_iload hx hb d_L_law_391 (lv_at hl 1 rfl) ?_
  refine lv_iconst (v := 1) hx hb d_L_law_393 (by decide) ?_
  refine lv_iadd hx hb d_L_law_394 ?_
  refine vq_top (y := nI (i + 1)) (nI_add i 1) ?_
  refine va_sld (i := nI (i + 1)) hx hb hX hbl hbA hS (vp_in_nI (by omega) (by omega)) d_L_law_395 ?_
  refine vq_top (y := xs (i + 1)) (by rw [nI_clamp (by omega)]) ?_
  refine lv_aload_n hx hb d_L_law_396 rfl (lv_at hl 5 rfl) ?_
  refine lv_iload hx hb d_L_law_397 (lv_at hl 1 rfl) ?_
  refine lv_iconst (v := 2) hx hb d_L_law_399 (by decide) ?_
  refine lv_iadd hx hb d_L_law_400 ?_
  refine vq_top (y := nI (i + 2)) (nI_add i 2) ?_
  refine va_sld (i := nI (i + 2)) hx hb hX hbl hbA hS (vp_in_nI (by omega) (by omega)) d_L_law_401 ?_
  refine vq_top (y := xs (i + 2)) (by rw [nI_clamp (by omega)]) ?_
  obtain ⟨hPc, hDc⟩ := sp_m hP hD
  have hKc := kt_m hK
  have hFc := fe_m hD hS hA
  refine va_calli (va_runV (As := [.int (xs (i + 1)), .int (xs (i + 2))]) (rest := []) ⟨hx, hb, hml, hown, hts⟩ (c_M_rank l htr dC dI bd cb N σm (xs (i + 1)) (xs (i + 2)) u1 hG1 H.size) (vq_cV WSk hts 2 rfl rfl ⟨by decide, by decide⟩ k_487 k_367 k_810 k_811 k_812 (by decide +kernel)) ⟨vq_blind, va_recv hKc hPc (ci := 8) (q0 := 0) rfl rfl, vq_here hst hS hN hPc hKc hDc⟩ rfl rfl hl.1 rfl (lv_room (Nat.le_of_ble_eq_true rfl)) d_L_law_402 ⟨by omega, by omega⟩) hS (fun q _ h => hFc q h) hFc (fun r u t H1 locs ht hvm hw hB hz1 hk1 hS => ?_)
  obtain ⟨hP1, -, hD1⟩ := hB
  rw [ht] at hP1
  have hw : r = u1.1 := hw
  subst hw
  obtain ⟨hP, hD⟩ := jn_m hP hD hk1 hFc hP1 hD1
  generalize H1 = H at hP hS ⊢
  refine lv_istore (lv' := [(6, .int (u1.1)), (5, .int 1), (4, .int (nI i)), (3, .ref o), (2, .ref (bd 0)), (1, .ref (ad 0)), (0, .ref b)]) hx hb d_L_law_405 hl (by decide) rfl (fun ls hl => ?_)
  refine lv_goto (tgt := 761) hx hb d_L_law_407 (by decide) ?_
  exact next H locs ls (lv_sub hl [2, 3, 4, 5, 6] rfl) hP hD hS

set_option maxHeartbeats 8000000 in
set_option maxRecDepth 100000 in
theorem arm_6_3 {p : Program} {e : Env} {s : State} {m : MethodId} {below : List Frame} {meth : Method} {c : Code} (l : Launch) (htr : l.stackTraces = false) {b L i : Nat} {xs : Nat → Int32} {A : Nat → Prop} (dC : Nat → ClassId) (dI : Nat → Nat → Nat) (ad : Nat → Nat) (ca : Nat → ClassId) (o : Nat) (co : ClassId) (bd : Nat → Nat) (cb : Nat → ClassId) (N : Nat) (σx : vS) (fo : Nat → Int64) (σm : vS) (v : Int32 × vS) (u1 : Int32 × vS) {H : Heap} {locs : List Loc} {ls : Array Slot} {K S : Nat} {Q : State → Prop} (hF : f_V_rank N σx (xs (i + 1)) (xs (i + 2)) = some ((3, v.1), v.2)) (hG1 : f_M_rank N σm (xs (i + 1)) (xs (i + 2)) = some u1) (hL : L ≤ 3072) (hi : i + 6 ≤ L) (hKR : K + 1 ≤ 1107) (hSR : S + 6 ≤ 17414) (hx : p.tables.exec = Jvm.exec) (hb : c.code = code) (hml : c.maxLocals = 7) (hown : s.vm.findClass R_L = some m.cls) (hts : ∀ w ∈ WS, w.before #[Value.ref b] s = true) (hX : va_X b L xs s s.heap) (hbl : b < s.heap.size) (hst : vq_st s) (hnc : vq_nc s) (hA : ∀ q : Nat, s.heap.size ≤ q → A q) (hN : ∀ q : Nat, A q → ∀ cell : Cell, s.heap[q]? = some cell → cell.vm.isStatics = false) (hbA : ¬ A b) (hK : va_K (dC, dI) CL (LT ca co cb) s) (hP : va_P (dC, dI) CL (LW ad ca o co bd cb σx fo σm) H) (hD : va_D A (LW ad ca o co bd cb σx fo σm)) (hS : va_S A s.heap H locs) (hl : lv_has ls 7 [(4, .int (nI i)), (3, .ref o), (2, .ref (bd 0)), (1, .ref (ad 0)), (0, .ref b)])
    (next : ∀ (H : Heap) (locs : List Loc) (ls : Array Slot), lv_has ls 7 [(4, .int (nI i)), (3, .ref o), (2, .ref (bd 0)), (1, .ref (ad 0)), (0, .ref b)] → va_P (dC, dI) CL (LW ad ca o co bd cb v.2 fo u1.2) H → va_D A (LW ad ca o co bd cb v.2 fo u1.2) → va_S A s.heap H locs → W p l e room_1 s m #[Value.ref b] below meth c H locs (K + 1 + 0) (S + 6 + 0) Q (F0 m 761 ls [])) :
    W p l e room_1 s m #[Value.ref b] below meth c H locs K S Q (F0 m 370 ls []) := by
  have hR1 : room_1.cells = 1107 := rfl
  have hR2 : room_1.slots = 17414 := rfl
  refine lv_aload_n hx hb d_L_law_370 rfl (lv_at hl 3 rfl) ?_
  refine lv_aload_n hx hb d_L_law_371 rfl (lv_at hl 4 rfl) ?_
  refine lv_iload hx hb d_L_law_372 (lv_at hl 0 rfl) ?_
  refine lv_iconst (v := 1) hx hb d_L_law_374 (by decide) ?_
  refine lv_iadd hx hb d_L_law_375 ?_
  refine vq_top (y := nI (i + 1)) (nI_add i 1) ?_
  refine va_sld (i := nI (i + 1)) hx hb hX hbl hbA hS (vp_in_nI (by omega) (by omega)) d_L_law_376 ?_
  refine vq_top (y := xs (i + 1)) (by rw [nI_clamp (by omega)]) ?_
  refine lv_aload_n hx hb d_L_law_377 rfl (lv_at hl 4 rfl) ?_
  refine lv_iload hx hb d_L_law_378 (lv_at hl 0 rfl) ?_
  refine lv_iconst (v := 2) hx hb d_L_law_380 (by decide) ?_
  refine lv_iadd hx hb d_L_law_381 ?_
  refine vq_top (y := nI (i + 2)) (nI_add i 2) ?_
  refine va_sld (i := nI (i + 2)) hx hb hX hbl hbA hS (vp_in_nI (by omega) (by omega)) d_L_law_382 ?_
  refine vq_top (y := xs (i + 2)) (by rw [nI_clamp (by omega)]) ?_
  refine lv_aload_n hx hb d_L_law_383 rfl (lv_at hl 1 rfl) ?_
  obtain ⟨hPc, hDc⟩ := sp_xo hP hD
  have hKc := kt_xo hK
  have hFc := fe_xo hD hS hA
  refine va_calli (vq_runSH (n := 4) (As := [.ref (ad 0), .int (xs (i + 1)), .int (xs (i + 2)), .ref o]) (rest := []) ⟨hx, hb, hml, hown, hts⟩ (w_rank_3 l htr dC dI ad ca o co fo N σx (xs (i + 1)) (xs (i + 2)) v hF H.size) WSk rfl rfl ⟨by decide, by decide⟩ k_694 k_776 k_808 k_809 (by decide +kernel) ⟨vq_blindN, vq_hereN hnc hst hS hN hPc hKc hDc⟩ rfl rfl hl.1 rfl (lv_room (Nat.le_of_ble_eq_true rfl)) d_L_law_384 ⟨by omega, by omega⟩) hS (fun q _ h => hFc q h) hFc (fun r u t H1 locs ht hvm hw hB hz1 hk1 hS => ?_)
  obtain ⟨hP1, -, hD1⟩ := hB
  rw [ht] at hP1
  have hw : r = 2 := hw
  subst hw
  obtain ⟨hP, hD⟩ := jn_xo hP hD hk1 hFc hP1 hD1
  generalize H1 = H at hP hS ⊢
  refine lv_istore (lv' := [(5, .int 2), (4, .int (nI i)), (3, .ref o), (2, .ref (bd 0)), (1, .ref (ad 0)), (0, .ref b)]) hx hb d_L_law_387 hl (by decide) rfl (fun ls hl => ?_)
  refine lv_aload_n hx hb d_L_law_389 rfl (lv_at hl 3 rfl) ?_
  refine lv_aload_n hx hb d_L_law_390 rfl (lv_at hl 5 rfl) ?_
  refine lv_iload hx hb d_L_law_391 (lv_at hl 1 rfl) ?_
  refine lv_iconst (v := 1) hx hb d_L_law_393 (by decide) ?_
  refine lv_iadd hx hb d_L_law_394 ?_
  refine vq_top (y := nI (i + 1)) (nI_add i 1) ?_
  refine va_sld (i := nI (i + 1)) hx hb hX hbl hbA hS (vp_in_nI (by omega) (by omega)) d_L_law_395 ?_
  refine vq_top (y := xs (i + 1)) (by rw [nI_clamp (by omega)]) ?_
  refine lv_aload_n hx hb d_L_law_396 rfl (lv_at hl 5 rfl) ?_
  refine lv_iload hx hb d_L_law_397 (lv_at hl 1 rfl) ?_
  refine lv_iconst (v := 2) hx hb d_L_law_399 (by decide) ?_
  refine lv_iadd hx hb d_L_law_400 ?_
  refine vq_top (y := nI (i + 2)) (nI_add i 2) ?_
  refine va_sld (i := nI (i + 2)) hx hb hX hbl hbA hS (vp_in_nI (by omega) (by omega)) d_L_law_401 ?_
  refine vq_top (y := xs (i + 2)) (by rw [nI_clamp (by omega)]) ?_
  obtain ⟨hPc, hDc⟩ := sp_m hP hD
  have hKc := kt_m hK
  have hFc := fe_m hD hS hA
  refine va_calli (va_runV (As := [.int (xs (i + 1)), .int (xs (i + 2))]) (rest := []) ⟨hx, hb, hml, hown, hts⟩ (c_M_rank l htr dC dI bd cb N σm (xs (i + 1)) (xs (i + 2)) u1 hG1 H.size) (vq_cV WSk hts 2 rfl rfl ⟨by decide, by decide⟩ k_487 k_367 k_810 k_811 k_812 (by decide +kernel)) ⟨vq_blind, va_recv hKc hPc (ci := 8) (q0 := 0) rfl rfl, vq_here hst hS hN hPc hKc hDc⟩ rfl rfl hl.1 rfl (lv_room (Nat.le_of_ble_eq_true rfl)) d_L_law_402 ⟨by omega, by omega⟩) hS (fun q _ h => hFc q h) hFc (fun r u t H1 locs ht hvm hw hB hz1 hk1 hS => ?_)
  obtain ⟨hP1, -, hD1⟩ := hB
  rw [ht] at hP1
  have hw : r = u1.1 := hw
  subst hw
  obtain ⟨hP, hD⟩ := jn_m hP hD hk1 hFc hP1 hD1
  generalize H1 = H at hP hS ⊢
  refine lv_istore (lv' := [(6, .int (u1.1)), (5, .int 2), (4, .int (nI i)), (3, .ref o), (2, .ref (bd 0)), (1, .ref (ad 0)), (0, .ref b)]) hx hb d_L_law_405 hl (by decide) rfl (fun ls hl => ?_)
  refine lv_goto (tgt := 761) hx hb d_L_law_407 (by decide) ?_
  exact next H locs ls (lv_sub hl [2, 3, 4, 5, 6] rfl) hP hD hS

set_option maxHeartbeats 8000000 in
set_option maxRecDepth 100000 in
theorem arm_7_0 {p : Program} {e : Env} {s : State} {m : MethodId} {below : List Frame} {meth : Method} {c : Code} (l : Launch) (htr : l.stackTraces = false) {b L i : Nat} {xs : Nat → Int32} {A : Nat → Prop} (dC : Nat → ClassId) (dI : Nat → Nat → Nat) (ad : Nat → Nat) (ca : Nat → ClassId) (o : Nat) (co : ClassId) (bd : Nat → Nat) (cb : Nat → ClassId) (N : Nat) (σx : vS) (fo : Nat → Int64) (σm : vS) (v : Int32 × vS) (u1 : Int32 × vS) {H : Heap} {locs : List Loc} {ls : Array Slot} {K S : Nat} {Q : State → Prop} (hF : f_V_instruction N σx (xs (i + 1)) (xs (i + 2)) = some ((0, v.1), v.2)) (hG1 : f_M_instruction N σm (xs (i + 1)) (xs (i + 2)) = some u1) (hL : L ≤ 3072) (hi : i + 6 ≤ L) (hKR : K + 1 ≤ 1107) (hSR : S + 6 ≤ 17414) (hx : p.tables.exec = Jvm.exec) (hb : c.code = code) (hml : c.maxLocals = 7) (hown : s.vm.findClass R_L = some m.cls) (hts : ∀ w ∈ WS, w.before #[Value.ref b] s = true) (hX : va_X b L xs s s.heap) (hbl : b < s.heap.size) (hst : vq_st s) (hnc : vq_nc s) (hA : ∀ q : Nat, s.heap.size ≤ q → A q) (hN : ∀ q : Nat, A q → ∀ cell : Cell, s.heap[q]? = some cell → cell.vm.isStatics = false) (hbA : ¬ A b) (hK : va_K (dC, dI) CL (LT ca co cb) s) (hP : va_P (dC, dI) CL (LW ad ca o co bd cb σx fo σm) H) (hD : va_D A (LW ad ca o co bd cb σx fo σm)) (hS : va_S A s.heap H locs) (hl : lv_has ls 7 [(4, .int (nI i)), (3, .ref o), (2, .ref (bd 0)), (1, .ref (ad 0)), (0, .ref b)])
    (next : ∀ (H : Heap) (locs : List Loc) (ls : Array Slot), lv_has ls 7 [(4, .int (nI i)), (3, .ref o), (2, .ref (bd 0)), (1, .ref (ad 0)), (0, .ref b)] → va_P (dC, dI) CL (LW ad ca o co bd cb v.2 (vp_updL fo (0 : Int32).toNatClampNeg v.1.toInt64) u1.2) H → va_D A (LW ad ca o co bd cb v.2 (vp_updL fo (0 : Int32).toNatClampNeg v.1.toInt64) u1.2) → va_S A s.heap H locs → W p l e room_1 s m #[Value.ref b] below meth c H locs (K + 0 + 0) (S + 0 + 0) Q (F0 m 761 ls [])) :
    W p l e room_1 s m #[Value.ref b] below meth c H locs K S Q (F0 m 410 ls []) := by
  have hR1 : room_1.cells = 1107 := rfl
  have hR2 : room_1.slots = 17414 := rfl
  refine lv_aload_n hx hb d_L_law_410 rfl (lv_at hl 3 rfl) ?_
  refine lv_aload_n hx hb d_L_law_411 rfl (lv_at hl 4 rfl) ?_
  refine lv_iload hx hb d_L_law_412 (lv_at hl 0 rfl) ?_
  refine lv_iconst (v := 1) hx hb d_L_law_414 (by decide) ?_
  refine lv_iadd hx hb d_L_law_415 ?_
  refine vq_top (y := nI (i + 1)) (nI_add i 1) ?_
  refine va_sld (i := nI (i + 1)) hx hb hX hbl hbA hS (vp_in_nI (by omega) (by omega)) d_L_law_416 ?_
  refine vq_top (y := xs (i + 1)) (by rw [nI_clamp (by omega)]) ?_
  refine lv_aload_n hx hb d_L_law_417 rfl (lv_at hl 4 rfl) ?_
  refine lv_iload hx hb d_L_law_418 (lv_at hl 0 rfl) ?_
  refine lv_iconst (v := 2) hx hb d_L_law_420 (by decide) ?_
  refine lv_iadd hx hb d_L_law_421 ?_
  refine vq_top (y := nI (i + 2)) (nI_add i 2) ?_
  refine va_sld (i := nI (i + 2)) hx hb hX hbl hbA hS (vp_in_nI (by omega) (by omega)) d_L_law_422 ?_
  refine vq_top (y := xs (i + 2)) (by rw [nI_clamp (by omega)]) ?_
  refine lv_aload_n hx hb d_L_law_423 rfl (lv_at hl 1 rfl) ?_
  obtain ⟨hPc, hDc⟩ := sp_xo hP hD
  have hKc := kt_xo hK
  have hFc := fe_xo hD hS hA
  refine va_calli (vq_runSH (n := 4) (As := [.ref (ad 0), .int (xs (i + 1)), .int (xs (i + 2)), .ref o]) (rest := []) ⟨hx, hb, hml, hown, hts⟩ (w_instruction_0 l htr dC dI ad ca o co fo N σx (xs (i + 1)) (xs (i + 2)) v hF H.size) WSk rfl rfl ⟨by decide, by decide⟩ k_698 k_776 k_813 k_814 (by decide +kernel) ⟨vq_blindN, vq_hereN hnc hst hS hN hPc hKc hDc⟩ rfl rfl hl.1 rfl (lv_room (Nat.le_of_ble_eq_true rfl)) d_L_law_424 ⟨by omega, by omega⟩) hS (fun q _ h => hFc q h) hFc (fun r u t H1 locs ht hvm hw hB hz1 hk1 hS => ?_)
  obtain ⟨hP1, -, hD1⟩ := hB
  rw [ht] at hP1
  have hw : r = 0 := hw
  subst hw
  obtain ⟨hP, hD⟩ := jn_xo hP hD hk1 hFc hP1 hD1
  generalize H1 = H at hP hS ⊢
  refine lv_istore (lv' := [(5, .int 0), (4, .int (nI i)), (3, .ref o), (2, .ref (bd 0)), (1, .ref (ad 0)), (0, .ref b)]) hx hb d_L_law_427 hl (by decide) rfl (fun ls hl => ?_)
  refine lv_aload_n hx hb d_L_law_429 rfl (lv_at hl 3 rfl) ?_
  refine lv_aload_n hx hb d_L_law_430 rfl (lv_at hl 5 rfl) ?_
  refine lv_iload hx hb d_L_law_431 (lv_at hl 1 rfl) ?_
  refine lv_iconst (v := 1) hx hb d_L_law_433 (by decide) ?_
  refine lv_iadd hx hb d_L_law_434 ?_
  refine vq_top (y := nI (i + 1)) (nI_add i 1) ?_
  refine va_sld (i := nI (i + 1)) hx hb hX hbl hbA hS (vp_in_nI (by omega) (by omega)) d_L_law_435 ?_
  refine vq_top (y := xs (i + 1)) (by rw [nI_clamp (by omega)]) ?_
  refine lv_aload_n hx hb d_L_law_436 rfl (lv_at hl 5 rfl) ?_
  refine lv_iload hx hb d_L_law_437 (lv_at hl 1 rfl) ?_
  refine lv_iconst (v := 2) hx hb d_L_law_439 (by decide) ?_
  refine lv_iadd hx hb d_L_law_440 ?_
  refine vq_top (y := nI (i + 2)) (nI_add i 2) ?_
  refine va_sld (i := nI (i + 2)) hx hb hX hbl hbA hS (vp_in_nI (by omega) (by omega)) d_L_law_441 ?_
  refine vq_top (y := xs (i + 2)) (by rw [nI_clamp (by omega)]) ?_
  obtain ⟨hPc, hDc⟩ := sp_m hP hD
  have hKc := kt_m hK
  have hFc := fe_m hD hS hA
  refine va_calli (va_runV (As := [.int (xs (i + 1)), .int (xs (i + 2))]) (rest := []) ⟨hx, hb, hml, hown, hts⟩ (c_M_instruction l htr dC dI bd cb N σm (xs (i + 1)) (xs (i + 2)) u1 hG1 H.size) (vq_cV WSk hts 2 rfl rfl ⟨by decide, by decide⟩ k_488 k_367 k_815 k_816 k_817 (by decide +kernel)) ⟨vq_blind, va_recv hKc hPc (ci := 8) (q0 := 0) rfl rfl, vq_here hst hS hN hPc hKc hDc⟩ rfl rfl hl.1 rfl (lv_room (Nat.le_of_ble_eq_true rfl)) d_L_law_442 ⟨by omega, by omega⟩) hS (fun q _ h => hFc q h) hFc (fun r u t H1 locs ht hvm hw hB hz1 hk1 hS => ?_)
  obtain ⟨hP1, -, hD1⟩ := hB
  rw [ht] at hP1
  have hw : r = u1.1 := hw
  subst hw
  obtain ⟨hP, hD⟩ := jn_m hP hD hk1 hFc hP1 hD1
  generalize H1 = H at hP hS ⊢
  refine lv_istore (lv' := [(6, .int (u1.1)), (5, .int 0), (4, .int (nI i)), (3, .ref o), (2, .ref (bd 0)), (1, .ref (ad 0)), (0, .ref b)]) hx hb d_L_law_445 hl (by decide) rfl (fun ls hl => ?_)
  refine lv_goto (tgt := 761) hx hb d_L_law_447 (by decide) ?_
  exact next H locs ls (lv_sub hl [2, 3, 4, 5, 6] rfl) hP hD hS
