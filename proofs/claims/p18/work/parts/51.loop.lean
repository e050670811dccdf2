theorem vq_lt6 {L i : Nat} (hL : L ≤ 3072) (hi : i ≤ L) (h : L < i + 6) : Int32.ofNat L - 6 < nI i := by
  have e1 : (Int32.ofNat L - 6).toInt = (L : Int) - 6 := pk_sub_toInt (a := L) (b := 6) (by omega) (by decide)
  rw [Int32.lt_iff_toInt_lt, e1, nI_toInt (by omega)]
  omega
theorem vq_nlt6 {L i : Nat} (hL : L ≤ 3072) (h : i + 6 ≤ L) : ¬ Int32.ofNat L - 6 < nI i := by
  have e1 : Int32.ofNat L - 6 = nI (L - 6) := pk_sub (a := L) (b := 6) (by omega)
  rw [e1, Int32.lt_iff_toInt_lt, nI_toInt (by omega), nI_toInt (by omega)]
  omega
set_option maxHeartbeats 8000000 in
set_option maxRecDepth 100000 in
theorem law_end {p : Program} {e : Env} {s : State} {m : MethodId} {below : List Frame} {meth : Method} {c : Code} (l : Launch) (htr : l.stackTraces = false) {b L : Nat} {xs : Nat → Int32} {A : Nat → Prop} (dC : Nat → ClassId) (dI : Nat → Nat → Nat) (ad : Nat → Nat) (ca : Nat → ClassId) (o : Nat) (co : ClassId) (bd : Nat → Nat) (cb : Nat → ClassId) (N : Nat) (σx : vS) (fo : Nat → Int64) (σm : vS) {i K S : Nat} {H : Heap} {locs : List Loc} {ls : Array Slot} (hL : L ≤ 3072) (hx : p.tables.exec = Jvm.exec) (hb : c.code = code) (hr : meth.sig.returnType = ret) (hlocks : meth.locks = false) (hml : c.maxLocals = 7) (hown : s.vm.findClass R_L = some m.cls) (hts : ∀ w ∈ WS, w.before #[Value.ref b] s = true) (hX : va_X b L xs s s.heap) (hbl : b < s.heap.size) (hst : vq_st s) (hnc : vq_nc s) (hA : ∀ q : Nat, s.heap.size ≤ q → A q) (hA2 : ∀ q : Nat, A q → s.heap.size ≤ q) (hbA : ¬ A b) (hK : va_K (dC, dI) CL (LT ca co cb) s) (hi : i ≤ L) (hi6 : L < i + 6) (hKR : K ≤ 1107) (hSR : S ≤ 17414) (hS : va_S A s.heap H locs) (hl : lv_has ls 7 [(4, .int (nI i)), (3, .ref o), (2, .ref (bd 0)), (1, .ref (ad 0)), (0, .ref b)]) : W p l e room_1 s m #[Value.ref b] below meth c H locs K S (lw_Z below #[Value.ref b] s) (F0 m 23 ls []) := by
  refine lv_iload hx hb d_L_law_23 (lv_at hl 0 rfl) ?_
  refine lv_aload_n hx hb d_L_law_25 rfl (lv_at hl 4 rfl) ?_
  refine va_slen hx hb hX hbl hbA hS d_L_law_26 ?_
  refine lv_bipush (v := 6) hx hb d_L_law_27 (by decide) ?_
  refine lv_isub hx hb d_L_law_29 ?_
  refine lv_icmp_gt (tgt := 767) hx hb d_L_law_30 (by decide) (fun _ => ?_) (fun h9 => absurd (vq_lt6 hL hi hi6) h9)
  refine lv_iconst (v := 1) hx hb d_L_law_767 (by decide) ?_
  refine va_forget (fun q hq => hA2 _ (hS.2.2 q hq)) ?_
  refine W.widen (k := 1107) (n := 17414) hKR hSR ?_
  exact lw_ret hx hb hr hlocks d_L_law_768
set_option maxHeartbeats 16000000 in
set_option maxRecDepth 100000 in
theorem law_turn {p : Program} {e : Env} {s : State} {m : MethodId} {below : List Frame} {meth : Method} {c : Code} (l : Launch) (htr : l.stackTraces = false) {b L : Nat} {xs : Nat → Int32} {A : Nat → Prop} (dC : Nat → ClassId) (dI : Nat → Nat → Nat) (ad : Nat → Nat) (ca : Nat → ClassId) (o : Nat) (co : ClassId) (bd : Nat → Nat) (cb : Nat → ClassId) (N : Nat) (σx : vS) (fo : Nat → Int64) (σm σx' : vS) (fo' : Nat → Int64) (σm' : vS) {i K S : Nat} {H : Heap} {locs : List Loc} {ls : Array Slot} (hL : L ≤ 3072) (hx : p.tables.exec = Jvm.exec) (hb : c.code = code) (hr : meth.sig.returnType = ret) (hlocks : meth.locks = false) (hml : c.maxLocals = 7) (hown : s.vm.findClass R_L = some m.cls) (hts : ∀ w ∈ WS, w.before #[Value.ref b] s = true) (hX : va_X b L xs s s.heap) (hbl : b < s.heap.size) (hst : vq_st s) (hnc : vq_nc s) (hA : ∀ q : Nat, s.heap.size ≤ q → A q) (hA2 : ∀ q : Nat, A q → s.heap.size ≤ q) (hbA : ¬ A b) (hK : va_K (dC, dI) CL (LT ca co cb) s) (hi : i + 6 ≤ L) (hKR : K + 1 ≤ 1107) (hSR : S + 6 ≤ 17414) (hT : Turn N (fun k => xs (i + k)) σx fo σm σx' fo' σm') (hP : va_P (dC, dI) CL (LW ad ca o co bd cb σx fo σm) H) (hD : va_D A (LW ad ca o co bd cb σx fo σm)) (hS : va_S A s.heap H locs) (hl : lv_has ls 7 [(4, .int (nI i)), (3, .ref o), (2, .ref (bd 0)), (1, .ref (ad 0)), (0, .ref b)])
    (next : ∀ (K1 S1 : Nat) (H : Heap) (locs : List Loc) (ls : Array Slot), K1 ≤ K + 1 → S1 ≤ S + 6 → lv_has ls 7 [(4, .int (nI (i + 6))), (3, .ref o), (2, .ref (bd 0)), (1, .ref (ad 0)), (0, .ref b)] → va_P (dC, dI) CL (LW ad ca o co bd cb (σx') (fo') (σm')) H → va_D A (LW ad ca o co bd cb (σx') (fo') (σm')) → va_S A s.heap H locs → W p l e room_1 s m #[Value.ref b] below meth c H locs K1 S1 (lw_Z below #[Value.ref b] s) (F0 m 23 ls [])) : W p l e room_1 s m #[Value.ref b] below meth c H locs K S (lw_Z below #[Value.ref b] s) (F0 m 23 ls []) := by
  have hN : ∀ q : Nat, A q → ∀ cell : Cell, s.heap[q]? = some cell → cell.vm.isStatics = false := fun q hq cell hc => absurd (Array.getElem?_eq_some_iff.mp hc).1 (Nat.not_lt.mpr (hA2 q hq))
  refine lv_iload hx hb d_L_law_23 (lv_at hl 0 rfl) ?_
  refine lv_aload_n hx hb d_L_law_25 rfl (lv_at hl 4 rfl) ?_
  refine va_slen hx hb hX hbl hbA hS d_L_law_26 ?_
  refine lv_bipush (v := 6) hx hb d_L_law_27 (by decide) ?_
  refine lv_isub hx hb d_L_law_29 ?_
  refine lv_icmp_gt (tgt := 767) hx hb d_L_law_30 (by decide) (fun h9 => absurd h9 (vq_nlt6 hL hi)) (fun _ => ?_)
  refine lv_aload_n hx hb d_L_law_33 rfl (lv_at hl 4 rfl) ?_
  refine lv_iload hx hb d_L_law_34 (lv_at hl 0 rfl) ?_
  refine va_sld (i := nI i) hx hb hX hbl hbA hS (vp_in_nI (by omega) (by omega)) d_L_law_36 ?_
  refine vq_top (y := xs i) (by rw [nI_clamp (by omega)]) ?_
  refine lv_bipush (v := 31) hx hb d_L_law_37 (by decide) ?_
  refine lv_iand hx hb d_L_law_39 ?_
  have back : ∀ (K1 S1 : Nat) (H : Heap) (locs : List Loc) (ls : Array Slot), K1 ≤ K + 1 → S1 ≤ S + 6 → lv_has ls 7 [(4, .int (nI i)), (3, .ref o), (2, .ref (bd 0)), (1, .ref (ad 0)), (0, .ref b)] → va_P (dC, dI) CL (LW ad ca o co bd cb (σx') (fo') (σm')) H → va_D A (LW ad ca o co bd cb (σx') (fo') (σm')) → va_S A s.heap H locs → W p l e room_1 s m #[Value.ref b] below meth c H locs K1 S1 (lw_Z below #[Value.ref b] s) (F0 m 761 ls []) := by
    intro K1 S1 H locs ls hK1 hS1 hl hP hD hS
    refine lv_iinc (k := 0) (v := nI (i + 6)) (lv' := [(4, .int (nI (i + 6))), (3, .ref o), (2, .ref (bd 0)), (1, .ref (ad 0)), (0, .ref b)]) hx hb d_L_law_761 hl rfl (nI_add i 6) (by decide) rfl (fun ls hl => ?_)
    refine lv_goto (tgt := 23) hx hb d_L_law_764 (by decide) ?_
    exact next K1 S1 H locs ls hK1 hS1 hl hP hD hS
  rcases hT with hT | hT | hT | hT | hT | hT | hT | hT | hT | hT | hT | hT | hT | hT | hT | hT | hT | hT | hT | hT | hT | hT | hT | hT | hT | hT | hT | hT | hT | hT | hT | hT | hT | hT | hT | hT | hT | hT | hT | hT | hT | hT
  · obtain ⟨v, u1, hj, hF, hG1, hx1, hx2, hx3⟩ := hT
    rw [hx1, hx2, hx3] at back
    refine vq_top (y := nI 0) hj ?_
    refine lv_tableIn (x := nI 0) (off := 84) (tgt := 124) hx hb d_L_law_40 (by decide) (by decide) (by decide) (by decide) ?_
    exact arm_0_0 l htr dC dI ad ca o co bd cb N σx fo σm v u1 hF hG1 hL hi hKR hSR hx hb hml hown hts hX hbl hst hnc hA hN hbA hK hP hD hS hl (fun H locs ls h1 h2 h3 h4 => back _ _ H locs ls (by omega) (by omega) h1 h2 h3 h4)
  · obtain ⟨v, u1, hj, hF, hG1, hx1, hx2, hx3⟩ := hT
    rw [hx1, hx2, hx3] at back
    refine vq_top (y := nI 0) hj ?_
    refine lv_tableIn (x := nI 0) (off := 84) (tgt := 124) hx hb d_L_law_40 (by decide) (by decide) (by decide) (by decide) ?_
    exact arm_0_1 l htr dC dI ad ca o co bd cb N σx fo σm v u1 hF hG1 hL hi hKR hSR hx hb hml hown hts hX hbl hst hnc hA hN hbA hK hP hD hS hl (fun H locs ls h1 h2 h3 h4 => back _ _ H locs ls (by omega) (by omega) h1 h2 h3 h4)
  · obtain ⟨v, u1, hj, hF, hG1, hx1, hx2, hx3⟩ := hT
    rw [hx1, hx2, hx3] at back
    refine vq_top (y := nI 0) hj ?_
    refine lv_tableIn (x := nI 0) (off := 84) (tgt := 124) hx hb d_L_law_40 (by decide) (by decide) (by decide) (by decide) ?_
    exact arm_0_2 l htr dC dI ad ca o co bd cb N σx fo σm v u1 hF hG1 hL hi hKR hSR hx hb hml hown hts hX hbl hst hnc hA hN hbA hK hP hD hS hl (fun H locs ls h1 h2 h3 h4 => back _ _ H locs ls (by omega) (by omega) h1 h2 h3 h4)
  · obtain ⟨v, u1, hj, hF, hG1, hx1, hx2, hx3⟩ := hT
    rw [hx1, hx2, hx3] at back
    refine vq_top (y := nI 1) hj ?_
    refine lv_tableIn (x := nI 1) (off := 124) (tgt := 164) hx hb d_L_law_40 (by decide) (by decide) (by decide) (by decide) ?_
    exact arm_1_0 l htr dC dI ad ca o co bd cb N σx fo σm v u1 hF hG1 hL hi hKR hSR hx hb hml hown hts hX hbl hst hnc hA hN hbA hK hP hD hS hl (fun H locs ls h1 h2 h3 h4 => back _ _ H locs ls (by omega) (by omega) h1 h2 h3 h4)
  · obtain ⟨v, u1, hj, hF, hG1, hx1, hx2, hx3⟩ := hT
    rw [hx1, hx2, hx3] at back
    refine vq_top (y := nI 1) hj ?_
    refine lv_tableIn (x := nI 1) (off := 124) (tgt := 164) hx hb d_L_law_40 (by decide) (by decide) (by decide) (by decide) ?_
    exact arm_1_1 l htr dC dI ad ca o co bd cb N σx fo σm v u1 hF hG1 hL hi hKR hSR hx hb hml hown hts hX hbl hst hnc hA hN hbA hK hP hD hS hl (fun H locs ls h1 h2 h3 h4 => back _ _ H locs ls (by omega) (by omega) h1 h2 h3 h4)
  · obtain ⟨v, u1, hj, hF, hG1, hx1, hx2, hx3⟩ := hT
    rw [hx1, hx2, hx3] at back
    refine vq_top (y := nI 1) hj ?_
    refine lv_tableIn (x := nI 1) (off := 124) (tgt := 164) hx hb d_L_law_40 (by decide) (by decide) (by decide) (by decide) ?_
    exact arm_1_2 l htr dC dI ad ca o co bd cb N σx fo σm v u1 hF hG1 hL hi hKR hSR hx hb hml hown hts hX hbl hst hnc hA hN hbA hK hP hD hS hl (fun H locs ls h1 h2 h3 h4 => back _ _ H locs ls (by omega) (by omega) h1 h2 h3 h4)
  · obtain ⟨v, u1, hj, hF, hG1, hx1, hx2, hx3⟩ := hT
    rw [hx1, hx2, hx3] at back
    refine vq_top (y := nI 2) hj ?_
    refine lv_tableIn (x := nI 2) (off := 188) (tgt := 228) hx hb d_L_law_40 (by decide) (by decide) (by decide) (by decide) ?_
    exact arm_2_0 l htr dC dI ad ca o co bd cb N σx fo σm v u1 hF hG1 hL hi hKR hSR hx hb hml hown hts hX hbl hst hnc hA hN hbA hK hP hD hS hl (fun H locs ls h1 h2 h3 h4 => back _ _ H locs ls (by omega) (by omega) h1 h2 h3 h4)
  · obtain ⟨v, u1, hj, hF, hG1, hx1, hx2, hx3⟩ := hT
    rw [hx1, hx2, hx3] at back
    refine vq_top (y := nI 2) hj ?_
    refine lv_tableIn (x := nI 2) (off := 188) (tgt := 228) hx hb d_L_law_40 (by decide) (by decide) (by decide) (by decide) ?_
    exact arm_2_1 l htr dC dI ad ca o co bd cb N σx fo σm v u1 hF hG1 hL hi hKR hSR hx hb hml hown hts hX hbl hst hnc hA hN hbA hK hP hD hS hl (fun H locs ls h1 h2 h3 h4 => back _ _ H locs ls (by omega) (by omega) h1 h2 h3 h4)
  · obtain ⟨v, u1, hj, hF, hG1, hx1, hx2, hx3⟩ := hT
    rw [hx1, hx2, hx3] at back
    refine vq_top (y := nI 2) hj ?_
    refine lv_tableIn (x := nI 2) (off := 188) (tgt := 228) hx hb d_L_law_40 (by decide) (by decide) (by decide) (by decide) ?_
    exact arm_2_3 l htr dC dI ad ca o co bd cb N σx fo σm v u1 hF hG1 hL hi hKR hSR hx hb hml hown hts hX hbl hst hnc hA hN hbA hK hP hD hS hl (fun H locs ls h1 h2 h3 h4 => back _ _ H locs ls (by omega) (by omega) h1 h2 h3 h4)
  · obtain ⟨v, u1, hj, hF, hG1, hx1, hx2, hx3⟩ := hT
    rw [hx1, hx2, hx3] at back
    refine vq_top (y := nI 3) hj ?_
    refine lv_tableIn (x := nI 3) (off := 261) (tgt := 301) hx hb d_L_law_40 (by decide) (by decide) (by decide) (by decide) ?_
    exact arm_3_0 l htr dC dI ad ca o co bd cb N σx fo σm v u1 hF hG1 hL hi hKR hSR hx hb hml hown hts hX hbl hst hnc hA hN hbA hK hP hD hS hl (fun H locs ls h1 h2 h3 h4 => back _ _ H locs ls (by omega) (by omega) h1 h2 h3 h4)
  · obtain ⟨v, u1, hj, hF, hG1, hx1, hx2, hx3⟩ := hT
    rw [hx1, hx2, hx3] at back
    refine vq_top (y := nI 3) hj ?_
    refine lv_tableIn (x := nI 3) (off := 261) (tgt := 301) hx hb d_L_law_40 (by decide) (by decide) (by decide) (by decide) ?_
    exact arm_3_2 l htr dC dI ad ca o co bd cb N σx fo σm v u1 hF hG1 hL hi hKR hSR hx hb hml hown hts hX hbl hst hnc hA hN hbA hK hP hD hS hl (fun H locs ls h1 h2 h3 h4 => back _ _ H locs ls (by omega) (by omega) h1 h2 h3 h4)
  · obtain ⟨v, u1, hj, hF, hG1, hx1, hx2, hx3⟩ := hT
    rw [hx1, hx2, hx3] at back
    refine vq_top (y := nI 3) hj ?_
    refine lv_tableIn (x := nI 3) (off := 261) (tgt := 301) hx hb d_L_law_40 (by decide) (by decide) (by decide) (by decide) ?_
    exact arm_3_4 l htr dC dI ad ca o co bd cb N σx fo σm v u1 hF hG1 hL hi hKR hSR hx hb hml hown hts hX hbl hst hnc hA hN hbA hK hP hD hS hl (fun H locs ls h1 h2 h3 h4 => back _ _ H locs ls (by omega) (by omega) h1 h2 h3 h4)
  · obtain ⟨u1, u2, hj, hG1, hG2, hx1, hx2, hx3⟩ := hT
    rw [hx1, hx2, hx3] at back
    refine vq_top (y := nI 4) hj ?_
    refine lv_tableIn (x := nI 4) (off := 277) (tgt := 317) hx hb d_L_law_40 (by decide) (by decide) (by decide) (by decide) ?_
    exact arm_4 l htr dC dI ad ca o co bd cb N σx fo σm u1 u2 hG1 hG2 hL hi hKR hSR hx hb hml hown hts hX hbl hst hnc hA hN hbA hK hP hD hS hl (fun H locs ls h1 h2 h3 h4 => back _ _ H locs ls (by omega) (by omega) h1 h2 h3 h4)
  · obtain ⟨v, u1, hj, hF, hG1, hx1, hx2, hx3⟩ := hT
    rw [hx1, hx2, hx3] at back
    refine vq_top (y := nI 5) hj ?_
    refine lv_tableIn (x := nI 5) (off := 302) (tgt := 342) hx hb d_L_law_40 (by decide) (by decide) (by decide) (by decide) ?_
    exact arm_5_0 l htr dC dI ad ca o co bd cb N σx fo σm v u1 hF hG1 hL hi hKR hSR hx hb hml hown hts hX hbl hst hnc hA hN hbA hK hP hD hS hl (fun H locs ls h1 h2 h3 h4 => back _ _ H locs ls (by omega) (by omega) h1 h2 h3 h4)
  · obtain ⟨v, u1, hj, hF, hG1, hx1, hx2, hx3⟩ := hT
    rw [hx1, hx2, hx3] at back
    refine vq_top (y := nI 5) hj ?_
    refine lv_tableIn (x := nI 5) (off := 302) (tgt := 342) hx hb d_L_law_40 (by decide) (by decide) (by decide) (by decide) ?_
    exact arm_5_2 l htr dC dI ad ca o co bd cb N σx fo σm v u1 hF hG1 hL hi hKR hSR hx hb hml hown hts hX hbl hst hnc hA hN hbA hK hP hD hS hl (fun H locs ls h1 h2 h3 h4 => back _ _ H locs ls (by omega) (by omega) h1 h2 h3 h4)
  · obtain ⟨v, u1, hj, hF, hG1, hx1, hx2, hx3⟩ := hT
    rw [hx1, hx2, hx3] at back
    refine vq_top (y := nI 5) hj ?_
    refine lv_tableIn (x := nI 5) (off := 302) (tgt := 342) hx hb d_L_law_40 (by decide) (by decide) (by decide) (by decide) ?_
    exact arm_5_3 l htr dC dI ad ca o co bd cb N σx fo σm v u1 hF hG1 hL hi hKR hSR hx hb hml hown hts hX hbl hst hnc hA hN hbA hK hP hD hS hl (fun H locs ls h1 h2 h3 h4 => back _ _ H locs ls (by omega) (by omega) h1 h2 h3 h4)
  · obtain ⟨v, u1, hj, hF, hG1, hx1, hx2, hx3⟩ := hT
    rw [hx1, hx2, hx3] at back
    refine vq_top (y := nI 6) hj ?_
    refine lv_tableIn (x := nI 6) (off := 330) (tgt := 370) hx hb d_L_law_40 (by decide) (by decide) (by decide) (by decide) ?_
    exact arm_6_0 l htr dC dI ad ca o co bd cb N σx fo σm v u1 hF hG1 hL hi hKR hSR hx hb hml hown hts hX hbl hst hnc hA hN hbA hK hP hD hS hl (fun H locs ls h1 h2 h3 h4 => back _ _ H locs ls (by omega) (by omega) h1 h2 h3 h4)
  · obtain ⟨v, u1, hj, hF, hG1, hx1, hx2, hx3⟩ := hT
    rw [hx1, hx2, hx3] at back
    refine vq_top (y := nI 6) hj ?_
    refine lv_tableIn (x := nI 6) (off := 330) (tgt := 370) hx hb d_L_law_40 (by decide) (by decide) (by decide) (by decide) ?_
    exact arm_6_2 l htr dC dI ad ca o co bd cb N σx fo σm v u1 hF hG1 hL hi hKR hSR hx hb hml hown hts hX hbl hst hnc hA hN hbA hK hP hD hS hl (fun H locs ls h1 h2 h3 h4 => back _ _ H locs ls (by omega) (by omega) h1 h2 h3 h4)
  · obtain ⟨v, u1, hj, hF, hG1, hx1, hx2, hx3⟩ := hT
    rw [hx1, hx2, hx3] at back
    refine vq_top (y := nI 6) hj ?_
    refine lv_tableIn (x := nI 6) (off := 330) (tgt := 370) hx hb d_L_law_40 (by decide) (by decide) (by decide) (by decide) ?_
    exact arm_6_3 l htr dC dI ad ca o co bd cb N σx fo σm v u1 hF hG1 hL hi hKR hSR hx hb hml hown hts hX hbl hst hnc hA hN hbA hK hP hD hS hl (fun H locs ls h1 h2 h3 h4 => back _ _ H locs ls (by omega) (by omega) h1 h2 h3 h4)
  · obtain ⟨v, u1, hj, hF, hG1, hx1, hx2, hx3⟩ := hT
    rw [hx1, hx2, hx3] at back
    refine vq_top (y := nI 7) hj ?_
    refine lv_tableIn (x := nI 7) (off := 370) (tgt := 410) hx hb d_L_law_40 (by decide) (by decide) (by decide) (by decide) ?_
    exact arm_7_0 l htr dC dI ad ca o co bd cb N σx fo σm v u1 hF hG1 hL hi hKR hSR hx hb hml hown hts hX hbl hst hnc hA hN hbA hK hP hD hS hl (fun H locs ls h1 h2 h3 h4 => back _ _ H locs ls (by omega) (by omega) h1 h2 h3 h4)
  · obtain ⟨v, u1, hj, hF, hG1, hx1, hx2, hx3⟩ := hT
    rw [hx1, hx2, hx3] at back
    refine vq_top (y := nI 7) hj ?_
    refine lv_tableIn (x := nI 7) (off := 370) (tgt := 410) hx hb d_L_law_40 (by decide) (by decide) (by decide) (by decide) ?_
    exact arm_7_2 l htr dC dI ad ca o co bd cb N σx fo σm v u1 hF hG1 hL hi hKR hSR hx hb hml hown hts hX hbl hst hnc hA hN hbA hK hP hD hS hl (fun H locs ls h1 h2 h3 h4 => back _ _ H locs ls (by omega) (by omega) h1 h2 h3 h4)
  · obtain ⟨v, u1, hj, hF, hG1, hx1, hx2, hx3⟩ := hT
    rw [hx1, hx2, hx3] at back
    refine vq_top (y := nI 7) hj ?_
    refine lv_tableIn (x := nI 7) (off := 370) (tgt := 410) hx hb d_L_law_40 (by decide) (by decide) (by decide) (by decide) ?_
    exact arm_7_3 l htr dC dI ad ca o co bd cb N σx fo σm v u1 hF hG1 hL hi hKR hSR hx hb hml hown hts hX hbl hst hnc hA hN hbA hK hP hD hS hl (fun H locs ls h1 h2 h3 h4 => back _ _ H locs ls (by omega) (by omega) h1 h2 h3 h4)
  · obtain ⟨v, u1, hj, hF, hG1, hx1, hx2, hx3⟩ := hT
    rw [hx1, hx2, hx3] at back
    refine vq_top (y := nI 8) hj ?_
    refine lv_tableIn (x := nI 8) (off := 410) (tgt := 450) hx hb d_L_law_40 (by decide) (by decide) (by decide) (by decide) ?_
    exact arm_8_0 l htr dC dI ad ca o co bd cb N σx fo σm v u1 hF hG1 hL hi hKR hSR hx hb hml hown hts hX hbl hst hnc hA hN hbA hK hP hD hS hl (fun H locs ls h1 h2 h3 h4 => back _ _ H locs ls (by omega) (by omega) h1 h2 h3 h4)
  · obtain ⟨v, u1, hj, hF, hG1, hx1, hx2, hx3⟩ := hT
    rw [hx1, hx2, hx3] at back
    refine vq_top (y := nI 8) hj ?_
    refine lv_tableIn (x := nI 8) (off := 410) (tgt := 450) hx hb d_L_law_40 (by decide) (by decide) (by decide) (by decide) ?_
    exact arm_8_1 l htr dC dI ad ca o co bd cb N σx fo σm v u1 hF hG1 hL hi hKR hSR hx hb hml hown hts hX hbl hst hnc hA hN hbA hK hP hD hS hl (fun H locs ls h1 h2 h3 h4 => back _ _ H locs ls (by omega) (by omega) h1 h2 h3 h4)
  · obtain ⟨v, u1, hj, hF, hG1, hx1, hx2, hx3⟩ := hT
    rw [hx1, hx2, hx3] at back
    refine vq_top (y := nI 8) hj ?_
    refine lv_tableIn (x := nI 8) (off := 410) (tgt := 450) hx hb d_L_law_40 (by decide) (by decide) (by decide) (by decide) ?_
    exact arm_8_2 l htr dC dI ad ca o co bd cb N σx fo σm v u1 hF hG1 hL hi hKR hSR hx hb hml hown hts hX hbl hst hnc hA hN hbA hK hP hD hS hl (fun H locs ls h1 h2 h3 h4 => back _ _ H locs ls (by omega) (by omega) h1 h2 h3 h4)
  · obtain ⟨u1, u2, hj, hG1, hG2, hx1, hx2, hx3⟩ := hT
    rw [hx1, hx2, hx3] at back
    refine vq_top (y := nI 9) hj ?_
    refine lv_tableIn (x := nI 9) (off := 486) (tgt := 526) hx hb d_L_law_40 (by decide) (by decide) (by decide) (by decide) ?_
    exact arm_9 l htr dC dI ad ca o co bd cb N σx fo σm u1 u2 hG1 hG2 hL hi hKR hSR hx hb hml hown hts hX hbl hst hnc hA hN hbA hK hP hD hS hl (fun H locs ls h1 h2 h3 h4 => back _ _ H locs ls (by omega) (by omega) h1 h2 h3 h4)
  · obtain ⟨v, u1, hj, hF, hG1, hx1, hx2, hx3⟩ := hT
    rw [hx1, hx2, hx3] at back
    refine vq_top (y := nI 10) hj ?_
    refine lv_tableIn (x := nI 10) (off := 497) (tgt := 537) hx hb d_L_law_40 (by decide) (by decide) (by decide) (by decide) ?_
    exact arm_10_0 l htr dC dI ad ca o co bd cb N σx fo σm v u1 hF hG1 hL hi hKR hSR hx hb hml hown hts hX hbl hst hnc hA hN hbA hK hP hD hS hl (fun H locs ls h1 h2 h3 h4 => back _ _ H locs ls (by omega) (by omega) h1 h2 h3 h4)
  · obtain ⟨v, u1, hj, hF, hG1, hx1, hx2, hx3⟩ := hT
    rw [hx1, hx2, hx3] at back
    refine vq_top (y := nI 10) hj ?_
    refine lv_tableIn (x := nI 10) (off := 497) (tgt := 537) hx hb d_L_law_40 (by decide) (by decide) (by decide) (by decide) ?_
    exact arm_10_3 l htr dC dI ad ca o co bd cb N σx fo σm v u1 hF hG1 hL hi hKR hSR hx hb hml hown hts hX hbl hst hnc hA hN hbA hK hP hD hS hl (fun H locs ls h1 h2 h3 h4 => back _ _ H locs ls (by omega) (by omega) h1 h2 h3 h4)
  · obtain ⟨v, u1, hj, hF, hG1, hx1, hx2, hx3⟩ := hT
    rw [hx1, hx2, hx3] at back
    refine vq_top (y := nI 11) hj ?_
    refine lv_tableIn (x := nI 11) (off := 534) (tgt := 574) hx hb d_L_law_40 (by decide) (by decide) (by decide) (by decide) ?_
    exact arm_11_0 l htr dC dI ad ca o co bd cb N σx fo σm v u1 hF hG1 hL hi hKR hSR hx hb hml hown hts hX hbl hst hnc hA hN hbA hK hP hD hS hl (fun H locs ls h1 h2 h3 h4 => back _ _ H locs ls (by omega) (by omega) h1 h2 h3 h4)
  · obtain ⟨v, u1, hj, hF, hG1, hx1, hx2, hx3⟩ := hT
    rw [hx1, hx2, hx3] at back
    refine vq_top (y := nI 11) hj ?_
    refine lv_tableIn (x := nI 11) (off := 534) (tgt := 574) hx hb d_L_law_40 (by decide) (by decide) (by decide) (by decide) ?_
    exact arm_11_2 l htr dC dI ad ca o co bd cb N σx fo σm v u1 hF hG1 hL hi hKR hSR hx hb hml hown hts hX hbl hst hnc hA hN hbA hK hP hD hS hl (fun H locs ls h1 h2 h3 h4 => back _ _ H locs ls (by omega) (by omega) h1 h2 h3 h4)
  · obtain ⟨v, u1, hj, hF, hG1, hx1, hx2, hx3⟩ := hT
    rw [hx1, hx2, hx3] at back
    refine vq_top (y := nI 11) hj ?_
    refine lv_tableIn (x := nI 11) (off := 534) (tgt := 574) hx hb d_L_law_40 (by decide) (by decide) (by decide) (by decide) ?_
    exact arm_11_3 l htr dC dI ad ca o co bd cb N σx fo σm v u1 hF hG1 hL hi hKR hSR hx hb hml hown hts hX hbl hst hnc hA hN hbA hK hP hD hS hl (fun H locs ls h1 h2 h3 h4 => back _ _ H locs ls (by omega) (by omega) h1 h2 h3 h4)
  · obtain ⟨v, u1, hj, hF, hG1, hx1, hx2, hx3⟩ := hT
    rw [hx1, hx2, hx3] at back
    refine vq_top (y := nI 12) hj ?_
    refine lv_tableIn (x := nI 12) (off := 559) (tgt := 599) hx hb d_L_law_40 (by decide) (by decide) (by decide) (by decide) ?_
    exact arm_12_0 l htr dC dI ad ca o co bd cb N σx fo σm v u1 hF hG1 hL hi hKR hSR hx hb hml hown hts hX hbl hst hnc hA hN hbA hK hP hD hS hl (fun H locs ls h1 h2 h3 h4 => back _ _ H locs ls (by omega) (by omega) h1 h2 h3 h4)
  · obtain ⟨v, u1, hj, hF, hG1, hx1, hx2, hx3⟩ := hT
    rw [hx1, hx2, hx3] at back
    refine vq_top (y := nI 12) hj ?_
    refine lv_tableIn (x := nI 12) (off := 559) (tgt := 599) hx hb d_L_law_40 (by decide) (by decide) (by decide) (by decide) ?_
    exact arm_12_1 l htr dC dI ad ca o co bd cb N σx fo σm v u1 hF hG1 hL hi hKR hSR hx hb hml hown hts hX hbl hst hnc hA hN hbA hK hP hD hS hl (fun H locs ls h1 h2 h3 h4 => back _ _ H locs ls (by omega) (by omega) h1 h2 h3 h4)
  · obtain ⟨v, u1, hj, hF, hG1, hx1, hx2, hx3⟩ := hT
    rw [hx1, hx2, hx3] at back
    refine vq_top (y := nI 12) hj ?_
    refine lv_tableIn (x := nI 12) (off := 559) (tgt := 599) hx hb d_L_law_40 (by decide) (by decide) (by decide) (by decide) ?_
    exact arm_12_2 l htr dC dI ad ca o co bd cb N σx fo σm v u1 hF hG1 hL hi hKR hSR hx hb hml hown hts hX hbl hst hnc hA hN hbA hK hP hD hS hl (fun H locs ls h1 h2 h3 h4 => back _ _ H locs ls (by omega) (by omega) h1 h2 h3 h4)
  · obtain ⟨u1, u2, hj, hG1, hG2, hx1, hx2, hx3⟩ := hT
    rw [hx1, hx2, hx3] at back
    refine vq_top (y := nI 13) hj ?_
    refine lv_tableIn (x := nI 13) (off := 587) (tgt := 627) hx hb d_L_law_40 (by decide) (by decide) (by decide) (by decide) ?_
    exact arm_13 l htr dC dI ad ca o co bd cb N σx fo σm u1 u2 hG1 hG2 hL hi hKR hSR hx hb hml hown hts hX hbl hst hnc hA hN hbA hK hP hD hS hl (fun H locs ls h1 h2 h3 h4 => back _ _ H locs ls (by omega) (by omega) h1 h2 h3 h4)
  · obtain ⟨u1, u2, hj, hG1, hG2, hx1, hx2, hx3⟩ := hT
    rw [hx1, hx2, hx3] at back
    refine vq_top (y := nI 14) hj ?_
    refine lv_tableIn (x := nI 14) (off := 600) (tgt := 640) hx hb d_L_law_40 (by decide) (by decide) (by decide) (by decide) ?_
    exact arm_14 l htr dC dI ad ca o co bd cb N σx fo σm u1 u2 hG1 hG2 hL hi hKR hSR hx hb hml hown hts hX hbl hst hnc hA hN hbA hK hP hD hS hl (fun H locs ls h1 h2 h3 h4 => back _ _ H locs ls (by omega) (by omega) h1 h2 h3 h4)
  · obtain ⟨v, u1, hj, hF, hG1, hx1, hx2, hx3⟩ := hT
    rw [hx1, hx2, hx3] at back
    refine vq_top (y := nI 15) hj ?_
    refine lv_tableIn (x := nI 15) (off := 613) (tgt := 653) hx hb d_L_law_40 (by decide) (by decide) (by decide) (by decide) ?_
    exact arm_15_0 l htr dC dI ad ca o co bd cb N σx fo σm v u1 hF hG1 hL hi hKR hSR hx hb hml hown hts hX hbl hst hnc hA hN hbA hK hP hD hS hl (fun H locs ls h1 h2 h3 h4 => back _ _ H locs ls (by omega) (by omega) h1 h2 h3 h4)
  · obtain ⟨v, u1, hj, hF, hG1, hx1, hx2, hx3⟩ := hT
    rw [hx1, hx2, hx3] at back
    refine vq_top (y := nI 15) hj ?_
    refine lv_tableIn (x := nI 15) (off := 613) (tgt := 653) hx hb d_L_law_40 (by decide) (by decide) (by decide) (by decide) ?_
    exact arm_15_3 l htr dC dI ad ca o co bd cb N σx fo σm v u1 hF hG1 hL hi hKR hSR hx hb hml hown hts hX hbl hst hnc hA hN hbA hK hP hD hS hl (fun H locs ls h1 h2 h3 h4 => back _ _ H locs ls (by omega) (by omega) h1 h2 h3 h4)
  · obtain ⟨v, u1, u2, hj, hF, hG1, hG2, hcmp, hout, hx1, hx2, hx3⟩ := hT
    rw [hx1, hx2, hx3] at back
    refine vq_top (y := nI 16) hj ?_
    refine lv_tableIn (x := nI 16) (off := 653) (tgt := 693) hx hb d_L_law_40 (by decide) (by decide) (by decide) (by decide) ?_
    exact arm_16_0 l htr dC dI ad ca o co bd cb N σx fo σm v u1 u2 hF hG1 hG2 hcmp hout hL hi hKR hSR hx hb hml hown hts hX hbl hst hnc hA hN hbA hK hP hD hS hl (fun H locs ls h1 h2 h3 h4 => back _ _ H locs ls (by omega) (by omega) h1 h2 h3 h4)
  · obtain ⟨v, u1, u2, hj, hF, hG1, hG2, hcmp, hx1, hx2, hx3⟩ := hT
    rw [hx1, hx2, hx3] at back
    refine vq_top (y := nI 16) hj ?_
    refine lv_tableIn (x := nI 16) (off := 653) (tgt := 693) hx hb d_L_law_40 (by decide) (by decide) (by decide) (by decide) ?_
    exact arm_16_2 l htr dC dI ad ca o co bd cb N σx fo σm v u1 u2 hF hG1 hG2 hcmp hL hi hKR hSR hx hb hml hown hts hX hbl hst hnc hA hN hbA hK hP hD hS hl (fun H locs ls h1 h2 h3 h4 => back _ _ H locs ls (by omega) (by omega) h1 h2 h3 h4)
  · obtain ⟨v, u1, u2, hj, hF, hG1, hG2, hcmp, hx1, hx2, hx3⟩ := hT
    rw [hx1, hx2, hx3] at back
    refine vq_top (y := nI 16) hj ?_
    refine lv_tableIn (x := nI 16) (off := 653) (tgt := 693) hx hb d_L_law_40 (by decide) (by decide) (by decide) (by decide) ?_
    exact arm_16_3 l htr dC dI ad ca o co bd cb N σx fo σm v u1 u2 hF hG1 hG2 hcmp hL hi hKR hSR hx hb hml hown hts hX hbl hst hnc hA hN hbA hK hP hD hS hl (fun H locs ls h1 h2 h3 h4 => back _ _ H locs ls (by omega) (by omega) h1 h2 h3 h4)
  · obtain ⟨j, h17, h32, hj, hx1, hx2, hx3⟩ := hT
    rw [hx1, hx2, hx3] at back
    refine vq_top (y := nI j) hj ?_
    refine lv_tableOut (tgt := 761) hx hb d_L_law_40 (Or.inr (by rw [nI_toInt (by omega)]; omega)) (by decide) ?_
    exact back _ _ H locs ls (by omega) (by omega) hl hP hD hS
/-- the loop: as long as every turn from a state of Inv is one of Turn, and keeps Inv, the law comes to its end with true -/
theorem law_loop {p : Program} {e : Env} {s : State} {m : MethodId} {below : List Frame} {meth : Method} {c : Code} (l : Launch) (htr : l.stackTraces = false) {b L : Nat} {xs : Nat → Int32} {A : Nat → Prop} (dC : Nat → ClassId) (dI : Nat → Nat → Nat) (ad : Nat → Nat) (ca : Nat → ClassId) (o : Nat) (co : ClassId) (bd : Nat → Nat) (cb : Nat → ClassId) (N : Nat) (Inv : vS → (Nat → Int64) → vS → Prop) (hstep : ∀ (x : Nat → Int32) (σx : vS) (fo : Nat → Int64) (σm : vS), Inv σx fo σm → ∃ (σx' : vS) (fo' : Nat → Int64) (σm' : vS), Turn N x σx fo σm σx' fo' σm' ∧ Inv σx' fo' σm') (hL : L ≤ 3072) (hx : p.tables.exec = Jvm.exec) (hb : c.code = code) (hr : meth.sig.returnType = ret) (hlocks : meth.locks = false) (hml : c.maxLocals = 7) (hown : s.vm.findClass R_L = some m.cls) (hts : ∀ w ∈ WS, w.before #[Value.ref b] s = true) (hX : va_X b L xs s s.heap) (hbl : b < s.heap.size) (hst : vq_st s) (hnc : vq_nc s) (hA : ∀ q : Nat, s.heap.size ≤ q → A q) (hA2 : ∀ q : Nat, A q → s.heap.size ≤ q) (hbA : ¬ A b) (hK : va_K (dC, dI) CL (LT ca co cb) s) : ∀ (n i K S : Nat) (σx : vS) (fo : Nat → Int64) (σm : vS) (H : Heap) (locs : List Loc) (ls : Array Slot), i ≤ L → L < i + 6 * (n + 1) → K + n ≤ 1107 → S + 6 * n ≤ 17414 → Inv σx fo σm → va_P (dC, dI) CL (LW ad ca o co bd cb σx fo σm) H → va_D A (LW ad ca o co bd cb σx fo σm) → va_S A s.heap H locs → lv_has ls 7 [(4, .int (nI i)), (3, .ref o), (2, .ref (bd 0)), (1, .ref (ad 0)), (0, .ref b)] → W p l e room_1 s m #[Value.ref b] below meth c H locs K S (lw_Z below #[Value.ref b] s) (F0 m 23 ls []) := by
  intro n
  induction n with
  | zero =>
    intro i K S σx fo σm H locs ls hi h6 hK1 hS1 hI hP hD hS hl
    exact law_end l htr dC dI ad ca o co bd cb N σx fo σm hL hx hb hr hlocks hml hown hts hX hbl hst hnc hA hA2 hbA hK hi (by omega) (by omega) (by omega) hS hl
  | succ n ih =>
    intro i K S σx fo σm H locs ls hi h6 hK1 hS1 hI hP hD hS hl
    by_cases hend : L < i + 6
    · exact law_end l htr dC dI ad ca o co bd cb N σx fo σm hL hx hb hr hlocks hml hown hts hX hbl hst hnc hA hA2 hbA hK hi hend (by omega) (by omega) hS hl
    · obtain ⟨σx', fo', σm', hT, hI'⟩ := hstep (fun k => xs (i + k)) σx fo σm hI
      exact law_turn l htr dC dI ad ca o co bd cb N σx fo σm σx' fo' σm' hL hx hb hr hlocks hml hown hts hX hbl hst hnc hA hA2 hbA hK (by omega) (by omega) (by omega) hT hP hD hS hl (fun K1 S1 H locs ls hK2 hS2 hl hP hD hS => ih (i + 6) K1 S1 σx' fo' σm' H locs ls (by omega) (by omega) (by omega) (by omega) hI' hP hD hS hl)
