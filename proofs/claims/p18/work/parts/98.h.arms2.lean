theorem a_rank {N : Nat} {σx σm : vS} (h : TOG σx σm) (a b : Int32) : ∃ kd r σx' u σm', f_V_rank N σx a b = some ((kd, r), σx') ∧ f_M_rank N σm a b = some (u, σm') ∧ TOG σx' σm' ∧ ((kd = 0 ∧ σm'.1 0 = 0 ∧ u = r) ∨ (kd = 2 ∧ σm'.1 0 = 1) ∨ (kd = 3 ∧ σm'.1 0 = 2)) := by
  obtain ⟨g, t, hI⟩ := h
  have hI0 := hI
  obtain ⟨⟨hw, hT, hg, hm, hX, hM, hH⟩, _⟩ := hI
  have h6 := hw.1
  have f39 : ∀ c : Int32, c = 1 ∨ c = 2 → f_M_rank_39 N σm a b c = some (0, sf σm 0 c) := fun c hc => by
    unfold f_M_rank_39 vlet
    dsimp only
    rw [sf_1, if_neg (by rcases hc with rfl | rfl <;> decide)]
  unfold f_V_rank f_M_rank f_V_requireAnalysis f_M_rank_38 f_V_rank_27
  rcases hI0.has with ⟨h1, h2⟩ | ⟨h1, h2, S, hA⟩
  · rw [if_pos h1, if_pos h2, Option.bind_some]
    dsimp only
    rw [if_neg (by decide), f39 1 (Or.inl rfl)]
    exact ⟨2, 0, σx, 0, sf σm 0 1, rfl, rfl, ⟨g, t, hI0.code 1⟩, Or.inr (Or.inl ⟨rfl, sf_1⟩)⟩
  · have bad : ∃ kd r σx' u σm', some (((3 : Nat), (0 : Int32)), σx) = some ((kd, r), σx') ∧ f_M_rank_39 N σm a b 2 = some (u, σm') ∧ TOG σx' σm' ∧ ((kd = 0 ∧ σm'.1 0 = 0 ∧ u = r) ∨ (kd = 2 ∧ σm'.1 0 = 1) ∨ (kd = 3 ∧ σm'.1 0 = 2)) := ⟨3, 0, σx, 0, sf σm 0 2, rfl, f39 2 (Or.inr rfl), ⟨g, t, hI0.code 2⟩, Or.inr (Or.inr ⟨rfl, sf_1⟩)⟩
    rw [if_neg (by rw [h1]; decide), if_neg (by rw [h2]; decide), Option.bind_some]
    dsimp only
    rw [if_pos rfl, x_isS hg hw, m_isS hm hw, Option.bind_some, Option.bind_some]
    dsimp only
    cases hs : iS g a
    · rw [if_pos (show b01 false = 0 from rfl), if_pos (show b01 false = 0 from rfl)]
      exact bad
    · obtain ⟨s, hs, e⟩ := iS_nI hw hs
      have h4 := hw.2.1 s hs
      rw [if_neg (show ¬ b01 true = 0 by decide), if_neg (show ¬ b01 true = 0 by decide)]
      rw [e] at bad ⊢
      rw [x_hasAttribute hg hw hs, Option.bind_some]
      dsimp only
      by_cases h0 : b < 0
      · rw [if_pos h0, decide_eq_false (fun h => h.1 h0), if_pos (show b01 false = 0 from rfl)]
        exact bad
      · rw [if_neg h0, if_pos (bIn_nI (by omega) (by decide))]
        unfold vlet
        dsimp only
        rw [nI_clamp (by omega), hm.2.2.1 s hs]
        by_cases h9 : nI (gna g s) ≤ b
        · rw [if_pos h9, decide_eq_false (fun h => h.2 h9), if_pos (show b01 false = 0 from rfl)]
          exact bad
        · rw [if_neg h9, decide_eq_true ⟨h0, h9⟩, if_neg (by decide)]
          rcases pk_ix b (n := gna g s) (by omega) with h8 | h8 | ⟨j, hj, ej⟩
          · exact absurd h8 h0
          · exact absurd h8 h9
          · unfold f_M_rank_39 vlet
            dsimp only
            rw [ej, sf_1, if_pos (show (0 : Int32) ≤ 0 by decide), show nI s * (4 : Int32) = nI (s * 4) from pk_mul s 4, show (4 : Int32) * nI s = nI (4 * s) from pk_mul 4 s, nI_add, nI_add, if_pos (bIn_nI (by omega) (by decide)), if_pos (bIn_nI (by omega) (by decide)), nI_clamp (by omega), nI_clamp (by omega), sf_2, show s * 4 + j = 4 * s + j by omega, (hA.2.2.1 s hs).1 j hj, (hA.2.2.2.2.1 s hs).1 j hj]
            exact ⟨0, _, σx, _, sf σm 0 0, rfl, rfl, ⟨g, t, hI0.code 0⟩, Or.inl ⟨rfl, sf_1, rfl⟩⟩
theorem a_instruction {N : Nat} {σx σm : vS} (h : TOG σx σm) (a b : Int32) : ∃ kd r σx' u σm', f_V_instruction N σx a b = some ((kd, r), σx') ∧ f_M_instruction N σm a b = some (u, σm') ∧ TOG σx' σm' ∧ ((kd = 0 ∧ σm'.1 0 = 0 ∧ u = r) ∨ (kd = 2 ∧ σm'.1 0 = 1) ∨ (kd = 3 ∧ σm'.1 0 = 2)) := by
  obtain ⟨g, t, hI⟩ := h
  have hI0 := hI
  obtain ⟨⟨hw, hT, hg, hm, hX, hM, hH⟩, _⟩ := hI
  have h10 := hw.2.2.2.1
  have f33 : ∀ c : Int32, c = 1 ∨ c = 2 → f_M_instruction_33 N σm a b c = some (0, sf σm 0 c) := fun c hc => by
    unfold f_M_instruction_33 vlet
    dsimp only
    rw [sf_1, if_neg (by rcases hc with rfl | rfl <;> decide)]
  unfold f_V_instruction f_M_instruction f_V_requireAnalysis f_M_instruction_28 f_V_instruction_19
  rcases hI0.has with ⟨h1, h2⟩ | ⟨h1, h2, S, hA⟩
  · rw [if_pos h1, if_pos h2, Option.bind_some]
    dsimp only
    rw [if_neg (by decide), f33 1 (Or.inl rfl)]
    exact ⟨2, 0, σx, 0, sf σm 0 1, rfl, rfl, ⟨g, t, hI0.code 1⟩, Or.inr (Or.inl ⟨rfl, sf_1⟩)⟩
  · have bad : ∃ kd r σx' u σm', some (((3 : Nat), (0 : Int32)), σx) = some ((kd, r), σx') ∧ f_M_instruction_33 N σm a b 2 = some (u, σm') ∧ TOG σx' σm' ∧ ((kd = 0 ∧ σm'.1 0 = 0 ∧ u = r) ∨ (kd = 2 ∧ σm'.1 0 = 1) ∨ (kd = 3 ∧ σm'.1 0 = 2)) := ⟨3, 0, σx, 0, sf σm 0 2, rfl, f33 2 (Or.inr rfl), ⟨g, t, hI0.code 2⟩, Or.inr (Or.inr ⟨rfl, sf_1⟩)⟩
    rw [if_neg (by rw [h1]; decide), if_neg (by rw [h2]; decide), Option.bind_some]
    dsimp only
    rw [if_pos rfl, hm.2.1]
    rcases x_hasProduction (N := N) hg hw a with ⟨p, hp, e, hx⟩ | ⟨hc, hx⟩
    · rw [hx, Option.bind_some]
      dsimp only
      rw [if_neg (by decide)]
      rw [e] at bad ⊢
      rw [if_neg (nI_pos (by omega)), if_neg (nI_ge hp (by omega))]
      by_cases h0 : (0 : Int32) ≤ b
      · rw [if_pos h0, if_pos h0]
        have hl := len_28 hw (hv_of hw hA.2.1.1) hp
        have hb0 : ¬ b < 0 := fun h9 => by
          rw [Int32.le_iff_toInt_le] at h0
          rw [Int32.lt_iff_toInt_lt] at h9
          omega
        obtain ⟨j, hj, ej⟩ := nI_of hb0
        unfold f_Q_at f_M_instruction_33 vlet
        dsimp only
        rw [ej, sf_1, if_pos (show (0 : Int32) ≤ 0 by decide), if_pos (bIn_nI (by omega) (by decide)), if_pos (bIn_nI (by omega) (by decide)), nI_clamp (by omega), sf_2, (hA.2.2.2.1 p hp).1, (hA.2.2.2.2.2 p hp).1]
        by_cases hlj : lnP g (VW g S) p ≤ j
        · rw [if_pos (nI_le hlj hj), if_pos (nI_le hlj hj), Option.bind_some]
          exact ⟨0, _, σx, _, sf σm 0 0, rfl, rfl, ⟨g, t, hI0.code 0⟩, Or.inl ⟨rfl, sf_1, rfl⟩⟩
        · rw [if_neg (nI_ge (by omega) (by omega)), if_neg (nI_ge (by omega) (by omega)), show nI p * (32 : Int32) = nI (p * 32) from pk_mul _ 32, show (48 : Int32) * nI p = nI (48 * p) from pk_mul 48 _, nI_add, nI_add, if_pos (bIn_nI (by omega) (by decide)), if_pos (bIn_nI (by omega) (by decide)), nI_clamp (by omega), nI_clamp (by omega), show p * 32 + j = 32 * p + j by omega, (hA.2.2.2.1 p hp).2 j (by omega), (hA.2.2.2.2.2 p hp).2 j (by omega), Option.bind_some]
          exact ⟨0, _, σx, _, sf σm 0 0, rfl, rfl, ⟨g, t, hI0.code 0⟩, Or.inl ⟨rfl, sf_1, rfl⟩⟩
      · rw [if_neg h0, if_neg h0]
        exact bad
    · rw [hx, Option.bind_some]
      dsimp only
      rw [if_pos rfl]
      rcases hc with hc | hc
      · rw [if_pos hc]
        exact bad
      · by_cases h0 : a < 0
        · rw [if_pos h0]; exact bad
        · rw [if_neg h0, if_pos hc]
          exact bad
/-- a node more, beside whatever goes on -/
theorem INV.node {g : vA} {t : vT} {σx σm σx' σm' : vS} (h : INV g t σx σm) {p : Nat} (hp : p < gnp g) {tk : Int32} {c : Nat → Option Nat} (hc : chO g t p c) (h40 : tN t < 40) (hX : XT (gNode t p tk c) σx') (kx : ∀ k, k ≠ 8 → σx'.1 k = σx.1 k) (ax : ∀ a, a < 19 ∨ 23 ≤ a → σx'.2 a = σx.2 a) (hM : MT (gNode t p tk c) σm') (km : ∀ k, k ≠ 0 → k ≠ 7 → σm'.1 k = σm.1 k) (am : ∀ a, a < 17 ∨ 21 ≤ a → a ≠ 22 → σm'.2 a = σm.2 a) (m22 : ∀ j, j < 4 * tN t ∨ 4 * tN t + 4 ≤ j → σm'.2 22 j = σm.2 22 j) (z22 : ∀ a, a < 4 → σm'.2 22 (4 * tN t + a) = 0) : INV g (gNode t p tk c) σx' σm' := by
  obtain ⟨⟨b1, b2, b3, b4, b5, b6, b7⟩, h⟩ := h
  have hB : BASE g (gNode t p tk c) σx' σm' := ⟨b1, wfT_node b1 b2 hp tk hc h40, b3.stay (kx 0 (by decide)) (kx 1 (by decide)) (fun a ha => ax a (by omega)), b4.stay (km 1 (by decide) (by decide)) (km 2 (by decide) (by decide)) (fun a ha => am a (by omega) (by omega)), hX, hM, b7.stay (ax 23 (by decide)) (ax 24 (by decide)) (am 23 (by decide) (by decide)) (am 24 (by decide) (by decide))⟩
  have idle : IDLE σx σm → IDLE σx' σm' := fun ⟨i1, i2, i3, i4⟩ => ⟨by rw [kx 9 (by decide)]; exact i1, by rw [km 8 (by decide) (by decide)]; exact i2, by rw [km 9 (by decide) (by decide)]; exact i3, fun j hj => by
    by_cases e : 4 * tN t ≤ j ∧ j < 4 * tN t + 4
    · rw [show j = 4 * tN t + (j - 4 * tN t) by omega]; exact z22 _ (by omega)
    · rw [m22 j (by omega)]; exact i4 j hj⟩
  have hK : ∀ b, b ≤ tN t → KNW b σx σm → KNW b σx' σm' := fun b hb hK => by
    refine ⟨fun n a hn ha => ?_, fun n a hbn hn ha => by rw [ax 25 (by decide)]; exact hK.2 n a hbn hn ha⟩
    rw [ax 25 (by decide)]
    by_cases e : n = tN t
    · rw [e, z22 a ha, hK.2 (tN t) a hb h40 ha]; rfl
    · rw [m22 _ (by omega)]; exact hK.1 n a hn ha
  refine ⟨hB, ?_⟩
  rcases h with ⟨h1, h2, h3⟩ | ⟨h1, h2, S, h3, h4⟩
  · exact Or.inl ⟨by rw [kx 2 (by decide)]; exact h1, by rw [km 3 (by decide) (by decide)]; exact h2, idle h3⟩
  · refine Or.inr ⟨by rw [kx 2 (by decide)]; exact h1, by rw [km 3 (by decide) (by decide)]; exact h2, S, h3.stay (fun a _ a2 => ax a (by omega)) (fun a _ a2 => am a (by omega) (by omega)), ?_⟩
    rcases h4 with h4 | h4 | h4
    · exact Or.inl (idle h4)
    · obtain ⟨root, b, hh, r, k, r1, r2, r3, r4, r5, r6, r7, r8⟩ := h4
      exact Or.inr (Or.inl ⟨root, b, hh, r, k, run_node b1 b2 hp hc r1, hK b r1.2.1 r2, by rw [kx 9 (by decide)]; exact r3, by rw [kx 10 (by decide)]; exact r4, by rw [kx 11 (by decide)]; exact r5, by rw [km 8 (by decide) (by decide)]; exact r6, by rw [km 9 (by decide) (by decide)]; exact r7, fun n hn => by rw [ax 26 (by decide), am 21 (by decide) (by decide)]; exact r8 n hn⟩)
    · obtain ⟨root, b, r1, r2, r3, r4, r5, r6⟩ := h4
      exact Or.inr (Or.inr ⟨root, b, r1, by show b ≤ tN t + 1; omega, hK b r2 r3, by rw [kx 9 (by decide)]; exact r4, by rw [km 8 (by decide) (by decide)]; exact r5, by rw [km 9 (by decide) (by decide)]; exact r6⟩)
theorem a_node {N : Nat} (hN : 3000 ≤ N) {σx σm : vS} (h : TOG σx σm) (a tk c1 c2 c3 : Int32) : ∃ kd r σx' u σm', f_V_node N σx a tk c1 c2 c3 = some ((kd, r), σx') ∧ f_M_node N σm a tk c1 c2 c3 = some (u, σm') ∧ TOG σx' σm' ∧ ((kd = 0 ∧ σm'.1 0 = 0 ∧ u = r) ∨ (kd = 1 ∧ σm'.1 0 = 1) ∨ (kd = 2 ∧ σm'.1 0 = 2)) := by
  obtain ⟨g, t, hI⟩ := h
  have hI0 := hI
  obtain ⟨⟨hw, hT, hg, hm, hX, hM, hH⟩, _⟩ := hI
  have h10 := hw.2.2.2.1
  have h40 := hT.1
  have f117 : ∀ p : Int32, ∀ c : Int32, c = 1 ∨ c = 2 → f_M_node_117 N σm p tk c1 c2 c3 c = some (0, sf σm 0 c) := fun p c hc => by
    unfold f_M_node_117 vlet
    dsimp only
    rw [sf_1, if_neg (by rcases hc with rfl | rfl <;> decide)]
  unfold f_V_node f_V_node_27
  rcases x_hasProduction (N := N) hg hw a with ⟨p, hp, e, hx⟩ | ⟨hc, hx⟩
  · have hmn := m_node_eq (N := N) hm hw hT hM hp tk c1 c2 c3
    rw [hx, Option.bind_some]
    dsimp only
    rw [if_neg (by decide), e, x_canBeChildren hg hw hT hX hp, Option.bind_some]
    dsimp only
    cases hb : nB g t p c1 c2 c3
    · rw [hb, if_neg (by decide), f117 _ 1 (Or.inl rfl)] at hmn
      rw [if_pos (show b01 false = 0 from rfl)]
      exact ⟨1, 0, σx, 0, sf σm 0 1, rfl, hmn, ⟨g, t, hI0.code 1⟩, Or.inr (Or.inl ⟨rfl, sf_1⟩)⟩
    · rw [hb, if_pos rfl] at hmn
      rw [if_neg (by decide), hX.1]
      by_cases hn : tN t = 40
      · rw [if_pos hn, f117 _ 2 (Or.inr rfl)] at hmn
        rw [hn, if_pos (show nI 40 = (40 : Int32) from rfl)]
        exact ⟨2, 0, σx, 0, sf σm 0 2, rfl, hmn, ⟨g, t, hI0.code 2⟩, Or.inr (Or.inr ⟨rfl, sf_1⟩)⟩
      · rw [if_neg hn] at hmn
        rw [if_neg (show ¬ nI (tN t) = (40 : Int32) from fun h9 => hn ((nI_eq (a := tN t) (b := 40) (by omega) (by decide)).mp h9))]
        obtain ⟨c, hco, e1, e2, e3⟩ := nB_ex hw hT hp hb
        rw [e1, e2, e3] at hmn ⊢
        obtain ⟨v, hv, v1, v2, v3, v4⟩ := x_grow (N := N) (tk := tk) hw hT hX hp hco (by omega)
        obtain ⟨w, hw', w1, w2, w3, w4, w5, w6, w7⟩ := m_node_ok (tk := tk) hN hw hT hM hp hco (by omega)
        rw [hv, Option.bind_some]
        refine ⟨0, v.1, v.2, w.1, w.2, rfl, hmn.trans hw', ⟨g, gNode t p tk c, ?_⟩, Or.inl ⟨rfl, w2, by rw [w1, v1]⟩⟩
        exact hI0.node hp hco (by omega) v2 v3 v4 w3 w4 w5 w6 w7
  · rw [hx, Option.bind_some]
    dsimp only
    rw [if_pos rfl]
    have hmn : f_M_node N σm a tk c1 c2 c3 = some (0, sf σm 0 1) := by
      unfold f_M_node
      have f48 : f_M_node_48 N σm a tk c1 c2 c3 = some (0, sf σm 0 1) := by
        unfold f_M_node_48 f_M_node_49
        rw [if_pos rfl]
        unfold f_M_node_90 f_M_node_91
        rw [if_pos rfl]
        exact f117 _ 1 (Or.inl rfl)
      by_cases h0 : a < 0
      · rw [if_pos h0, f48]
      · rw [if_neg h0, hm.2.1, if_pos (hc.resolve_left h0), f48]
    exact ⟨1, 0, σx, 0, sf σm 0 1, rfl, hmn, ⟨g, t, hI0.code 1⟩, Or.inr (Or.inl ⟨rfl, sf_1⟩)⟩
theorem a_fell {N : Nat} (hN : 3000 ≤ N) {σx σm : vS} (h : TOG σx σm) : ∃ r σx' u σm', f_V_fell N σx = some (r, σx') ∧ f_M_fell N σm = some (u, σm') ∧ TOG σx' σm' := by
  obtain ⟨g, t, hI⟩ := h
  have hI0 := hI
  obtain ⟨⟨hw, hT, hg, hm, hX, hM, hH⟩, _⟩ := hI
  obtain ⟨q, hq, q1, q2, q3, q4, q5⟩ := m_endRun (N := N) (by omega) (sf σm 0 0)
  obtain ⟨σx', ex⟩ : ∃ σx', σx' = sf (sf σx 9 0) 8 0 := ⟨_, rfl⟩
  obtain ⟨σm', em⟩ : ∃ σm', σm' = sf q.2 7 0 := ⟨_, rfl⟩
  have fx : f_V_fell N σx = some (0, σx') := by rw [ex]; rfl
  have fm : f_M_fell N σm = some (0, σm') := by
    unfold f_M_fell vlet
    dsimp only
    rw [hq, Option.bind_some, em]
  have kx : ∀ k, k ≠ 8 → k ≠ 9 → σx'.1 k = σx.1 k := fun k k8 k9 => by rw [ex, sf_1n k8, sf_1n k9]
  have km : ∀ k, k ≠ 0 → k ≠ 7 → k ≠ 8 → k ≠ 9 → σm'.1 k = σm.1 k := fun k k0 k7 k8 k9 => by rw [em, sf_1n k7, q3 k k8 k9, sf_1n k0]
  have ax : ∀ a, σx'.2 a = σx.2 a := fun a => by rw [ex]; rfl
  have am : ∀ a, a ≠ 22 → σm'.2 a = σm.2 a := fun a a22 => by rw [em, sf_2, q5 a a22, sf_2]
  have hB : BASE g tE σx' σm' := ⟨hw, wfTE, hg.stay (kx 0 (by decide) (by decide)) (kx 1 (by decide) (by decide)) (fun a _ => ax a), hm.stay (km 1 (by decide) (by decide) (by decide) (by decide)) (km 2 (by decide) (by decide) (by decide) (by decide)) (fun a ha => am a (by omega)), ⟨by rw [ex, sf_1]; rfl, fun k hk => absurd hk (Nat.not_lt_zero _)⟩, ⟨by rw [em, sf_1]; rfl, fun k hk => absurd hk (Nat.not_lt_zero _)⟩, hH.stay (ax 23) (ax 24) (am 23 (by decide)) (am 24 (by decide))⟩
  have hID : IDLE σx' σm' := ⟨by rw [ex, sf_1n (by decide), sf_1], by rw [em, sf_1n (by decide)]; exact q1, by rw [em, sf_1n (by decide)]; exact q2, fun j hj => by rw [em, sf_2]; exact q4 j hj⟩
  refine ⟨0, σx', 0, σm', fx, fm, g, tE, hB, ?_⟩
  rcases hI0.has with ⟨h1, h2⟩ | ⟨h1, h2, S, hA⟩
  · exact Or.inl ⟨by rw [kx 2 (by decide) (by decide)]; exact h1, by rw [km 3 (by decide) (by decide) (by decide) (by decide)]; exact h2, hID⟩
  · exact Or.inr ⟨by rw [kx 2 (by decide) (by decide)]; exact h1, by rw [km 3 (by decide) (by decide) (by decide) (by decide)]; exact h2, S, hA.stay (fun a _ _ => ax a) (fun a _ a2 => am a (by omega)), Or.inl hID⟩
/-- what touches only given -/
theorem INV.given {g : vA} {t : vT} {σx σm : vS} (h : INV g t σx σm) (k : Nat) (v : Int32) : INV g t (sa σx 23 k v) (sa σm 24 k v) := by
  obtain ⟨hB, h⟩ := h
  have ax : ∀ a, a ≠ 23 → (sa σx 23 k v).2 a = σx.2 a := fun a ha => sa_2a ha
  have am : ∀ a, a ≠ 24 → (sa σm 24 k v).2 a = σm.2 a := fun a ha => sa_2a ha
  have hH : HOLD (sa σx 23 k v) (sa σm 24 k v) := by
    refine ⟨fun j => ?_, fun j => by rw [ax 24 (by decide), am 23 (by decide)]; exact hB.2.2.2.2.2.2.2 j⟩
    by_cases e : j = k
    · rw [e, sa_2, sa_2]
    · rw [sa_2n e, sa_2n e]; exact hB.2.2.2.2.2.2.1 j
  refine ⟨hB.stay rfl rfl rfl (fun a ha => ax a (by omega)) rfl rfl rfl (fun a ha => am a (by omega)) hH, ?_⟩
  have idle : IDLE σx σm → IDLE (sa σx 23 k v) (sa σm 24 k v) := fun ⟨i1, i2, i3, i4⟩ => ⟨i1, i2, i3, fun j hj => by rw [am 22 (by decide)]; exact i4 j hj⟩
  rcases h with ⟨h1, h2, h3⟩ | ⟨h1, h2, S, h3, h4⟩
  · exact Or.inl ⟨h1, h2, idle h3⟩
  · refine Or.inr ⟨h1, h2, S, h3.stay (fun a _ a2 => ax a (by omega)) (fun a _ a2 => am a (by omega)), ?_⟩
    rcases h4 with h4 | h4 | h4
    · exact Or.inl (idle h4)
    · obtain ⟨root, b, hh, r, k', r1, r2, r3, r4, r5, r6, r7, r8⟩ := h4
      exact Or.inr (Or.inl ⟨root, b, hh, r, k', r1, r2.stay (ax 25 (by decide)) (am 22 (by decide)), r3, r4, r5, r6, r7, fun n hn => by rw [ax 26 (by decide), am 21 (by decide)]; exact r8 n hn⟩)
    · obtain ⟨root, b, r1, r2, r3, r4, r5, r6⟩ := h4
      exact Or.inr (Or.inr ⟨root, b, r1, r2, r3.stay (ax 25 (by decide)) (am 22 (by decide)), r4, r5, r6⟩)
theorem a_give {N : Nat} {σx σm : vS} (h : TOG σx σm) (a v : Int32) : ∃ kd r σx' u σm', f_V_give N σx a v = some ((kd, r), σx') ∧ f_M_give N σm a v = some (u, σm') ∧ TOG σx' σm' ∧ ((kd = 0 ∧ σm'.1 0 = 0) ∨ (kd = 3 ∧ σm'.1 0 = 1)) := by
  obtain ⟨g, t, hI⟩ := h
  rcases x_give (N := N) σx a v with ⟨r, h1, h2⟩ | ⟨k, hk, e, h1⟩
  · exact ⟨3, r, σx, 0, sf σm 0 1, h1, (m_give σm a v).1 h2, ⟨g, t, hI.code 1⟩, Or.inr ⟨rfl, sf_1⟩⟩
  · exact ⟨0, 0, sa σx 23 k v, 0, sa (sf σm 0 0) 24 k v, h1, (m_give σm a v).2 k hk e, ⟨g, t, (hI.code 0).given k v⟩, Or.inl ⟨rfl, by rw [sa_1, sf_1]⟩⟩
theorem a_status {N : Nat} {σx σm : vS} (h : TOG σx σm) : ∃ r σx' u σm', f_V_status N σx = some (r, σx') ∧ f_M_status N σm = some (u, σm') ∧ TOG σx' σm' ∧ u = r := by
  obtain ⟨g, t, hI⟩ := h
  have h40 := hI.1.2.1.1
  have hT : TOG σx (sf σm 0 0) := ⟨g, t, hI.code 0⟩
  unfold f_V_status f_M_status vlet
  dsimp only
  have e8 : (sf σm 0 0).1 8 = σm.1 8 := sf_1n (by decide)
  have e9 : (sf σm 0 0).1 9 = σm.1 9 := sf_1n (by decide)
  rw [e8, e9]
  have idle : IDLE σx σm → ∃ r σx' u σm', some (σx.1 9, σx) = some (r, σx') ∧ (if σm.1 8 = -1 then some ((0 : Int32), sf σm 0 0) else (if σm.1 9 = -1 then some ((2 : Int32), sf σm 0 0) else some ((1 : Int32), sf σm 0 0))) = some (u, σm') ∧ TOG σx' σm' ∧ u = r := fun ⟨i1, i2, i3, i4⟩ => by
    rw [if_pos i2]
    exact ⟨_, _, _, _, rfl, rfl, hT, i1.symm⟩
  rcases hI.2 with ⟨_, _, h3⟩ | ⟨_, _, S, _, h4⟩
  · exact idle h3
  · rcases h4 with h4 | h4 | h4
    · exact idle h4
    · obtain ⟨root, b, hh, r, k, r1, r2, r3, r4, r5, r6, r7, r8⟩ := h4
      have hle := (pth_le r hh r1.2.2.1).1
      have hb := r1.2.1
      have hr := r1.1
      rw [r6, r7, if_neg (nI_nm1 (by omega)), if_neg (nI_nm1 (by omega))]
      exact ⟨_, _, _, _, rfl, rfl, hT, r3.symm⟩
    · obtain ⟨root, b, r1, r2, r3, r4, r5, r6⟩ := h4
      rw [r5, r6, if_neg (nI_nm1 (by omega)), if_pos rfl]
      exact ⟨_, _, _, _, rfl, rfl, hT, r4.symm⟩
theorem a_atHand {N : Nat} {σx σm : vS} (h : TOG σx σm) : ∃ r σx' u σm', f_V_atHand N σx = some (r, σx') ∧ f_M_atHand N σm = some (u, σm') ∧ TOG σx' σm' ∧ u = r := by
  obtain ⟨g, t, hI⟩ := h
  have hT : TOG σx (sf σm 0 0) := ⟨g, t, hI.code 0⟩
  unfold f_V_atHand f_M_atHand vlet
  dsimp only
  have e9 : (sf σm 0 0).1 9 = σm.1 9 := sf_1n (by decide)
  rw [e9]
  have idle : IDLE σx σm → ∃ r σx' u σm', (if σx.1 9 = 1 then some (σx.1 11, σx) else some ((-1 : Int32), σx)) = some (r, σx') ∧ some (σm.1 9, sf σm 0 0) = some (u, σm') ∧ TOG σx' σm' ∧ u = r := fun ⟨i1, i2, i3, i4⟩ => by
    rw [if_neg (by rw [i1]; decide)]
    exact ⟨_, _, _, _, rfl, rfl, hT, i3⟩
  rcases hI.2 with ⟨_, _, h3⟩ | ⟨_, _, S, _, h4⟩
  · exact idle h3
  · rcases h4 with h4 | h4 | h4
    · exact idle h4
    · obtain ⟨root, b, hh, r, k, r1, r2, r3, r4, r5, r6, r7, r8⟩ := h4
      rw [if_pos r3]
      exact ⟨_, _, _, _, rfl, rfl, hT, by rw [r7, r5]⟩
    · obtain ⟨root, b, r1, r2, r3, r4, r5, r6⟩ := h4
      rw [if_neg (by rw [r4]; decide)]
      exact ⟨_, _, _, _, rfl, rfl, hT, r6⟩
