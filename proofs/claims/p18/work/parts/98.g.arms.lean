/-! Each call of the law, on both sides: both come to an end, answer alike, and stay together. -/
def TOG (σx σm : vS) : Prop := ∃ g t, INV g t σx σm
theorem AN.code {g : vA} {S : vL} {σx σm : vS} (h : AN g S σx σm) (c : Int32) : AN g S σx (sf σm 0 c) := h.stay (fun _ _ _ => rfl) (fun _ _ _ => rfl)
theorem INV.code {g : vA} {t : vT} {σx σm : vS} (h : INV g t σx σm) (c : Int32) : INV g t σx (sf σm 0 c) := by
  obtain ⟨hB, h⟩ := h
  have e : ∀ k, k ≠ 0 → (sf σm 0 c).1 k = σm.1 k := fun k hk => sf_1n hk
  have idle : IDLE σx σm → IDLE σx (sf σm 0 c) := fun ⟨i1, i2, i3, i4⟩ => ⟨i1, by rw [e 8 (by decide)]; exact i2, by rw [e 9 (by decide)]; exact i3, i4⟩
  refine ⟨hB.stay rfl rfl rfl (fun _ _ => rfl) (e 1 (by decide)) (e 2 (by decide)) (e 7 (by decide)) (fun _ _ => rfl) (hB.2.2.2.2.2.2.stay rfl rfl rfl rfl), ?_⟩
  rcases h with ⟨h1, h2, h3⟩ | ⟨h1, h2, S, h3, h4⟩
  · exact Or.inl ⟨h1, by rw [e 3 (by decide)]; exact h2, idle h3⟩
  · refine Or.inr ⟨h1, by rw [e 3 (by decide)]; exact h2, S, h3.code c, ?_⟩
    rcases h4 with h4 | h4 | h4
    · exact Or.inl (idle h4)
    · obtain ⟨root, b, hh, r, k, r1, r2, r3, r4, r5, r6, r7, r8⟩ := h4
      exact Or.inr (Or.inl ⟨root, b, hh, r, k, r1, r2, r3, r4, r5, by rw [e 8 (by decide)]; exact r6, by rw [e 9 (by decide)]; exact r7, r8⟩)
    · obtain ⟨root, b, r1, r2, r3, r4, r5, r6⟩ := h4
      exact Or.inr (Or.inr ⟨root, b, r1, r2, r3, r4, by rw [e 8 (by decide)]; exact r5, by rw [e 9 (by decide)]; exact r6⟩)
theorem wfT_same {g g' : vA} {t : vT} (h : wfT g t) (hn : gnp g ≤ gnp g') (ho : ∀ p, p < gnp g → gpo g' p = gpo g p ∧ ∀ q, gsy g' p q = gsy g p q) : wfT g' t := by
  obtain ⟨w1, w2, w3, w4, w5, w6⟩ := h
  refine ⟨w1, fun k hk => Nat.lt_of_lt_of_le (w2 k hk) hn, fun k q hk h1 hq => ?_, fun k q hk hq h4 => ?_, fun k m hk hm => ?_, w6⟩
  · rw [(ho _ (w2 k hk)).1] at hq
    obtain ⟨c, c1, c2, c3, c4⟩ := w3 k q hk h1 hq
    exact ⟨c, c1, c2, c3, by rw [(ho _ (w2 c (by omega))).2, (ho _ (w2 k hk)).2]; exact c4⟩
  · rw [(ho _ (w2 k hk)).1] at hq
    exact w4 k q hk hq h4
  · obtain ⟨m1, m2, q, q1, q2, q3⟩ := w5 k m hk hm
    exact ⟨m1, m2, q, q1, by rw [(ho _ (w2 m m2)).1]; exact q2, q3⟩
/-- a changed grammar: no analysis, no run -/
theorem INV.gram {g g' : vA} {t : vT} {σx σm σx' σm' : vS} (h : INV g t σx σm) (hw : wfA g') (hT : wfT g' t) (hX : XG g' σx') (hM : MG g' σm') (x2 : σx'.1 2 = 0) (x9 : σx'.1 9 = 0) (x8 : σx'.1 8 = σx.1 8) (xa : ∀ a, 19 ≤ a → σx'.2 a = σx.2 a) (m3 : σm'.1 3 = 0) (m8 : σm'.1 8 = -1) (m9 : σm'.1 9 = -1) (m7 : σm'.1 7 = σm.1 7) (m22 : ∀ j, j < 160 → σm'.2 22 j = 0) (ma : ∀ a, 17 ≤ a → a ≠ 22 → σm'.2 a = σm.2 a) : INV g' t σx' σm' := by
  obtain ⟨⟨_, _, _, _, b5, b6, b7⟩, _⟩ := h
  exact ⟨⟨hw, hT, hX, hM, b5.stay x8 (fun a a1 _ => xa a a1), b6.stay m7 (fun a a1 a2 => ma a a1 (by omega)), b7.stay (xa 23 (by decide)) (xa 24 (by decide)) (ma 23 (by decide) (by decide)) (ma 24 (by decide) (by decide))⟩, Or.inl ⟨x2, m3, x9, m8, m9, m22⟩⟩
theorem a_symbol {N : Nat} (hN : 3000 ≤ N) {σx σm : vS} (h : TOG σx σm) (a b : Int32) : ∃ kd r σx' u σm', f_V_symbol N σx a b = some ((kd, r), σx') ∧ f_M_symbol N σm a b = some (u, σm') ∧ TOG σx' σm' ∧ ((kd = 0 ∧ σm'.1 0 = 0 ∧ u = r) ∨ (kd = 1 ∧ σm'.1 0 = 1) ∨ (kd = 2 ∧ σm'.1 0 = 2)) := by
  obtain ⟨g, t, hI⟩ := h
  have hI0 := hI
  obtain ⟨⟨hw, hT, hg, hm, hX, hM, hH⟩, _⟩ := hI
  by_cases ha : ∃ n, n ≤ 4 ∧ a = nI n
  · obtain ⟨n, hn, e⟩ := ha
    rw [e]
    by_cases h6 : gns g = 6
    · exact ⟨2, 0, σx, 0, sf σm 0 2, x_symbol_full hg hn h6, m_symbol_full hm hn h6, ⟨g, t, hI0.code 2⟩, Or.inr (Or.inr ⟨rfl, sf_1⟩)⟩
    · obtain ⟨v, hv, v1, v2, v3, v4, v5, v6⟩ := x_symbol_ok (N := N) (a1 := b) hg hw hn h6
      obtain ⟨w, hw', w1, w2, w3, w4, w5, w6, w7, w8, w9⟩ := m_symbol_ok (a1 := b) (show 161 ≤ N by omega) hm hw hn h6
      have hl := hw.1
      refine ⟨0, nI (gns g), v.2, w.1, w.2, by rw [hv, ← v1], hw', ⟨gSym g n b, t, ?_⟩, Or.inl ⟨rfl, w2, w1⟩⟩
      exact hI0.gram (wfA_sym hw b hn (by omega)) (wfT_same hT (Nat.le_refl _) (fun p _ => ⟨rfl, fun _ => rfl⟩)) v2 w3 v3 v4 (v5 8 (by decide) (by decide) (by decide)) (fun a ha => v6 a (by omega) (by omega)) w4 w5 w6 (w7 7 (by decide) (by decide) (by decide) (by decide) (by decide)) w8 (fun a ha h22 => w9 a (by omega) (by omega) h22)
  · have hb : ∀ n, n ≤ 4 → a ≠ nI n := fun n hn e => ha ⟨n, hn, e⟩
    exact ⟨1, 0, σx, 0, sf σm 0 1, x_symbol_bad hb, m_symbol_bad hb, ⟨g, t, hI0.code 1⟩, Or.inr (Or.inl ⟨rfl, sf_1⟩)⟩
theorem a_production {N : Nat} (hN : 3000 ≤ N) {σx σm : vS} (h : TOG σx σm) (a0 a1 a2 a3 : Int32) : ∃ kd r σx' u σm', f_V_production N σx a0 a1 a2 a3 = some ((kd, r), σx') ∧ f_M_production N σm a0 a1 a2 a3 = some (u, σm') ∧ TOG σx' σm' ∧ ((kd = 0 ∧ σm'.1 0 = 0 ∧ u = r) ∨ (kd = 1 ∧ σm'.1 0 = 1) ∨ (kd = 2 ∧ σm'.1 0 = 2)) := by
  obtain ⟨g, t, hI⟩ := h
  have hI0 := hI
  obtain ⟨⟨hw, hT, hg, hm, hX, hM, hH⟩, _⟩ := hI
  have hl := hw.2.2.2.1
  have hmp := m_production_eq (N := N) hm hw a0 a1 a2 a3
  cases hb : (iS g a0 && rgt g a1 a2 a3)
  · rw [hb, if_neg (by decide), m_production_bad (Or.inl rfl)] at hmp
    exact ⟨1, 0, σx, 0, sf σm 0 1, x_production_bad hg hw hb, hmp, ⟨g, t, hI0.code 1⟩, Or.inr (Or.inl ⟨rfl, sf_1⟩)⟩
  · rw [hb, if_pos rfl, hm.2.1] at hmp
    by_cases h10 : gnp g = 10
    · rw [h10, if_pos (show nI 10 = (10 : Int32) from rfl), m_production_bad (Or.inr rfl)] at hmp
      exact ⟨2, 0, σx, 0, sf σm 0 2, x_production_full hg hw hb h10, hmp, ⟨g, t, hI0.code 2⟩, Or.inr (Or.inr ⟨rfl, sf_1⟩)⟩
    · rw [if_neg (show ¬ nI (gnp g) = (10 : Int32) from fun h9 => h10 ((nI_eq (a := gnp g) (b := 10) (by omega) (by decide)).mp h9))] at hmp
      rw [Bool.and_eq_true] at hb
      obtain ⟨s0, hs0, e0⟩ := iS_nI hw hb.1
      obtain ⟨m, f, f0, m1, m4, hf, hr⟩ := rgt_rg hw hs0 hb.2
      rw [e0, ← f0] at hmp ⊢
      obtain ⟨v, hv, v1, v2, v3, v4, v5, v6⟩ := x_production_ok (N := N) hg hw m1 hf h10 hr hb.2
      obtain ⟨w, hw', w1, w2, w3, w4, w5, w6, w7, w8, w9⟩ := m_production_ok (show 161 ≤ N by omega) hm hw hf h10 hr
      refine ⟨0, nI (gnp g), v.2, w.1, w.2, by rw [hv, ← v1], hmp.trans hw', ⟨gProd g m f, t, ?_⟩, Or.inl ⟨rfl, w2, w1⟩⟩
      exact hI0.gram (wfA_prod hw m1 m4 hf h10) (wfT_same hT (Nat.le_succ _) (fun p hp => ⟨(gProd_old hp).1, (gProd_old hp).2.1⟩)) v2 w3 v3 v4 (v5 8 (by decide) (by decide) (by decide)) (fun a ha => v6 a (by omega) (by omega) (by omega) (by omega)) w4 w5 w6 (w7 7 (by decide) (by decide) (by decide) (by decide) (by decide)) w8 (fun a ha h22 => w9 a (by omega) (by omega) h22)
theorem a_rule {N : Nat} (hN : 3000 ≤ N) {σx σm : vS} (h : TOG σx σm) (p o f x y : Int32) : ∃ kd r σx' u σm', f_V_rule N σx p o f x y = some ((kd, r), σx') ∧ f_M_rule N σm p o f x y = some (u, σm') ∧ TOG σx' σm' ∧ ((kd = 0 ∧ σm'.1 0 = 0) ∨ (kd = 3 ∧ σm'.1 0 = 1) ∨ (kd = 1 ∧ σm'.1 0 = 2)) := by
  obtain ⟨g, t, hI⟩ := h
  have hI0 := hI
  obtain ⟨⟨hw, hT, hg, hm, hX, hM, hH⟩, _⟩ := hI
  have hl := hw.2.2.2.1
  by_cases hp : p < 0 ∨ nI (gnp g) ≤ p
  · exact ⟨3, 0, σx, 0, sf σm 0 1, x_rule_out hg hw hp, m_rule_out hm hp, ⟨g, t, hI0.code 1⟩, Or.inr (Or.inl ⟨rfl, sf_1⟩)⟩
  · rcases pk_ix p (n := gnp g) (by omega) with h9 | h9 | ⟨p', hp', e⟩
    · exact absurd (Or.inl h9) hp
    · exact absurd (Or.inr h9) hp
    · rw [e]
      have hmp := m_rule_in (N := N) hm hw hp' o f x y
      cases hb : rB g p' o f x y
      · rw [hb, if_neg (by decide), m_rule_bad (Or.inr rfl)] at hmp
        refine ⟨1, 0, σx, 0, _, x_rule_bad hg hw hp' hb, hmp, ⟨g, t, (hI0.code 0).code 2⟩, Or.inr (Or.inr ⟨rfl, sf_1⟩)⟩
      · rw [hb, if_pos rfl] at hmp
        obtain ⟨o', f', o1, o2, o3, f1, f2, u1, u2⟩ := rB_ex hw hp' hb
        rw [o1, f1] at hmp hb ⊢
        obtain ⟨v, hv, v1, v2, v3, v4, v5, v6⟩ := x_rule_ok (N := N) hg hw hp' o2 f2 hb (fun c => (u1 c).elim (fun u hu => ⟨u, hu.1, hu.2.1⟩)) (fun c => (u2 c).elim (fun u hu => ⟨u, hu.1, hu.2.1⟩))
        have hm0 : MG g (sf σm 0 0) := hm.stay (sf_1n (by decide)) (sf_1n (by decide)) (fun _ _ => rfl)
        obtain ⟨w, hw', w2, w3, w4, w5, w6, w7, w8, w9⟩ := m_rule_ok (f := f') (x := x) (y := y) (show 161 ≤ N by omega) hm0 hw hp' o2
        refine ⟨0, 0, v.2, w.1, w.2, by rw [hv, ← v1], hmp.trans hw', ⟨gRule g p' o' (f', x, y), t, ?_⟩, Or.inl ⟨rfl, w2⟩⟩
        exact (hI0.code 0).gram (wfA_rule hw o3 f2 u1 u2) (wfT_same hT (Nat.le_refl _) (fun p _ => ⟨rfl, fun _ => rfl⟩)) v2 w3 v3 v4 (v5 8 (by decide) (by decide)) (fun a ha => v6 a (by omega) (by omega) (by omega) (by omega) (by omega)) w4 w5 w6 (w7 7 (by decide) (by decide) (by decide) (by decide)) w8 (fun a ha h22 => w9 a (by omega) (by omega) (by omega) h22)
theorem a_analyse {N : Nat} (hN : 3000 ≤ N) {σx σm : vS} (h : TOG σx σm) : ∃ kd r σx' u σm', f_V_analyse N σx = some ((kd, r), σx') ∧ f_M_analyse N σm = some (u, σm') ∧ TOG σx' σm' ∧ ((kd = 0 ∧ σm'.1 0 = 0 ∧ u = r) ∨ (kd = 2 ∧ σm'.1 0 = 1) ∨ (kd = 4 ∧ σm'.1 0 = 2)) := by
  obtain ⟨g, t, hI⟩ := h
  have hI0 := hI
  obtain ⟨⟨hw, hT, hg, hm, hX, hM, hH⟩, _⟩ := hI
  obtain ⟨v, hv, hv2⟩ := x_analyse (show 161 ≤ N by omega) hg hw
  obtain ⟨w, hw', hw2⟩ := m_analyse hN hm hw
  have hb := analyse_both hw hv2 hw2
  obtain ⟨v1, v2, v3, v4, _⟩ := hv2
  obtain ⟨w1, w2, w3, w4, w5, w6, _⟩ := hw2
  have hXT : XT t v.2 := hX.stay (v3 8 (by decide) (by decide) (by decide) (by decide) (by decide) (by decide) (by decide)) (fun a a1 _ => v4 a a1)
  have hMT : MT t w.2 := hM.stay (w4 7 (by decide) (by decide) (by decide) (by decide) (by decide) (by decide) (by decide)) (fun a a1 a2 => w6 a a1 (by omega))
  have hHO : HOLD v.2 w.2 := hH.stay (v4 23 (by decide)) (v4 24 (by decide)) (w6 23 (by decide) (by decide)) (w6 24 (by decide) (by decide))
  have hBB : BASE g t v.2 w.2 := ⟨hw, hT, v1, w1, hXT, hMT, hHO⟩
  have hID : IDLE v.2 w.2 := ⟨v2, w2, w3, w5⟩
  refine ⟨v.1.1, v.1.2, v.2, w.1, w.2, hv, hw', ⟨g, t, hBB, ?_⟩, ?_⟩
  · rcases hb with ⟨_, _, b3, b4⟩ | ⟨_, _, b3, b4⟩ | ⟨_, _, b3, b4, S, b5⟩
    · exact Or.inl ⟨b3, b4, hID⟩
    · exact Or.inl ⟨b3, b4, hID⟩
    · exact Or.inr ⟨b3, b4, S, b5, Or.inl hID⟩
  · rcases hb with ⟨b1, b2, _, _⟩ | ⟨b1, b2, _, _⟩ | ⟨b1, b2, _, _, _⟩
    · exact Or.inr (Or.inl ⟨b1, b2⟩)
    · exact Or.inr (Or.inr ⟨b1, b2⟩)
    · exact Or.inl ⟨by rw [b1], b2, by rw [b1]⟩
theorem a_fault {N : Nat} {σx σm : vS} (h : TOG σx σm) (a : Int32) : ∃ r σx' u σm', f_V_fault N σx a = some (r, σx') ∧ f_M_fault N σm a = some (u, σm') ∧ TOG σx' σm' := by
  obtain ⟨g, t, hI⟩ := h
  have hT : TOG σx (sf σm 0 0) := ⟨g, t, hI.code 0⟩
  unfold f_V_fault f_M_fault vlet
  dsimp only
  by_cases h0 : a = 0
  · rw [if_pos h0, if_pos h0]; exact ⟨_, _, _, _, rfl, rfl, hT⟩
  · by_cases h1 : a = 1
    · rw [if_neg h0, if_neg h0, if_pos h1, if_pos h1]; exact ⟨_, _, _, _, rfl, rfl, hT⟩
    · by_cases h2 : a = 2
      · rw [if_neg h0, if_neg h0, if_neg h1, if_neg h1, if_pos h2, if_pos h2]; exact ⟨_, _, _, _, rfl, rfl, hT⟩
      · rw [if_neg h0, if_neg h0, if_neg h1, if_neg h1, if_neg h2, if_neg h2]; exact ⟨_, _, _, _, rfl, rfl, hT⟩
/-- whether there is an analysis, on both sides -/
theorem INV.has {g : vA} {t : vT} {σx σm : vS} (h : INV g t σx σm) : (σx.1 2 = 0 ∧ σm.1 3 = 0) ∨ (σx.1 2 = 1 ∧ σm.1 3 = 1 ∧ ∃ S, AN g S σx σm) := by
  rcases h.2 with ⟨h1, h2, _⟩ | ⟨h1, h2, S, h3, _⟩
  · exact Or.inl ⟨h1, h2⟩
  · exact Or.inr ⟨h1, h2, S, h3⟩
theorem a_visits {N : Nat} {σx σm : vS} (h : TOG σx σm) (a : Int32) : ∃ kd r σx' u σm', f_V_visits N σx a = some ((kd, r), σx') ∧ f_M_visits N σm a = some (u, σm') ∧ TOG σx' σm' ∧ ((kd = 0 ∧ σm'.1 0 = 0 ∧ u = r) ∨ (kd = 2 ∧ σm'.1 0 = 1) ∨ (kd = 3 ∧ σm'.1 0 = 2)) := by
  obtain ⟨g, t, hI⟩ := h
  have hI0 := hI
  obtain ⟨⟨hw, hT, hg, hm, hX, hM, hH⟩, _⟩ := hI
  have h6 := hw.1
  unfold f_V_visits f_M_visits f_V_requireAnalysis f_M_visits_25
  rcases hI0.has with ⟨h1, h2⟩ | ⟨h1, h2, S, hA⟩
  · rw [if_pos h1, if_pos h2, Option.bind_some]
    dsimp only
    rw [if_neg (by decide)]
    unfold vlet
    dsimp only
    rw [sf_1, if_neg (by decide)]
    exact ⟨2, 0, σx, 0, sf σm 0 1, rfl, rfl, ⟨g, t, hI0.code 1⟩, Or.inr (Or.inl ⟨rfl, sf_1⟩)⟩
  · rw [if_neg (by rw [h1]; decide), if_neg (by rw [h2]; decide), Option.bind_some]
    dsimp only
    rw [if_pos rfl, x_isS hg hw, m_isS hm hw, Option.bind_some, Option.bind_some]
    dsimp only
    cases hs : iS g a
    · rw [if_pos (show b01 false = 0 from rfl), if_pos (show b01 false = 0 from rfl)]
      unfold vlet
      dsimp only
      rw [sf_1, if_neg (by decide)]
      exact ⟨3, 0, σx, 0, sf σm 0 2, rfl, rfl, ⟨g, t, hI0.code 2⟩, Or.inr (Or.inr ⟨rfl, sf_1⟩)⟩
    · obtain ⟨s, hs, e⟩ := iS_nI hw hs
      rw [if_neg (show ¬ b01 true = 0 by decide), if_neg (show ¬ b01 true = 0 by decide), e, if_pos (bIn_nI (by omega) (by decide)), nI_clamp (by omega)]
      unfold vlet
      dsimp only
      rw [sf_1, if_pos (by decide), if_pos (bIn_nI (by omega) (by decide)), sf_2, (hA.2.2.1 s hs).2.1, (hA.2.2.2.2.1 s hs).2]
      exact ⟨0, _, σx, _, sf σm 0 0, rfl, rfl, ⟨g, t, hI0.code 0⟩, Or.inl ⟨rfl, sf_1, rfl⟩⟩
theorem x_hasAttribute {N : Nat} {g : vA} {σ : vS} (hg : XG g σ) (hw : wfA g) {s : Nat} (hs : s < gns g) (a : Int32) : f_G_hasAttribute N σ (nI s) a = some (b01 (decide (¬ a < 0 ∧ ¬ nI (gna g s) ≤ a)), σ) := by
  have h6 := hw.1
  unfold f_G_hasAttribute
  by_cases h0 : a < 0
  · rw [if_pos h0, decide_eq_false (fun h => h.1 h0)]; rfl
  · rw [if_neg h0, if_pos (bIn_nI (by omega) (by decide))]
    unfold vlet
    dsimp only
    rw [nI_clamp (by omega), hg.2.2.1 s hs]
    by_cases h1 : nI (gna g s) ≤ a
    · rw [if_pos h1, decide_eq_false (fun h => h.2 h1)]; rfl
    · rw [if_neg h1, decide_eq_true ⟨h0, h1⟩]; rfl
