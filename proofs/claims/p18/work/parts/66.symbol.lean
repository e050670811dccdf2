/-! symbol, on both sides. -/
theorem hold1_iff {x : Int32} {i : Nat} (hi : i < 32) : (x >>> (nI i &&& 31)) &&& 1 = 1 ↔ bt x i = true := by
  obtain ⟨j, hj, e⟩ := pk_andE (x >>> (nI i &&& 31)) (m := 1) 1 (by decide)
  have h0 := hold_iff (x := x) hi
  have hj2 : j = 0 ∨ j = 1 := by omega
  rw [e] at h0 ⊢
  rcases hj2 with rfl | rfl
  · have := h0.mp rfl
    rw [this]
    exact ⟨fun h => absurd h (by decide), fun h => by cases h⟩
  · refine ⟨fun _ => ?_, fun _ => rfl⟩
    cases h : bt x i
    · exact absurd (h0.mpr h) (by decide)
    · rfl
theorem nar_b01 (y : Bool) : vp_nar .boolean (b01 y) = b01 y := by cases y <;> decide
/-- the grammar with one symbol more -/
def gSym (g : vA) (n : Nat) (b : Int32) : vA := ((gns g + 1, gnp g), (fun s => if s = gns g then n else gna g s), (fun s a => if s = gns g then decide (a < n) && bt b a else gih g s a), gpo g, gsy g, grl g)
theorem m_symbol_52 {N : Nat} (hN : 161 ≤ N) {s n : Nat} {b : Int32} (hs : s < 6) (hn : n ≤ 4) : ∀ (m i : Nat) (τ : vS), i ≤ 4 → 4 < i + m → τ.1 1 = nI s → (∀ a, a < i → τ.2 1 (4 * s + a) = b01 (decide (a < n) && bt b a)) → Ok (f_M_symbol_52 N m τ (nI n) b (nI i)) (fun v => v.1 = nI s ∧ v.2.1 1 = nI (s + 1) ∧ v.2.1 3 = 0 ∧ v.2.1 8 = -1 ∧ v.2.1 9 = -1 ∧ (∀ k, k ≠ 1 → k ≠ 3 → k ≠ 8 → k ≠ 9 → v.2.1 k = τ.1 k) ∧ (∀ a, a < 4 → v.2.2 1 (4 * s + a) = b01 (decide (a < n) && bt b a)) ∧ (∀ j, j < 4 * s → v.2.2 1 j = τ.2 1 j) ∧ (∀ j, j < 160 → v.2.2 22 j = 0) ∧ ∀ a, a ≠ 1 → a ≠ 22 → v.2.2 a = τ.2 a) := by
  intro m
  induction m with
  | zero => intro i τ h1 h2; omega
  | succ m ih =>
    intro i τ h1 h2 hτ h3
    rw [f_M_symbol_52]
    dsimp only
    by_cases hi : i = 4
    · subst hi
      refine ok_then (show (4 : Int32) ≤ nI 4 from nI_le (a := 4) (b := 4) (by decide) (by decide)) (ok_lets (fun σ6 e6 => ok_bi (m_forget hN σ6) (fun q hq => ok_some ?_)))
      obtain ⟨a1, a2, a3, a4, a5, a6⟩ := hq
      have e1 : q.2.1 1 = nI (s + 1) := by rw [a4 1 (by decide) (by decide) (by decide), e6, sf_1, hτ, nI_1]
      refine ⟨?_, e1, a1, a2, a3, fun k k1 k3 k8 k9 => ?_, fun a ha => ?_, fun j hj => ?_, a5, fun a ha ha2 => ?_⟩
      · show q.2.1 1 - 1 = nI s
        rw [e1]
        exact nI_pred s
      · show q.2.1 k = τ.1 k
        rw [a4 k k3 k8 k9, e6, sf_1n k1]
      · show q.2.2 1 (4 * s + a) = _
        rw [a6 1 (by decide), e6, sf_2]
        exact h3 a ha
      · show q.2.2 1 j = _
        rw [a6 1 (by decide), e6, sf_2]
      · show q.2.2 a = _
        rw [a6 a ha2, e6, sf_2]
    · refine ok_else (show ¬ (4 : Int32) ≤ nI i from nI_ge (a := i) (b := 4) (by omega) (by decide)) ?_
      have e1 : (4 : Int32) * τ.1 1 + nI i = nI (4 * s + i) := by rw [hτ]; exact (congrArg (· + nI i) (pk_mul 4 s)).trans (nI_add _ _)
      have key : ∀ y : Bool, y = (decide (i < n) && bt b i) → Ok (f_M_symbol_88 N (f_M_symbol_52 N m) τ (nI n) b (nI i) (b01 y) ((4 : Int32) * τ.1 1 + nI i)) (fun v => v.1 = nI s ∧ v.2.1 1 = nI (s + 1) ∧ v.2.1 3 = 0 ∧ v.2.1 8 = -1 ∧ v.2.1 9 = -1 ∧ (∀ k, k ≠ 1 → k ≠ 3 → k ≠ 8 → k ≠ 9 → v.2.1 k = τ.1 k) ∧ (∀ a, a < 4 → v.2.2 1 (4 * s + a) = b01 (decide (a < n) && bt b a)) ∧ (∀ j, j < 4 * s → v.2.2 1 j = τ.2 1 j) ∧ (∀ j, j < 160 → v.2.2 22 j = 0) ∧ ∀ a, a ≠ 1 → a ≠ 22 → v.2.2 a = τ.2 a) := by
        intro y hy
        unfold f_M_symbol_88
        rw [e1]
        refine ok_bd (bIn_nI (by omega) (by decide)) (ok_lets (fun σ10 e10 => ?_))
        rw [nI_clamp (by omega), nar_b01] at e10
        rw [nI_1]
        refine ok_mono (ih (i + 1) σ10 (by omega) (by omega) (by rw [e10]; exact hτ) (fun a ha => ?_)) (fun v hv => ?_)
        · rw [e10]
          by_cases hai : a = i
          · rw [hai, sa_2, hy]
          · rw [sa_2n (by omega)]
            exact h3 a (by omega)
        · obtain ⟨b1, b2, b3, b4, b5, b6, b7, b8, b9, b10⟩ := hv
          refine ⟨b1, b2, b3, b4, b5, fun k k1 k3 k8 k9 => ?_, b7, fun j hj => ?_, b9, fun a ha ha2 => ?_⟩
          · rw [b6 k k1 k3 k8 k9, e10]; rfl
          · rw [b8 j hj, e10, sa_2n (by omega)]
          · rw [b10 a ha ha2, e10, sa_2a ha]
      have key0 : (decide (i < n) && bt b i) = false → Ok (f_M_symbol_87 N (f_M_symbol_52 N m) τ (nI n) b (nI i) ((4 : Int32) * τ.1 1 + nI i)) _ := fun h => key false h.symm
      refine ok_if (fun hni => key0 ?_) (fun hni => ok_if (fun hb => key true ?_) (fun hb => key0 ?_))
      · rw [decide_eq_false (show ¬ i < n from fun h => absurd hni (nI_ge h (by omega)))]; rfl
      · rw [decide_eq_true (show i < n from Nat.lt_of_not_le (fun h => hni (nI_le h (by omega)))), (hold1_iff (by omega)).mp hb]; rfl
      · cases h9 : bt b i
        · exact Bool.and_false _
        · exact absurd ((hold1_iff (by omega)).mpr h9) hb
theorem gSym_na {g : vA} {n : Nat} {b : Int32} {s : Nat} (h : s < gns g) : gna (gSym g n b) s = gna g s := if_neg (by omega)
theorem gSym_ih {g : vA} {n : Nat} {b : Int32} {s a : Nat} (h : s < gns g) : gih (gSym g n b) s a = gih g s a := if_neg (by omega)
theorem gSym_occ {g : vA} (hw : wfA g) {n : Nat} {b : Int32} {p o : Nat} (hp : p < gnp g) : occ (gSym g n b) p o = occ g p o := by
  unfold occ
  by_cases h : o < 4 * gpo g p
  · have h1 : gsy g p (o / 4) < gns g := hw.2.2.2.2.2.1 p (o / 4) hp (by omega)
    show (decide (o < 4 * gpo g p) && decide (o % 4 < gna (gSym g n b) (gsy g p (o / 4)))) = _
    rw [gSym_na h1]
  · show (decide (o < 4 * gpo g p) && _) = _
    rw [decide_eq_false h]; rfl
theorem gSym_dfn {g : vA} (hw : wfA g) {n : Nat} {b : Int32} {p o : Nat} (hp : p < gnp g) : dfn (gSym g n b) p o = dfn g p o := by
  unfold dfn
  rw [gSym_occ hw hp]
  by_cases h : o < 4 * gpo g p
  · have h1 : gsy g p (o / 4) < gns g := hw.2.2.2.2.2.1 p (o / 4) hp (by omega)
    show (_ && (gih (gSym g n b) (gsy g p (o / 4)) (o % 4) == _)) = _
    rw [gSym_ih h1]
  · have h2 : occ g p o = false := by unfold occ; rw [decide_eq_false h]; rfl
    rw [h2]; rfl
theorem gSym_usd {g : vA} {n : Nat} {b : Int32} {p o d : Nat} : usd (gSym g n b) p o d = usd g p o d := rfl
theorem wfA_sym {g : vA} (hw : wfA g) {n : Nat} (b : Int32) (hn : n ≤ 4) (hs : gns g < 6) : wfA (gSym g n b) := by
  obtain ⟨w1, w2, w3, w4, w5, w6, w7⟩ := hw
  refine ⟨show gns g + 1 ≤ 6 by omega, fun s h => ?_, fun s a h h9 => ?_, w4, w5, fun p q hp hq => Nat.lt_succ_of_lt (w6 p q hp hq), fun p o r hp ho hr => ?_⟩
  · by_cases e : s = gns g
    · show (if s = gns g then n else gna g s) ≤ 4
      rw [if_pos e]; exact hn
    · have h1 : s < gns g := by
        have : s < gns g + 1 := h
        omega
      rw [gSym_na h1]; exact w2 s h1
  · by_cases e : s = gns g
    · have h8 : (if s = gns g then decide (a < n) && bt b a else gih g s a) = true := h9
      show a < (if s = gns g then n else gna g s)
      rw [if_pos e] at h8 ⊢
      rw [Bool.and_eq_true] at h8
      exact of_decide_eq_true h8.1
    · have h1 : s < gns g := by
        have : s < gns g + 1 := h
        omega
      rw [gSym_na h1]
      rw [gSym_ih h1] at h9
      exact w3 s a h1 h9
  · have hw : wfA g := ⟨w1, w2, w3, w4, w5, w6, w7⟩
    obtain ⟨r1, r2, r3, r4⟩ := w7 p o r hp ho hr
    refine ⟨by rw [gSym_dfn hw hp]; exact r1, r2, fun h => ?_, fun h => ?_⟩
    · obtain ⟨u, u1, u2, u3⟩ := r3 h
      exact ⟨u, u1, u2, by rw [gSym_occ hw hp]; exact u3⟩
    · obtain ⟨u, u1, u2, u3⟩ := r4 h
      exact ⟨u, u1, u2, by rw [gSym_occ hw hp]; exact u3⟩
theorem m_symbol_bad {N : Nat} {σ : vS} {a0 a1 : Int32} (h : ∀ n, n ≤ 4 → a0 ≠ nI n) : f_M_symbol N σ a0 a1 = some (0, sf σ 0 1) := by
  have h1 : f_M_symbol_10 N σ a0 a1 = some (0, sf σ 0 1) := by
    unfold f_M_symbol_10 f_M_symbol_28 vlet
    dsimp only
    rw [sf_1, if_neg (by decide)]
  unfold f_M_symbol
  rcases pk_ix a0 (n := 5) (by decide) with h0 | h5 | ⟨j, hj, e⟩
  · rw [if_pos h0, h1]
  · by_cases h0 : a0 < 0
    · rw [if_pos h0, h1]
    · rw [if_neg h0, if_neg (fun h4 => ?_), h1]
      obtain ⟨j, hj, e⟩ := Nn.le h0 4 (n := 4) (by decide) h4
      exact h j hj e
  · exact absurd e (h j (by omega))
theorem m_symbol_full {N : Nat} {g : vA} {σ : vS} (hg : MG g σ) {n : Nat} {a1 : Int32} (hn : n ≤ 4) (h6 : gns g = 6) : f_M_symbol N σ (nI n) a1 = some (0, sf σ 0 2) := by
  unfold f_M_symbol f_M_symbol_28 vlet
  dsimp only
  rw [if_neg (nI_pos (by omega)), if_pos (show nI n ≤ (4 : Int32) from nI_le (a := n) (b := 4) hn (by decide)), hg.1, h6, if_pos (show nI 6 = (6 : Int32) from rfl), sf_1, if_neg (by decide)]
theorem m_symbol_ok {N : Nat} (hN : 161 ≤ N) {g : vA} {σ : vS} (hg : MG g σ) (hw : wfA g) {n : Nat} {a1 : Int32} (hn : n ≤ 4) (h6 : gns g ≠ 6) : Ok (f_M_symbol N σ (nI n) a1) (fun v => v.1 = nI (gns g) ∧ v.2.1 0 = 0 ∧ MG (gSym g n a1) v.2 ∧ v.2.1 3 = 0 ∧ v.2.1 8 = -1 ∧ v.2.1 9 = -1 ∧ (∀ k, k ≠ 0 → k ≠ 1 → k ≠ 3 → k ≠ 8 → k ≠ 9 → v.2.1 k = σ.1 k) ∧ (∀ j, j < 160 → v.2.2 22 j = 0) ∧ ∀ a, a ≠ 0 → a ≠ 1 → a ≠ 22 → v.2.2 a = σ.2 a) := by
  have hs : gns g < 6 := by
    have := hw.1
    omega
  unfold f_M_symbol
  refine ok_else (nI_pos (by omega)) (ok_then (show nI n ≤ (4 : Int32) from nI_le (a := n) (b := 4) hn (by decide)) (ok_else (fun h => ?_) ?_))
  · rw [hg.1] at h
    exact h6 ((nI_eq (a := gns g) (b := 6) (by omega) (by decide)).mp h)
  · unfold f_M_symbol_28
    refine ok_lets (fun σ1 e1 => ok_then (by rw [e1, sf_1]; decide) ?_)
    have hs1 : σ1.1 1 = nI (gns g) := by rw [e1, sf_1n (by decide)]; exact hg.1
    rw [hs1]
    refine ok_bd (bIn_nI hs (by decide)) (ok_lets (fun σ4 e4 => ?_))
    rw [nI_clamp (by omega)] at e4
    refine ok_mono (m_symbol_52 hN hs hn N 0 σ4 (by omega) (by omega) (by rw [e4]; exact hs1) (fun a ha => absurd ha (Nat.not_lt_zero _))) (fun v hv => ?_)
    obtain ⟨b1, b2, b3, b4, b5, b6, b7, b8, b9, b10⟩ := hv
    obtain ⟨g1, g2, g3, g4, g5, g6, g7, g8⟩ := hg
    have k0 : ∀ a, a ≠ 0 → a ≠ 1 → a ≠ 22 → v.2.2 a = σ.2 a := fun a ha0 ha1 ha2 => by rw [b10 a ha1 ha2, e4, sa_2a ha0, e1, sf_2]
    have kk : ∀ k, k ≠ 0 → k ≠ 1 → k ≠ 3 → k ≠ 8 → k ≠ 9 → v.2.1 k = σ.1 k := fun k c0 c1 c3 c8 c9 => by rw [b6 k c1 c3 c8 c9, e4, sa_1, e1, sf_1n c0]
    refine ⟨b1, by rw [b6 0 (by decide) (by decide) (by decide) (by decide), e4, sa_1, e1, sf_1], ⟨b2, by rw [kk 2 (by decide) (by decide) (by decide) (by decide) (by decide)]; exact g2, fun s h => ?_, fun s a h ha => ?_, fun p hp => by rw [k0 2 (by decide) (by decide) (by decide)]; exact g5 p hp, fun p q hp hq => by rw [k0 3 (by decide) (by decide) (by decide)]; exact g6 p q hp hq, fun p o hp ho => by rw [k0 4 (by decide) (by decide) (by decide), k0 5 (by decide) (by decide) (by decide), k0 6 (by decide) (by decide) (by decide)]; exact g7 p o hp ho, fun p o hp h10 ho => by rw [k0 4 (by decide) (by decide) (by decide)]; exact g8 p o hp h10 ho⟩, b3, b4, b5, kk, b9, k0⟩
    · rw [b10 0 (by decide) (by decide), e4]
      by_cases e : s = gns g
      · show _ = nI (if s = gns g then n else gna g s)
        rw [if_pos e, e, sa_2]
      · have h1 : s < gns g := by
          have : s < gns g + 1 := h
          omega
        rw [sa_2n e, gSym_na h1, e1, sf_2]
        exact g3 s h1
    · by_cases e : s = gns g
      · show _ = b01 (if s = gns g then decide (a < n) && bt a1 a else gih g s a)
        rw [if_pos e, e]
        exact b7 a ha
      · have h1 : s < gns g := by
          have : s < gns g + 1 := h
          omega
        rw [gSym_ih h1, b8 (4 * s + a) (by omega), e4, sa_2a (by decide), e1, sf_2]
        exact g4 s a h1 ha
theorem all_bits : ∀ n, n < 5 → ∀ i, i < 32 → bt (((1 : Int32) <<< (nI n &&& 31)) - 1) i = decide (i < n) := by decide
theorem x_drop {N : Nat} (σ : vS) : f_V_dropAnalysis N σ = some (0, sf (sf σ 2 0) 9 0) := rfl
theorem x_all {N : Nat} {σ : vS} {s n : Nat} (hs : s < 6) (h : σ.2 0 s = nI n) (hn : n ≤ 4) : ∃ z, f_G_allAttributes N σ (nI s) = some (z, σ) ∧ ∀ i, i < 32 → bt z i = decide (i < n) := by
  refine ⟨((1 : Int32) <<< (nI n &&& 31)) - 1, ?_, all_bits n (by omega)⟩
  unfold f_G_allAttributes vlet
  rw [if_pos (bIn_nI hs (by decide)), nI_clamp (by omega), h]
theorem x_symbol_bad {N : Nat} {σ : vS} {a0 a1 : Int32} (h : ∀ n, n ≤ 4 → a0 ≠ nI n) : f_V_symbol N σ a0 a1 = some ((1, 0), σ) := by
  unfold f_V_symbol f_V_symbol_9
  by_cases h0 : a0 < 0
  · rw [if_pos h0]
  · rw [if_neg h0, if_neg (fun h4 => ?_)]
    obtain ⟨j, hj, e⟩ := Nn.le h0 4 (n := 4) (by decide) h4
    exact h j hj e
theorem x_symbol_full {N : Nat} {g : vA} {σ : vS} (hg : XG g σ) {n : Nat} {a1 : Int32} (hn : n ≤ 4) (h6 : gns g = 6) : f_V_symbol N σ (nI n) a1 = some ((2, 0), σ) := by
  unfold f_V_symbol
  rw [if_neg (nI_pos (by omega)), if_pos (show nI n ≤ (4 : Int32) from nI_le (a := n) (b := 4) hn (by decide)), hg.1, h6, if_pos (show nI 6 = (6 : Int32) from rfl)]
theorem x_symbol_ok {N : Nat} {g : vA} {σ : vS} (hg : XG g σ) (hw : wfA g) {n : Nat} {a1 : Int32} (hn : n ≤ 4) (h6 : gns g ≠ 6) : Ok (f_V_symbol N σ (nI n) a1) (fun v => v.1 = (0, nI (gns g)) ∧ XG (gSym g n a1) v.2 ∧ v.2.1 2 = 0 ∧ v.2.1 9 = 0 ∧ (∀ k, k ≠ 0 → k ≠ 2 → k ≠ 9 → v.2.1 k = σ.1 k) ∧ ∀ a, a ≠ 0 → a ≠ 1 → v.2.2 a = σ.2 a) := by
  have hs : gns g < 6 := by
    have := hw.1
    omega
  unfold f_V_symbol
  refine ok_else (nI_pos (by omega)) (ok_then (show nI n ≤ (4 : Int32) from nI_le (a := n) (b := 4) hn (by decide)) (ok_else (fun h => ?_) ?_))
  · rw [hg.1] at h
    exact h6 ((nI_eq (a := gns g) (b := 6) (by omega) (by decide)).mp h)
  · rw [x_drop]
    refine ok_bi (ok_eq rfl (P := fun q => q = ((0 : Int32), sf (sf σ 2 0) 9 0)) rfl) (fun q hq => ?_)
    rw [hq]
    dsimp only
    obtain ⟨τ, eτ⟩ : ∃ τ, τ = sf (sf σ 2 0) 9 0 := ⟨_, rfl⟩
    rw [← eτ]
    have t0 : τ.1 0 = nI (gns g) := by rw [eτ, sf_1n (by decide), sf_1n (by decide)]; exact hg.1
    have t2 : τ.2 = σ.2 := by rw [eτ]; rfl
    have hadd : Ok (f_G_addSymbol N τ (nI n) a1) (fun v => v.1 = nI (gns g) ∧ v.2.1 0 = nI (gns g + 1) ∧ (∀ k, k ≠ 0 → v.2.1 k = τ.1 k) ∧ v.2.2 0 (gns g) = nI n ∧ (∀ s, s ≠ gns g → v.2.2 0 s = τ.2 0 s) ∧ (∀ i, i < 32 → bt (v.2.2 1 (gns g)) i = (decide (i < n) && bt a1 i)) ∧ (∀ s, s ≠ gns g → v.2.2 1 s = τ.2 1 s) ∧ ∀ a, a ≠ 0 → a ≠ 1 → v.2.2 a = τ.2 a) := by
      unfold f_G_addSymbol
      rw [t0]
      refine ok_bd (bIn_nI hs (by decide)) (ok_lets (fun σ2 e2 => ?_))
      rw [nI_clamp (by omega)] at e2
      obtain ⟨z, hz, hzb⟩ := x_all (N := N) (σ := σ2) (s := gns g) (n := n) hs (by rw [e2, sa_2]) hn
      refine ok_bi (ok_eq hz (P := fun q => q = (z, σ2)) rfl) (fun q hq => ?_)
      rw [hq]
      dsimp only
      refine ok_bd (bIn_nI hs (by decide)) (ok_lets (fun σ6 e6 => ok_lets (fun σ7 e7 => ok_some ?_)))
      rw [nI_clamp (by omega)] at e6
      dsimp only
      refine ⟨rfl, ?_, fun k hk => ?_, ?_, fun s h => ?_, fun i hi => ?_, fun s h => ?_, fun a h0 h1 => ?_⟩
      · rw [e7, sf_1, e6, sa_1, e2, sa_1, t0, nI_1]
      · rw [e7, sf_1n hk, e6, sa_1, e2, sa_1]
      · rw [e7, sf_2, e6, sa_2a (by decide), e2, sa_2]
      · rw [e7, sf_2, e6, sa_2a (by decide), e2, sa_2n h]
      · rw [e7, sf_2, e6, sa_2, bt_and, hzb i hi, Bool.and_comm]
      · rw [e7, sf_2, e6, sa_2n h, e2, sa_2a (by decide)]
      · rw [e7, sf_2, e6, sa_2a h1, e2, sa_2a h0]
    refine ok_bi hadd (fun q hq => ok_some ?_)
    obtain ⟨b1, b2, b3, b4, b5, b6, b7, b8⟩ := hq
    obtain ⟨g1, g2, g3, g4, g5, g6, g7, g8, g9, g10, g11, g12⟩ := hg
    have k0 : ∀ a, a ≠ 0 → a ≠ 1 → q.2.2 a = σ.2 a := fun a h0 h1 => by rw [b8 a h0 h1, t2]
    have kk : ∀ k, k ≠ 0 → k ≠ 2 → k ≠ 9 → q.2.1 k = σ.1 k := fun k h0 h2 h9 => by rw [b3 k h0, eτ, sf_1n h9, sf_1n h2]
    have lt1 : ∀ s, s < gns (gSym g n a1) → s ≠ gns g → s < gns g := fun s h e => by
      have : s < gns g + 1 := h
      omega
    dsimp only
    refine ⟨by rw [b1], ⟨b2, by rw [kk 1 (by decide) (by decide) (by decide)]; exact g2, fun s h => ?_, fun s i h hi => ?_, fun p hp => by rw [k0 3 (by decide) (by decide)]; exact g5 p hp, fun p r hp hr => by rw [k0 2 (by decide) (by decide)]; exact g6 p r hp hr, fun p i hp hi => ?_, fun p i hp hi => ?_, fun p i hp hi => by rw [k0 6 (by decide) (by decide)]; exact g9 p i hp hi, fun p o r hp ho hr => by rw [k0 7 (by decide) (by decide), k0 8 (by decide) (by decide), k0 9 (by decide) (by decide)]; exact g10 p o r hp ho hr, fun p o i hp ho hi => by rw [k0 10 (by decide) (by decide)]; exact g11 p o i hp ho hi, fun p hp h10 => by rw [k0 3 (by decide) (by decide), k0 4 (by decide) (by decide), k0 5 (by decide) (by decide), k0 6 (by decide) (by decide), k0 10 (by decide) (by decide)]; exact g12 p hp h10⟩, by rw [b3 2 (by decide), eτ, sf_1n (by decide), sf_1], by rw [b3 9 (by decide), eτ, sf_1], kk, k0⟩
    · by_cases e : s = gns g
      · show _ = nI (if s = gns g then n else gna g s)
        rw [if_pos e, e]; exact b4
      · rw [gSym_na (lt1 s h e), b5 s e, t2]; exact g3 s (lt1 s h e)
    · by_cases e : s = gns g
      · show _ = (if s = gns g then decide (i < n) && bt a1 i else gih g s i)
        rw [if_pos e, e]; exact b6 i hi
      · rw [gSym_ih (lt1 s h e), b7 s e, t2]; exact g4 s i (lt1 s h e) hi
    · rw [k0 4 (by decide) (by decide), gSym_occ hw hp]; exact g7 p i hp hi
    · rw [k0 5 (by decide) (by decide), gSym_dfn hw hp]; exact g8 p i hp hi
