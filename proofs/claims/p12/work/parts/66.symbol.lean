/-! symbol, on both sides. -/
theorem hold1_iff {x : Int32} {i : Nat} (hi : i < 32) : (x >>> (nI i &&& 31)) &&& 1 = 1 ↔ bt x i = true := by
  obtain ⟨j, hj, e⟩ := pk_andE (x >>> (nI i &&& 31)) (m := 1) 1 (by decide)
  have h0 := hold_iff (x := x) hi
  have hj2 : j = 0 ∨ j = 1 := by omega
  rw [e] at h0 ⊢
  rcases hj2 with rfl | rfl
  · have := h0.mp rfl
    rw [this]
    exact ⟨fun h => absurd h (by decide), fun h => by cases h⟩
  · refine ⟨fun _ => ?_, fun _ => rfl⟩
    cases h : bt x i
    · exact absurd (h0.mpr h) (by decide)
    · rfl
theorem nar_b01 (y : Bool) : vp_nar .boolean (b01 y) = b01 y := by cases y <;> decide
/-- the grammar with one symbol more -/
def gSym (g : vA) (n : Nat) (b : Int32) : vA := ((gns g + 1, gnp g), (fun s => if s = gns g then n else gna g s), (fun s a => if s = gns g then decide (a < n) && bt b a else gih g s a), gpo g, gsy g, grl g)
theorem m_symbol_52 {N : Nat} (hN : 161 ≤ N) {s n : Nat} {b : Int32} (hs : s < 6) (hn : n ≤ 4) : ∀ (m i : Nat) (τ : vS), i ≤ 4 → 4 < i + m → τ.1 1 = nI s → (∀ a, a < i → τ.2 1 (4 * s + a) = b01 (decide (a < n) && bt b a)) → Ok (f_M_symbol_52 N m τ (nI n) b (nI i)) (fun v => v.1 = nI s ∧ v.2.1 1 = nI (s + 1) ∧ v.2.1 3 = 0 ∧ v.2.1 8 = -1 ∧ v.2.1 9 = -1 ∧ (∀ k, k ≠ 1 → k ≠ 3 → k ≠ 8 → k ≠ 9 → v.2.1 k = τ.1 k) ∧ (∀ a, a < 4 → v.2.2 1 (4 * s + a) = b01 (decide (a < n) && bt b a)) ∧ (∀ j, j < 4 * s → v.2.2 1 j = τ.2 1 j) ∧ (∀ j, j < 160 → v.2.2 22 j = 0) ∧ ∀ a, a ≠ 1 → a ≠ 22 → v.2.2 a = τ.2 a) := by
  intro m
  induction m with
  | zero => intro i τ h1 h2; omega
  | succ m ih =>
    intro i τ h1 h2 hτ h3
    rw [f_M_symbol_52]
    dsimp only
    by_cases hi : i = 4
    · subst hi
      refine ok_then (show (4 : Int32) ≤ nI 4 from nI_le (a := 4) (b := 4) (by decide) (by decide)) (ok_lets (fun σ6 e6 => ok_bi (m_forget hN σ6) (fun q hq => ok_some ?_)))
      obtain ⟨a1, a2, a3, a4, a5, a6⟩ := hq
      have e1 : q.2.1 1 = nI (s + 1) := by rw [a4 1 (by decide) (by decide) (by decide), e6, sf_1, hτ, nI_1]
      refine ⟨?_, e1, a1, a2, a3, fun k k1 k3 k8 k9 => ?_, fun a ha => ?_, fun j hj => ?_, a5, fun a ha ha2 => ?_⟩
      · show q.2.1 1 - 1 = nI s
        rw [e1]
        exact nI_pred s
      · show q.2.1 k = τ.1 k
        rw [a4 k k3 k8 k9, e6, sf_1n k1]
      · show q.2.2 1 (4 * s + a) = _
        rw [a6 1 (by decide), e6, sf_2]
        exact h3 a ha
      · show q.2.2 1 j = _
        rw [a6 1 (by decide), e6, sf_2]
      · show q.2.2 a = _
        rw [a6 a ha2, e6, sf_2]
    · refine ok_else (show ¬ (4 : Int32) ≤ nI i from nI_ge (a := i) (b := 4) (by omega) (by decide)) ?_
      have e1 : (4 : Int32) * τ.1 1 + nI i = nI (4 * s + i) := by rw [hτ]; exact (congrArg (· + nI i) (pk_mul 4 s)).trans (nI_add _ _)
      have key : ∀ y : Bool, y = (decide (i < n) && bt b i) → Ok (f_M_symbol_88 N (f_M_symbol_52 N m) τ (nI n) b (nI i) (b01 y) ((4 : Int32) * τ.1 1 + nI i)) (fun v => v.1 = nI s ∧ v.2.1 1 = nI (s + 1) ∧ v.2.1 3 = 0 ∧ v.2.1 8 = -1 ∧ v.2.1 9 = -1 ∧ (∀ k, k ≠ 1 → k ≠ 3 → k ≠ 8 → k ≠ 9 → v.2.1 k = τ.1 k) ∧ (∀ a, a < 4 → v.2.2 1 (4 * s + a) = b01 (decide (a < n) && bt b a)) ∧ (∀ j, j < 4 * s → v.2.2 1 j = τ.2 1 j) ∧ (∀ j, j < 160 → v.2.2 22 j = 0) ∧ ∀ a, a ≠ 1 → a ≠ 22 → v.2.2 a = τ.2 a) := by
        intro y hy
        unfold f_M_symbol_88
        rw [e1]
        refine ok_bd (bIn_nI (by omega) (by decide)) (ok_lets (fun σ10 e10 => ?_))
        rw [nI_clamp (by omega), nar_b01] at e10
        rw [nI_1]
        refine ok_mono (ih (i + 1) σ10 (by omega) (by omega) (by rw [e10]; exact hτ) (fun a ha => ?_)) (fun v hv => ?_)
        · rw [e10]
          by_cases hai : a = i
          · rw [hai, sa_2, hy]
          · rw [sa_2n (by omega)]
            exact h3 a (by omega)
        · obtain ⟨b1, b2, b3, b4, b5, b6, b7, b8, b9, b10⟩ := hv
          refine ⟨b1, b2, b3, b4, b5, fun k k1 k3 k8 k9 => ?_, b7, fun j hj => ?_, b9, fun a ha ha2 => ?_⟩
          · rw [b6 k k1 k3 k8 k9, e10]; rfl
          · rw [b8 j hj, e10, sa_2n (by omega)]
          · rw [b10 a ha ha2, e10, sa_2a ha]
      have key0 : (decide (i < n) && bt b i) = false → Ok (f_M_symbol_87 N (f_M_symbol_52 N m) τ (nI n) b (nI i) ((4 : Int32) * τ.1 1 + nI i)) _ := fun h => key false h.symm
      refine ok_if (fun hni => key0 ?_) (fun hni => ok_if (fun hb => key true ?_) (fun hb => key0 ?_))
      · rw [decide_eq_false (show ¬ i < n from fun h => absurd hni (nI_ge h (by omega)))]; rfl
      · rw [decide_eq_true (show i < n from Nat.lt_of_not_le (fun h => hni (nI_le h (by omega)))), (hold1_iff (by omega)).mp hb]; rfl
      · cases h9 : bt b i
        · exact Bool.and_false _
        · exact absurd ((hold1_iff (by omega)).mpr h9) hb
