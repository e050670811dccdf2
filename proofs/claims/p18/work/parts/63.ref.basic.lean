/-! The reference: the small functions. -/
theorem Fr.eq {σ τ : vS} (h : Fr [] [] σ τ) : τ = σ := Prod.ext (funext fun k => h.1 k (by simp)) (funext fun a => h.2 a (by simp))
theorem m_endRun_12 {N : Nat} : ∀ (n i : Nat) (τ : vS), i ≤ 160 → 160 < i + n → (∀ j, j < i → τ.2 22 j = 0) → Ok (f_M_endRun_12 N n τ (nI i)) (fun v => v.2.1 = τ.1 ∧ (∀ j, j < 160 → v.2.2 22 j = 0) ∧ ∀ a, a ≠ 22 → v.2.2 a = τ.2 a) := by
  intro n
  induction n with
  | zero => intro i τ h1 h2; omega
  | succ n ih =>
    intro i τ h1 h2 h3
    rw [f_M_endRun_12]
    dsimp only
    by_cases hi : i = 160
    · subst hi
      exact ok_then (nI_le (a := 160) (b := 160) (by decide) (by decide)) (ok_some ⟨rfl, h3, fun _ _ => rfl⟩)
    · refine ok_else (nI_ge (a := i) (b := 160) (by omega) (by decide)) (ok_bd (bIn_nI (by omega) (by decide)) (ok_lets (fun σ5 e5 => ?_)))
      rw [nI_clamp (by omega), show vp_nar .boolean 0 = 0 from by decide] at e5
      rw [nI_1]
      refine ok_mono (ih (i + 1) σ5 (by omega) (by omega) (fun j hj => ?_)) (fun v hv => ?_)
      · rw [e5]
        by_cases hji : j = i
        · rw [hji, sa_2]
        · rw [sa_2n hji]; exact h3 j (by omega)
      · obtain ⟨a1, a2, a3⟩ := hv
        rw [e5] at a1 a3
        exact ⟨a1, a2, fun a ha => (a3 a ha).trans (sa_2a ha)⟩
theorem m_endRun {N : Nat} (hN : 161 ≤ N) (σ : vS) : Ok (f_M_endRun N σ) (fun v => v.2.1 8 = -1 ∧ v.2.1 9 = -1 ∧ (∀ k, k ≠ 8 → k ≠ 9 → v.2.1 k = σ.1 k) ∧ (∀ j, j < 160 → v.2.2 22 j = 0) ∧ ∀ a, a ≠ 22 → v.2.2 a = σ.2 a) := by
  unfold f_M_endRun
  refine ok_lets (fun σ1 e1 => ok_lets (fun σ2 e2 => ?_))
  refine ok_mono (m_endRun_12 N 0 σ2 (by omega) (by omega) (fun j hj => absurd hj (by omega))) (fun v hv => ?_)
  obtain ⟨a1, a2, a3⟩ := hv
  rw [a1]
  refine ⟨?_, ?_, fun k h8 h9 => ?_, a2, fun a ha => (a3 a ha).trans (by rw [e2, e1]; rfl)⟩
  · rw [e2, sf_1n (by decide), e1, sf_1]
  · rw [e2, sf_1]
  · rw [e2, sf_1n h9, e1, sf_1n h8]
theorem m_forget {N : Nat} (hN : 161 ≤ N) (σ : vS) : Ok (f_M_forget N σ) (fun v => v.2.1 3 = 0 ∧ v.2.1 8 = -1 ∧ v.2.1 9 = -1 ∧ (∀ k, k ≠ 3 → k ≠ 8 → k ≠ 9 → v.2.1 k = σ.1 k) ∧ (∀ j, j < 160 → v.2.2 22 j = 0) ∧ ∀ a, a ≠ 22 → v.2.2 a = σ.2 a) := by
  unfold f_M_forget
  refine ok_lets (fun σ1 e1 => ok_bi (m_endRun hN σ1) (fun q hq => ok_some ?_))
  obtain ⟨a1, a2, a3, a4, a5⟩ := hq
  refine ⟨?_, a1, a2, fun k h3 h8 h9 => ?_, a4, fun a ha => (a5 a ha).trans (by rw [e1]; rfl)⟩
  · show q.2.1 3 = 0
    rw [a3 3 (by decide) (by decide), e1, sf_1]
  · show q.2.1 k = σ.1 k
    rw [a3 k h8 h9, e1, sf_1n h3]
