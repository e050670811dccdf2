/-! give: both sides. -/
theorem x_give {N : Nat} (σ : vS) (a v : Int32) : (∃ r, f_V_give N σ a v = some ((3, r), σ) ∧ (a < 0 ∨ ¬ a ≤ 3)) ∨ ∃ k, k < 4 ∧ a = nI k ∧ f_V_give N σ a v = some ((0, 0), sa σ 23 k v) := by
  unfold f_V_give f_V_give_9
  by_cases h0 : a < 0
  · exact Or.inl ⟨0, by rw [if_pos h0], Or.inl h0⟩
  · obtain ⟨g1, g2⟩ := vq_g4 h0
    by_cases h4 : a < 4
    · obtain ⟨k, hk, e⟩ := vp_in_of (g2 h4) (by decide)
      refine Or.inr ⟨k, hk, e, ?_⟩
      rw [if_neg h0, if_pos h4, e, if_pos (bIn_nI hk (by decide)), nI_clamp (by omega)]
      rfl
    · exact Or.inl ⟨0, by rw [if_neg h0, if_neg h4], Or.inr (fun h => h4 (g1.mpr h))⟩
theorem m_give {N : Nat} (σ : vS) (a v : Int32) : ((a < 0 ∨ ¬ a ≤ 3) → f_M_give N σ a v = some (0, sf σ 0 1)) ∧ ∀ k, k < 4 → a = nI k → f_M_give N σ a v = some (0, sa (sf σ 0 0) 24 k v) := by
  have bad : f_M_give_10 N σ a v = some (0, sf σ 0 1) := by
    unfold f_M_give_10 f_M_give_15 vlet
    dsimp only
    rw [sf_1, if_neg (by decide)]
  refine ⟨fun h => ?_, fun k hk e => ?_⟩
  · unfold f_M_give
    by_cases h0 : a < 0
    · rw [if_pos h0, bad]
    · rw [if_neg h0, if_neg (h.resolve_left h0), bad]
  · unfold f_M_give f_M_give_15 vlet
    dsimp only
    rw [e, if_neg (nI_pos (by omega)), if_pos (show nI k ≤ (3 : Int32) from nI_le (a := k) (b := 3) (by omega) (by decide)), sf_1, if_pos rfl, if_pos (bIn_nI hk (by decide)), nI_clamp (by omega)]
