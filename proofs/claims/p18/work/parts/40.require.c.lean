theorem kd_V_requireAnalysis {N : Nat} {σ : vS} {q : (Nat × Int32) × vS} (h : f_V_requireAnalysis N σ = some q) : q.1.1 = 0 ∨ q.1.1 = 2 := by
  unfold f_V_requireAnalysis at h
  by_cases hc : σ.1 2 = 0
  · rw [if_pos hc] at h; cases h; exact Or.inr rfl
  · rw [if_neg hc] at h; cases h; exact Or.inl rfl
theorem kd_V_requireAttribute {N : Nat} {σ : vS} {a0 a1 : Int32} {q : (Nat × Int32) × vS} (h : f_V_requireAttribute N σ a0 a1 = some q) : q.1.1 = 0 ∨ q.1.1 = 3 := by
  unfold f_V_requireAttribute at h
  obtain ⟨q1, h1, h⟩ := vq_bi h
  by_cases hc : q1.1 = 0
  · rw [if_pos hc] at h; unfold f_V_requireAttribute_30 at h; cases h; exact Or.inr rfl
  · rw [if_neg hc] at h
    obtain ⟨q4, h4, h⟩ := vq_bi h
    obtain ⟨q6, h6, h⟩ := vq_bi h
    by_cases hd : q6.1 = 0
    · rw [if_pos hd] at h; unfold f_V_requireAttribute_30 at h; cases h; exact Or.inr rfl
    · rw [if_neg hd] at h; cases h; exact Or.inl rfl
