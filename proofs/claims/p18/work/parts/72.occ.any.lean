/-! The same for any int. -/
def oB (g : vA) (p : Nat) (a : Int32) : Bool := decide (¬ a < 0) && occ g p a.toNatClampNeg
def dB (g : vA) (p : Nat) (a : Int32) : Bool := decide (¬ a < 0) && dfn g p a.toNatClampNeg
theorem oB_nI {g : vA} {p o : Nat} (ho : o < 2 ^ 31) : oB g p (nI o) = occ g p o := by
  unfold oB
  rw [decide_eq_true (nI_pos ho), nI_clamp ho, Bool.true_and]
theorem dB_nI {g : vA} {p o : Nat} (ho : o < 2 ^ 31) : dB g p (nI o) = dfn g p o := by
  unfold dB
  rw [decide_eq_true (nI_pos ho), nI_clamp ho, Bool.true_and]
theorem oB_neg {g : vA} {p : Nat} {a : Int32} (h : a < 0) : oB g p a = false := by
  unfold oB
  rw [decide_eq_false (fun h9 => h9 h)]; rfl
theorem dB_neg {g : vA} {p : Nat} {a : Int32} (h : a < 0) : dB g p a = false := by
  unfold dB
  rw [decide_eq_false (fun h9 => h9 h)]; rfl
theorem oB_ex {g : vA} (hw : wfA g) {p : Nat} (hp : p < gnp g) {a : Int32} (h : oB g p a = true) : ∃ o, o < 16 ∧ a = nI o ∧ occ g p o = true := by
  by_cases h0 : a < 0
  · rw [oB_neg h0] at h; cases h
  · obtain ⟨j, hj, e⟩ := nI_of h0
    rw [e, oB_nI hj] at h
    exact ⟨j, (occ_lt hw hp h).1, e, h⟩
theorem dfn_occ {g : vA} {p o : Nat} (h : dfn g p o = true) : occ g p o = true := by
  unfold dfn at h
  rw [Bool.and_eq_true] at h
  exact h.1
theorem dB_ex {g : vA} (hw : wfA g) {p : Nat} (hp : p < gnp g) {a : Int32} (h : dB g p a = true) : ∃ o, o < 16 ∧ a = nI o ∧ dfn g p o = true := by
  by_cases h0 : a < 0
  · rw [dB_neg h0] at h; cases h
  · obtain ⟨j, hj, e⟩ := nI_of h0
    rw [e, dB_nI hj] at h
    exact ⟨j, (occ_lt hw hp (dfn_occ h)).1, e, h⟩
theorem m_oB {N : Nat} {g : vA} {σ : vS} (hg : MG g σ) (hw : wfA g) {p : Nat} (hp : p < gnp g) (a : Int32) : f_M_isOccurrence N σ (nI p) a = some (b01 (oB g p a), σ) := by
  by_cases h0 : a < 0
  · rw [m_occ_neg h0, oB_neg h0]; rfl
  · obtain ⟨j, hj, e⟩ := nI_of h0
    rw [e, m_occ hg hw hp hj, oB_nI hj]
theorem x_oB {N : Nat} {g : vA} {σ : vS} (hg : XG g σ) (hw : wfA g) {p : Nat} (hp : p < gnp g) (a : Int32) : f_G_hasOccurrence N σ (nI p) a = some (b01 (oB g p a), σ) := by
  by_cases h0 : a < 0
  · rw [x_occ_neg h0, oB_neg h0]; rfl
  · obtain ⟨j, hj, e⟩ := nI_of h0
    rw [e, x_occ hg hw hp hj, oB_nI hj]
theorem m_dB {N : Nat} {g : vA} {σ : vS} (hg : MG g σ) (hw : wfA g) {p : Nat} (hp : p < gnp g) (a : Int32) : f_M_isDefined N σ (nI p) a = some (b01 (dB g p a), σ) := by
  by_cases h0 : a < 0
  · unfold f_M_isDefined
    rw [m_occ_neg h0, Option.bind_some, dB_neg h0]; rfl
  · obtain ⟨j, hj, e⟩ := nI_of h0
    rw [e, m_dfn hg hw hp hj, dB_nI hj]
theorem x_dB {N : Nat} {g : vA} {σ : vS} (hg : XG g σ) (hw : wfA g) {p : Nat} (hp : p < gnp g) (a : Int32) : f_G_isToBeDefined N σ (nI p) a = some (b01 (dB g p a), σ) := by
  by_cases h0 : a < 0
  · unfold f_G_isToBeDefined
    rw [x_occ_neg h0, Option.bind_some, dB_neg h0]; rfl
  · obtain ⟨j, hj, e⟩ := nI_of h0
    rw [e, x_dfn hg hw hp hj, dB_nI hj]
/-- production numbers, on both sides -/
theorem x_hasProduction {N : Nat} {g : vA} {σ : vS} (hg : XG g σ) (hw : wfA g) (a : Int32) : (∃ p, p < gnp g ∧ a = nI p ∧ f_G_hasProduction N σ a = some (1, σ)) ∨ ((a < 0 ∨ nI (gnp g) ≤ a) ∧ f_G_hasProduction N σ a = some (0, σ)) := by
  have h10 := hw.2.2.2.1
  unfold f_G_hasProduction
  rw [hg.2.1]
  by_cases h0 : a < 0
  · exact Or.inr ⟨Or.inl h0, by rw [if_pos h0]⟩
  · by_cases h1 : nI (gnp g) ≤ a
    · exact Or.inr ⟨Or.inr h1, by rw [if_neg h0, if_pos h1]⟩
    · rcases pk_ix a (n := gnp g) (by omega) with h | h | ⟨p, hp, e⟩
      · exact absurd h h0
      · exact absurd h h1
      · exact Or.inl ⟨p, hp, e, by rw [if_neg h0, if_neg h1]⟩
