/-! What a grammar's standing rests on. -/
theorem MG.stay {g : vA} {σ τ : vS} (h : MG g σ) (h1 : τ.1 1 = σ.1 1) (h2 : τ.1 2 = σ.1 2) (ha : ∀ a, a < 7 → τ.2 a = σ.2 a) : MG g τ := by
  unfold MG
  rw [h1, h2, ha 0 (by decide), ha 1 (by decide), ha 2 (by decide), ha 3 (by decide), ha 4 (by decide), ha 5 (by decide), ha 6 (by decide)]
  exact h
theorem XG.stay {g : vA} {σ τ : vS} (h : XG g σ) (h0 : τ.1 0 = σ.1 0) (h1 : τ.1 1 = σ.1 1) (ha : ∀ a, a < 11 → τ.2 a = σ.2 a) : XG g τ := by
  unfold XG
  rw [h0, h1, ha 0 (by decide), ha 1 (by decide), ha 2 (by decide), ha 3 (by decide), ha 4 (by decide), ha 5 (by decide), ha 6 (by decide), ha 7 (by decide), ha 8 (by decide), ha 9 (by decide), ha 10 (by decide)]
  exact h
theorem nds_m {N : Nat} : ∀ f, f < 8 → f_M_needs N (nI f) = some (nI (nds f)) := by
  intro f hf
  have h : f = 0 ∨ f = 1 ∨ f = 2 ∨ f = 3 ∨ f = 4 ∨ f = 5 ∨ f = 6 ∨ f = 7 := by omega
  rcases h with rfl | rfl | rfl | rfl | rfl | rfl | rfl | rfl <;> rfl
theorem nds_x1 {N : Nat} : ∀ f, f < 8 → f_G_usesFirst N (nI f) = some (b01 (decide (1 ≤ nds f))) := by
  intro f hf
  have h : f = 0 ∨ f = 1 ∨ f = 2 ∨ f = 3 ∨ f = 4 ∨ f = 5 ∨ f = 6 ∨ f = 7 := by omega
  rcases h with rfl | rfl | rfl | rfl | rfl | rfl | rfl | rfl <;> rfl
theorem nds_x2 {N : Nat} : ∀ f, f < 8 → f_G_usesSecond N (nI f) = some (b01 (decide (2 ≤ nds f))) := by
  intro f hf
  have h : f = 0 ∨ f = 1 ∨ f = 2 ∨ f = 3 ∨ f = 4 ∨ f = 5 ∨ f = 6 ∨ f = 7 := by omega
  rcases h with rfl | rfl | rfl | rfl | rfl | rfl | rfl | rfl <;> rfl
/-- the grammar with a rule -/
def gRule (g : vA) (p o : Nat) (r : Nat × Int32 × Int32) : vA := (g.1, gna g, gih g, gpo g, gsy g, fun p' o' => if p' = p ∧ o' = o then some r else grl g p' o')
theorem gRule_occ {g : vA} {p o : Nat} {r : Nat × Int32 × Int32} {p' o' : Nat} : occ (gRule g p o r) p' o' = occ g p' o' := rfl
theorem gRule_dfn {g : vA} {p o : Nat} {r : Nat × Int32 × Int32} {p' o' : Nat} : dfn (gRule g p o r) p' o' = dfn g p' o' := rfl
theorem wfA_rule {g : vA} (hw : wfA g) {p o : Nat} {r : Nat × Int32 × Int32} (hd : dfn g p o = true) (h8 : r.1 < 8) (h1 : 1 ≤ nds r.1 → ∃ u, u < 16 ∧ r.2.1 = nI u ∧ occ g p u = true) (h2 : 2 ≤ nds r.1 → ∃ u, u < 16 ∧ r.2.2 = nI u ∧ occ g p u = true) : wfA (gRule g p o r) := by
  obtain ⟨w1, w2, w3, w4, w5, w6, w7⟩ := hw
  refine ⟨w1, w2, w3, w4, w5, w6, fun p' o' r' hp ho hr => ?_⟩
  have hr : (if p' = p ∧ o' = o then some r else grl g p' o') = some r' := hr
  by_cases e : p' = p ∧ o' = o
  · rw [if_pos e] at hr
    cases hr
    rw [e.1, e.2]
    exact ⟨hd, h8, h1, h2⟩
  · rw [if_neg e] at hr
    exact w7 p' o' r' hp ho hr
