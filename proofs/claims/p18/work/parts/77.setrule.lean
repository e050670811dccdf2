/-- the bits that a rule uses -/
theorem use_bits {f : Nat} {x : Int32} {c : Nat} (h : c ≤ nds f → ∃ u, u < 16 ∧ x = nI u) : ∀ i, i < 32 → bt (if c ≤ nds f then (1 : Int32) <<< (x &&& 31) else 0) i = (decide (i < 16) && (decide (c ≤ nds f) && decide (x = nI i))) := by
  intro i hi
  by_cases hc : c ≤ nds f
  · obtain ⟨u, hu, e⟩ := h hc
    rw [if_pos hc, decide_eq_true hc, e, bt_one (by omega) hi, Bool.true_and]
    by_cases h2 : i = u
    · rw [decide_eq_true h2, decide_eq_true (show i < 16 by omega), h2, decide_eq_true rfl]; rfl
    · rw [decide_eq_false h2, decide_eq_false (show ¬ nI u = nI i from fun h9 => h2 ((nI_eq (by omega) (by omega)).mp h9).symm), Bool.and_false]
  · rw [if_neg hc, bt_0, decide_eq_false hc, Bool.false_and, Bool.and_false]
/-- what setRule leaves -/
def SR (σ : vS) (p o f : Nat) (x y : Int32) (v : Int32 × vS) : Prop := v.2.1 = σ.1 ∧ v.2.2 7 (16 * p + o) = nI f ∧ v.2.2 8 (16 * p + o) = x ∧ v.2.2 9 (16 * p + o) = y ∧ v.2.2 10 (16 * p + o) = ((if 1 ≤ nds f then (1 : Int32) <<< (x &&& 31) else 0) ||| (if 2 ≤ nds f then (1 : Int32) <<< (y &&& 31) else 0)) ∧ v.2.2 6 p = σ.2 6 p ||| ((1 : Int32) <<< (nI o &&& 31)) ∧ (∀ j, j ≠ 16 * p + o → v.2.2 7 j = σ.2 7 j ∧ v.2.2 8 j = σ.2 8 j ∧ v.2.2 9 j = σ.2 9 j ∧ v.2.2 10 j = σ.2 10 j) ∧ (∀ j, j ≠ p → v.2.2 6 j = σ.2 6 j) ∧ ∀ a, a ≠ 6 → a ≠ 7 → a ≠ 8 → a ≠ 9 → a ≠ 10 → v.2.2 a = σ.2 a
theorem x_setRule {N : Nat} {g : vA} (hw : wfA g) {σ : vS} {p o f : Nat} {x y : Int32} (hp : p < gnp g) (ho : o < 16) (h8 : f < 8) : Ok (f_G_setRule N σ (nI p) (nI o) (nI f) x y) (SR σ p o f x y) := by
  have h10 := hw.2.2.2.1
  unfold f_G_setRule
  rw [show nI p * (16 : Int32) = nI (p * 16) from pk_mul p 16, nI_add, show p * 16 + o = 16 * p + o by omega]
  refine ok_bd (bIn_nI (by omega) (by decide)) (ok_lets (fun σ2 e2 => ok_bd (bIn_nI (by omega) (by decide)) (ok_lets (fun σ4 e4 => ok_bd (bIn_nI (by omega) (by decide)) (ok_lets (fun σ6 e6 => ?_))))))
  rw [nI_clamp (by omega)] at e2 e4 e6
  have key : ∀ y0 y1 : Int32, y1 = (if 1 ≤ nds f then (1 : Int32) <<< (x &&& 31) else 0) → y0 = (if 2 ≤ nds f then (1 : Int32) <<< (y &&& 31) else 0) → Ok (f_G_setRule_70 N σ6 (nI p) (nI o) y0 y1 (nI (16 * p + o))) (SR σ p o f x y) := by
    intro y0 y1 hy1 hy0
    unfold f_G_setRule_70
    refine ok_bd (bIn_nI (by omega) (by decide)) (ok_lets (fun σ12 e12 => ok_bd (bIn_nI (by omega) (by decide)) (ok_lets (fun i14 e14 => ok_lets (fun i15 e15 => ok_bd (bIn_nI (by omega) (by decide)) (ok_lets (fun σ17 e17 => ok_some ?_)))))))
    rw [nI_clamp (by omega)] at e12 e14 e17
    have c6 : σ12.2 6 = σ.2 6 := by rw [e12, sa_2a (by decide), e6, sa_2a (by decide), e4, sa_2a (by decide), e2, sa_2a (by decide)]
    unfold SR
    dsimp only
    refine ⟨by rw [e17, e12, e6, e4, e2]; rfl, ?_, ?_, ?_, ?_, ?_, fun j hj => ⟨?_, ?_, ?_, ?_⟩, fun j hj => ?_, fun a c6 c7 c8 c9 c10 => ?_⟩
    · rw [e17, sa_2a (by decide), e12, sa_2a (by decide), e6, sa_2a (by decide), e4, sa_2a (by decide), e2, sa_2]
    · rw [e17, sa_2a (by decide), e12, sa_2a (by decide), e6, sa_2a (by decide), e4, sa_2]
    · rw [e17, sa_2a (by decide), e12, sa_2a (by decide), e6, sa_2]
    · rw [e17, sa_2a (by decide), e12, sa_2, hy1, hy0]
    · rw [e17, sa_2, e15, e14, c6]
    · rw [e17, sa_2a (by decide), e12, sa_2a (by decide), e6, sa_2a (by decide), e4, sa_2a (by decide), e2, sa_2n hj]
    · rw [e17, sa_2a (by decide), e12, sa_2a (by decide), e6, sa_2a (by decide), e4, sa_2n hj, e2, sa_2a (by decide)]
    · rw [e17, sa_2a (by decide), e12, sa_2a (by decide), e6, sa_2n hj, e4, sa_2a (by decide), e2, sa_2a (by decide)]
    · rw [e17, sa_2a (by decide), e12, sa_2n hj, e6, sa_2a (by decide), e4, sa_2a (by decide), e2, sa_2a (by decide)]
    · rw [e17, sa_2n hj, c6]
    · rw [e17, sa_2a c6, e12, sa_2a c10, e6, sa_2a c9, e4, sa_2a c8, e2, sa_2a c7]
  have k55 : ∀ y1 : Int32, y1 = (if 1 ≤ nds f then (1 : Int32) <<< (x &&& 31) else 0) → Ok (f_G_setRule_55 N σ6 (nI p) (nI o) (nI f) y y1 (nI (16 * p + o))) (SR σ p o f x y) := by
    intro y1 hy1
    unfold f_G_setRule_55
    rw [nds_x2 f h8, Option.bind_some]
    by_cases h2 : 2 ≤ nds f
    · rw [decide_eq_true h2, if_neg (by decide)]
      exact key _ y1 hy1 (by rw [if_pos h2])
    · rw [decide_eq_false h2, if_pos (show b01 false = 0 from rfl)]
      exact key _ y1 hy1 (by rw [if_neg h2])
  rw [nds_x1 f h8, Option.bind_some]
  by_cases h1 : 1 ≤ nds f
  · rw [decide_eq_true h1, if_neg (by decide)]
    exact k55 _ (by rw [if_pos h1])
  · rw [decide_eq_false h1, if_pos (show b01 false = 0 from rfl)]
    exact k55 _ (by rw [if_neg h1])
