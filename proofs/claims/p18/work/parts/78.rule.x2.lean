theorem XG_rule {g : vA} {σ : vS} (hg : XG g σ) {p o f : Nat} {x y : Int32} (hp : p < gnp g) (ho : o < 16) (h1 : 1 ≤ nds f → ∃ u, u < 16 ∧ x = nI u) (h2 : 2 ≤ nds f → ∃ u, u < 16 ∧ y = nI u) {v : Int32 × vS} (hv : SR σ p o f x y v) : XG (gRule g p o (f, x, y)) v.2 := by
  obtain ⟨g1, g2, g3, g4, g5, g6, g7, g8, g9, g10, g11, g12⟩ := hg
  obtain ⟨s1, s2, s3, s4, s5, s6, s7, s8, s9⟩ := hv
  have k : ∀ a, a < 6 → v.2.2 a = σ.2 a := fun a ha => s9 a (by omega) (by omega) (by omega) (by omega) (by omega)
  have er : grl (gRule g p o (f, x, y)) p o = some (f, x, y) := if_pos ⟨rfl, rfl⟩
  have en : ∀ p' o', ¬ (p' = p ∧ o' = o) → grl (gRule g p o (f, x, y)) p' o' = grl g p' o' := fun p' o' e => if_neg e
  refine ⟨by rw [s1]; exact g1, by rw [s1]; exact g2, by rw [k 0 (by decide)]; exact g3, by rw [k 1 (by decide)]; exact g4, by rw [k 3 (by decide)]; exact g5, by rw [k 2 (by decide)]; exact g6, by rw [k 4 (by decide)]; exact g7, by rw [k 5 (by decide)]; exact g8, fun p' i h hi => ?_, fun p' o' r h h16 hr => ?_, fun p' o' i h h16 hi => ?_, fun p' h h10 => ?_⟩
  · by_cases e : p' = p
    · rw [e, s6, bt_or, g9 p i hp hi, bt_one (by omega) hi]
      by_cases e2 : i = o
      · rw [e2, er, decide_eq_true rfl, decide_eq_true ho, Bool.or_true]; rfl
      · rw [en p i (fun h9 => e2 h9.2), decide_eq_false e2, Bool.or_false]
    · rw [s8 p' e, en p' i (fun h9 => e h9.1)]
      exact g9 p' i h hi
  · by_cases e : p' = p ∧ o' = o
    · rw [e.1, e.2] at hr ⊢
      rw [er] at hr
      cases hr
      exact ⟨s2, s3, s4⟩
    · have hj : 16 * p' + o' ≠ 16 * p + o := fun h9 => e ⟨by omega, by omega⟩
      rw [en p' o' e] at hr
      rw [(s7 _ hj).1, (s7 _ hj).2.1, (s7 _ hj).2.2.1]
      exact g10 p' o' r h h16 hr
  · by_cases e : p' = p ∧ o' = o
    · rw [e.1, e.2, s5, bt_or, use_bits h1 i hi, use_bits h2 i hi]
      unfold usd
      rw [er]
      cases decide (i < 16) <;> rfl
    · have hj : 16 * p' + o' ≠ 16 * p + o := fun h9 => e ⟨by omega, by omega⟩
      unfold usd
      rw [en p' o' e, (s7 _ hj).2.2.2]
      exact g11 p' o' i h h16 hi
  · have h' : gnp g ≤ p' := h
    obtain ⟨z1, z2, z3, z4, z5⟩ := g12 p' h' h10
    refine ⟨by rw [k 3 (by decide)]; exact z1, by rw [k 4 (by decide)]; exact z2, by rw [k 5 (by decide)]; exact z3, by rw [s8 p' (by omega)]; exact z4, fun o' h16 => ?_⟩
    rw [(s7 (16 * p' + o') (by omega)).2.2.2]
    exact z5 o' h16
