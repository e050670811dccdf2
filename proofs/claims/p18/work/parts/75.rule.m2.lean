theorem m_rule_bad {N : Nat} {σ : vS} {p o f x y c : Int32} (hc : c = 1 ∨ c = 2) : f_M_rule_102 N σ p o f x y c = some (0, sf σ 0 c) := by
  unfold f_M_rule_102 vlet
  dsimp only
  rw [sf_1]
  rcases hc with rfl | rfl
  · rw [if_neg (by decide)]
  · rw [if_neg (by decide)]
theorem m_rule_ok {N : Nat} (hN : 161 ≤ N) {g : vA} {σ : vS} (hg : MG g σ) (hw : wfA g) {p o f : Nat} {x y : Int32} (hp : p < gnp g) (ho : o < 16) : Ok (f_M_rule_102 N σ (nI p) (nI o) (nI f) x y 0) (fun v => v.2.1 0 = 0 ∧ MG (gRule g p o (f, x, y)) v.2 ∧ v.2.1 3 = 0 ∧ v.2.1 8 = -1 ∧ v.2.1 9 = -1 ∧ (∀ k, k ≠ 0 → k ≠ 3 → k ≠ 8 → k ≠ 9 → v.2.1 k = σ.1 k) ∧ (∀ j, j < 160 → v.2.2 22 j = 0) ∧ ∀ a, a ≠ 4 → a ≠ 5 → a ≠ 6 → a ≠ 22 → v.2.2 a = σ.2 a) := by
  have h10 := hw.2.2.2.1
  obtain ⟨g1, g2, g3, g4, g5, g6, g7, g8⟩ := hg
  unfold f_M_rule_102
  refine ok_lets (fun σ5 e5 => ok_then (by rw [e5, sf_1]; decide) ?_)
  rw [show (16 : Int32) * nI p = nI (16 * p) from pk_mul 16 p, nI_add]
  refine ok_bd (bIn_nI (by omega) (by decide)) (ok_lets (fun σ8 e8 => ok_bd (bIn_nI (by omega) (by decide)) (ok_lets (fun σ10 e10 => ok_bd (bIn_nI (by omega) (by decide)) (ok_lets (fun σ12 e12 => ok_bi (m_forget hN σ12) (fun q hq => ok_some ?_)))))))
  rw [nI_clamp (by omega)] at e8 e10 e12
  obtain ⟨b1, b2, b3, b4, b5, b6⟩ := hq
  have i12 : σ12.1 = σ5.1 := by rw [e12, e10, e8]; rfl
  have kk : ∀ k, k ≠ 0 → k ≠ 3 → k ≠ 8 → k ≠ 9 → q.2.1 k = σ.1 k := fun k c0 c3 c8 c9 => by rw [b4 k c3 c8 c9, i12, e5, sf_1n c0]
  have k0 : ∀ a, a ≠ 4 → a ≠ 5 → a ≠ 6 → a ≠ 22 → q.2.2 a = σ.2 a := fun a c4 c5 c6 c22 => by rw [b6 a c22, e12, sa_2a c6, e10, sa_2a c5, e8, sa_2a c4, e5, sf_2]
  have r4 : q.2.2 4 = (sa σ5 4 (16 * p + o) (nI f)).2 4 := by rw [b6 4 (by decide), e12, sa_2a (by decide), e10, sa_2a (by decide), e8]
  have r5 : q.2.2 5 = (sa σ8 5 (16 * p + o) x).2 5 := by rw [b6 5 (by decide), e12, sa_2a (by decide), e10]
  have r6 : q.2.2 6 = (sa σ10 6 (16 * p + o) y).2 6 := by rw [b6 6 (by decide), e12]
  have s5 : ∀ j, j ≠ 16 * p + o → q.2.2 4 j = σ.2 4 j ∧ q.2.2 5 j = σ.2 5 j ∧ q.2.2 6 j = σ.2 6 j := fun j hj => ⟨by rw [r4, sa_2n hj, e5, sf_2], by rw [r5, sa_2n hj, e8, sa_2a (by decide), e5, sf_2], by rw [r6, sa_2n hj, e10, sa_2a (by decide), e8, sa_2a (by decide), e5, sf_2]⟩
  dsimp only
  refine ⟨by rw [b4 0 (by decide) (by decide) (by decide), i12, e5, sf_1], ⟨by rw [kk 1 (by decide) (by decide) (by decide) (by decide)]; exact g1, by rw [kk 2 (by decide) (by decide) (by decide) (by decide)]; exact g2, fun s h => by rw [k0 0 (by decide) (by decide) (by decide) (by decide)]; exact g3 s h, fun s a h ha => by rw [k0 1 (by decide) (by decide) (by decide) (by decide)]; exact g4 s a h ha, fun p' h => by rw [k0 2 (by decide) (by decide) (by decide) (by decide)]; exact g5 p' h, fun p' r h hr => by rw [k0 3 (by decide) (by decide) (by decide) (by decide)]; exact g6 p' r h hr, fun p' o' h h16 => ?_, fun p' o' h h10' h16 => ?_⟩, b1, b2, b3, kk, b5, k0⟩
  · by_cases e : p' = p ∧ o' = o
    · have er : grl (gRule g p o (f, x, y)) p' o' = some (f, x, y) := if_pos e
      rw [er, e.1, e.2]
      exact ⟨by rw [r4, sa_2], by rw [r5, sa_2], by rw [r6, sa_2]⟩
    · have er : grl (gRule g p o (f, x, y)) p' o' = grl g p' o' := if_neg e
      have hj : 16 * p' + o' ≠ 16 * p + o := fun h9 => e ⟨by omega, by omega⟩
      rw [er, (s5 _ hj).1, (s5 _ hj).2.1, (s5 _ hj).2.2]
      exact g7 p' o' h h16
  · have h' : gnp g ≤ p' := h
    rw [(s5 (16 * p' + o') (by omega)).1]
    exact g8 p' o' h' h10' h16
