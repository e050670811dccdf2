theorem vq_Pset {D : va_G} {cl : List vw_C} {ws : va_W} {H : Heap} {a : Nat} {cA : ClassId} {n : Nat} {g h : Nat → Int32} (hP : va_P D cl ws H) (q0 : Nat) (he : ws[q0]? = some (a, .inl (cA, n, .inl g))) (e : ∀ j, j < n → g j = h j) : va_P D cl (ws.set q0 (a, .inl (cA, n, .inl h))) H := by
  intro k q hq
  by_cases hk : k = q0
  · subst hk
    have hl := (List.getElem?_eq_some_iff.mp he).1
    rw [List.getElem?_set_self hl] at hq
    cases hq
    have h1 : H[a]? = some (vp_cell cA (n, .inl g)) := hP k _ he
    show H[a]? = some (vp_cell cA (n, .inl h))
    rw [h1, vq_cellx e]
  · rw [List.getElem?_set_ne (fun h9 => hk h9.symm)] at hq
    exact hP k q hq
theorem vq_Dset {A : Nat → Prop} {ws : va_W} {a : Nat} {e1 e2 : va_E} (hD : va_D A ws) (q0 : Nat) (he : ws[q0]? = some (a, e1)) : va_D A (ws.set q0 (a, e2)) := by
  have hl := (List.getElem?_eq_some_iff.mp he).1
  have key : ∀ (k : Nat) (q : Nat × va_E), (ws.set q0 (a, e2))[k]? = some q → ∃ q', ws[k]? = some q' ∧ q'.1 = q.1 := by
    intro k q hq
    by_cases hk : k = q0
    · subst hk
      rw [List.getElem?_set_self hl] at hq
      cases hq
      exact ⟨_, he, rfl⟩
    · rw [List.getElem?_set_ne (fun h9 => hk h9.symm)] at hq
      exact ⟨q, hq, rfl⟩
  refine ⟨fun i j p q hi hj hpq => ?_, fun k q hk => ?_⟩
  · obtain ⟨p', h1, h2⟩ := key i p hi
    obtain ⟨q', h3, h4⟩ := key j q hj
    exact hD.1 i j p' q' h1 h3 (by rw [h2, h4, hpq])
  · obtain ⟨q', h1, h2⟩ := key k q hk
    rw [← h2]
    exact hD.2 k q' h1
