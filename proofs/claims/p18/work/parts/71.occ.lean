/-! Occurrences, on both sides. -/
theorem occ_lt {g : vA} (hw : wfA g) {p o : Nat} (hp : p < gnp g) (h : occ g p o = true) : o < 16 ∧ o < 4 * gpo g p ∧ o % 4 < gna g (gsy g p (o / 4)) := by
  unfold occ at h
  rw [Bool.and_eq_true] at h
  have h1 := of_decide_eq_true h.1
  have h5 := (hw.2.2.2.2.1 p hp).2
  exact ⟨by omega, h1, of_decide_eq_true h.2⟩
theorem m_occ {N : Nat} {g : vA} {σ : vS} (hg : MG g σ) (hw : wfA g) {p o : Nat} (hp : p < gnp g) (ho : o < 2 ^ 31) : f_M_isOccurrence N σ (nI p) (nI o) = some (b01 (occ g p o), σ) := by
  obtain ⟨g1, g2, g3, g4, g5, g6, g7, g8⟩ := hg
  have h10 := hw.2.2.2.1
  have h5 := hw.2.2.2.2.1 p hp
  have h6 := hw.1
  unfold f_M_isOccurrence vlet
  dsimp only
  rw [if_neg (nI_pos ho), if_pos (bIn_nI (by omega) (by decide)), nI_clamp (by omega), g5 p hp, show (4 : Int32) * nI (gpo g p) = nI (4 * gpo g p) from pk_mul 4 _, show (4 : Int32) * nI p = nI (4 * p) from pk_mul 4 _, show nI o / (4 : Int32) = nI (o / 4) from pk_div (d := 4) ho (by decide) (by decide), nI_add]
  by_cases h : o < 4 * gpo g p
  · have hq : o / 4 < gpo g p := by omega
    have hs := hw.2.2.2.2.2.1 p (o / 4) hp hq
    have ha := hw.2.1 _ hs
    rw [if_neg (nI_ge h (by omega)), if_pos (bIn_nI (by omega) (by decide)), nI_clamp (by omega), g6 p (o / 4) hp hq, if_pos (bIn_nI (by omega) (by decide)), nI_clamp (by omega), g3 _ hs]
    have e4 : nI o - nI (o / 4) * (4 : Int32) = nI (o % 4) := by
      have := pk_rem (a := o) (d := 4) ho (by decide) (by decide)
      rw [pk_div ho (by decide) (by decide)] at this
      exact this
    rw [e4]
    unfold occ
    rw [decide_eq_true h]
    by_cases h2 : o % 4 < gna g (gsy g p (o / 4))
    · rw [if_neg (nI_ge h2 (by omega)), decide_eq_true h2]; rfl
    · rw [if_pos (nI_le (by omega) (by omega)), decide_eq_false h2]; rfl
  · rw [if_pos (nI_le (by omega) ho)]
    unfold occ
    rw [decide_eq_false h]; rfl
theorem m_occ_neg {N : Nat} {σ : vS} {p a : Int32} (h : a < 0) : f_M_isOccurrence N σ p a = some (0, σ) := by
  unfold f_M_isOccurrence
  rw [if_pos h]
theorem x_occ {N : Nat} {g : vA} {σ : vS} (hg : XG g σ) (hw : wfA g) {p o : Nat} (hp : p < gnp g) (ho : o < 2 ^ 31) : f_G_hasOccurrence N σ (nI p) (nI o) = some (b01 (occ g p o), σ) := by
  have h10 := hw.2.2.2.1
  unfold f_G_hasOccurrence vlet
  dsimp only
  rw [if_neg (nI_pos ho)]
  by_cases h : o < 16
  · rw [if_neg (show ¬ (16 : Int32) ≤ nI o from nI_ge (a := o) (b := 16) h (by decide)), if_pos (bIn_nI (by omega) (by decide)), nI_clamp (by omega), f_holds (by omega), Option.bind_some, hg.2.2.2.2.2.2.1 p o hp (by omega)]
    cases occ g p o <;> rfl
  · rw [if_pos (show (16 : Int32) ≤ nI o from nI_le (a := 16) (b := o) (by omega) ho)]
    cases h2 : occ g p o
    · rfl
    · exact absurd (occ_lt hw hp h2).1 h
theorem x_occ_neg {N : Nat} {σ : vS} {p a : Int32} (h : a < 0) : f_G_hasOccurrence N σ p a = some (0, σ) := by
  unfold f_G_hasOccurrence
  rw [if_pos h]
theorem x_dfn {N : Nat} {g : vA} {σ : vS} (hg : XG g σ) (hw : wfA g) {p o : Nat} (hp : p < gnp g) (ho : o < 2 ^ 31) : f_G_isToBeDefined N σ (nI p) (nI o) = some (b01 (dfn g p o), σ) := by
  have h10 := hw.2.2.2.1
  unfold f_G_isToBeDefined vlet
  rw [x_occ hg hw hp ho, Option.bind_some]
  dsimp only
  cases h : occ g p o
  · rw [if_pos (show b01 false = 0 from rfl)]
    unfold dfn
    rw [h]; rfl
  · have h16 := (occ_lt hw hp h).1
    rw [if_neg (by decide), if_pos (bIn_nI (by omega) (by decide)), nI_clamp (by omega), f_holds (by omega), Option.bind_some, hg.2.2.2.2.2.2.2.1 p o hp (by omega)]
    cases dfn g p o <;> rfl
theorem m_attributeOf {N : Nat} {g : vA} {σ : vS} (hg : MG g σ) (hw : wfA g) {p o : Nat} (hp : p < gnp g) (ho : o < 4 * gpo g p) : f_M_attributeOf N σ (nI p) (nI o) = some (nI (4 * gsy g p (o / 4) + o % 4), σ) := by
  obtain ⟨g1, g2, g3, g4, g5, g6, g7, g8⟩ := hg
  have h10 := hw.2.2.2.1
  have h5 := hw.2.2.2.2.1 p hp
  unfold f_M_attributeOf vlet
  dsimp only
  rw [show (4 : Int32) * nI p = nI (4 * p) from pk_mul 4 _, show nI o / (4 : Int32) = nI (o / 4) from pk_div (d := 4) (by omega) (by decide) (by decide), nI_add, if_pos (bIn_nI (by omega) (by decide)), nI_clamp (by omega), g6 p (o / 4) hp (by omega), show (4 : Int32) * nI (gsy g p (o / 4)) = nI (4 * gsy g p (o / 4)) from pk_mul 4 _]
  have e4 : nI o - nI (o / 4) * (4 : Int32) = nI (o % 4) := by
    have := pk_rem (a := o) (d := 4) (by omega) (by decide) (by decide)
    rw [pk_div (by omega) (by decide) (by decide)] at this
    exact this
  rw [e4, nI_add]
theorem m_dfn {N : Nat} {g : vA} {σ : vS} (hg : MG g σ) (hw : wfA g) {p o : Nat} (hp : p < gnp g) (ho : o < 2 ^ 31) : f_M_isDefined N σ (nI p) (nI o) = some (b01 (dfn g p o), σ) := by
  have h6 := hw.1
  unfold f_M_isDefined f_M_isDefined_30 vlet
  rw [m_occ hg hw hp ho, Option.bind_some]
  dsimp only
  cases h : occ g p o
  · rw [if_pos (show b01 false = 0 from rfl)]
    unfold dfn
    rw [h]; rfl
  · obtain ⟨h16, h4, hat⟩ := occ_lt hw hp h
    have hs := hw.2.2.2.2.2.1 p (o / 4) hp (by omega)
    rw [if_neg (by decide), m_attributeOf hg hw hp h4, Option.bind_some]
    dsimp only
    rw [if_pos (bIn_nI (by omega) (by decide)), nI_clamp (by omega), hg.2.2.2.1 _ (o % 4) hs (by omega)]
    unfold dfn
    rw [h, Bool.true_and]
    by_cases h3 : 4 ≤ o
    · rw [if_neg (show ¬ nI o ≤ (3 : Int32) from nI_ge (a := 3) (b := o) (by omega) ho), decide_eq_true h3]
      cases gih g (gsy g p (o / 4)) (o % 4) <;> rfl
    · rw [if_pos (show nI o ≤ (3 : Int32) from nI_le (a := o) (b := 3) (by omega) (by decide)), decide_eq_false h3]
      cases gih g (gsy g p (o / 4)) (o % 4) <;> rfl
