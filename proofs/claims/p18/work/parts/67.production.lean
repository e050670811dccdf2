/-! production, on both sides. -/
def iS (g : vA) (a : Int32) : Bool := decide (0 ≤ a.toInt ∧ a.toInt < gns g)
theorem iS_nI {g : vA} (hw : wfA g) {a : Int32} (h : iS g a = true) : ∃ s, s < gns g ∧ a = nI s := by
  have h1 := of_decide_eq_true h
  exact vp_in_of (vp_in_iff.mpr h1) (by have := hw.1; omega)
theorem nI_iS {g : vA} (hw : wfA g) {s : Nat} (hs : s < gns g) : iS g (nI s) = true := by
  have := hw.1
  refine decide_eq_true ?_
  rw [nI_toInt (by omega)]
  omega
theorem iS_m1 {g : vA} : iS g (-1) = false := decide_eq_false (fun h => absurd h.1 (by decide))
theorem m_isS {N : Nat} {g : vA} {σ : vS} (hg : MG g σ) (hw : wfA g) (a : Int32) : f_M_isSymbol N σ a = some (b01 (iS g a), σ) := by
  rcases m_isSymbol (N := N) hg hw a with ⟨s, hs, e, h⟩ | ⟨h1, h⟩
  · rw [h, e, nI_iS hw hs]; rfl
  · have h2 : iS g a = false := by
      cases h3 : iS g a
      · rfl
      · obtain ⟨s, hs, e⟩ := iS_nI hw h3
        exact absurd e (h1 s hs)
    rw [h, h2]; rfl
theorem x_isS {N : Nat} {g : vA} {σ : vS} (hg : XG g σ) (hw : wfA g) (a : Int32) : f_G_hasSymbol N σ a = some (b01 (iS g a), σ) := by
  rcases x_hasSymbol (N := N) hg hw a with ⟨s, hs, e, h⟩ | ⟨h1, h⟩
  · rw [h, e, nI_iS hw hs]; rfl
  · have h2 : iS g a = false := by
      cases h3 : iS g a
      · rfl
      · obtain ⟨s, hs, e⟩ := iS_nI hw h3
        exact absurd e (h1 s hs)
    rw [h, h2]; rfl
/-- the symbols may stand so on the right -/
def rgt (g : vA) (a1 a2 a3 : Int32) : Bool := if a1 = -1 then decide (a2 = -1) && decide (a3 = -1) else if a2 = -1 then iS g a1 && decide (a3 = -1) else iS g a1 && iS g a2 && (decide (a3 = -1) || iS g a3)
theorem x_isRight {N : Nat} {g : vA} {σ : vS} (hg : XG g σ) (hw : wfA g) (a1 a2 a3 : Int32) : f_G_isRight N σ a1 a2 a3 = some (b01 (rgt g a1 a2 a3), σ) := by
  unfold f_G_isRight f_G_isRight_74 rgt
  simp only [x_isS hg hw, Option.bind_some]
  by_cases h1 : a1 = -1
  · rw [if_pos h1, if_pos h1]
    by_cases h2 : a2 = -1
    · rw [if_pos h2]
      by_cases h3 : a3 = -1
      · rw [if_pos h3, decide_eq_true h2, decide_eq_true h3]; rfl
      · rw [if_neg h3, decide_eq_false h3, Bool.and_false]; rfl
    · rw [if_neg h2, decide_eq_false h2]; rfl
  · rw [if_neg h1, if_neg h1]
    by_cases h2 : a2 = -1
    · rw [if_pos h2, if_pos h2]
      cases iS g a1
      · rfl
      · by_cases h3 : a3 = -1
        · rw [if_pos h3, decide_eq_true h3]; rfl
        · rw [if_neg h3, decide_eq_false h3]; rfl
    · rw [if_neg h2, if_neg h2]
      cases iS g a1
      · rfl
      · cases iS g a2
        · rfl
        · by_cases h3 : a3 = -1
          · rw [if_pos h3, decide_eq_true h3]; rfl
          · rw [if_neg h3, decide_eq_false h3]
            cases iS g a3 <;> rfl
theorem m_production_eq {N : Nat} {g : vA} {σ : vS} (hg : MG g σ) (hw : wfA g) (a0 a1 a2 a3 : Int32) : f_M_production N σ a0 a1 a2 a3 = f_M_production_121 N σ a0 a1 a2 a3 (if iS g a0 && rgt g a1 a2 a3 then (if σ.1 2 = 10 then 2 else 0) else 1) := by
  have f77 : ∀ x5 x6 y0 : Bool, f_M_production_77 N σ a0 a1 a2 a3 (b01 x5) (b01 x6) (b01 y0) = f_M_production_121 N σ a0 a1 a2 a3 (if iS g a0 && (x5 && x6 && y0) then (if σ.1 2 = 10 then 2 else 0) else 1) := by
    intro x5 x6 y0
    unfold f_M_production_77 f_M_production_103
    simp only [m_isS hg hw, Option.bind_some]
    cases iS g a0
    · rfl
    · cases x5
      · rfl
      · cases x6
        · rfl
        · cases y0
          · rfl
          · by_cases h : σ.1 2 = 10
            · simp [b01, h]
            · simp [b01, h]
  have f55 : ∀ x5 x6 : Bool, f_M_production_55 N σ a0 a1 a2 a3 (b01 x5) (b01 x6) = f_M_production_121 N σ a0 a1 a2 a3 (if iS g a0 && (x5 && x6 && (decide (a3 = -1) || iS g a3)) then (if σ.1 2 = 10 then 2 else 0) else 1) := by
    intro x5 x6
    unfold f_M_production_55 f_M_production_72
    simp only [m_isS hg hw, Option.bind_some]
    by_cases h3 : a3 = -1
    · rw [if_pos h3, decide_eq_true h3]
      exact f77 x5 x6 true
    · rw [if_neg h3, decide_eq_false h3]
      cases h : iS g a3
      · exact f77 x5 x6 false
      · exact f77 x5 x6 true
  have f29 : ∀ x5 : Bool, f_M_production_29 N σ a0 a1 a2 a3 (b01 x5) = f_M_production_121 N σ a0 a1 a2 a3 (if iS g a0 && (x5 && (if a2 = -1 then decide (a3 = -1) else iS g a2) && (decide (a3 = -1) || iS g a3)) then (if σ.1 2 = 10 then 2 else 0) else 1) := by
    intro x5
    unfold f_M_production_29
    simp only [m_isS hg hw, Option.bind_some]
    by_cases h2 : a2 = -1
    · rw [if_pos h2, if_pos h2]
      by_cases h3 : a3 = -1
      · rw [if_pos h3, decide_eq_true h3]
        have := f55 x5 true
        rw [decide_eq_true h3] at this
        exact this
      · rw [if_neg h3, decide_eq_false h3]
        have := f55 x5 false
        rw [decide_eq_false h3] at this
        exact this
    · rw [if_neg h2, if_neg h2]
      exact f55 x5 (iS g a2)
  have all : f_M_production N σ a0 a1 a2 a3 = f_M_production_121 N σ a0 a1 a2 a3 (if iS g a0 && ((if a1 = -1 then decide (a2 = -1) && decide (a3 = -1) else iS g a1) && (if a2 = -1 then decide (a3 = -1) else iS g a2) && (decide (a3 = -1) || iS g a3)) then (if σ.1 2 = 10 then 2 else 0) else 1) := by
    unfold f_M_production f_M_production_20
    simp only [m_isS hg hw, Option.bind_some]
    by_cases h1 : a1 = -1
    · rw [if_pos h1, if_pos h1]
      by_cases h2 : a2 = -1
      · by_cases h3 : a3 = -1
        · rw [if_pos h2, if_pos h3, decide_eq_true h2, decide_eq_true h3]
          have := f29 true
          rw [decide_eq_true h3] at this
          exact this
        · rw [if_pos h2, if_neg h3, decide_eq_true h2, decide_eq_false h3]
          have := f29 false
          rw [decide_eq_false h3] at this
          exact this
      · rw [if_neg h2, decide_eq_false h2]
        exact f29 false
    · rw [if_neg h1, if_neg h1]
      exact f29 (iS g a1)
  rw [all]
  have e : ((if a1 = -1 then decide (a2 = -1) && decide (a3 = -1) else iS g a1) && (if a2 = -1 then decide (a3 = -1) else iS g a2) && (decide (a3 = -1) || iS g a3)) = rgt g a1 a2 a3 := by
    unfold rgt
    by_cases h1 : a1 = -1 <;> by_cases h2 : a2 = -1 <;> by_cases h3 : a3 = -1 <;> simp [h1, h2, h3, iS_m1]
  rw [e]
