/-! rule, both sides, as a whole. -/
theorem m_rule_none {N : Nat} {σ : vS} {a o f x y : Int32} : f_M_rule_13 N σ a o f x y = some (0, sf σ 0 1) := by
  unfold f_M_rule_13 f_M_rule_18 vlet
  dsimp only
  rw [sf_1, if_neg (by decide)]
theorem m_rule_out {N : Nat} {g : vA} {σ : vS} (hg : MG g σ) {a o f x y : Int32} (h : a < 0 ∨ nI (gnp g) ≤ a) : f_M_rule N σ a o f x y = some (0, sf σ 0 1) := by
  unfold f_M_rule
  by_cases h0 : a < 0
  · rw [if_pos h0, m_rule_none]
  · have h1 := h.resolve_left h0
    have h2 : ¬ a < nI (gnp g) := fun h9 => by
      rw [Int32.lt_iff_toInt_lt] at h9
      rw [Int32.le_iff_toInt_le] at h1
      omega
    rw [if_neg h0, hg.2.1, if_neg h2, m_rule_none]
theorem m_rule_in {N : Nat} {g : vA} {σ : vS} (hg : MG g σ) (hw : wfA g) {p : Nat} (hp : p < gnp g) (o f x y : Int32) : f_M_rule N σ (nI p) o f x y = f_M_rule_102 N (sf σ 0 0) (nI p) o f x y (if rB g p o f x y = true then 0 else 2) := by
  have h10 := hw.2.2.2.1
  unfold f_M_rule
  rw [if_neg (nI_pos (by omega)), hg.2.1, if_pos (nI_lt hp (by omega)), m_rule_eq hg hw hp]
theorem rB_ex {g : vA} (hw : wfA g) {p : Nat} (hp : p < gnp g) {o f x y : Int32} (h : rB g p o f x y = true) : ∃ o' f', o = nI o' ∧ o' < 16 ∧ dfn g p o' = true ∧ f = nI f' ∧ f' < 8 ∧ (1 ≤ nds f' → ∃ u, u < 16 ∧ x = nI u ∧ occ g p u = true) ∧ (2 ≤ nds f' → ∃ u, u < 16 ∧ y = nI u ∧ occ g p u = true) := by
  simp only [rB, fB, Bool.and_eq_true, Bool.or_eq_true] at h
  obtain ⟨h1, ⟨h2, h2'⟩, h3, h4⟩ := h
  obtain ⟨o', a1, a2, a3⟩ := dB_ex hw hp h1
  obtain ⟨f', b1, b2⟩ := Nn.lt (x := f) (n := 7) (k := 8) (of_decide_eq_true h2) (by decide) (by decide) (of_decide_eq_true h2')
  rw [b2, nI_clamp (by omega)] at h3 h4
  refine ⟨o', f', a2, a1, a3, b2, by omega, fun c => ?_, fun c => ?_⟩
  · exact oB_ex hw hp (h3.resolve_left (fun d => absurd (of_decide_eq_true d) (by omega)))
  · exact oB_ex hw hp (h4.resolve_left (fun d => absurd (of_decide_eq_true d) (by omega)))
theorem x_hasP {N : Nat} {g : vA} {σ : vS} (hg : XG g σ) (hw : wfA g) {p : Nat} (hp : p < gnp g) : f_G_hasProduction N σ (nI p) = some (1, σ) := by
  have h10 := hw.2.2.2.1
  rcases x_hasProduction (N := N) hg hw (nI p) with ⟨_, _, _, h⟩ | ⟨h, _⟩
  · exact h
  · rcases h with h | h
    · exact absurd h (nI_pos (by omega))
    · exact absurd h (nI_ge hp (by omega))
theorem x_rule_out {N : Nat} {g : vA} {σ : vS} (hg : XG g σ) (hw : wfA g) {a o f x y : Int32} (h : a < 0 ∨ nI (gnp g) ≤ a) : f_V_rule N σ a o f x y = some ((3, 0), σ) := by
  have h10 := hw.2.2.2.1
  unfold f_V_rule
  rcases x_hasProduction (N := N) hg hw a with ⟨p, hp, e, _⟩ | ⟨_, h2⟩
  · rcases h with h | h
    · rw [e] at h
      exact absurd h (nI_pos (by omega))
    · rw [e] at h
      exact absurd h (nI_ge hp (by omega))
  · rw [h2, Option.bind_some]
    dsimp only
    rw [if_pos rfl]
theorem x_rule_bad {N : Nat} {g : vA} {σ : vS} (hg : XG g σ) (hw : wfA g) {p : Nat} (hp : p < gnp g) {o f x y : Int32} (h : rB g p o f x y = false) : f_V_rule N σ (nI p) o f x y = some ((1, 0), σ) := by
  unfold f_V_rule
  rw [x_hasP hg hw hp, Option.bind_some]
  dsimp only
  rw [if_neg (by decide), x_dB hg hw hp, Option.bind_some]
  dsimp only
  unfold rB at h
  cases hd : dB g p o
  · rw [if_pos (show b01 false = 0 from rfl)]
  · rw [hd, Bool.true_and] at h
    rw [if_neg (by decide), x_isForm hg hw hp, Option.bind_some, h]
    dsimp only
    rw [if_pos (show b01 false = 0 from rfl)]
theorem x_rule_ok {N : Nat} {g : vA} {σ : vS} (hg : XG g σ) (hw : wfA g) {p o f : Nat} (hp : p < gnp g) (ho : o < 16) (h8 : f < 8) {x y : Int32} (h : rB g p (nI o) (nI f) x y = true) (h1 : 1 ≤ nds f → ∃ u, u < 16 ∧ x = nI u) (h2 : 2 ≤ nds f → ∃ u, u < 16 ∧ y = nI u) : Ok (f_V_rule N σ (nI p) (nI o) (nI f) x y) (fun v => v.1 = (0, 0) ∧ XG (gRule g p o (f, x, y)) v.2 ∧ v.2.1 2 = 0 ∧ v.2.1 9 = 0 ∧ (∀ k, k ≠ 2 → k ≠ 9 → v.2.1 k = σ.1 k) ∧ ∀ a, a ≠ 6 → a ≠ 7 → a ≠ 8 → a ≠ 9 → a ≠ 10 → v.2.2 a = σ.2 a) := by
  unfold f_V_rule
  rw [x_hasP hg hw hp, Option.bind_some]
  dsimp only
  rw [if_neg (by decide), x_dB hg hw hp, Option.bind_some]
  dsimp only
  unfold rB at h
  rw [Bool.and_eq_true] at h
  rw [h.1, if_neg (by decide), x_isForm hg hw hp, Option.bind_some, h.2]
  dsimp only
  rw [if_neg (by decide), x_drop, Option.bind_some]
  dsimp only
  obtain ⟨τ, eτ⟩ : ∃ τ, τ = sf (sf σ 2 0) 9 0 := ⟨_, rfl⟩
  rw [← eτ]
  have hg1 : XG g τ := hg.stay (by rw [eτ, sf_1n (by decide), sf_1n (by decide)]) (by rw [eτ, sf_1n (by decide), sf_1n (by decide)]) (fun a _ => by rw [eτ]; rfl)
  refine ok_bi (x_setRule hw hp ho h8) (fun q hq => ok_some ?_)
  dsimp only
  have hx := XG_rule hg1 hp ho h1 h2 hq
  obtain ⟨s1, s2, s3, s4, s5, s6, s7, s8, s9⟩ := hq
  exact ⟨rfl, hx, by rw [s1, eτ, sf_1n (by decide), sf_1], by rw [s1, eτ, sf_1], fun k k2 k9 => by rw [s1, eτ, sf_1n k9, sf_1n k2], fun a a6 a7 a8 a9 a10 => by rw [s9 a a6 a7 a8 a9 a10, eτ]; rfl⟩
