/-! The grammar by itself: symbols, productions, rules. Both sides stand for one such grammar. -/
abbrev vA : Type := (Nat × Nat) × (Nat → Nat) × (Nat → Nat → Bool) × (Nat → Nat) × (Nat → Nat → Nat) × (Nat → Nat → Option (Nat × Int32 × Int32))
def gns (g : vA) : Nat := g.1.1
def gnp (g : vA) : Nat := g.1.2
def gna (g : vA) : Nat → Nat := g.2.1
def gih (g : vA) : Nat → Nat → Bool := g.2.2.1
def gpo (g : vA) : Nat → Nat := g.2.2.2.1
def gsy (g : vA) : Nat → Nat → Nat := g.2.2.2.2.1
def grl (g : vA) : Nat → Nat → Option (Nat × Int32 × Int32) := g.2.2.2.2.2
/-- the occurrence o is there in production p -/
def occ (g : vA) (p o : Nat) : Bool := decide (o < 4 * gpo g p) && decide (o % 4 < gna g (gsy g p (o / 4)))
/-- it is to be defined there -/
def dfn (g : vA) (p o : Nat) : Bool := occ g p o && (gih g (gsy g p (o / 4)) (o % 4) == decide (4 ≤ o))
def nds (f : Nat) : Nat := if f < 2 then 0 else if f = 2 ∨ f = 7 then 1 else 2
/-- the rule of d uses o -/
def usd (g : vA) (p o d : Nat) : Bool := match grl g p d with
  | none => false
  | some r => (decide (1 ≤ nds r.1) && decide (r.2.1 = nI o)) || (decide (2 ≤ nds r.1) && decide (r.2.2 = nI o))
/-- a grammar as the calls make it -/
def wfA (g : vA) : Prop := gns g ≤ 6 ∧ (∀ s, s < gns g → gna g s ≤ 4) ∧ (∀ s a, s < gns g → gih g s a = true → a < gna g s) ∧ gnp g ≤ 10 ∧ (∀ p, p < gnp g → 1 ≤ gpo g p ∧ gpo g p ≤ 4) ∧ (∀ p q, p < gnp g → q < gpo g p → gsy g p q < gns g)
  ∧ ∀ p o r, p < gnp g → o < 16 → grl g p o = some r → dfn g p o = true ∧ r.1 < 8 ∧ (1 ≤ nds r.1 → ∃ u, u < 16 ∧ r.2.1 = nI u ∧ occ g p u = true) ∧ (2 ≤ nds r.1 → ∃ u, u < 16 ∧ r.2.2 = nI u ∧ occ g p u = true)
def b01 (b : Bool) : Int32 := if b = true then 1 else 0
/-- the reference stands for g -/
def MG (g : vA) (σ : vS) : Prop := σ.1 1 = nI (gns g) ∧ σ.1 2 = nI (gnp g) ∧ (∀ s, s < gns g → σ.2 0 s = nI (gna g s)) ∧ (∀ s a, s < gns g → a < 4 → σ.2 1 (4 * s + a) = b01 (gih g s a)) ∧ (∀ p, p < gnp g → σ.2 2 p = nI (gpo g p)) ∧ (∀ p q, p < gnp g → q < gpo g p → σ.2 3 (4 * p + q) = nI (gsy g p q))
  ∧ (∀ p o, p < gnp g → o < 16 → match grl g p o with
    | none => σ.2 4 (16 * p + o) = -1
    | some r => σ.2 4 (16 * p + o) = nI r.1 ∧ σ.2 5 (16 * p + o) = r.2.1 ∧ σ.2 6 (16 * p + o) = r.2.2)
  ∧ ∀ p o, gnp g ≤ p → p < 10 → o < 16 → σ.2 4 (16 * p + o) = -1
/-- the class stands for g -/
def XG (g : vA) (σ : vS) : Prop := σ.1 0 = nI (gns g) ∧ σ.1 1 = nI (gnp g) ∧ (∀ s, s < gns g → σ.2 0 s = nI (gna g s)) ∧ (∀ s i, s < gns g → i < 32 → bt (σ.2 1 s) i = gih g s i) ∧ (∀ p, p < gnp g → σ.2 3 p = nI (gpo g p - 1)) ∧ (∀ p q, p < gnp g → q < gpo g p → σ.2 2 (4 * p + q) = nI (gsy g p q))
  ∧ (∀ p i, p < gnp g → i < 32 → bt (σ.2 4 p) i = occ g p i) ∧ (∀ p i, p < gnp g → i < 32 → bt (σ.2 5 p) i = dfn g p i) ∧ (∀ p i, p < gnp g → i < 32 → bt (σ.2 6 p) i = (decide (i < 16) && (grl g p i).isSome))
  ∧ (∀ p o r, p < gnp g → o < 16 → grl g p o = some r → σ.2 7 (16 * p + o) = nI r.1 ∧ σ.2 8 (16 * p + o) = r.2.1 ∧ σ.2 9 (16 * p + o) = r.2.2)
  ∧ (∀ p o i, p < gnp g → o < 16 → i < 32 → bt (σ.2 10 (16 * p + o)) i = (decide (i < 16) && usd g p i o))
  ∧ ∀ p, gnp g ≤ p → p < 10 → σ.2 3 p = 0 ∧ σ.2 4 p = 0 ∧ σ.2 5 p = 0 ∧ σ.2 6 p = 0 ∧ ∀ o, o < 16 → σ.2 10 (16 * p + o) = 0
/-- the empty grammar, with which both begin -/
def gA0 : vA := ((0, 0), (fun _ => 0), (fun _ _ => false), (fun _ => 0), (fun _ _ => 0), (fun _ _ => none))
theorem wfA0 : wfA gA0 := ⟨by decide, fun s h => absurd h (Nat.not_lt_zero _), fun s a h => absurd h (Nat.not_lt_zero _), by decide, fun p h => absurd h (Nat.not_lt_zero _), fun p q h => absurd h (Nat.not_lt_zero _), fun p o r h => absurd h (Nat.not_lt_zero _)⟩
theorem MG0 : MG gA0 σm0 := ⟨rfl, rfl, fun s h => absurd h (Nat.not_lt_zero _), fun s a h => absurd h (Nat.not_lt_zero _), fun p h => absurd h (Nat.not_lt_zero _), fun p q h => absurd h (Nat.not_lt_zero _), fun p o h => absurd h (Nat.not_lt_zero _), fun p o _ _ _ => rfl⟩
theorem XG0 : XG gA0 σx0 := ⟨rfl, rfl, fun s h => absurd h (Nat.not_lt_zero _), fun s a h => absurd h (Nat.not_lt_zero _), fun p h => absurd h (Nat.not_lt_zero _), fun p q h => absurd h (Nat.not_lt_zero _), fun p o h => absurd h (Nat.not_lt_zero _), fun p o h => absurd h (Nat.not_lt_zero _), fun p o h => absurd h (Nat.not_lt_zero _), fun p o r h => absurd h (Nat.not_lt_zero _), fun p o i h => absurd h (Nat.not_lt_zero _), fun p _ _ => ⟨rfl, rfl, rfl, rfl, fun _ _ => rfl⟩⟩
/-! What the reference's small questions answer. -/
theorem m_isSymbol {N : Nat} {g : vA} {σ : vS} (hg : MG g σ) (hw : wfA g) (a : Int32) : (∃ s, s < gns g ∧ a = nI s ∧ f_M_isSymbol N σ a = some (1, σ)) ∨ ((∀ s, s < gns g → a ≠ nI s) ∧ f_M_isSymbol N σ a = some (0, σ)) := by
  have h6 := hw.1
  unfold f_M_isSymbol
  rcases pk_ix a (n := gns g) (by omega) with h | h | ⟨s, hs, e⟩
  · exact Or.inr ⟨fun s hs e => absurd h (by rw [e]; exact nI_pos (by omega)), by rw [if_pos h]⟩
  · refine Or.inr ⟨fun s hs e => ?_, ?_⟩
    · rw [e] at h
      exact absurd ((nI_leI (by omega) (by omega)).mp h) (by omega)
    · rw [hg.1]
      by_cases h0 : a < 0
      · rw [if_pos h0]
      · rw [if_neg h0, if_pos h]
  · refine Or.inl ⟨s, hs, e, ?_⟩
    rw [hg.1, e, if_neg (nI_pos (by omega)), if_neg (nI_ge hs (by omega))]
theorem x_hasSymbol {N : Nat} {g : vA} {σ : vS} (hg : XG g σ) (hw : wfA g) (a : Int32) : (∃ s, s < gns g ∧ a = nI s ∧ f_G_hasSymbol N σ a = some (1, σ)) ∨ ((∀ s, s < gns g → a ≠ nI s) ∧ f_G_hasSymbol N σ a = some (0, σ)) := by
  have h6 := hw.1
  unfold f_G_hasSymbol
  rcases pk_ix a (n := gns g) (by omega) with h | h | ⟨s, hs, e⟩
  · exact Or.inr ⟨fun s hs e => absurd h (by rw [e]; exact nI_pos (by omega)), by rw [if_pos h]⟩
  · refine Or.inr ⟨fun s hs e => ?_, ?_⟩
    · rw [e] at h
      exact absurd ((nI_leI (by omega) (by omega)).mp h) (by omega)
    · rw [hg.1]
      by_cases h0 : a < 0
      · rw [if_pos h0]
      · rw [if_neg h0, if_pos h]
  · refine Or.inl ⟨s, hs, e, ?_⟩
    rw [hg.1, e, if_neg (nI_pos (by omega)), if_neg (nI_ge hs (by omega))]
