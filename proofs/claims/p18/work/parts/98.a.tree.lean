/-! The tree by itself: how many nodes; of each its production, token, parent and children. -/
abbrev vT : Type := Nat × (Nat → Nat) × (Nat → Int32) × (Nat → Option Nat) × (Nat → Nat → Option Nat)
def tN (t : vT) : Nat := t.1
def tPr (t : vT) : Nat → Nat := t.2.1
def tTo (t : vT) : Nat → Int32 := t.2.2.1
def tPa (t : vT) : Nat → Option Nat := t.2.2.2.1
def tCh (t : vT) : Nat → Nat → Option Nat := t.2.2.2.2
def wfT (g : vA) (t : vT) : Prop := tN t ≤ 40 ∧ (∀ k, k < tN t → tPr t k < gnp g) ∧ (∀ k q, k < tN t → 1 ≤ q → q < gpo g (tPr t k) → ∃ c, c < k ∧ tCh t k q = some c ∧ tPa t c = some k ∧ gsy g (tPr t c) 0 = gsy g (tPr t k) q) ∧ (∀ k q, k < tN t → gpo g (tPr t k) ≤ q → q < 4 → tCh t k q = none) ∧ (∀ k m, k < tN t → tPa t k = some m → k < m ∧ m < tN t ∧ ∃ q, 1 ≤ q ∧ q < gpo g (tPr t m) ∧ tCh t m q = some k) ∧ ∀ k q q' c, k < tN t → 1 ≤ q → 1 ≤ q' → q < 4 → q' < 4 → tCh t k q = some c → tCh t k q' = some c → q = q'
def XT (t : vT) (σ : vS) : Prop := σ.1 8 = nI (tN t) ∧ ∀ k, k < tN t → σ.2 19 k = nI (tPr t k) ∧ σ.2 20 k = tTo t k ∧ σ.2 21 k = oI (tPa t k) ∧ σ.2 22 (4 * k) = nI k ∧ ∀ q, 1 ≤ q → q < 4 → σ.2 22 (4 * k + q) = oI (tCh t k q)
def MT (t : vT) (σ : vS) : Prop := σ.1 7 = nI (tN t) ∧ ∀ k, k < tN t → σ.2 17 k = nI (tPr t k) ∧ σ.2 18 k = tTo t k ∧ σ.2 20 k = oI (tPa t k) ∧ ∀ q, 1 ≤ q → q < 4 → σ.2 19 (3 * k + q - 1) = oI (tCh t k q)
theorem XT.stay {t : vT} {σ τ : vS} (h : XT t σ) (h8 : τ.1 8 = σ.1 8) (ha : ∀ a, 19 ≤ a → a < 23 → τ.2 a = σ.2 a) : XT t τ := by
  unfold XT
  rw [h8, ha 19 (by decide) (by decide), ha 20 (by decide) (by decide), ha 21 (by decide) (by decide), ha 22 (by decide) (by decide)]
  exact h
theorem MT.stay {t : vT} {σ τ : vS} (h : MT t σ) (h7 : τ.1 7 = σ.1 7) (ha : ∀ a, 17 ≤ a → a < 21 → τ.2 a = σ.2 a) : MT t τ := by
  unfold MT
  rw [h7, ha 17 (by decide) (by decide), ha 18 (by decide) (by decide), ha 19 (by decide) (by decide), ha 20 (by decide) (by decide)]
  exact h
def tE : vT := (0, fun _ => 0, fun _ => 0, fun _ => none, fun _ _ => none)
theorem wfTE {g : vA} : wfT g tE := ⟨by decide, fun k h => absurd h (Nat.not_lt_zero _), fun k q h => absurd h (Nat.not_lt_zero _), fun k q h => absurd h (Nat.not_lt_zero _), fun k m h => absurd h (Nat.not_lt_zero _), fun k q q' c h => absurd h (Nat.not_lt_zero _)⟩
theorem oI_eq {a b : Option Nat} (ha : ∀ j, a = some j → j < 2 ^ 31) (hb : ∀ j, b = some j → j < 2 ^ 31) (h : oI a = oI b) : a = b := by
  cases a with
  | none =>
    cases b with
    | none => rfl
    | some j => exact absurd h.symm (nI_nm1 (hb j rfl))
  | some i =>
    cases b with
    | none => exact absurd h (nI_nm1 (ha i rfl))
    | some j => rw [(nI_eq (ha i rfl) (hb j rfl)).mp h]
theorem oI_none {a : Option Nat} (ha : ∀ j, a = some j → j < 2 ^ 31) : oI a = -1 ↔ a = none := by
  cases a with
  | none => exact ⟨fun _ => rfl, fun _ => rfl⟩
  | some i => exact ⟨fun h => absurd h (nI_nm1 (ha i rfl)), fun h => by cases h⟩
/-- c may be the child at position q of a node of production p -/
def fit (g : vA) (t : vT) (p q : Nat) (c : Int32) : Bool := if gpo g p ≤ q then decide (c = -1) else (decide (¬ c < 0 ∧ ¬ nI (tN t) ≤ c) && ((tPa t c.toNatClampNeg).isNone && decide (gsy g (tPr t c.toNatClampNeg) 0 = gsy g p q)))
theorem fit_ex {g : vA} {t : vT} (hT : wfT g t) {p q : Nat} {c : Int32} (h : fit g t p q c = true) : ∃ o : Option Nat, c = oI o ∧ (gpo g p ≤ q → o = none) ∧ (q < gpo g p → ∃ j, o = some j ∧ j < tN t ∧ tPa t j = none ∧ gsy g (tPr t j) 0 = gsy g p q) := by
  have h40 := hT.1
  unfold fit at h
  by_cases e : gpo g p ≤ q
  · rw [if_pos e] at h
    exact ⟨none, of_decide_eq_true h, fun _ => rfl, fun h9 => by omega⟩
  · rw [if_neg e, Bool.and_eq_true, Bool.and_eq_true, decide_eq_true_iff, decide_eq_true_iff] at h
    obtain ⟨⟨h1, h2⟩, h3, h4⟩ := h
    rcases pk_ix c (n := tN t) (by omega) with h9 | h9 | ⟨j, hj, ej⟩
    · exact absurd h9 h1
    · exact absurd h9 h2
    · rw [ej, nI_clamp (by omega)] at h3 h4
      exact ⟨some j, ej, fun h9 => absurd h9 e, fun _ => ⟨j, rfl, hj, Option.isNone_iff_eq_none.mp h3, h4⟩⟩
theorem x_symbolOf {N : Nat} {g : vA} {t : vT} {σ : vS} (hg : XG g σ) (hw : wfA g) (hT : wfT g t) (hX : XT t σ) {k : Nat} (hk : k < tN t) : f_Z_symbolOf N σ (nI k) = some (nI (gsy g (tPr t k) 0), σ) := by
  have h40 := hT.1
  have hp := hT.2.1 k hk
  have h5 := hw.2.2.2.2.1 _ hp
  have sa0 : f_G_symbolAt N σ (nI (tPr t k)) 0 = some (nI (gsy g (tPr t k) 0), σ) := x_symbolAt (q := 0) hg hw hp (by omega)
  unfold f_Z_symbolOf vlet
  dsimp only
  rw [if_pos (bIn_nI (by omega) (by decide)), nI_clamp (by omega), (hX.2 k hk).1, sa0, Option.bind_some]
theorem x_hasNode {N : Nat} {t : vT} {σ : vS} (hX : XT t σ) (c : Int32) : f_Z_hasNode N σ c = some (b01 (decide (¬ c < 0 ∧ ¬ nI (tN t) ≤ c)), σ) := by
  unfold f_Z_hasNode
  rw [hX.1]
  by_cases h0 : c < 0
  · rw [if_pos h0, decide_eq_false (fun h => h.1 h0)]; rfl
  · by_cases h1 : nI (tN t) ≤ c
    · rw [if_neg h0, if_pos h1, decide_eq_false (fun h => h.2 h1)]; rfl
    · rw [if_neg h0, if_neg h1, decide_eq_true ⟨h0, h1⟩]; rfl
theorem m_isNode {N : Nat} {t : vT} {σ : vS} (hX : MT t σ) (c : Int32) : f_M_isNode N σ c = some (b01 (decide (¬ c < 0 ∧ ¬ nI (tN t) ≤ c)), σ) := by
  unfold f_M_isNode
  rw [hX.1]
  by_cases h0 : c < 0
  · rw [if_pos h0, decide_eq_false (fun h => h.1 h0)]; rfl
  · by_cases h1 : nI (tN t) ≤ c
    · rw [if_neg h0, if_pos h1, decide_eq_false (fun h => h.2 h1)]; rfl
    · rw [if_neg h0, if_neg h1, decide_eq_true ⟨h0, h1⟩]; rfl
theorem pa_31 {g : vA} {t : vT} (hT : wfT g t) {k : Nat} (hk : k < tN t) : ∀ j, tPa t k = some j → j < 2 ^ 31 := fun j h => by
  have h40 := hT.1
  have := (hT.2.2.2.2.1 k j hk h).2.1
  omega
theorem isNone_d {t : vT} {g : vA} (hT : wfT g t) {k : Nat} (hk : k < tN t) : (tPa t k).isNone = decide (oI (tPa t k) = -1) := by
  have := oI_none (pa_31 hT hk)
  cases h : tPa t k with
  | none => rfl
  | some j =>
    rw [decide_eq_false (fun h9 => by rw [h] at this; cases this.mp h9)]
    rfl
theorem x_canBeChild {N : Nat} {g : vA} {t : vT} {σ : vS} (hg : XG g σ) (hw : wfA g) (hT : wfT g t) (hX : XT t σ) {p q : Nat} (hp : p < gnp g) (hq : q < 4) (c : Int32) : f_Z_canBeChild N σ (nI p) (nI q) c = some (b01 (fit g t p q c), σ) := by
  have h40 := hT.1
  have h10 := hw.2.2.2.1
  have h5 := hw.2.2.2.2.1 p hp
  unfold f_Z_canBeChild vlet fit
  dsimp only
  rw [if_pos (bIn_nI (by omega) (by decide)), nI_clamp (by omega), hg.2.2.2.2.1 p hp]
  by_cases e : gpo g p ≤ q
  · rw [if_neg (nI_ge (by omega) (by omega)), if_pos e]
    by_cases h9 : c = -1
    · rw [if_pos h9, decide_eq_true h9]; rfl
    · rw [if_neg h9, decide_eq_false h9]; rfl
  · rw [if_pos (nI_le (by omega) (by omega)), if_neg e, x_hasNode hX, Option.bind_some]
    dsimp only
    by_cases hc : ¬ c < 0 ∧ ¬ nI (tN t) ≤ c
    · rw [decide_eq_true hc, if_neg (by decide), Bool.true_and]
      rcases pk_ix c (n := tN t) (by omega) with h9 | h9 | ⟨j, hj, ej⟩
      · exact absurd h9 hc.1
      · exact absurd h9 hc.2
      · have hpj := hT.2.1 j hj
        rw [ej, if_pos (bIn_nI (by omega) (by decide)), nI_clamp (by omega), (hX.2 j hj).2.2.1, isNone_d hT hj]
        by_cases e2 : oI (tPa t j) = -1
        · rw [if_pos e2, decide_eq_true e2, Bool.true_and, x_symbolOf hg hw hT hX hj, Option.bind_some]
          dsimp only
          rw [x_symbolAt hg hw hp (by omega), Option.bind_some]
          dsimp only
          have s1 := hw.2.2.2.2.2.1 _ 0 hpj (by have := hw.2.2.2.2.1 _ hpj; omega)
          have s2 := hw.2.2.2.2.2.1 p q hp (by omega)
          have h6 := hw.1
          by_cases e3 : gsy g (tPr t j) 0 = gsy g p q
          · rw [if_pos (by rw [e3]), decide_eq_true e3]; rfl
          · rw [if_neg (fun h9 => e3 ((nI_eq (by omega) (by omega)).mp h9)), decide_eq_false e3]; rfl
        · rw [if_neg e2, decide_eq_false e2, Bool.false_and]; rfl
    · rw [decide_eq_false hc, if_pos (show b01 false = 0 from rfl), Bool.false_and]; rfl
theorem m_fits {N : Nat} {g : vA} {t : vT} {σ : vS} (hg : MG g σ) (hw : wfA g) (hT : wfT g t) (hX : MT t σ) {p q : Nat} (hp : p < gnp g) (hq : q < 4) (c : Int32) : f_M_fits N σ (nI p) (nI q) c = some (b01 (fit g t p q c), σ) := by
  have h40 := hT.1
  have h10 := hw.2.2.2.1
  have h5 := hw.2.2.2.2.1 p hp
  unfold f_M_fits vlet fit
  dsimp only
  rw [if_pos (bIn_nI (by omega) (by decide)), nI_clamp (by omega), hg.2.2.2.2.1 p hp]
  by_cases e : gpo g p ≤ q
  · rw [if_neg (nI_nlt e (by omega)), if_pos e]
    by_cases h9 : c = -1
    · rw [if_pos h9, decide_eq_true h9]; rfl
    · rw [if_neg h9, decide_eq_false h9]; rfl
  · rw [if_pos (nI_lt (by omega) (by omega)), if_neg e, hX.1]
    by_cases h0 : c < 0
    · rw [if_pos h0, decide_eq_false (fun h => h.1 h0), Bool.false_and]; rfl
    · by_cases h1 : nI (tN t) ≤ c
      · rw [if_neg h0, if_pos h1, decide_eq_false (fun h => h.2 h1), Bool.false_and]; rfl
      · rw [if_neg h0, if_neg h1, decide_eq_true ⟨h0, h1⟩, Bool.true_and]
        rcases pk_ix c (n := tN t) (by omega) with h9 | h9 | ⟨j, hj, ej⟩
        · exact absurd h9 h0
        · exact absurd h9 h1
        · have hpj := hT.2.1 j hj
          rw [ej, if_pos (bIn_nI (by omega) (by decide)), if_pos (bIn_nI (by omega) (by decide)), nI_clamp (by omega), (hX.2 j hj).2.2.1, isNone_d hT hj]
          by_cases e2 : oI (tPa t j) = -1
          · have s1 := hw.2.2.2.2.2.1 _ 0 hpj (by have := hw.2.2.2.2.1 _ hpj; omega)
            have s2 := hw.2.2.2.2.2.1 p q hp (by omega)
            have h6 := hw.1
            have g0 := hg.2.2.2.2.2.1 _ 0 hpj (by have := hw.2.2.2.2.1 _ hpj; omega)
            rw [show 4 * tPr t j + 0 = 4 * tPr t j by omega] at g0
            rw [if_pos e2, decide_eq_true e2, Bool.true_and, (hX.2 j hj).1, show (4 : Int32) * nI (tPr t j) = nI (4 * tPr t j) from pk_mul 4 _, show (4 : Int32) * nI p = nI (4 * p) from pk_mul 4 _, nI_add, if_pos (bIn_nI (by omega) (by decide)), if_pos (bIn_nI (by omega) (by decide)), nI_clamp (by omega), nI_clamp (by omega), g0, hg.2.2.2.2.2.1 p q hp (by omega)]
            by_cases e3 : gsy g (tPr t j) 0 = gsy g p q
            · rw [if_pos (by rw [e3]), decide_eq_true e3]; rfl
            · rw [if_neg (fun h9 => e3 ((nI_eq (by omega) (by omega)).mp h9)), decide_eq_false e3]; rfl
          · rw [if_neg e2, decide_eq_false e2, Bool.false_and]; rfl
/-- the children of a node of production p -/
def nB (g : vA) (t : vT) (p : Nat) (c1 c2 c3 : Int32) : Bool := fit g t p 1 c1 && (fit g t p 2 c2 && (fit g t p 3 c3 && ((decide (c1 = -1) || (decide (c1 ≠ c2) && decide (c1 ≠ c3))) && (decide (c2 = -1) || decide (c2 ≠ c3)))))
theorem x_canBeChildren {N : Nat} {g : vA} {t : vT} {σ : vS} (hg : XG g σ) (hw : wfA g) (hT : wfT g t) (hX : XT t σ) {p : Nat} (hp : p < gnp g) (c1 c2 c3 : Int32) : f_Z_canBeChildren N σ (nI p) c1 c2 c3 = some (b01 (nB g t p c1 c2 c3), σ) := by
  have f47 : f_Z_canBeChildren_47 N σ c2 c3 = some (b01 (decide (c2 = -1) || decide (c2 ≠ c3)), σ) := by
    unfold f_Z_canBeChildren_47 f_Z_canBeChildren_58
    by_cases h : c2 = -1
    · rw [if_pos h, decide_eq_true h]; rfl
    · by_cases h2 : c2 = c3
      · rw [if_neg h, if_pos h2, decide_eq_false h, decide_eq_false (fun h9 => h9 h2)]; rfl
      · rw [if_neg h, if_neg h2, decide_eq_false h, decide_eq_true h2]; rfl
  have m1 : f_Z_canBeChild N σ (nI p) 1 c1 = some (b01 (fit g t p 1 c1), σ) := x_canBeChild (q := 1) hg hw hT hX hp (by decide) c1
  have m2 : f_Z_canBeChild N σ (nI p) 2 c2 = some (b01 (fit g t p 2 c2), σ) := x_canBeChild (q := 2) hg hw hT hX hp (by decide) c2
  have m3 : f_Z_canBeChild N σ (nI p) 3 c3 = some (b01 (fit g t p 3 c3), σ) := x_canBeChild (q := 3) hg hw hT hX hp (by decide) c3
  unfold f_Z_canBeChildren nB
  rw [m1, Option.bind_some]
  dsimp only
  cases fit g t p 1 c1
  · rw [if_pos (show b01 false = 0 from rfl)]; rfl
  · rw [if_neg (by decide), m2, Option.bind_some]
    dsimp only
    cases fit g t p 2 c2
    · rw [if_pos (show b01 false = 0 from rfl)]; rfl
    · rw [if_neg (by decide), m3, Option.bind_some]
      dsimp only
      cases fit g t p 3 c3
      · rw [if_pos (show b01 false = 0 from rfl)]; rfl
      · rw [if_neg (by decide), f47, Bool.true_and, Bool.true_and, Bool.true_and]
        by_cases h : c1 = -1
        · rw [if_pos h, decide_eq_true h, Bool.true_or, Bool.true_and]
        · rw [if_neg h, decide_eq_false h, Bool.false_or]
          by_cases h2 : c1 = c2
          · rw [if_pos h2, decide_eq_false (fun h9 => h9 h2), Bool.false_and, Bool.false_and]; rfl
          · rw [if_neg h2, decide_eq_true h2, Bool.true_and]
            by_cases h3 : c1 = c3
            · rw [if_pos h3, decide_eq_false (fun h9 => h9 h3), Bool.false_and]; rfl
            · rw [if_neg h3, decide_eq_true h3, Bool.true_and]
theorem m_node_eq {N : Nat} {g : vA} {t : vT} {σ : vS} (hg : MG g σ) (hw : wfA g) (hT : wfT g t) (hX : MT t σ) {p : Nat} (hp : p < gnp g) (tk c1 c2 c3 : Int32) : f_M_node N σ (nI p) tk c1 c2 c3 = f_M_node_117 N σ (nI p) tk c1 c2 c3 (if nB g t p c1 c2 c3 = true then (if tN t = 40 then 2 else 0) else 1) := by
  have h10 := hw.2.2.2.1
  have h40 := hT.1
  have f90 : f_M_node_90 N σ (nI p) tk c1 c2 c3 = f_M_node_117 N σ (nI p) tk c1 c2 c3 1 := by
    unfold f_M_node_90 f_M_node_91
    rw [if_pos rfl]
  have f48 : f_M_node_48 N σ (nI p) tk c1 c2 c3 = f_M_node_117 N σ (nI p) tk c1 c2 c3 1 := by
    unfold f_M_node_48 f_M_node_49
    rw [if_pos rfl, f90]
  have f86 : f_M_node_86 N σ (nI p) tk c1 c2 c3 = f_M_node_117 N σ (nI p) tk c1 c2 c3 (if tN t = 40 then 2 else 0) := by
    unfold f_M_node_86 f_M_node_91
    rw [if_neg (by decide), hX.1]
    by_cases h : tN t = 40
    · rw [if_pos h, h, if_pos (show nI 40 = (40 : Int32) from rfl)]
    · rw [if_neg h, if_neg (show ¬ nI (tN t) = (40 : Int32) from fun h9 => h ((nI_eq (a := tN t) (b := 40) (by omega) (by decide)).mp h9))]
  have f73 : f_M_node_73 N σ (nI p) tk c1 c2 c3 = f_M_node_117 N σ (nI p) tk c1 c2 c3 (if (decide (c2 = -1) || decide (c2 ≠ c3)) = true then (if tN t = 40 then 2 else 0) else 1) := by
    unfold f_M_node_73
    by_cases h : c2 = -1
    · rw [if_pos h, f86, decide_eq_true h, Bool.true_or, if_pos rfl]
    · by_cases h2 : c2 = c3
      · rw [if_neg h, if_pos h2, f90, decide_eq_false h, decide_eq_false (fun h9 => h9 h2)]; rfl
      · rw [if_neg h, if_neg h2, f86, decide_eq_false h, decide_eq_true h2]; rfl
  have m1 : f_M_fits N σ (nI p) 1 c1 = some (b01 (fit g t p 1 c1), σ) := m_fits (q := 1) hg hw hT hX hp (by decide) c1
  have m2 : f_M_fits N σ (nI p) 2 c2 = some (b01 (fit g t p 2 c2), σ) := m_fits (q := 2) hg hw hT hX hp (by decide) c2
  have m3 : f_M_fits N σ (nI p) 3 c3 = some (b01 (fit g t p 3 c3), σ) := m_fits (q := 3) hg hw hT hX hp (by decide) c3
  unfold f_M_node nB
  rw [if_neg (nI_pos (by omega)), hg.2.1, if_neg (nI_ge hp (by omega)), m1, Option.bind_some]
  dsimp only
  cases fit g t p 1 c1
  · rw [if_pos (show b01 false = 0 from rfl), f48]; rfl
  · rw [if_neg (by decide), m2, Option.bind_some]
    dsimp only
    cases fit g t p 2 c2
    · rw [if_pos (show b01 false = 0 from rfl), f48]; rfl
    · rw [if_neg (by decide), m3, Option.bind_some]
      dsimp only
      cases fit g t p 3 c3
      · rw [if_pos (show b01 false = 0 from rfl), f48]; rfl
      · rw [if_neg (by decide), Bool.true_and, Bool.true_and, Bool.true_and]
        unfold f_M_node_49
        rw [if_neg (by decide)]
        by_cases h : c1 = -1
        · rw [if_pos h, f73, decide_eq_true h, Bool.true_or, Bool.true_and]
        · rw [if_neg h, decide_eq_false h, Bool.false_or]
          by_cases h2 : c1 = c2
          · rw [if_pos h2, f90, decide_eq_false (fun h9 => h9 h2), Bool.false_and, Bool.false_and]; rfl
          · rw [if_neg h2, decide_eq_true h2, Bool.true_and]
            by_cases h3 : c1 = c3
            · rw [if_pos h3, f90, decide_eq_false (fun h9 => h9 h3), Bool.false_and]; rfl
            · rw [if_neg h3, f73, decide_eq_true h3, Bool.true_and]
