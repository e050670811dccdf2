/-! learn as a whole, and circles. -/
def E3 (σ τ : vS) : Prop := τ.1 = σ.1 ∧ ∀ a, a ≠ 8 → a ≠ 9 → τ.2 a = σ.2 a
theorem E3.rf {σ : vS} : E3 σ σ := ⟨rfl, fun _ _ _ => rfl⟩
theorem E3.e8 {σ τ υ : vS} (h : E3 σ τ) (h' : E1 8 τ υ) : E3 σ υ := ⟨h'.1.trans h.1, fun a h1 h2 => (h'.2 a h1).trans (h.2 a h1 h2)⟩
theorem E3.e9 {σ τ υ : vS} (h : E3 σ τ) (h' : E1 9 τ υ) : E3 σ υ := ⟨h'.1.trans h.1, fun a h1 h2 => (h'.2 a h2).trans (h.2 a h1 h2)⟩
theorem E3.tr {σ τ υ : vS} (h : E3 σ τ) (h' : E3 τ υ) : E3 σ υ := ⟨h'.1.trans h.1, fun a h1 h2 => (h'.2 a h1 h2).trans (h.2 a h1 h2)⟩
theorem MG.e3 {g : vA} {σ τ : vS} (hg : MG g σ) (h : E3 σ τ) : MG g τ := hg.stay (by rw [h.1]) (by rw [h.1]) (fun a ha => h.2 a (by omega) (by omega))
theorem m_learn_212 {N : Nat} (hN : 3000 ≤ N) {g : vA} {σ : vS} (hg : MG g σ) (hw : wfA g) {p : Nat} (hp : p < gnp g) {L S : vL} (hL : ML g L σ) : ∀ n q τ y, q ≤ gpo g p → gpo g p < q + n → E1 9 σ τ → MS (gvS true g p (L p) S q) τ → FLG y S (gvS true g p (L p) S q) → Ok (f_M_learn_212 N n τ (nI p) (nI (256 * p)) (b01 y) (nI q)) (fun v => E1 9 σ v.2 ∧ MS (gvS true g p (L p) S (gpo g p)) v.2 ∧ ∃ y, v.1 = b01 y ∧ FLG y S (gvS true g p (L p) S (gpo g p))) := by
  have h10 := hw.2.2.2.1
  have h5 := hw.2.2.2.2.1 p hp
  intro n
  induction n with
  | zero => intro q τ y h1 h2; omega
  | succ n ih =>
    intro q τ y h1 h2 hE hS hF
    have hg1 := hg.e1 hE (by decide)
    rw [f_M_learn_212]
    dsimp only
    refine ok_bd (bIn_nI (by omega) (by decide)) (ok_lets (fun i2 e2 => ?_))
    rw [nI_clamp (by omega), hg1.2.2.2.2.1 p hp] at e2
    rw [e2]
    by_cases hq : q = gpo g p
    · subst hq
      exact ok_then (nI_le (Nat.le_refl _) (by omega)) (ok_some ⟨hE, hS, y, nar_b01 y, hF⟩)
    · refine ok_else (nI_ge (by omega) (by omega)) ?_
      exact m_learn_226 hg hw hp hL (by omega) (fun τ' y' hE' hS' hF' => ih (q + 1) τ' y' (by omega) (by omega) hE' hS' hF') N 0 τ y (by omega) (by omega) hE (hS.eq rfl (fun s a b _ _ _ => gvQ_0)) (hF.eq (fun s a b _ _ _ => gvQ_0))
/-- what learn leaves -/
def LNP (g : vA) (L S : vL) (p : Nat) (σ : vS) (v : Int32 × vS) : Prop := E3 σ v.2 ∧ ML g (lnL g L S p) v.2 ∧ MS (lnS true g L S p) v.2 ∧ ∃ y, v.1 = b01 y ∧ FLG y S (lnS true g L S p)
theorem tkM_all {g : vA} {L S : vL} {p p' x b : Nat} : tkM g L S p (16 * gpo g p) p' x b = (L p' x b || (decide (p' = p) && tkc g S p x b)) := by
  unfold tkM
  by_cases h : x / 4 < gpo g p
  · rw [decide_eq_true (show 16 * (x / 4) + 4 * (x % 4) + b % 4 < 16 * gpo g p by omega), Bool.true_and]
  · have e : tkc g S p x b = false := by
      unfold tkc
      rw [decide_eq_false h, Bool.false_and, Bool.and_false]
    rw [e, Bool.and_false]
theorem tkM_ln {g : vA} {L S : vL} {p : Nat} : (fun p' x b => if p' = p then wcl (tkM g L S p (16 * gpo g p) p) 16 x b else tkM g L S p (16 * gpo g p) p' x b) = lnL g L S p := by
  have e0 : tkM g L S p (16 * gpo g p) p = (fun x b => L p x b || tkc g S p x b) := by
    funext x b
    rw [tkM_all, decide_eq_true rfl, Bool.true_and]
  funext p' x b
  unfold lnL
  rw [e0]
  by_cases e : p' = p
  · rw [if_pos e, if_pos e]
  · rw [if_neg e, if_neg e, tkM_all, decide_eq_false e, Bool.false_and, Bool.or_false]
theorem m_learn_112 {N : Nat} (hN : 3000 ≤ N) {g : vA} {σ : vS} (hg : MG g σ) (hw : wfA g) {p : Nat} (hp : p < gnp g) {L S : vL} (hS : MS S σ) : ∀ n m τ, m ≤ 16 → 16 < m + n → E1 8 σ τ → ML g (clM (tkM g L S p (16 * gpo g p)) p m 0) τ → Ok (f_M_learn_112 N n τ (nI p) (nI (256 * p)) (nI m)) (LNP g L S p σ) := by
  have h5 := hw.2.2.2.2.1 p hp
  intro n
  induction n with
  | zero => intro m τ h1 h2; omega
  | succ n ih =>
    intro m τ h1 h2 hE hL
    rw [f_M_learn_112]
    dsimp only
    by_cases hm : m = 16
    · subst hm
      refine ok_then (show (16 : Int32) ≤ nI 16 from nI_le (a := 16) (b := 16) (by decide) (by decide)) ?_
      have hL1 : ML g (lnL g L S p) τ := hL.eq rfl (fun p' x b _ _ _ => by rw [clM_0, ← tkM_ln])
      have hS1 : MS S τ := hS.eq (hE.2 9 (by decide)) (fun _ _ _ _ _ _ => rfl)
      refine ok_mono (m_learn_212 (S := S) hN (hg.e1 hE (by decide)) hw hp hL1 N 0 τ false (by omega) (by omega) E1.rf hS1 FLG.rf) (fun v hv => ?_)
      obtain ⟨a1, a2, a3⟩ := hv
      exact ⟨(E3.rf.e8 hE).e9 a1, hL1.eq (a1.2 8 (by decide)) (fun _ _ _ _ _ _ => rfl), a2, a3⟩
    · refine ok_else (show ¬ (16 : Int32) ≤ nI m from nI_ge (a := m) (b := 16) (by omega) (by decide)) ?_
      exact m_learn_121 (σ := σ) hw hp (by omega) (fun τ' hE' hL' => ih (m + 1) τ' (by omega) (by omega) hE' hL') N 0 τ (by omega) (by omega) hE hL
theorem m_learn_8 {N : Nat} (hN : 3000 ≤ N) {g : vA} {σ : vS} (hg : MG g σ) (hw : wfA g) {p : Nat} (hp : p < gnp g) {L S : vL} (hS : MS S σ) : ∀ n q τ, q ≤ gpo g p → gpo g p < q + n → E1 8 σ τ → ML g (tkM g L S p (16 * q)) τ → Ok (f_M_learn_8 N n τ (nI p) (nI (256 * p)) (nI q)) (LNP g L S p σ) := by
  have h10 := hw.2.2.2.1
  have h5 := hw.2.2.2.2.1 p hp
  intro n
  induction n with
  | zero => intro q τ h1 h2; omega
  | succ n ih =>
    intro q τ h1 h2 hE hL
    have hg1 := hg.e1 hE (by decide)
    rw [f_M_learn_8]
    dsimp only
    refine ok_bd (bIn_nI (by omega) (by decide)) (ok_lets (fun i2 e2 => ?_))
    rw [nI_clamp (by omega), hg1.2.2.2.2.1 p hp] at e2
    rw [e2]
    by_cases hq : q = gpo g p
    · subst hq
      refine ok_then (nI_le (Nat.le_refl _) (by omega)) ?_
      refine m_learn_112 hN hg hw hp hS N 0 τ (by omega) (by omega) hE (hL.eq rfl (fun p' x b _ _ _ => ?_))
      rw [clM_0]
      by_cases e : p' = p
      · rw [if_pos e, e]; rfl
      · rw [if_neg e]
    · refine ok_else (nI_ge (by omega) (by omega)) ?_
      exact m_learn_21 hg hw hp hS (by omega) (fun τ' hE' hL' => ih (q + 1) τ' (by omega) (by omega) hE' hL') N 0 τ (by omega) (by omega) hE hL
theorem m_learn {N : Nat} (hN : 3000 ≤ N) {g : vA} {σ : vS} (hg : MG g σ) (hw : wfA g) {p : Nat} (hp : p < gnp g) {L S : vL} (hL : ML g L σ) (hS : MS S σ) : Ok (f_M_learn N σ (nI p)) (LNP g L S p σ) := by
  have h5 := hw.2.2.2.2.1 p hp
  unfold f_M_learn
  rw [show (256 : Int32) * nI p = nI (256 * p) from pk_mul 256 p]
  refine m_learn_8 hN hg hw hp hS N 0 σ (by omega) (by omega) E1.rf (hL.eq rfl (fun p' x b _ _ _ => ?_))
  unfold tkM
  rw [decide_eq_false (show ¬ 16 * (x / 4) + 4 * (x % 4) + b % 4 < 16 * 0 by omega), Bool.false_and, Bool.and_false, Bool.or_false]
theorem m_circles_10 {N : Nat} (hN : 3000 ≤ N) {g : vA} {σ : vS} (hg : MG g σ) (hw : wfA g) {LS : vL × vL} {Q : Int32 × vS → Prop} {k2 : vS → Int32 → Option (Int32 × vS)} (hk : ∀ τ y, E3 σ τ → ML g (rd true g LS (gnp g)).1 τ → MS (rd true g LS (gnp g)).2 τ → FLG y LS.2 (rd true g LS (gnp g)).2 → Ok (k2 τ (b01 y)) Q) : ∀ n p τ y, p ≤ gnp g → gnp g < p + n → E3 σ τ → ML g (rd true g LS p).1 τ → MS (rd true g LS p).2 τ → FLG y LS.2 (rd true g LS p).2 → Ok (f_M_circles_10 N k2 n τ (b01 y) (nI p)) Q := by
  have h10 := hw.2.2.2.1
  intro n
  induction n with
  | zero => intro p τ y h1 h2; omega
  | succ n ih =>
    intro p τ y h1 h2 hE hL hS hF
    have hg1 := hg.e3 hE
    rw [f_M_circles_10]
    dsimp only
    rw [hg1.2.1]
    by_cases hp : p = gnp g
    · subst hp
      exact ok_then (nI_le (Nat.le_refl _) (by omega)) (hk τ y hE hL hS hF)
    · refine ok_else (nI_ge (by omega) (by omega)) (ok_bi (m_learn hN hg1 hw (by omega) hL hS) (fun q hq => ?_))
      obtain ⟨hE3, hL3, hS3, y3, e3, hF3⟩ := hq
      rw [e3]
      unfold f_M_circles_28
      rcases hF3 with ⟨h4, h5⟩ | ⟨h4, s, a, b, hs, ha, hb, e4, e5⟩
      · rw [h4, if_pos (show b01 false = 0 from rfl), nI_1]
        exact ih (p + 1) q.2 y (by omega) (by omega) (hE.tr hE3) hL3 hS3 (hF.eq h5)
      · rw [h4, if_neg (by decide), nI_1]
        refine ih (p + 1) q.2 true (by omega) (by omega) (hE.tr hE3) hL3 hS3 (Or.inr ⟨rfl, s, a, b, hs, ha, hb, ?_, e5⟩)
        cases h9 : LS.2 s a b
        · rfl
        · rw [rd_mono (d := true) (g := g) 0 p (Nat.zero_le _) h9] at e4; cases e4
/-- what a search for circles leaves, in the reference -/
def CIR (g : vA) (L : vL) (σ : vS) (v : Int32 × vS) : Prop := (v.1 = 0 ∧ acy g L ∧ v.2 = σ) ∨ (v.1 = 1 ∧ ¬ acy g L ∧ v.2.2 = σ.2 ∧ ∀ k, k ≠ 4 → k ≠ 5 → k ≠ 6 → v.2.1 k = σ.1 k)
theorem m_circles_49 {N : Nat} {g : vA} (hw : wfA g) {p : Nat} (hp : p < gnp g) {L : vL} {σ : vS} (hL : ML g L σ) {k39 : vS → Int32 → Option (Int32 × vS)} (hk : (∀ o, o < 16 → L p o o = false) → Ok (k39 σ (nI (p + 1))) (CIR g L σ)) : ∀ n o, o ≤ 16 → 16 < o + n → (∀ o', o' < o → L p o' o' = false) → Ok (f_M_circles_49 N k39 n σ (nI p) (nI o)) (CIR g L σ) := by
  have h10 := hw.2.2.2.1
  intro n
  induction n with
  | zero => intro o h1 h2; omega
  | succ n ih =>
    intro o h1 h2 h3
    rw [f_M_circles_49]
    dsimp only
    by_cases ho : o = 16
    · subst ho
      refine ok_then (show (16 : Int32) ≤ nI 16 from nI_le (a := 16) (b := 16) (by decide) (by decide)) ?_
      rw [nI_1]
      exact hk h3
    · refine ok_else (show ¬ (16 : Int32) ≤ nI o from nI_ge (a := o) (b := 16) (by omega) (by decide)) (ok_lets (fun i4 e4 => ?_))
      rw [show (256 : Int32) * nI p = nI (256 * p) from pk_mul 256 p, show (17 : Int32) * nI o = nI (17 * o) from pk_mul 17 o, nI_add] at e4
      rw [e4]
      refine ok_bd (bIn_nI (by omega) (by decide)) (ok_lets (fun i6 e6 => ?_))
      rw [nI_clamp (by omega), show 256 * p + 17 * o = 256 * p + 16 * o + o by omega, hL p o o hp (by omega) (by omega)] at e6
      rw [e6]
      cases h9 : L p o o
      · rw [if_pos (show b01 false = 0 from rfl), nI_1]
        refine ih (o + 1) (by omega) (by omega) (fun o' ho' => ?_)
        by_cases e : o' = o
        · rw [e]; exact h9
        · exact h3 o' (by omega)
      · rw [if_neg (by decide)]
        refine ok_some (Or.inr ⟨(by show vp_nar .boolean (1 : Int32) = 1; decide), fun h8 => ?_, rfl, fun k k4 k5 k6 => ?_⟩)
        · rw [h8 p o hp (by omega)] at h9; cases h9
        · show (sf (sf (sf σ 4 2) 5 (nI p)) 6 (nI o)).1 k = σ.1 k
          rw [sf_1n k6, sf_1n k5, sf_1n k4]
theorem m_circles_39 {N : Nat} (hN : 3000 ≤ N) {g : vA} (hw : wfA g) {L : vL} {σ : vS} (hg : MG g σ) (hL : ML g L σ) : ∀ n p, p ≤ gnp g → gnp g < p + n → (∀ p' o, p' < p → o < 16 → L p' o o = false) → Ok (f_M_circles_39 N n σ (nI p)) (CIR g L σ) := by
  have h10 := hw.2.2.2.1
  intro n
  induction n with
  | zero => intro p h1 h2; omega
  | succ n ih =>
    intro p h1 h2 h3
    rw [f_M_circles_39]
    dsimp only
    rw [hg.2.1]
    by_cases hp : p = gnp g
    · subst hp
      exact ok_then (nI_le (Nat.le_refl _) (by omega)) (ok_some (Or.inl ⟨rfl, h3, rfl⟩))
    · refine ok_else (nI_ge (by omega) (by omega)) ?_
      refine m_circles_49 hw (by omega) hL (fun h9 => ih (p + 1) (by omega) (by omega) (fun p' o hp' ho => ?_)) N 0 (by omega) (by omega) (fun o' h9 => absurd h9 (Nat.not_lt_zero _))
      by_cases e : p' = p
      · rw [e]; exact h9 o ho
      · exact h3 p' o (by omega) ho
def CIRC (g : vA) (σ : vS) (v : Int32 × vS) : Prop := ∃ L S τ, FX true g L S ∧ E3 σ τ ∧ ML g L τ ∧ MS S τ ∧ CIR g L τ v
theorem m_circles_2 {N : Nat} (hN : 3000 ≤ N) {g : vA} {σ : vS} (hg : MG g σ) (hw : wfA g) : ∀ n r τ y (L S : vL), (y = true → r ≤ cS S) → r ≤ 97 → 97 < r + n → E3 σ τ → ML g L τ → MS S τ → PRE true g L S → (y = false → FX true g L S) → Ok (f_M_circles_2 N n τ (b01 y)) (CIRC g σ) := by
  have h10 := hw.2.2.2.1
  intro n
  induction n with
  | zero => intro r τ y L S _ h1 h2; omega
  | succ n ih =>
    intro r τ y L S h0 h1 h2 hE hL hS hP hy
    have h96 := cS_le S
    rw [f_M_circles_2]
    dsimp only
    cases y with
    | false =>
      refine ok_then (show b01 false = 0 from rfl) (ok_mono (m_circles_39 hN hw (hg.e3 hE) hL N 0 (by omega) (by omega) (fun p' o h9 => absurd h9 (Nat.not_lt_zero _))) (fun v hv => ?_))
      exact ⟨L, S, τ, hy rfl, hE, hL, hS, hv⟩
    | true =>
      have hr := h0 rfl
      refine ok_else (by decide) ?_
      refine m_circles_10 (LS := (L, S)) hN hg hw (fun τ' y' hE' hL' hS' hF' => ?_) N 0 τ false (by omega) (by omega) hE hL hS FLG.rf
      rcases hF' with ⟨e, hs⟩ | ⟨e, hs⟩
      · have hfx := fx_round (d := true) (LS := (L, S)) hw hP hs
        exact ih (r + 1) τ' y' _ _ (fun h9 => by rw [e] at h9; cases h9) (by omega) (by omega) hE' hL' hS' ⟨hfx.1, hfx.2.2⟩ (fun _ => hfx)
      · exact ih (r + 1) τ' y' _ _ (fun _ => Nat.lt_of_le_of_lt hr (cS_lt (fun s a b h9 => rd_mono (d := true) (g := g) (LS := (L, S)) 0 (gnp g) (Nat.zero_le _) h9) hs)) (by omega) (by omega) hE' hL' hS' (rd_pre hw hP _ (Nat.le_refl _)) (fun h9 => by rw [h9] at e; cases e)
theorem m_circles {N : Nat} (hN : 3000 ≤ N) {g : vA} {σ : vS} (hg : MG g σ) (hw : wfA g) (hL : ML g (usd g) σ) (hS : MS (fun _ _ _ => false) σ) : Ok (f_M_circles N σ) (CIRC g σ) := by
  unfold f_M_circles
  exact m_circles_2 hN hg hw N 0 σ true (usd g) (fun _ _ _ => false) (fun _ => Nat.zero_le _) (by omega) (by omega) E3.rf hL hS ⟨fun p a b _ _ _ h => h, fun L' S' r1 _ => ⟨fun p x b hp hx hb h9 => r1 p x b hp hx hb h9, fun s a b _ _ _ h9 => by cases h9⟩⟩ (fun h9 => by cases h9)
/-! The class: none leads to itself. -/
theorem x_least_7 {N : Nat} {p : Nat} (hp : p < 10) {L : vL} {σ : vS} (hL : XL L σ) : ∀ n o, o ≤ 16 → 16 < o + n → (∀ o', o' < o → L p o' o' = false) → ∃ r, f_E_leastLeadingToItself_7 N n σ (nI (16 * p)) (nI o) = some (r, σ) ∧ ((r = -1 ∧ ∀ o, o < 16 → L p o o = false) ∨ (r ≠ -1 ∧ ∃ o, o < 16 ∧ L p o o = true)) := by
  intro n
  induction n with
  | zero => intro o h1 h2; omega
  | succ n ih =>
    intro o h1 h2 h3
    rw [f_E_leastLeadingToItself_7]
    dsimp only
    by_cases ho : o = 16
    · subst ho
      exact ⟨-1, if_pos (show (16 : Int32) ≤ nI 16 from nI_le (a := 16) (b := 16) (by decide) (by decide)), Or.inl ⟨rfl, h3⟩⟩
    · rw [if_neg (show ¬ (16 : Int32) ≤ nI o from nI_ge (a := o) (b := 16) (by omega) (by decide)), nI_add, if_pos (bIn_nI (by omega) (by decide))]
      unfold vlet
      dsimp only
      rw [nI_clamp (by omega), f_holds (by omega), Option.bind_some, hL p o o hp (by omega) (by omega), decide_eq_true (show o < 16 by omega), Bool.true_and]
      cases h9 : L p o o
      · rw [if_pos (by decide), nI_1]
        refine ih (o + 1) (by omega) (by omega) (fun o' ho' => ?_)
        by_cases e : o' = o
        · rw [e]; exact h9
        · exact h3 o' (by omega)
      · rw [if_neg (by decide)]
        exact ⟨nI o, rfl, Or.inr ⟨nI_nm1 (by omega), o, by omega, h9⟩⟩
def NON (g : vA) (L : vL) (kd : Int32) (σ : vS) (v : Int32 × vS) : Prop := (v.1 = 1 ∧ acy g L ∧ v.2 = σ) ∨ (v.1 = 0 ∧ ¬ acy g L ∧ v.2.2 = σ.2 ∧ v.2.1 3 = kd ∧ ∀ k, k ≠ 3 → k ≠ 4 → k ≠ 5 → v.2.1 k = σ.1 k)
theorem x_none_2 {N : Nat} (hN : 161 ≤ N) {g : vA} (hw : wfA g) {L : vL} {σ : vS} (hg : XG g σ) (hL : XL L σ) {kd : Int32} : ∀ n p, p ≤ gnp g → gnp g < p + n → (∀ p' o, p' < p → o < 16 → L p' o o = false) → Ok (f_A_noneLeadsToItself_2 N n σ kd (nI p)) (NON g L kd σ) := by
  have h10 := hw.2.2.2.1
  intro n
  induction n with
  | zero => intro p h1 h2; omega
  | succ n ih =>
    intro p h1 h2 h3
    rw [f_A_noneLeadsToItself_2]
    dsimp only
    rw [hg.2.1]
    by_cases hp : p = gnp g
    · subst hp
      exact ok_then (nI_le (Nat.le_refl _) (by omega)) (ok_some (Or.inl ⟨rfl, h3, rfl⟩))
    · refine ok_else (nI_ge (by omega) (by omega)) ?_
      unfold f_E_leastLeadingToItself
      obtain ⟨r, hr, hc⟩ := x_least_7 (N := N) (p := p) (by omega) hL N 0 (by omega) (by omega) (fun o' h9 => absurd h9 (Nat.not_lt_zero _))
      have hr : f_E_leastLeadingToItself_7 N N σ (nI (16 * p)) 0 = some (r, σ) := hr
      rw [show nI p * (16 : Int32) = nI (p * 16) from pk_mul _ 16, show p * 16 = 16 * p by omega, hr, Option.bind_some]
      dsimp only
      rcases hc with ⟨e, h9⟩ | ⟨e, o, ho, h9⟩
      · rw [if_pos e, nI_1]
        refine ih (p + 1) (by omega) (by omega) (fun p' o hp' ho => ?_)
        by_cases e2 : p' = p
        · rw [e2]; exact h9 o ho
        · exact h3 p' o (by omega) ho
      · rw [if_neg e]
        refine ok_some (Or.inr ⟨rfl, fun h8 => ?_, rfl, ?_, fun k k3 k4 k5 => ?_⟩)
        · rw [h8 p o (by omega) ho] at h9; cases h9
        · show (sf (sf (sf σ 3 kd) 4 (nI p)) 5 r).1 3 = kd
          rw [sf_1n (by decide), sf_1n (by decide), sf_1]
        · show (sf (sf (sf σ 3 kd) 4 (nI p)) 5 r).1 k = σ.1 k
          rw [sf_1n k5, sf_1n k4, sf_1n k3]
theorem x_none {N : Nat} (hN : 161 ≤ N) {g : vA} (hw : wfA g) {L : vL} {σ : vS} (hg : XG g σ) (hL : XL L σ) {kd : Int32} : Ok (f_A_noneLeadsToItself N σ kd) (NON g L kd σ) := by
  have h10 := hw.2.2.2.1
  unfold f_A_noneLeadsToItself
  exact x_none_2 hN hw hg hL N 0 (by omega) (by omega) (fun p' o h9 => absurd h9 (Nat.not_lt_zero _))
