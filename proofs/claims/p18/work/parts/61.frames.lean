/-! Frames: which numbers and arrays a function leaves as they were. Written by wip/tools/pure.py. -/
def Pa {α : Type} (o : Option α) (P : α → Prop) : Prop := ∀ v, o = some v → P v
theorem pa_some {α : Type} {v : α} {P : α → Prop} (h : P v) : Pa (some v) P := fun _ e => by cases e; exact h
theorem pa_none {α : Type} {P : α → Prop} : Pa (none : Option α) P := fun _ e => by cases e
theorem pa_lets {α β : Type} {x : α} {k : α → Option β} {P : β → Prop} (h : ∀ y, y = x → Pa (k y) P) : Pa (vlet x k) P := h x rfl
theorem pa_bi {α β : Type} {o : Option α} {k : α → Option β} {P : β → Prop} {Q : α → Prop} (h : Pa o Q) (hk : ∀ q, Q q → Pa (k q) P) : Pa (o.bind k) P := by
  intro v e
  obtain ⟨q, hq, hv⟩ := vq_bi e
  exact hk q (h q hq) v hv
theorem pa_bi0 {α β : Type} {o : Option α} {k : α → Option β} {P : β → Prop} (hk : ∀ q, Pa (k q) P) : Pa (o.bind k) P := by
  intro v e
  obtain ⟨q, hq, hv⟩ := vq_bi e
  exact hk q v hv
theorem pa_if {α : Type} {c : Prop} [Decidable c] {a b : Option α} {P : α → Prop} (ha : Pa a P) (hb : Pa b P) : Pa (if c then a else b) P := by
  by_cases h : c
  · rw [if_pos h]; exact ha
  · rw [if_neg h]; exact hb
theorem pa_bd {α : Type} {c : Prop} [Decidable c] {a : Option α} {P : α → Prop} (ha : Pa a P) : Pa (if c then a else none) P := pa_if ha pa_none
def Fr (I A : List Nat) (σ τ : vS) : Prop := (∀ k, k ∉ I → τ.1 k = σ.1 k) ∧ (∀ a, a ∉ A → τ.2 a = σ.2 a)
theorem Fr.rf {I A : List Nat} {σ : vS} : Fr I A σ σ := ⟨fun _ _ => rfl, fun _ _ => rfl⟩
theorem Fr.on {I A I1 A1 : List Nat} {σ τ υ : vS} (h : Fr I A σ τ) (h1 : Fr I1 A1 τ υ) (hI : ∀ k ∈ I1, k ∈ I) (hA : ∀ a ∈ A1, a ∈ A) : Fr I A σ υ :=
  ⟨fun k hk => (h1.1 k (fun h9 => hk (hI k h9))).trans (h.1 k hk), fun a ha => (h1.2 a (fun h9 => ha (hA a h9))).trans (h.2 a ha)⟩
theorem Fr.sf {I A : List Nat} {σ τ : vS} (h : Fr I A σ τ) (k : Nat) (x : Int32) (hk : k ∈ I) : Fr I A σ (sf τ k x) :=
  ⟨fun j hj => (show (if j = k then x else τ.1 j) = σ.1 j by rw [if_neg (fun e => hj (by rw [e]; exact hk))]; exact h.1 j hj), h.2⟩
theorem Fr.sa {I A : List Nat} {σ τ : vS} (h : Fr I A σ τ) (a i : Nat) (x : Int32) (ha : a ∈ A) : Fr I A σ (sa τ a i x) :=
  ⟨h.1, fun b hb => (show (if b = a then upd (τ.2 a) i x else τ.2 b) = σ.2 b by rw [if_neg (fun e => hb (by rw [e]; exact ha))]; exact h.2 b hb)⟩
theorem Fr.sfill {I A : List Nat} {σ τ : vS} (h : Fr I A σ τ) (a : Nat) (x : Int32) (ha : a ∈ A) : Fr I A σ (sfill τ a x) :=
  ⟨h.1, fun b hb => (show (if b = a then (fun _ => x) else τ.2 b) = σ.2 b by rw [if_neg (fun e => hb (by rw [e]; exact ha))]; exact h.2 b hb)⟩
theorem Fr.scpy {I A : List Nat} {σ τ : vS} (h : Fr I A σ τ) (a b dp n : Nat) (hb : b ∈ A) : Fr I A σ (scpy τ a b dp n) :=
  ⟨h.1, fun c hc => (show (if c = b then va_cpy (τ.2 a) (τ.2 b) 0 dp n else τ.2 c) = σ.2 c by rw [if_neg (fun e => hc (by rw [e]; exact hb))]; exact h.2 c hc)⟩

theorem fr_G_hasSymbol (N : Nat) (σ : vS) (a0 : Int32) : Pa (f_G_hasSymbol N σ a0) (fun v => Fr [] [] σ v.2) := by
  have hF : Fr [] [] σ σ := Fr.rf
  unfold f_G_hasSymbol
  refine pa_if ?_ ?_
  ·
    exact pa_some hF
  ·
    refine pa_if ?_ ?_
    ·
      exact pa_some hF
    ·
      exact pa_some hF

theorem fr_G_hasAttribute (N : Nat) (σ : vS) (a0 : Int32) (a1 : Int32) : Pa (f_G_hasAttribute N σ a0 a1) (fun v => Fr [] [] σ v.2) := by
  have hF : Fr [] [] σ σ := Fr.rf
  unfold f_G_hasAttribute
  refine pa_if ?_ ?_
  ·
    exact pa_some hF
  ·
    refine pa_bd ?_
    refine pa_lets (fun i3 _ => ?_)
    refine pa_if ?_ ?_
    ·
      exact pa_some hF
    ·
      exact pa_some hF

theorem fr_G_hasProduction (N : Nat) (σ : vS) (a0 : Int32) : Pa (f_G_hasProduction N σ a0) (fun v => Fr [] [] σ v.2) := by
  have hF : Fr [] [] σ σ := Fr.rf
  unfold f_G_hasProduction
  refine pa_if ?_ ?_
  ·
    exact pa_some hF
  ·
    refine pa_if ?_ ?_
    ·
      exact pa_some hF
    ·
      exact pa_some hF

theorem fr_G_hasOccurrence (N : Nat) (σ : vS) (a0 : Int32) (a1 : Int32) : Pa (f_G_hasOccurrence N σ a0 a1) (fun v => Fr [] [] σ v.2) := by
  have hF : Fr [] [] σ σ := Fr.rf
  unfold f_G_hasOccurrence
  refine pa_if ?_ ?_
  ·
    exact pa_some hF
  ·
    refine pa_if ?_ ?_
    ·
      exact pa_some hF
    ·
      refine pa_bd ?_
      refine pa_lets (fun i4 _ => ?_)
      refine pa_bi0 (fun q5 => ?_)
      refine pa_if ?_ ?_
      ·
        exact pa_some hF
      ·
        exact pa_some hF

theorem fr_G_isToBeDefined (N : Nat) (σ : vS) (a0 : Int32) (a1 : Int32) : Pa (f_G_isToBeDefined N σ a0 a1) (fun v => Fr [] [] σ v.2) := by
  have hF : Fr [] [] σ σ := Fr.rf
  unfold f_G_isToBeDefined
  refine pa_bi (fr_G_hasOccurrence _ _ _ _) (fun q1 hq1 => ?_)
  have hq1 := Fr.on hF hq1 (by decide) (by decide)
  refine pa_if ?_ ?_
  ·
    exact pa_some hq1
  ·
    refine pa_bd ?_
    refine pa_lets (fun i5 _ => ?_)
    refine pa_bi0 (fun q6 => ?_)
    refine pa_if ?_ ?_
    ·
      exact pa_some hq1
    ·
      exact pa_some hq1

theorem fr_G_isRight (N : Nat) (σ : vS) (a0 : Int32) (a1 : Int32) (a2 : Int32) : Pa (f_G_isRight N σ a0 a1 a2) (fun v => Fr [] [] σ v.2) := by
  have hF : Fr [] [] σ σ := Fr.rf
  have J74 : ∀ (τ : vS), Fr [] [] σ τ → Pa (f_G_isRight_74 N τ) (fun v => Fr [] [] σ v.2) := by
    intro τ hF
    unfold f_G_isRight_74
    exact pa_some hF
  unfold f_G_isRight
  refine pa_if ?_ ?_
  ·
    refine pa_if ?_ ?_
    ·
      refine pa_if ?_ ?_
      ·
        exact pa_some hF
      ·
        exact pa_some hF
    ·
      exact pa_some hF
  ·
    refine pa_if ?_ ?_
    ·
      refine pa_bi (fr_G_hasSymbol _ _ _) (fun q13 hq13 => ?_)
      have hq13 := Fr.on hF hq13 (by decide) (by decide)
      refine pa_if ?_ ?_
      ·
        exact pa_some hq13
      ·
        refine pa_if ?_ ?_
        ·
          exact pa_some hq13
        ·
          exact pa_some hq13
    ·
      refine pa_bi (fr_G_hasSymbol _ _ _) (fun q3 hq3 => ?_)
      have hq3 := Fr.on hF hq3 (by decide) (by decide)
      refine pa_if ?_ ?_
      ·
        exact pa_some hq3
      ·
        refine pa_bi (fr_G_hasSymbol _ _ _) (fun q6 hq6 => ?_)
        have hq6 := Fr.on hq3 hq6 (by decide) (by decide)
        refine pa_if ?_ ?_
        ·
          exact pa_some hq6
        ·
          refine pa_if ?_ ?_
          ·
            exact J74 _ hq6
          ·
            refine pa_bi (fr_G_hasSymbol _ _ _) (fun q10 hq10 => ?_)
            have hq10 := Fr.on hq6 hq10 (by decide) (by decide)
            refine pa_if ?_ ?_
            ·
              exact pa_some hq10
            ·
              exact J74 _ hq10

theorem fr_G_isForm (N : Nat) (σ : vS) (a0 : Int32) (a1 : Int32) (a2 : Int32) (a3 : Int32) : Pa (f_G_isForm N σ a0 a1 a2 a3) (fun v => Fr [] [] σ v.2) := by
  have hF : Fr [] [] σ σ := Fr.rf
  have J43 : ∀ (τ : vS), Fr [] [] σ τ → Pa (f_G_isForm_43 N τ) (fun v => Fr [] [] σ v.2) := by
    intro τ hF
    unfold f_G_isForm_43
    exact pa_some hF
  have J26 : ∀ (τ : vS) (x1 : Int32) (x2 : Int32) (x4 : Int32), Fr [] [] σ τ → Pa (f_G_isForm_26 N τ x1 x2 x4) (fun v => Fr [] [] σ v.2) := by
    intro τ x1 x2 x4 hF
    unfold f_G_isForm_26
    refine pa_bi0 (fun q5 => ?_)
    refine pa_if ?_ ?_
    ·
      exact J43 _ hF
    ·
      refine pa_bi (fr_G_hasOccurrence _ _ _ _) (fun q8 hq8 => ?_)
      have hq8 := Fr.on hF hq8 (by decide) (by decide)
      refine pa_if ?_ ?_
      ·
        exact pa_some hq8
      ·
        exact J43 _ hq8
  unfold f_G_isForm
  refine pa_if ?_ ?_
  ·
    exact pa_some hF
  ·
    refine pa_if ?_ ?_
    ·
      exact pa_some hF
    ·
      refine pa_bi0 (fun q3 => ?_)
      refine pa_if ?_ ?_
      ·
        exact J26 _ _ _ _ hF
      ·
        refine pa_bi (fr_G_hasOccurrence _ _ _ _) (fun q12 hq12 => ?_)
        have hq12 := Fr.on hF hq12 (by decide) (by decide)
        refine pa_if ?_ ?_
        ·
          exact pa_some hq12
        ·
          exact J26 _ _ _ _ hq12

theorem fr_G_symbolAt (N : Nat) (σ : vS) (a0 : Int32) (a1 : Int32) : Pa (f_G_symbolAt N σ a0 a1) (fun v => Fr [] [] σ v.2) := by
  have hF : Fr [] [] σ σ := Fr.rf
  unfold f_G_symbolAt
  refine pa_bd ?_
  refine pa_lets (fun i2 _ => ?_)
  exact pa_some hF

theorem fr_G_allAttributes (N : Nat) (σ : vS) (a0 : Int32) : Pa (f_G_allAttributes N σ a0) (fun v => Fr [] [] σ v.2) := by
  have hF : Fr [] [] σ σ := Fr.rf
  unfold f_G_allAttributes
  refine pa_bd ?_
  refine pa_lets (fun i2 _ => ?_)
  refine pa_lets (fun i3 _ => ?_)
  exact pa_some hF

theorem fr_G_addSymbol (N : Nat) (σ : vS) (a0 : Int32) (a1 : Int32) : Pa (f_G_addSymbol N σ a0 a1) (fun v => Fr [0] [0, 1] σ v.2) := by
  have hF : Fr [0] [0, 1] σ σ := Fr.rf
  unfold f_G_addSymbol
  refine pa_bd ?_
  refine pa_lets (fun σ2 eσ2 => ?_)
  have hσ2 : Fr [0] [0, 1] σ σ2 := by rw [eσ2]; exact hF.sa _ _ _ (by decide)
  refine pa_bi (fr_G_allAttributes _ _ _) (fun q3 hq3 => ?_)
  have hq3 := Fr.on hσ2 hq3 (by decide) (by decide)
  refine pa_bd ?_
  refine pa_lets (fun σ6 eσ6 => ?_)
  have hσ6 : Fr [0] [0, 1] σ σ6 := by rw [eσ6]; exact hq3.sa _ _ _ (by decide)
  refine pa_lets (fun σ7 eσ7 => ?_)
  have hσ7 : Fr [0] [0, 1] σ σ7 := by rw [eσ7]; exact hσ6.sf _ _ (by decide)
  exact pa_some hσ7

theorem fr_G_place (N : Nat) (σ : vS) (a0 : Int32) (a1 : Int32) (a2 : Int32) : Pa (f_G_place N σ a0 a1 a2) (fun v => Fr [] [2, 3, 4, 5] σ v.2) := by
  have hF : Fr [] [2, 3, 4, 5] σ σ := Fr.rf
  have J37 : ∀ (τ : vS) (x1 : Int32) (x2 : Int32) (x3 : Int32) (x5 : Int32) (y0 : Int32), Fr [] [2, 3, 4, 5] σ τ → Pa (f_G_place_37 N τ x1 x2 x3 x5 y0) (fun v => Fr [] [2, 3, 4, 5] σ v.2) := by
    intro τ x1 x2 x3 x5 y0 hF
    unfold f_G_place_37
    refine pa_bd ?_
    refine pa_lets (fun σ7 eσ7 => ?_)
    have hσ7 : Fr [] [2, 3, 4, 5] σ σ7 := by rw [eσ7]; exact hF.sa _ _ _ (by decide)
    refine pa_bd ?_
    refine pa_lets (fun σ9 eσ9 => ?_)
    have hσ9 : Fr [] [2, 3, 4, 5] σ σ9 := by rw [eσ9]; exact hσ7.sa _ _ _ (by decide)
    refine pa_bd ?_
    refine pa_lets (fun i11 _ => ?_)
    refine pa_lets (fun i12 _ => ?_)
    refine pa_bd ?_
    refine pa_lets (fun σ14 eσ14 => ?_)
    have hσ14 : Fr [] [2, 3, 4, 5] σ σ14 := by rw [eσ14]; exact hσ9.sa _ _ _ (by decide)
    refine pa_bd ?_
    refine pa_lets (fun i16 _ => ?_)
    refine pa_lets (fun i17 _ => ?_)
    refine pa_bd ?_
    refine pa_lets (fun σ19 eσ19 => ?_)
    have hσ19 : Fr [] [2, 3, 4, 5] σ σ19 := by rw [eσ19]; exact hσ14.sa _ _ _ (by decide)
    exact pa_some hσ19
  unfold f_G_place
  refine pa_if ?_ ?_
  ·
    exact pa_some hF
  ·
    refine pa_bd ?_
    refine pa_lets (fun i3 _ => ?_)
    refine pa_bi (fr_G_allAttributes _ _ _) (fun q4 hq4 => ?_)
    have hq4 := Fr.on hF hq4 (by decide) (by decide)
    refine pa_if ?_ ?_
    ·
      exact J37 _ _ _ _ _ _ hq4
    ·
      exact J37 _ _ _ _ _ _ hq4

theorem fr_G_addProduction (N : Nat) (σ : vS) (a0 : Int32) (a1 : Int32) (a2 : Int32) (a3 : Int32) : Pa (f_G_addProduction N σ a0 a1 a2 a3) (fun v => Fr [1] [2, 3, 4, 5] σ v.2) := by
  have hF : Fr [1] [2, 3, 4, 5] σ σ := Fr.rf
  unfold f_G_addProduction
  refine pa_lets (fun σ1 eσ1 => ?_)
  have hσ1 : Fr [1] [2, 3, 4, 5] σ σ1 := by rw [eσ1]; exact hF.sf _ _ (by decide)
  refine pa_bi (fr_G_place _ _ _ _ _) (fun q2 hq2 => ?_)
  have hq2 := Fr.on hσ1 hq2 (by decide) (by decide)
  refine pa_bi (fr_G_place _ _ _ _ _) (fun q4 hq4 => ?_)
  have hq4 := Fr.on hq2 hq4 (by decide) (by decide)
  refine pa_bi (fr_G_place _ _ _ _ _) (fun q6 hq6 => ?_)
  have hq6 := Fr.on hq4 hq6 (by decide) (by decide)
  refine pa_bi (fr_G_place _ _ _ _ _) (fun q8 hq8 => ?_)
  have hq8 := Fr.on hq6 hq8 (by decide) (by decide)
  exact pa_some hq8

theorem fr_G_setRule (N : Nat) (σ : vS) (a0 : Int32) (a1 : Int32) (a2 : Int32) (a3 : Int32) (a4 : Int32) : Pa (f_G_setRule N σ a0 a1 a2 a3 a4) (fun v => Fr [] [6, 7, 8, 9, 10] σ v.2) := by
  have hF : Fr [] [6, 7, 8, 9, 10] σ σ := Fr.rf
  have J70 : ∀ (τ : vS) (x1 : Int32) (x2 : Int32) (y0 : Int32) (y1 : Int32) (y2 : Int32), Fr [] [6, 7, 8, 9, 10] σ τ → Pa (f_G_setRule_70 N τ x1 x2 y0 y1 y2) (fun v => Fr [] [6, 7, 8, 9, 10] σ v.2) := by
    intro τ x1 x2 y0 y1 y2 hF
    unfold f_G_setRule_70
    refine pa_bd ?_
    refine pa_lets (fun σ12 eσ12 => ?_)
    have hσ12 : Fr [] [6, 7, 8, 9, 10] σ σ12 := by rw [eσ12]; exact hF.sa _ _ _ (by decide)
    refine pa_bd ?_
    refine pa_lets (fun i14 _ => ?_)
    refine pa_lets (fun i15 _ => ?_)
    refine pa_bd ?_
    refine pa_lets (fun σ17 eσ17 => ?_)
    have hσ17 : Fr [] [6, 7, 8, 9, 10] σ σ17 := by rw [eσ17]; exact hσ12.sa _ _ _ (by decide)
    exact pa_some hσ17
  have J55 : ∀ (τ : vS) (x1 : Int32) (x2 : Int32) (x3 : Int32) (x5 : Int32) (y0 : Int32) (y1 : Int32), Fr [] [6, 7, 8, 9, 10] σ τ → Pa (f_G_setRule_55 N τ x1 x2 x3 x5 y0 y1) (fun v => Fr [] [6, 7, 8, 9, 10] σ v.2) := by
    intro τ x1 x2 x3 x5 y0 y1 hF
    unfold f_G_setRule_55
    refine pa_bi0 (fun q9 => ?_)
    refine pa_if ?_ ?_
    ·
      exact J70 _ _ _ _ _ _ hF
    ·
      exact J70 _ _ _ _ _ _ hF
  unfold f_G_setRule
  refine pa_bd ?_
  refine pa_lets (fun σ2 eσ2 => ?_)
  have hσ2 : Fr [] [6, 7, 8, 9, 10] σ σ2 := by rw [eσ2]; exact hF.sa _ _ _ (by decide)
  refine pa_bd ?_
  refine pa_lets (fun σ4 eσ4 => ?_)
  have hσ4 : Fr [] [6, 7, 8, 9, 10] σ σ4 := by rw [eσ4]; exact hσ2.sa _ _ _ (by decide)
  refine pa_bd ?_
  refine pa_lets (fun σ6 eσ6 => ?_)
  have hσ6 : Fr [] [6, 7, 8, 9, 10] σ σ6 := by rw [eσ6]; exact hσ4.sa _ _ _ (by decide)
  refine pa_bi0 (fun q7 => ?_)
  refine pa_if ?_ ?_
  ·
    exact J55 _ _ _ _ _ _ _ hσ6
  ·
    exact J55 _ _ _ _ _ _ _ hσ6

theorem fr_G_leastWithoutRule (N : Nat) (σ : vS) (a0 : Int32) : Pa (f_G_leastWithoutRule N σ a0) (fun v => Fr [] [] σ v.2) := by
  have hF : Fr [] [] σ σ := Fr.rf
  unfold f_G_leastWithoutRule
  refine pa_bd ?_
  refine pa_lets (fun i2 _ => ?_)
  refine pa_bd ?_
  refine pa_lets (fun i4 _ => ?_)
  refine pa_bi0 (fun q5 => ?_)
  exact pa_some hF

theorem fr_E_takeRule (N : Nat) (σ : vS) (a0 : Int32) (a1 : Int32) (a2 : Int32) : Pa (f_E_takeRule N σ a0 a1 a2) (fun v => Fr [] [11] σ v.2) := by
  have hF : Fr [] [11] σ σ := Fr.rf
  have L3 : ∀ (n3 : Nat) (τ : vS) (x1 : Int32) (x2 : Int32) (x3 : Int32) (x4 : Int32), Fr [] [11] σ τ → Pa (f_E_takeRule_3 N n3 τ x1 x2 x3 x4) (fun v => Fr [] [11] σ v.2) := by
    intro n3
    induction n3 with
    | zero => intro τ x1 x2 x3 x4 hF; rw [f_E_takeRule_3]; exact pa_none
    | succ n3 ih3 =>
      have J38 : ∀ (τ : vS) (x1 : Int32) (x2 : Int32) (x3 : Int32) (x4 : Int32), Fr [] [11] σ τ → Pa (f_E_takeRule_38 N (f_E_takeRule_3 N n3) τ x1 x2 x3 x4) (fun v => Fr [] [11] σ v.2) := by
        intro τ x1 x2 x3 x4 hF
        unfold f_E_takeRule_38
        exact ih3 _ _ _ _ _ hF
      intro τ x1 x2 x3 x4 hF
      rw [f_E_takeRule_3]
      dsimp only
      refine pa_if ?_ ?_
      ·
        exact pa_some hF
      ·
        refine pa_if ?_ ?_
        ·
          exact pa_some hF
        ·
          refine pa_bi0 (fun q3 => ?_)
          refine pa_if ?_ ?_
          ·
            exact J38 _ _ _ _ _ hF
          ·
            refine pa_bd ?_
            refine pa_lets (fun i7 _ => ?_)
            refine pa_lets (fun i8 _ => ?_)
            refine pa_bd ?_
            refine pa_lets (fun σ10 eσ10 => ?_)
            have hσ10 : Fr [] [11] σ σ10 := by rw [eσ10]; exact hF.sa _ _ _ (by decide)
            exact J38 _ _ _ _ _ hσ10
  unfold f_E_takeRule
  exact L3 N _ _ _ _ _ hF

theorem fr_E_takeRules (N : Nat) (σ : vS) : Pa (f_E_takeRules N σ) (fun v => Fr [] [11] σ v.2) := by
  have hF : Fr [] [11] σ σ := Fr.rf
  have L10 : ∀ (n10 : Nat) (τ : vS) (x1 : Int32), Fr [] [11] σ τ → Pa (f_E_takeRules_10 N n10 τ x1) (fun v => Fr [] [11] σ v.2) := by
    intro n10
    induction n10 with
    | zero => intro τ x1 hF; rw [f_E_takeRules_10]; exact pa_none
    | succ n10 ih10 =>
      have L28 : ∀ (n28 : Nat) (τ : vS) (x1 : Int32) (x2 : Int32) (x3 : Int32), Fr [] [11] σ τ → Pa (f_E_takeRules_28 N (f_E_takeRules_10 N n10) n28 τ x1 x2 x3) (fun v => Fr [] [11] σ v.2) := by
        intro n28
        induction n28 with
        | zero => intro τ x1 x2 x3 hF; rw [f_E_takeRules_28]; exact pa_none
        | succ n28 ih28 =>
          intro τ x1 x2 x3 hF
          rw [f_E_takeRules_28]
          dsimp only
          refine pa_if ?_ ?_
          ·
            exact ih10 _ _ hF
          ·
            refine pa_bd ?_
            refine pa_lets (fun i5 _ => ?_)
            refine pa_bi (fr_E_takeRule _ _ _ _ _) (fun q6 hq6 => ?_)
            have hq6 := Fr.on hF hq6 (by decide) (by decide)
            exact ih28 _ _ _ _ hq6
      intro τ x1 hF
      rw [f_E_takeRules_10]
      dsimp only
      refine pa_if ?_ ?_
      ·
        exact pa_some hF
      ·
        exact L28 N _ _ _ _ hF
  unfold f_E_takeRules
  refine pa_lets (fun σ1 eσ1 => ?_)
  have hσ1 : Fr [] [11] σ σ1 := by rw [eσ1]; exact hF.sfill _ _ (by decide)
  exact L10 N _ _ hσ1

theorem fr_E_takeFromSymbols (N : Nat) (σ : vS) (a0 : Int32) : Pa (f_E_takeFromSymbols N σ a0) (fun v => Fr [] [11] σ v.2) := by
  have hF : Fr [] [11] σ σ := Fr.rf
  have L2 : ∀ (n2 : Nat) (τ : vS) (x1 : Int32) (x2 : Int32), Fr [] [11] σ τ → Pa (f_E_takeFromSymbols_2 N n2 τ x1 x2) (fun v => Fr [] [11] σ v.2) := by
    intro n2
    induction n2 with
    | zero => intro τ x1 x2 hF; rw [f_E_takeFromSymbols_2]; exact pa_none
    | succ n2 ih2 =>
      have L44 : ∀ (n44 : Nat) (τ : vS) (x1 : Int32) (x2 : Int32) (x3 : Int32) (x4 : Int32) (x5 : Int32) (x6 : Int32), Fr [] [11] σ τ → Pa (f_E_takeFromSymbols_44 N (f_E_takeFromSymbols_2 N n2) n44 τ x1 x2 x3 x4 x5 x6) (fun v => Fr [] [11] σ v.2) := by
        intro n44
        induction n44 with
        | zero => intro τ x1 x2 x3 x4 x5 x6 hF; rw [f_E_takeFromSymbols_44]; exact pa_none
        | succ n44 ih44 =>
          intro τ x1 x2 x3 x4 x5 x6 hF
          rw [f_E_takeFromSymbols_44]
          dsimp only
          refine pa_if ?_ ?_
          ·
            exact ih2 _ _ _ hF
          ·
            refine pa_bd ?_
            refine pa_lets (fun i8 _ => ?_)
            refine pa_bd ?_
            refine pa_lets (fun i10 _ => ?_)
            refine pa_bd ?_
            refine pa_lets (fun σ12 eσ12 => ?_)
            have hσ12 : Fr [] [11] σ σ12 := by rw [eσ12]; exact hF.sa _ _ _ (by decide)
            exact ih44 _ _ _ _ _ _ _ hσ12
      intro τ x1 x2 hF
      rw [f_E_takeFromSymbols_2]
      dsimp only
      refine pa_bd ?_
      refine pa_lets (fun i2 _ => ?_)
      refine pa_if ?_ ?_
      ·
        exact pa_some hF
      ·
        refine pa_bi (fr_G_symbolAt _ _ _ _) (fun q4 hq4 => ?_)
        have hq4 := Fr.on hF hq4 (by decide) (by decide)
        exact L44 N _ _ _ _ _ _ _ hq4
  unfold f_E_takeFromSymbols
  exact L2 N _ _ _ hF

theorem fr_E_close (N : Nat) (σ : vS) (a0 : Int32) : Pa (f_E_close N σ a0) (fun v => Fr [] [11] σ v.2) := by
  have hF : Fr [] [11] σ σ := Fr.rf
  have L7 : ∀ (n7 : Nat) (τ : vS) (x2 : Int32) (x3 : Int32), Fr [] [11] σ τ → Pa (f_E_close_7 N n7 τ x2 x3) (fun v => Fr [] [11] σ v.2) := by
    intro n7
    induction n7 with
    | zero => intro τ x2 x3 hF; rw [f_E_close_7]; exact pa_none
    | succ n7 ih7 =>
      have J74 : ∀ (τ : vS) (x2 : Int32) (x3 : Int32), Fr [] [11] σ τ → Pa (f_E_close_74 N (f_E_close_7 N n7) τ x2 x3) (fun v => Fr [] [11] σ v.2) := by
        intro τ x2 x3 hF
        unfold f_E_close_74
        exact ih7 _ _ _ hF
      have L26 : ∀ (n26 : Nat) (τ : vS) (x2 : Int32) (x3 : Int32) (x4 : Int32) (x5 : Int32), Fr [] [11] σ τ → Pa (f_E_close_26 N (f_E_close_7 N n7) n26 τ x2 x3 x4 x5) (fun v => Fr [] [11] σ v.2) := by
        intro n26
        induction n26 with
        | zero => intro τ x2 x3 x4 x5 hF; rw [f_E_close_26]; exact pa_none
        | succ n26 ih26 =>
          have J68 : ∀ (τ : vS) (x2 : Int32) (x3 : Int32) (x4 : Int32) (x5 : Int32), Fr [] [11] σ τ → Pa (f_E_close_68 N (f_E_close_7 N n7) (f_E_close_26 N (f_E_close_7 N n7) n26) τ x2 x3 x4 x5) (fun v => Fr [] [11] σ v.2) := by
            intro τ x2 x3 x4 x5 hF
            unfold f_E_close_68
            exact ih26 _ _ _ _ _ hF
          intro τ x2 x3 x4 x5 hF
          rw [f_E_close_26]
          dsimp only
          refine pa_if ?_ ?_
          ·
            exact J74 _ _ _ hF
          ·
            refine pa_if ?_ ?_
            ·
              exact J74 _ _ _ hF
            ·
              refine pa_bd ?_
              refine pa_lets (fun i7 _ => ?_)
              refine pa_bi0 (fun q8 => ?_)
              refine pa_if ?_ ?_
              ·
                exact J68 _ _ _ _ _ hF
              ·
                refine pa_bd ?_
                refine pa_lets (fun i12 _ => ?_)
                refine pa_bd ?_
                refine pa_lets (fun σ14 eσ14 => ?_)
                have hσ14 : Fr [] [11] σ σ14 := by rw [eσ14]; exact hF.sa _ _ _ (by decide)
                exact J68 _ _ _ _ _ hσ14
      intro τ x2 x3 hF
      rw [f_E_close_7]
      dsimp only
      refine pa_if ?_ ?_
      ·
        exact pa_some hF
      ·
        refine pa_bd ?_
        refine pa_lets (fun i3 _ => ?_)
        exact L26 N _ _ _ _ _ hF
  unfold f_E_close
  exact L7 N _ _ _ hF

theorem fr_E_giveToSymbols (N : Nat) (σ : vS) (a0 : Int32) : Pa (f_E_giveToSymbols N σ a0) (fun v => Fr [] [12] σ v.2) := by
  have hF : Fr [] [12] σ σ := Fr.rf
  have L4 : ∀ (n4 : Nat) (τ : vS) (x1 : Int32) (x2 : Int32) (x3 : Int32), Fr [] [12] σ τ → Pa (f_E_giveToSymbols_4 N n4 τ x1 x2 x3) (fun v => Fr [] [12] σ v.2) := by
    intro n4
    induction n4 with
    | zero => intro τ x1 x2 x3 hF; rw [f_E_giveToSymbols_4]; exact pa_none
    | succ n4 ih4 =>
      have L47 : ∀ (n47 : Nat) (τ : vS) (x1 : Int32) (x2 : Int32) (x3 : Int32) (x4 : Int32) (x5 : Int32) (x6 : Int32) (x7 : Int32), Fr [] [12] σ τ → Pa (f_E_giveToSymbols_47 N (f_E_giveToSymbols_4 N n4) n47 τ x1 x2 x3 x4 x5 x6 x7) (fun v => Fr [] [12] σ v.2) := by
        intro n47
        induction n47 with
        | zero => intro τ x1 x2 x3 x4 x5 x6 x7 hF; rw [f_E_giveToSymbols_47]; exact pa_none
        | succ n47 ih47 =>
          have J107 : ∀ (τ : vS) (x1 : Int32) (x2 : Int32) (x3 : Int32) (x4 : Int32) (x5 : Int32) (x6 : Int32) (x7 : Int32), Fr [] [12] σ τ → Pa (f_E_giveToSymbols_107 N (f_E_giveToSymbols_4 N n4) (f_E_giveToSymbols_47 N (f_E_giveToSymbols_4 N n4) n47) τ x1 x2 x3 x4 x5 x6 x7) (fun v => Fr [] [12] σ v.2) := by
            intro τ x1 x2 x3 x4 x5 x6 x7 hF
            unfold f_E_giveToSymbols_107
            exact ih47 _ _ _ _ _ _ _ _ hF
          intro τ x1 x2 x3 x4 x5 x6 x7 hF
          rw [f_E_giveToSymbols_47]
          dsimp only
          refine pa_if ?_ ?_
          ·
            exact ih4 _ _ _ _ hF
          ·
            refine pa_bd ?_
            refine pa_lets (fun i8 _ => ?_)
            refine pa_bi0 (fun q9 => ?_)
            refine pa_bd ?_
            refine pa_lets (fun i12 _ => ?_)
            refine pa_bi0 (fun q13 => ?_)
            refine pa_if ?_ ?_
            ·
              refine pa_bd ?_
              refine pa_lets (fun i17 _ => ?_)
              refine pa_bd ?_
              refine pa_lets (fun σ19 eσ19 => ?_)
              have hσ19 : Fr [] [12] σ σ19 := by rw [eσ19]; exact hF.sa _ _ _ (by decide)
              exact J107 _ _ _ _ _ _ _ _ hσ19
            ·
              exact J107 _ _ _ _ _ _ _ _ hF
      intro τ x1 x2 x3 hF
      rw [f_E_giveToSymbols_4]
      dsimp only
      refine pa_bd ?_
      refine pa_lets (fun i2 _ => ?_)
      refine pa_if ?_ ?_
      ·
        exact pa_some hF
      ·
        refine pa_bi (fr_G_symbolAt _ _ _ _) (fun q4 hq4 => ?_)
        have hq4 := Fr.on hF hq4 (by decide) (by decide)
        exact L47 N _ _ _ _ _ _ _ _ hq4
  unfold f_E_giveToSymbols
  exact L4 N _ _ _ _ hF

theorem fr_E_takeOrder (N : Nat) (σ : vS) : Pa (f_E_takeOrder N σ) (fun v => Fr [] [11] σ v.2) := by
  have hF : Fr [] [11] σ σ := Fr.rf
  have L2 : ∀ (n2 : Nat) (τ : vS) (x1 : Int32), Fr [] [11] σ τ → Pa (f_E_takeOrder_2 N n2 τ x1) (fun v => Fr [] [11] σ v.2) := by
    intro n2
    induction n2 with
    | zero => intro τ x1 hF; rw [f_E_takeOrder_2]; exact pa_none
    | succ n2 ih2 =>
      intro τ x1 hF
      rw [f_E_takeOrder_2]
      dsimp only
      refine pa_if ?_ ?_
      ·
        exact pa_some hF
      ·
        refine pa_bi (fr_E_takeFromSymbols _ _ _) (fun q2 hq2 => ?_)
        have hq2 := Fr.on hF hq2 (by decide) (by decide)
        refine pa_bi (fr_E_close _ _ _) (fun q4 hq4 => ?_)
        have hq4 := Fr.on hq2 hq4 (by decide) (by decide)
        exact ih2 _ _ hq4
  unfold f_E_takeOrder
  exact L2 N _ _ hF

theorem fr_E_leastLeadingToItself (N : Nat) (σ : vS) (a0 : Int32) : Pa (f_E_leastLeadingToItself N σ a0) (fun v => Fr [] [] σ v.2) := by
  have hF : Fr [] [] σ σ := Fr.rf
  have L7 : ∀ (n7 : Nat) (τ : vS) (x2 : Int32) (x3 : Int32), Fr [] [] σ τ → Pa (f_E_leastLeadingToItself_7 N n7 τ x2 x3) (fun v => Fr [] [] σ v.2) := by
    intro n7
    induction n7 with
    | zero => intro τ x2 x3 hF; rw [f_E_leastLeadingToItself_7]; exact pa_none
    | succ n7 ih7 =>
      intro τ x2 x3 hF
      rw [f_E_leastLeadingToItself_7]
      dsimp only
      refine pa_if ?_ ?_
      ·
        exact pa_some hF
      ·
        refine pa_bd ?_
        refine pa_lets (fun i3 _ => ?_)
        refine pa_bi0 (fun q4 => ?_)
        refine pa_if ?_ ?_
        ·
          exact ih7 _ _ _ hF
        ·
          exact pa_some hF
  unfold f_E_leastLeadingToItself
  exact L7 N _ _ _ hF

theorem fr_E_spread (N : Nat) (σ : vS) : Pa (f_E_spread N σ) (fun v => Fr [] [11, 12] σ v.2) := by
  have hF : Fr [] [11, 12] σ σ := Fr.rf
  have L16 : ∀ (n16 : Nat) (τ : vS) (x1 : Int32) (x2 : Int32), Fr [] [11, 12] σ τ → Pa (f_E_spread_16 N n16 τ x1 x2) (fun v => Fr [] [11, 12] σ v.2) := by
    intro n16
    induction n16 with
    | zero => intro τ x1 x2 hF; rw [f_E_spread_16]; exact pa_none
    | succ n16 ih16 =>
      have L30 : ∀ (n30 : Nat) (τ : vS) (x1 : Int32) (x2 : Int32) (x3 : Int32), Fr [] [11, 12] σ τ → Pa (f_E_spread_30 N (f_E_spread_16 N n16) n30 τ x1 x2 x3) (fun v => Fr [] [11, 12] σ v.2) := by
        intro n30
        induction n30 with
        | zero => intro τ x1 x2 x3 hF; rw [f_E_spread_30]; exact pa_none
        | succ n30 ih30 =>
          have J61 : ∀ (τ : vS) (x1 : Int32) (x2 : Int32) (x3 : Int32), Fr [] [11, 12] σ τ → Pa (f_E_spread_61 N (f_E_spread_16 N n16) (f_E_spread_30 N (f_E_spread_16 N n16) n30) τ x1 x2 x3) (fun v => Fr [] [11, 12] σ v.2) := by
            intro τ x1 x2 x3 hF
            unfold f_E_spread_61
            exact ih30 _ _ _ _ hF
          intro τ x1 x2 x3 hF
          rw [f_E_spread_30]
          dsimp only
          refine pa_if ?_ ?_
          ·
            exact ih16 _ _ _ hF
          ·
            refine pa_bi (fr_E_takeFromSymbols _ _ _) (fun q7 hq7 => ?_)
            have hq7 := Fr.on hF hq7 (by decide) (by decide)
            refine pa_bi (fr_E_close _ _ _) (fun q9 hq9 => ?_)
            have hq9 := Fr.on hq7 hq9 (by decide) (by decide)
            refine pa_bi (fr_E_giveToSymbols _ _ _) (fun q11 hq11 => ?_)
            have hq11 := Fr.on hq9 hq11 (by decide) (by decide)
            refine pa_if ?_ ?_
            ·
              exact J61 _ _ _ _ hq11
            ·
              exact J61 _ _ _ _ hq11
      intro τ x1 x2 hF
      rw [f_E_spread_16]
      dsimp only
      refine pa_if ?_ ?_
      ·
        exact pa_some hF
      ·
        refine pa_if ?_ ?_
        ·
          exact pa_some hF
        ·
          exact L30 N _ _ _ _ hF
  unfold f_E_spread
  refine pa_lets (fun σ1 eσ1 => ?_)
  have hσ1 : Fr [] [11, 12] σ σ1 := by rw [eσ1]; exact hF.sfill _ _ (by decide)
  refine pa_bi (fr_E_takeRules _ _) (fun q2 hq2 => ?_)
  have hq2 := Fr.on hσ1 hq2 (by decide) (by decide)
  exact L16 N _ _ _ hq2

theorem fr_K_inheritedOf (N : Nat) (σ : vS) (a0 : Int32) (a1 : Int32) : Pa (f_K_inheritedOf N σ a0 a1) (fun v => Fr [] [] σ v.2) := by
  have hF : Fr [] [] σ σ := Fr.rf
  unfold f_K_inheritedOf
  refine pa_bd ?_
  refine pa_lets (fun i2 _ => ?_)
  refine pa_bd ?_
  refine pa_lets (fun i4 _ => ?_)
  exact pa_some hF

theorem fr_K_synthesizedOf (N : Nat) (σ : vS) (a0 : Int32) (a1 : Int32) : Pa (f_K_synthesizedOf N σ a0 a1) (fun v => Fr [] [] σ v.2) := by
  have hF : Fr [] [] σ σ := Fr.rf
  unfold f_K_synthesizedOf
  refine pa_bd ?_
  refine pa_lets (fun i2 _ => ?_)
  refine pa_bd ?_
  refine pa_lets (fun i4 _ => ?_)
  exact pa_some hF

theorem fr_K_leastRank (N : Nat) (σ : vS) (a0 : Int32) (a1 : Int32) : Pa (f_K_leastRank N σ a0 a1) (fun v => Fr [] [] σ v.2) := by
  have hF : Fr [] [] σ σ := Fr.rf
  unfold f_K_leastRank
  refine pa_bd ?_
  refine pa_lets (fun i2 _ => ?_)
  refine pa_bi0 (fun q3 => ?_)
  refine pa_if ?_ ?_
  ·
    exact pa_some hF
  ·
    exact pa_some hF

theorem fr_K_rankAboveLed (N : Nat) (σ : vS) (a0 : Int32) (a1 : Int32) : Pa (f_K_rankAboveLed N σ a0 a1) (fun v => Fr [] [] σ v.2) := by
  have hF : Fr [] [] σ σ := Fr.rf
  have L21 : ∀ (n21 : Nat) (τ : vS) (x1 : Int32) (x2 : Int32) (x3 : Int32) (x4 : Int32) (x5 : Int32) (x6 : Int32), Fr [] [] σ τ → Pa (f_K_rankAboveLed_21 N n21 τ x1 x2 x3 x4 x5 x6) (fun v => Fr [] [] σ v.2) := by
    intro n21
    induction n21 with
    | zero => intro τ x1 x2 x3 x4 x5 x6 hF; rw [f_K_rankAboveLed_21]; exact pa_none
    | succ n21 ih21 =>
      have J70 : ∀ (τ : vS) (x1 : Int32) (x2 : Int32) (x3 : Int32) (x4 : Int32) (x5 : Int32) (x6 : Int32), Fr [] [] σ τ → Pa (f_K_rankAboveLed_70 N (f_K_rankAboveLed_21 N n21) τ x1 x2 x3 x4 x5 x6) (fun v => Fr [] [] σ v.2) := by
        intro τ x1 x2 x3 x4 x5 x6 hF
        unfold f_K_rankAboveLed_70
        exact ih21 _ _ _ _ _ _ _ hF
      intro τ x1 x2 x3 x4 x5 x6 hF
      rw [f_K_rankAboveLed_21]
      dsimp only
      refine pa_bd ?_
      refine pa_lets (fun i4 _ => ?_)
      refine pa_if ?_ ?_
      ·
        exact pa_some hF
      ·
        refine pa_bd ?_
        refine pa_lets (fun i7 _ => ?_)
        refine pa_bi0 (fun q8 => ?_)
        refine pa_if ?_ ?_
        ·
          exact J70 _ _ _ _ _ _ _ hF
        ·
          refine pa_bd ?_
          refine pa_lets (fun i12 _ => ?_)
          exact J70 _ _ _ _ _ _ _ hF
  unfold f_K_rankAboveLed
  refine pa_bd ?_
  refine pa_lets (fun i2 _ => ?_)
  exact L21 N _ _ _ _ _ _ _ hF

theorem fr_K_rankAttributes (N : Nat) (σ : vS) (a0 : Int32) : Pa (f_K_rankAttributes N σ a0) (fun v => Fr [] [13] σ v.2) := by
  have hF : Fr [] [13] σ σ := Fr.rf
  have L48 : ∀ (n48 : Nat) (τ : vS) (x1 : Int32) (x2 : Int32) (x3 : Int32) (x4 : Int32), Fr [] [13] σ τ → Pa (f_K_rankAttributes_48 N n48 τ x1 x2 x3 x4) (fun v => Fr [] [13] σ v.2) := by
    intro n48
    induction n48 with
    | zero => intro τ x1 x2 x3 x4 hF; rw [f_K_rankAttributes_48]; exact pa_none
    | succ n48 ih48 =>
      have L57 : ∀ (n57 : Nat) (τ : vS) (x1 : Int32) (x2 : Int32) (x3 : Int32) (x4 : Int32) (x5 : Int32), Fr [] [13] σ τ → Pa (f_K_rankAttributes_57 N (f_K_rankAttributes_48 N n48) n57 τ x1 x2 x3 x4 x5) (fun v => Fr [] [13] σ v.2) := by
        intro n57
        induction n57 with
        | zero => intro τ x1 x2 x3 x4 x5 hF; rw [f_K_rankAttributes_57]; exact pa_none
        | succ n57 ih57 =>
          intro τ x1 x2 x3 x4 x5 hF
          rw [f_K_rankAttributes_57]
          dsimp only
          refine pa_if ?_ ?_
          ·
            exact ih48 _ _ _ _ _ hF
          ·
            refine pa_bi (fr_K_rankAboveLed _ _ _ _) (fun q6 hq6 => ?_)
            have hq6 := Fr.on hF hq6 (by decide) (by decide)
            refine pa_bd ?_
            refine pa_lets (fun σ9 eσ9 => ?_)
            have hσ9 : Fr [] [13] σ σ9 := by rw [eσ9]; exact hq6.sa _ _ _ (by decide)
            exact ih57 _ _ _ _ _ _ hσ9
      intro τ x1 x2 x3 x4 hF
      rw [f_K_rankAttributes_48]
      dsimp only
      refine pa_if ?_ ?_
      ·
        exact pa_some hF
      ·
        exact L57 N _ _ _ _ _ _ hF
  have L17 : ∀ (n17 : Nat) (τ : vS) (x1 : Int32) (x2 : Int32) (x3 : Int32) (x4 : Int32), Fr [] [13] σ τ → Pa (f_K_rankAttributes_17 N n17 τ x1 x2 x3 x4) (fun v => Fr [] [13] σ v.2) := by
    intro n17
    induction n17 with
    | zero => intro τ x1 x2 x3 x4 hF; rw [f_K_rankAttributes_17]; exact pa_none
    | succ n17 ih17 =>
      intro τ x1 x2 x3 x4 hF
      rw [f_K_rankAttributes_17]
      dsimp only
      refine pa_if ?_ ?_
      ·
        exact L48 N _ _ _ _ _ hF
      ·
        refine pa_bi (fr_K_leastRank _ _ _ _) (fun q10 hq10 => ?_)
        have hq10 := Fr.on hF hq10 (by decide) (by decide)
        refine pa_bd ?_
        refine pa_lets (fun σ13 eσ13 => ?_)
        have hσ13 : Fr [] [13] σ σ13 := by rw [eσ13]; exact hq10.sa _ _ _ (by decide)
        exact ih17 _ _ _ _ _ hσ13
  unfold f_K_rankAttributes
  refine pa_bd ?_
  refine pa_lets (fun i2 _ => ?_)
  exact L17 N _ _ _ _ _ hF

theorem fr_K_countVisits (N : Nat) (σ : vS) (a0 : Int32) : Pa (f_K_countVisits N σ a0) (fun v => Fr [] [14] σ v.2) := by
  have hF : Fr [] [14] σ σ := Fr.rf
  have L4 : ∀ (n4 : Nat) (τ : vS) (x1 : Int32) (x2 : Int32) (x3 : Int32), Fr [] [14] σ τ → Pa (f_K_countVisits_4 N n4 τ x1 x2 x3) (fun v => Fr [] [14] σ v.2) := by
    intro n4
    induction n4 with
    | zero => intro τ x1 x2 x3 hF; rw [f_K_countVisits_4]; exact pa_none
    | succ n4 ih4 =>
      intro τ x1 x2 x3 hF
      rw [f_K_countVisits_4]
      dsimp only
      refine pa_bd ?_
      refine pa_lets (fun i2 _ => ?_)
      refine pa_if ?_ ?_
      ·
        refine pa_bd ?_
        refine pa_lets (fun σ5 eσ5 => ?_)
        have hσ5 : Fr [] [14] σ σ5 := by rw [eσ5]; exact hF.sa _ _ _ (by decide)
        exact pa_some hσ5
      ·
        refine pa_bd ?_
        refine pa_lets (fun i7 _ => ?_)
        exact ih4 _ _ _ _ hF
  unfold f_K_countVisits
  exact L4 N _ _ _ _ hF

theorem fr_K_shareOut (N : Nat) (σ : vS) (a0 : Int32) : Pa (f_K_shareOut N σ a0) (fun v => Fr [] [15] σ v.2) := by
  have hF : Fr [] [15] σ σ := Fr.rf
  have L2 : ∀ (n2 : Nat) (τ : vS) (x1 : Int32) (x2 : Int32), Fr [] [15] σ τ → Pa (f_K_shareOut_2 N n2 τ x1 x2) (fun v => Fr [] [15] σ v.2) := by
    intro n2
    induction n2 with
    | zero => intro τ x1 x2 hF; rw [f_K_shareOut_2]; exact pa_none
    | succ n2 ih2 =>
      intro τ x1 x2 hF
      rw [f_K_shareOut_2]
      dsimp only
      refine pa_bd ?_
      refine pa_lets (fun i2 _ => ?_)
      refine pa_if ?_ ?_
      ·
        exact pa_some hF
      ·
        refine pa_bd ?_
        refine pa_lets (fun i5 _ => ?_)
        refine pa_bd ?_
        refine pa_lets (fun i7 _ => ?_)
        refine pa_lets (fun i8 _ => ?_)
        refine pa_bd ?_
        refine pa_lets (fun i10 _ => ?_)
        refine pa_lets (fun i11 _ => ?_)
        refine pa_bd ?_
        refine pa_lets (fun σ13 eσ13 => ?_)
        have hσ13 : Fr [] [15] σ σ13 := by rw [eσ13]; exact hF.sa _ _ _ (by decide)
        exact ih2 _ _ _ hσ13
  unfold f_K_shareOut
  exact L2 N _ _ _ hF

theorem fr_K_ofLessRank (N : Nat) (σ : vS) (a0 : Int32) (a1 : Int32) : Pa (f_K_ofLessRank N σ a0 a1) (fun v => Fr [] [] σ v.2) := by
  have hF : Fr [] [] σ σ := Fr.rf
  have L5 : ∀ (n5 : Nat) (τ : vS) (x1 : Int32) (x2 : Int32) (x3 : Int32) (x4 : Int32), Fr [] [] σ τ → Pa (f_K_ofLessRank_5 N n5 τ x1 x2 x3 x4) (fun v => Fr [] [] σ v.2) := by
    intro n5
    induction n5 with
    | zero => intro τ x1 x2 x3 x4 hF; rw [f_K_ofLessRank_5]; exact pa_none
    | succ n5 ih5 =>
      have J41 : ∀ (τ : vS) (x1 : Int32) (x2 : Int32) (x3 : Int32) (x4 : Int32), Fr [] [] σ τ → Pa (f_K_ofLessRank_41 N (f_K_ofLessRank_5 N n5) τ x1 x2 x3 x4) (fun v => Fr [] [] σ v.2) := by
        intro τ x1 x2 x3 x4 hF
        unfold f_K_ofLessRank_41
        exact ih5 _ _ _ _ _ hF
      intro τ x1 x2 x3 x4 hF
      rw [f_K_ofLessRank_5]
      dsimp only
      refine pa_bd ?_
      refine pa_lets (fun i2 _ => ?_)
      refine pa_if ?_ ?_
      ·
        exact pa_some hF
      ·
        refine pa_bd ?_
        refine pa_lets (fun i5 _ => ?_)
        refine pa_if ?_ ?_
        ·
          exact J41 _ _ _ _ _ hF
        ·
          refine pa_lets (fun i7 _ => ?_)
          exact J41 _ _ _ _ _ hF
  unfold f_K_ofLessRank
  exact L5 N _ _ _ _ _ hF

theorem fr_K_addToLeads (N : Nat) (σ : vS) : Pa (f_K_addToLeads N σ) (fun v => Fr [] [12] σ v.2) := by
  have hF : Fr [] [12] σ σ := Fr.rf
  have L2 : ∀ (n2 : Nat) (τ : vS) (x1 : Int32), Fr [] [12] σ τ → Pa (f_K_addToLeads_2 N n2 τ x1) (fun v => Fr [] [12] σ v.2) := by
    intro n2
    induction n2 with
    | zero => intro τ x1 hF; rw [f_K_addToLeads_2]; exact pa_none
    | succ n2 ih2 =>
      have L19 : ∀ (n19 : Nat) (τ : vS) (x1 : Int32) (x2 : Int32) (x3 : Int32), Fr [] [12] σ τ → Pa (f_K_addToLeads_19 N (f_K_addToLeads_2 N n2) n19 τ x1 x2 x3) (fun v => Fr [] [12] σ v.2) := by
        intro n19
        induction n19 with
        | zero => intro τ x1 x2 x3 hF; rw [f_K_addToLeads_19]; exact pa_none
        | succ n19 ih19 =>
          intro τ x1 x2 x3 hF
          rw [f_K_addToLeads_19]
          dsimp only
          refine pa_bd ?_
          refine pa_lets (fun i3 _ => ?_)
          refine pa_if ?_ ?_
          ·
            exact ih2 _ _ hF
          ·
            refine pa_bd ?_
            refine pa_lets (fun i6 _ => ?_)
            refine pa_bd ?_
            refine pa_lets (fun i8 _ => ?_)
            refine pa_bi (fr_K_ofLessRank _ _ _ _) (fun q9 hq9 => ?_)
            have hq9 := Fr.on hF hq9 (by decide) (by decide)
            refine pa_bd ?_
            refine pa_lets (fun σ12 eσ12 => ?_)
            have hσ12 : Fr [] [12] σ σ12 := by rw [eσ12]; exact hq9.sa _ _ _ (by decide)
            exact ih19 _ _ _ _ hσ12
      intro τ x1 hF
      rw [f_K_addToLeads_2]
      dsimp only
      refine pa_if ?_ ?_
      ·
        exact pa_some hF
      ·
        exact L19 N _ _ _ _ hF
  unfold f_K_addToLeads
  exact L2 N _ _ hF

theorem fr_K_make (N : Nat) (σ : vS) : Pa (f_K_make N σ) (fun v => Fr [] [13, 14, 15] σ v.2) := by
  have hF : Fr [] [13, 14, 15] σ σ := Fr.rf
  have L10 : ∀ (n10 : Nat) (τ : vS) (x1 : Int32), Fr [] [13, 14, 15] σ τ → Pa (f_K_make_10 N n10 τ x1) (fun v => Fr [] [13, 14, 15] σ v.2) := by
    intro n10
    induction n10 with
    | zero => intro τ x1 hF; rw [f_K_make_10]; exact pa_none
    | succ n10 ih10 =>
      intro τ x1 hF
      rw [f_K_make_10]
      dsimp only
      refine pa_if ?_ ?_
      ·
        exact pa_some hF
      ·
        refine pa_bi (fr_K_rankAttributes _ _ _) (fun q3 hq3 => ?_)
        have hq3 := Fr.on hF hq3 (by decide) (by decide)
        refine pa_bi (fr_K_countVisits _ _ _) (fun q5 hq5 => ?_)
        have hq5 := Fr.on hq3 hq5 (by decide) (by decide)
        refine pa_bi (fr_K_shareOut _ _ _) (fun q7 hq7 => ?_)
        have hq7 := Fr.on hq5 hq7 (by decide) (by decide)
        exact ih10 _ _ hq7
  unfold f_K_make
  refine pa_lets (fun σ1 eσ1 => ?_)
  have hσ1 : Fr [] [13, 14, 15] σ σ1 := by rw [eσ1]; exact hF.sfill _ _ (by decide)
  exact L10 N _ _ hσ1

theorem fr_Q_at (N : Nat) (σ : vS) (a0 : Int32) (a1 : Int32) : Pa (f_Q_at N σ a0 a1) (fun v => Fr [] [] σ v.2) := by
  have hF : Fr [] [] σ σ := Fr.rf
  unfold f_Q_at
  refine pa_bd ?_
  refine pa_lets (fun i2 _ => ?_)
  refine pa_if ?_ ?_
  ·
    exact pa_some hF
  ·
    refine pa_bd ?_
    refine pa_lets (fun i5 _ => ?_)
    exact pa_some hF

theorem fr_Q_lengthOfAll (N : Nat) (σ : vS) : Pa (f_Q_lengthOfAll N σ) (fun v => Fr [] [] σ v.2) := by
  have hF : Fr [] [] σ σ := Fr.rf
  have L4 : ∀ (n4 : Nat) (τ : vS) (x1 : Int32) (x2 : Int32), Fr [] [] σ τ → Pa (f_Q_lengthOfAll_4 N n4 τ x1 x2) (fun v => Fr [] [] σ v.2) := by
    intro n4
    induction n4 with
    | zero => intro τ x1 x2 hF; rw [f_Q_lengthOfAll_4]; exact pa_none
    | succ n4 ih4 =>
      intro τ x1 x2 hF
      rw [f_Q_lengthOfAll_4]
      dsimp only
      refine pa_if ?_ ?_
      ·
        exact pa_some hF
      ·
        refine pa_bd ?_
        refine pa_lets (fun i3 _ => ?_)
        exact ih4 _ _ _ hF
  unfold f_Q_lengthOfAll
  exact L4 N _ _ _ hF

theorem fr_Q_visitsAt (N : Nat) (σ : vS) (a0 : Int32) (a1 : Int32) : Pa (f_Q_visitsAt N σ a0 a1) (fun v => Fr [] [] σ v.2) := by
  have hF : Fr [] [] σ σ := Fr.rf
  unfold f_Q_visitsAt
  refine pa_bi (fr_G_symbolAt _ _ _ _) (fun q1 hq1 => ?_)
  have hq1 := Fr.on hF hq1 (by decide) (by decide)
  refine pa_bd ?_
  refine pa_lets (fun i4 _ => ?_)
  exact pa_some hq1

theorem fr_Q_readySet (N : Nat) (σ : vS) (a0 : Int32) : Pa (f_Q_readySet N σ a0) (fun v => Fr [] [] σ v.2) := by
  have hF : Fr [] [] σ σ := Fr.rf
  have L25 : ∀ (n25 : Nat) (τ : vS) (x2 : Int32) (x3 : Int32) (x4 : Int32), Fr [] [] σ τ → Pa (f_Q_readySet_25 N n25 τ x2 x3 x4) (fun v => Fr [] [] σ v.2) := by
    intro n25
    induction n25 with
    | zero => intro τ x2 x3 x4 hF; rw [f_Q_readySet_25]; exact pa_none
    | succ n25 ih25 =>
      have J66 : ∀ (τ : vS) (x2 : Int32) (x3 : Int32) (x4 : Int32), Fr [] [] σ τ → Pa (f_Q_readySet_66 N (f_Q_readySet_25 N n25) τ x2 x3 x4) (fun v => Fr [] [] σ v.2) := by
        intro τ x2 x3 x4 hF
        unfold f_Q_readySet_66
        exact ih25 _ _ _ _ hF
      intro τ x2 x3 x4 hF
      rw [f_Q_readySet_25]
      dsimp only
      refine pa_if ?_ ?_
      ·
        exact pa_some hF
      ·
        refine pa_bi0 (fun q4 => ?_)
        refine pa_if ?_ ?_
        ·
          exact J66 _ _ _ _ hF
        ·
          refine pa_bd ?_
          refine pa_lets (fun i8 _ => ?_)
          refine pa_bi0 (fun q9 => ?_)
          refine pa_if ?_ ?_
          ·
            exact J66 _ _ _ _ hF
          ·
            exact pa_some hF
  unfold f_Q_readySet
  refine pa_bd ?_
  refine pa_lets (fun i2 _ => ?_)
  exact L25 N _ _ _ _ hF

theorem fr_Q_readyVisit (N : Nat) (σ : vS) (a0 : Int32) : Pa (f_Q_readyVisit N σ a0) (fun v => Fr [] [] σ v.2) := by
  have hF : Fr [] [] σ σ := Fr.rf
  have L2 : ∀ (n2 : Nat) (τ : vS) (x1 : Int32) (x2 : Int32), Fr [] [] σ τ → Pa (f_Q_readyVisit_2 N n2 τ x1 x2) (fun v => Fr [] [] σ v.2) := by
    intro n2
    induction n2 with
    | zero => intro τ x1 x2 hF; rw [f_Q_readyVisit_2]; exact pa_none
    | succ n2 ih2 =>
      have J75 : ∀ (τ : vS) (x1 : Int32) (x2 : Int32), Fr [] [] σ τ → Pa (f_Q_readyVisit_75 N (f_Q_readyVisit_2 N n2) τ x1 x2) (fun v => Fr [] [] σ v.2) := by
        intro τ x1 x2 hF
        unfold f_Q_readyVisit_75
        exact ih2 _ _ _ hF
      intro τ x1 x2 hF
      rw [f_Q_readyVisit_2]
      dsimp only
      refine pa_bd ?_
      refine pa_lets (fun i2 _ => ?_)
      refine pa_if ?_ ?_
      ·
        exact pa_some hF
      ·
        refine pa_bd ?_
        refine pa_lets (fun i5 _ => ?_)
        refine pa_bi (fr_Q_visitsAt _ _ _ _) (fun q6 hq6 => ?_)
        have hq6 := Fr.on hF hq6 (by decide) (by decide)
        refine pa_if ?_ ?_
        ·
          exact J75 _ _ _ hq6
        ·
          refine pa_bi (fr_G_symbolAt _ _ _ _) (fun q9 hq9 => ?_)
          have hq9 := Fr.on hq6 hq9 (by decide) (by decide)
          refine pa_bi (fr_K_inheritedOf _ _ _ _) (fun q11 hq11 => ?_)
          have hq11 := Fr.on hq9 hq11 (by decide) (by decide)
          refine pa_bi0 (fun q13 => ?_)
          refine pa_if ?_ ?_
          ·
            exact J75 _ _ _ hq11
          ·
            exact pa_some hq11
  unfold f_Q_readyVisit
  exact L2 N _ _ _ hF

theorem fr_Q_isLeaveReady (N : Nat) (σ : vS) (a0 : Int32) (a1 : Int32) : Pa (f_Q_isLeaveReady N σ a0 a1) (fun v => Fr [] [] σ v.2) := by
  have hF : Fr [] [] σ σ := Fr.rf
  have J33 : ∀ (τ : vS) (x1 : Int32) (x3 : Int32), Fr [] [] σ τ → Pa (f_Q_isLeaveReady_33 N τ x1 x3) (fun v => Fr [] [] σ v.2) := by
    intro τ x1 x3 hF
    unfold f_Q_isLeaveReady_33
    refine pa_bi (fr_G_symbolAt _ _ _ _) (fun q6 hq6 => ?_)
    have hq6 := Fr.on hF hq6 (by decide) (by decide)
    refine pa_bi (fr_K_synthesizedOf _ _ _ _) (fun q8 hq8 => ?_)
    have hq8 := Fr.on hq6 hq8 (by decide) (by decide)
    refine pa_bi0 (fun q10 => ?_)
    refine pa_if ?_ ?_
    ·
      exact pa_some hq8
    ·
      exact pa_some hq8
  unfold f_Q_isLeaveReady
  refine pa_bd ?_
  refine pa_lets (fun i2 _ => ?_)
  refine pa_bi (fr_Q_visitsAt _ _ _ _) (fun q3 hq3 => ?_)
  have hq3 := Fr.on hF hq3 (by decide) (by decide)
  refine pa_if ?_ ?_
  ·
    exact pa_some hq3
  ·
    refine pa_if ?_ ?_
    ·
      exact J33 _ _ _ hq3
    ·
      refine pa_if ?_ ?_
      ·
        exact pa_some hq3
      ·
        exact J33 _ _ _ hq3

theorem fr_Q_writeSet (N : Nat) (σ : vS) (a0 : Int32) : Pa (f_Q_writeSet N σ a0) (fun v => Fr [6, 7] [] σ v.2) := by
  have hF : Fr [6, 7] [] σ σ := Fr.rf
  unfold f_Q_writeSet
  refine pa_lets (fun i1 _ => ?_)
  refine pa_lets (fun σ2 eσ2 => ?_)
  have hσ2 : Fr [6, 7] [] σ σ2 := by rw [eσ2]; exact hF.sf _ _ (by decide)
  refine pa_lets (fun i3 _ => ?_)
  refine pa_lets (fun σ4 eσ4 => ?_)
  have hσ4 : Fr [6, 7] [] σ σ4 := by rw [eσ4]; exact hσ2.sf _ _ (by decide)
  exact pa_some hσ4

theorem fr_Q_writeVisit (N : Nat) (σ : vS) (a0 : Int32) (a1 : Int32) : Pa (f_Q_writeVisit N σ a0 a1) (fun v => Fr [7] [18] σ v.2) := by
  have hF : Fr [7] [18] σ σ := Fr.rf
  unfold f_Q_writeVisit
  refine pa_bd ?_
  refine pa_lets (fun i2 _ => ?_)
  refine pa_bd ?_
  refine pa_lets (fun σ4 eσ4 => ?_)
  have hσ4 : Fr [7] [18] σ σ4 := by rw [eσ4]; exact hF.sa _ _ _ (by decide)
  refine pa_bi (fr_G_symbolAt _ _ _ _) (fun q5 hq5 => ?_)
  have hq5 := Fr.on hσ4 hq5 (by decide) (by decide)
  refine pa_bi (fr_K_synthesizedOf _ _ _ _) (fun q7 hq7 => ?_)
  have hq7 := Fr.on hq5 hq7 (by decide) (by decide)
  refine pa_lets (fun i9 _ => ?_)
  refine pa_lets (fun σ10 eσ10 => ?_)
  have hσ10 : Fr [7] [18] σ σ10 := by rw [eσ10]; exact hq7.sf _ _ (by decide)
  refine pa_lets (fun i11 _ => ?_)
  exact pa_some hσ10

theorem fr_Q_writeLeave (N : Nat) (σ : vS) (a0 : Int32) : Pa (f_Q_writeLeave N σ a0) (fun v => Fr [7] [18] σ v.2) := by
  have hF : Fr [7] [18] σ σ := Fr.rf
  have J50 : ∀ (τ : vS) (x2 : Int32), Fr [7] [18] σ τ → Pa (f_Q_writeLeave_50 N τ x2) (fun v => Fr [7] [18] σ v.2) := by
    intro τ x2 hF
    unfold f_Q_writeLeave_50
    exact pa_some hF
  unfold f_Q_writeLeave
  refine pa_bd ?_
  refine pa_lets (fun i2 _ => ?_)
  refine pa_bd ?_
  refine pa_lets (fun σ4 eσ4 => ?_)
  have hσ4 : Fr [7] [18] σ σ4 := by rw [eσ4]; exact hF.sa _ _ _ (by decide)
  refine pa_bi (fr_Q_visitsAt _ _ _ _) (fun q5 hq5 => ?_)
  have hq5 := Fr.on hσ4 hq5 (by decide) (by decide)
  refine pa_if ?_ ?_
  ·
    exact J50 _ _ hq5
  ·
    refine pa_bi (fr_G_symbolAt _ _ _ _) (fun q8 hq8 => ?_)
    have hq8 := Fr.on hq5 hq8 (by decide) (by decide)
    refine pa_bi (fr_K_inheritedOf _ _ _ _) (fun q10 hq10 => ?_)
    have hq10 := Fr.on hq8 hq10 (by decide) (by decide)
    refine pa_lets (fun σ12 eσ12 => ?_)
    have hσ12 : Fr [7] [18] σ σ12 := by rw [eσ12]; exact hq10.sf _ _ (by decide)
    exact J50 _ _ hσ12

theorem fr_Q_writeNext (N : Nat) (σ : vS) (a0 : Int32) (a1 : Int32) : Pa (f_Q_writeNext N σ a0 a1) (fun v => Fr [6, 7] [18] σ v.2) := by
  have hF : Fr [6, 7] [18] σ σ := Fr.rf
  unfold f_Q_writeNext
  refine pa_bi (fr_Q_readySet _ _ _) (fun q1 hq1 => ?_)
  have hq1 := Fr.on hF hq1 (by decide) (by decide)
  refine pa_if ?_ ?_
  ·
    refine pa_bi (fr_Q_readyVisit _ _ _) (fun q4 hq4 => ?_)
    have hq4 := Fr.on hq1 hq4 (by decide) (by decide)
    refine pa_if ?_ ?_
    ·
      refine pa_bi (fr_Q_isLeaveReady _ _ _ _) (fun q7 hq7 => ?_)
      have hq7 := Fr.on hq4 hq7 (by decide) (by decide)
      refine pa_if ?_ ?_
      ·
        exact pa_some hq7
      ·
        refine pa_bi (fr_Q_writeLeave _ _ _) (fun q10 hq10 => ?_)
        have hq10 := Fr.on hq7 hq10 (by decide) (by decide)
        exact pa_some hq10
    ·
      refine pa_bi (fr_Q_writeVisit _ _ _ _) (fun q12 hq12 => ?_)
      have hq12 := Fr.on hq4 hq12 (by decide) (by decide)
      exact pa_some hq12
  ·
    refine pa_bi (fr_Q_writeSet _ _ _) (fun q14 hq14 => ?_)
    have hq14 := Fr.on hq1 hq14 (by decide) (by decide)
    exact pa_some hq14

theorem fr_Q_beginWriting (N : Nat) (σ : vS) (a0 : Int32) : Pa (f_Q_beginWriting N σ a0) (fun v => Fr [6, 7] [18] σ v.2) := by
  have hF : Fr [6, 7] [18] σ σ := Fr.rf
  unfold f_Q_beginWriting
  refine pa_lets (fun σ1 eσ1 => ?_)
  have hσ1 : Fr [6, 7] [18] σ σ1 := by rw [eσ1]; exact hF.sfill _ _ (by decide)
  refine pa_lets (fun σ2 eσ2 => ?_)
  have hσ2 : Fr [6, 7] [18] σ σ2 := by rw [eσ2]; exact hσ1.sf _ _ (by decide)
  refine pa_bi (fr_G_symbolAt _ _ _ _) (fun q3 hq3 => ?_)
  have hq3 := Fr.on hσ2 hq3 (by decide) (by decide)
  refine pa_bi (fr_K_inheritedOf _ _ _ _) (fun q5 hq5 => ?_)
  have hq5 := Fr.on hq3 hq5 (by decide) (by decide)
  refine pa_lets (fun σ7 eσ7 => ?_)
  have hσ7 : Fr [6, 7] [18] σ σ7 := by rw [eσ7]; exact hq5.sf _ _ (by decide)
  exact pa_some hσ7

theorem fr_Q_fullLength (N : Nat) (σ : vS) (a0 : Int32) : Pa (f_Q_fullLength N σ a0) (fun v => Fr [] [] σ v.2) := by
  have hF : Fr [] [] σ σ := Fr.rf
  have L15 : ∀ (n15 : Nat) (τ : vS) (x1 : Int32) (x2 : Int32) (x3 : Int32), Fr [] [] σ τ → Pa (f_Q_fullLength_15 N n15 τ x1 x2 x3) (fun v => Fr [] [] σ v.2) := by
    intro n15
    induction n15 with
    | zero => intro τ x1 x2 x3 hF; rw [f_Q_fullLength_15]; exact pa_none
    | succ n15 ih15 =>
      intro τ x1 x2 x3 hF
      rw [f_Q_fullLength_15]
      dsimp only
      refine pa_bd ?_
      refine pa_lets (fun i6 _ => ?_)
      refine pa_if ?_ ?_
      ·
        exact pa_some hF
      ·
        refine pa_bi (fr_Q_visitsAt _ _ _ _) (fun q8 hq8 => ?_)
        have hq8 := Fr.on hF hq8 (by decide) (by decide)
        exact ih15 _ _ _ _ hq8
  unfold f_Q_fullLength
  refine pa_bd ?_
  refine pa_lets (fun i2 _ => ?_)
  refine pa_bi0 (fun q3 => ?_)
  exact L15 N _ _ _ _ hF

theorem fr_Q_write (N : Nat) (σ : vS) : Pa (f_Q_write N σ) (fun v => Fr [6, 7] [16, 17, 18] σ v.2) := by
  have hF : Fr [6, 7] [16, 17, 18] σ σ := Fr.rf
  have L2 : ∀ (n2 : Nat) (τ : vS) (x1 : Int32), Fr [6, 7] [16, 17, 18] σ τ → Pa (f_Q_write_2 N n2 τ x1) (fun v => Fr [6, 7] [16, 17, 18] σ v.2) := by
    intro n2
    induction n2 with
    | zero => intro τ x1 hF; rw [f_Q_write_2]; exact pa_none
    | succ n2 ih2 =>
      have L26 : ∀ (n26 : Nat) (τ : vS) (x1 : Int32) (x2 : Int32) (x3 : Int32), Fr [6, 7] [16, 17, 18] σ τ → Pa (f_Q_write_26 N (f_Q_write_2 N n2) n26 τ x1 x2 x3) (fun v => Fr [6, 7] [16, 17, 18] σ v.2) := by
        intro n26
        induction n26 with
        | zero => intro τ x1 x2 x3 hF; rw [f_Q_write_26]; exact pa_none
        | succ n26 ih26 =>
          have J55 : ∀ (τ : vS) (x1 : Int32) (x2 : Int32) (x3 : Int32) (y0 : Int32) (y1 : Int32) (y3 : Int32), Fr [6, 7] [16, 17, 18] σ τ → Pa (f_Q_write_55 N (f_Q_write_2 N n2) (f_Q_write_26 N (f_Q_write_2 N n2) n26) τ x1 x2 x3 y0 y1 y3) (fun v => Fr [6, 7] [16, 17, 18] σ v.2) := by
            intro τ x1 x2 x3 y0 y1 y3 hF
            unfold f_Q_write_55
            refine pa_bi (fr_Q_writeNext _ _ _ _) (fun q9 hq9 => ?_)
            have hq9 := Fr.on hF hq9 (by decide) (by decide)
            refine pa_bd ?_
            refine pa_lets (fun σ12 eσ12 => ?_)
            have hσ12 : Fr [6, 7] [16, 17, 18] σ σ12 := by rw [eσ12]; exact hq9.sa _ _ _ (by decide)
            exact ih26 _ _ _ _ hσ12
          intro τ x1 x2 x3 hF
          rw [f_Q_write_26]
          dsimp only
          refine pa_if ?_ ?_
          ·
            refine pa_bd ?_
            refine pa_lets (fun σ8 eσ8 => ?_)
            have hσ8 : Fr [6, 7] [16, 17, 18] σ σ8 := by rw [eσ8]; exact hF.sa _ _ _ (by decide)
            exact ih2 _ _ hσ8
          ·
            refine pa_if ?_ ?_
            ·
              exact J55 _ _ _ _ _ _ _ hF
            ·
              exact J55 _ _ _ _ _ _ _ hF
      intro τ x1 hF
      rw [f_Q_write_2]
      dsimp only
      refine pa_if ?_ ?_
      ·
        exact pa_some hF
      ·
        refine pa_bi (fr_Q_beginWriting _ _ _) (fun q2 hq2 => ?_)
        have hq2 := Fr.on hF hq2 (by decide) (by decide)
        refine pa_bi (fr_Q_fullLength _ _ _) (fun q4 hq4 => ?_)
        have hq4 := Fr.on hq2 hq4 (by decide) (by decide)
        exact L26 N _ _ _ _ hq4
  unfold f_Q_write
  exact L2 N _ _ hF

theorem fr_Z_hasNode (N : Nat) (σ : vS) (a0 : Int32) : Pa (f_Z_hasNode N σ a0) (fun v => Fr [] [] σ v.2) := by
  have hF : Fr [] [] σ σ := Fr.rf
  unfold f_Z_hasNode
  refine pa_if ?_ ?_
  ·
    exact pa_some hF
  ·
    refine pa_if ?_ ?_
    ·
      exact pa_some hF
    ·
      exact pa_some hF

theorem fr_Z_symbolOf (N : Nat) (σ : vS) (a0 : Int32) : Pa (f_Z_symbolOf N σ a0) (fun v => Fr [] [] σ v.2) := by
  have hF : Fr [] [] σ σ := Fr.rf
  unfold f_Z_symbolOf
  refine pa_bd ?_
  refine pa_lets (fun i2 _ => ?_)
  refine pa_bi (fr_G_symbolAt _ _ _ _) (fun q3 hq3 => ?_)
  have hq3 := Fr.on hF hq3 (by decide) (by decide)
  exact pa_some hq3

theorem fr_Z_nodeAt (N : Nat) (σ : vS) (a0 : Int32) (a1 : Int32) : Pa (f_Z_nodeAt N σ a0 a1) (fun v => Fr [] [] σ v.2) := by
  have hF : Fr [] [] σ σ := Fr.rf
  unfold f_Z_nodeAt
  refine pa_bd ?_
  refine pa_lets (fun i2 _ => ?_)
  exact pa_some hF

theorem fr_Z_canBeChild (N : Nat) (σ : vS) (a0 : Int32) (a1 : Int32) (a2 : Int32) : Pa (f_Z_canBeChild N σ a0 a1 a2) (fun v => Fr [] [] σ v.2) := by
  have hF : Fr [] [] σ σ := Fr.rf
  unfold f_Z_canBeChild
  refine pa_bd ?_
  refine pa_lets (fun i2 _ => ?_)
  refine pa_if ?_ ?_
  ·
    refine pa_bi (fr_Z_hasNode _ _ _) (fun q4 hq4 => ?_)
    have hq4 := Fr.on hF hq4 (by decide) (by decide)
    refine pa_if ?_ ?_
    ·
      exact pa_some hq4
    ·
      refine pa_bd ?_
      refine pa_lets (fun i8 _ => ?_)
      refine pa_if ?_ ?_
      ·
        refine pa_bi (fr_Z_symbolOf _ _ _) (fun q10 hq10 => ?_)
        have hq10 := Fr.on hq4 hq10 (by decide) (by decide)
        refine pa_bi (fr_G_symbolAt _ _ _ _) (fun q12 hq12 => ?_)
        have hq12 := Fr.on hq10 hq12 (by decide) (by decide)
        refine pa_if ?_ ?_
        ·
          exact pa_some hq12
        ·
          exact pa_some hq12
      ·
        exact pa_some hq4
  ·
    refine pa_if ?_ ?_
    ·
      exact pa_some hF
    ·
      exact pa_some hF

theorem fr_Z_canBeChildren (N : Nat) (σ : vS) (a0 : Int32) (a1 : Int32) (a2 : Int32) (a3 : Int32) : Pa (f_Z_canBeChildren N σ a0 a1 a2 a3) (fun v => Fr [] [] σ v.2) := by
  have hF : Fr [] [] σ σ := Fr.rf
  have J58 : ∀ (τ : vS), Fr [] [] σ τ → Pa (f_Z_canBeChildren_58 N τ) (fun v => Fr [] [] σ v.2) := by
    intro τ hF
    unfold f_Z_canBeChildren_58
    exact pa_some hF
  have J47 : ∀ (τ : vS) (x3 : Int32) (x4 : Int32), Fr [] [] σ τ → Pa (f_Z_canBeChildren_47 N τ x3 x4) (fun v => Fr [] [] σ v.2) := by
    intro τ x3 x4 hF
    unfold f_Z_canBeChildren_47
    refine pa_if ?_ ?_
    ·
      exact J58 _ hF
    ·
      refine pa_if ?_ ?_
      ·
        exact pa_some hF
      ·
        exact J58 _ hF
  unfold f_Z_canBeChildren
  refine pa_bi (fr_Z_canBeChild _ _ _ _ _) (fun q1 hq1 => ?_)
  have hq1 := Fr.on hF hq1 (by decide) (by decide)
  refine pa_if ?_ ?_
  ·
    exact pa_some hq1
  ·
    refine pa_bi (fr_Z_canBeChild _ _ _ _ _) (fun q4 hq4 => ?_)
    have hq4 := Fr.on hq1 hq4 (by decide) (by decide)
    refine pa_if ?_ ?_
    ·
      exact pa_some hq4
    ·
      refine pa_bi (fr_Z_canBeChild _ _ _ _ _) (fun q7 hq7 => ?_)
      have hq7 := Fr.on hq4 hq7 (by decide) (by decide)
      refine pa_if ?_ ?_
      ·
        exact pa_some hq7
      ·
        refine pa_if ?_ ?_
        ·
          exact J47 _ _ _ hq7
        ·
          refine pa_if ?_ ?_
          ·
            exact pa_some hq7
          ·
            refine pa_if ?_ ?_
            ·
              exact pa_some hq7
            ·
              exact J47 _ _ _ hq7

theorem fr_Z_adopt (N : Nat) (σ : vS) (a0 : Int32) (a1 : Int32) (a2 : Int32) : Pa (f_Z_adopt N σ a0 a1 a2) (fun v => Fr [] [21, 22] σ v.2) := by
  have hF : Fr [] [21, 22] σ σ := Fr.rf
  unfold f_Z_adopt
  refine pa_bd ?_
  refine pa_lets (fun σ2 eσ2 => ?_)
  have hσ2 : Fr [] [21, 22] σ σ2 := by rw [eσ2]; exact hF.sa _ _ _ (by decide)
  refine pa_if ?_ ?_
  ·
    exact pa_some hσ2
  ·
    refine pa_bd ?_
    refine pa_lets (fun σ5 eσ5 => ?_)
    have hσ5 : Fr [] [21, 22] σ σ5 := by rw [eσ5]; exact hσ2.sa _ _ _ (by decide)
    exact pa_some hσ5

theorem fr_Z_grow (N : Nat) (σ : vS) (a0 : Int32) (a1 : Int32) (a2 : Int32) (a3 : Int32) (a4 : Int32) : Pa (f_Z_grow N σ a0 a1 a2 a3 a4) (fun v => Fr [8] [19, 20, 21, 22] σ v.2) := by
  have hF : Fr [8] [19, 20, 21, 22] σ σ := Fr.rf
  unfold f_Z_grow
  refine pa_lets (fun σ1 eσ1 => ?_)
  have hσ1 : Fr [8] [19, 20, 21, 22] σ σ1 := by rw [eσ1]; exact hF.sf _ _ (by decide)
  refine pa_bd ?_
  refine pa_lets (fun σ3 eσ3 => ?_)
  have hσ3 : Fr [8] [19, 20, 21, 22] σ σ3 := by rw [eσ3]; exact hσ1.sa _ _ _ (by decide)
  refine pa_bd ?_
  refine pa_lets (fun σ5 eσ5 => ?_)
  have hσ5 : Fr [8] [19, 20, 21, 22] σ σ5 := by rw [eσ5]; exact hσ3.sa _ _ _ (by decide)
  refine pa_bd ?_
  refine pa_lets (fun σ7 eσ7 => ?_)
  have hσ7 : Fr [8] [19, 20, 21, 22] σ σ7 := by rw [eσ7]; exact hσ5.sa _ _ _ (by decide)
  refine pa_bd ?_
  refine pa_lets (fun σ9 eσ9 => ?_)
  have hσ9 : Fr [8] [19, 20, 21, 22] σ σ9 := by rw [eσ9]; exact hσ7.sa _ _ _ (by decide)
  refine pa_bi (fr_Z_adopt _ _ _ _ _) (fun q10 hq10 => ?_)
  have hq10 := Fr.on hσ9 hq10 (by decide) (by decide)
  refine pa_bi (fr_Z_adopt _ _ _ _ _) (fun q12 hq12 => ?_)
  have hq12 := Fr.on hq10 hq12 (by decide) (by decide)
  refine pa_bi (fr_Z_adopt _ _ _ _ _) (fun q14 hq14 => ?_)
  have hq14 := Fr.on hq12 hq14 (by decide) (by decide)
  exact pa_some hq14

theorem fr_Z_clear (N : Nat) (σ : vS) : Pa (f_Z_clear N σ) (fun v => Fr [8] [] σ v.2) := by
  have hF : Fr [8] [] σ σ := Fr.rf
  unfold f_Z_clear
  refine pa_lets (fun σ1 eσ1 => ?_)
  have hσ1 : Fr [8] [] σ σ1 := by rw [eσ1]; exact hF.sf _ _ (by decide)
  exact pa_some hσ1

theorem fr_U_begin (N : Nat) (σ : vS) (a0 : Int32) : Pa (f_U_begin N σ a0) (fun v => Fr [9, 10, 11] [24, 25, 26] σ v.2) := by
  have hF : Fr [9, 10, 11] [24, 25, 26] σ σ := Fr.rf
  unfold f_U_begin
  refine pa_lets (fun σ1 eσ1 => ?_)
  have hσ1 : Fr [9, 10, 11] [24, 25, 26] σ σ1 := by rw [eσ1]; exact hF.sfill _ _ (by decide)
  refine pa_lets (fun σ2 eσ2 => ?_)
  have hσ2 : Fr [9, 10, 11] [24, 25, 26] σ σ2 := by rw [eσ2]; exact hσ1.sfill _ _ (by decide)
  refine pa_bd ?_
  refine pa_lets (fun σ4 eσ4 => ?_)
  have hσ4 : Fr [9, 10, 11] [24, 25, 26] σ σ4 := by rw [eσ4]; exact hσ2.scpy _ _ _ _ (by decide)
  refine pa_bi (fr_Z_symbolOf _ _ _) (fun q5 hq5 => ?_)
  have hq5 := Fr.on hσ4 hq5 (by decide) (by decide)
  refine pa_bd ?_
  refine pa_lets (fun i8 _ => ?_)
  refine pa_bd ?_
  refine pa_lets (fun σ10 eσ10 => ?_)
  have hσ10 : Fr [9, 10, 11] [24, 25, 26] σ σ10 := by rw [eσ10]; exact hq5.sa _ _ _ (by decide)
  refine pa_lets (fun σ11 eσ11 => ?_)
  have hσ11 : Fr [9, 10, 11] [24, 25, 26] σ σ11 := by rw [eσ11]; exact hσ10.sf _ _ (by decide)
  refine pa_lets (fun σ12 eσ12 => ?_)
  have hσ12 : Fr [9, 10, 11] [24, 25, 26] σ σ12 := by rw [eσ12]; exact hσ11.sf _ _ (by decide)
  refine pa_lets (fun σ13 eσ13 => ?_)
  have hσ13 : Fr [9, 10, 11] [24, 25, 26] σ σ13 := by rw [eσ13]; exact hσ12.sf _ _ (by decide)
  exact pa_some hσ13

theorem fr_U_end (N : Nat) (σ : vS) : Pa (f_U_end N σ) (fun v => Fr [9] [] σ v.2) := by
  have hF : Fr [9] [] σ σ := Fr.rf
  unfold f_U_end
  refine pa_lets (fun σ1 eσ1 => ?_)
  have hσ1 : Fr [9] [] σ σ1 := by rw [eσ1]; exact hF.sf _ _ (by decide)
  exact pa_some hσ1

theorem fr_U_isKnown (N : Nat) (σ : vS) (a0 : Int32) (a1 : Int32) : Pa (f_U_isKnown N σ a0 a1) (fun v => Fr [] [] σ v.2) := by
  have hF : Fr [] [] σ σ := Fr.rf
  unfold f_U_isKnown
  refine pa_if ?_ ?_
  ·
    exact pa_some hF
  ·
    refine pa_bd ?_
    refine pa_lets (fun i3 _ => ?_)
    refine pa_bi0 (fun q4 => ?_)
    refine pa_if ?_ ?_
    ·
      exact pa_some hF
    ·
      exact pa_some hF

theorem fr_U_leaveNode (N : Nat) (σ : vS) (a0 : Int32) : Pa (f_U_leaveNode N σ a0) (fun v => Fr [9, 11] [] σ v.2) := by
  have hF : Fr [9, 11] [] σ σ := Fr.rf
  unfold f_U_leaveNode
  refine pa_if ?_ ?_
  ·
    refine pa_bd ?_
    refine pa_lets (fun i3 _ => ?_)
    refine pa_bd ?_
    refine pa_lets (fun i5 _ => ?_)
    refine pa_if ?_ ?_
    ·
      refine pa_lets (fun σ7 eσ7 => ?_)
      have hσ7 : Fr [9, 11] [] σ σ7 := by rw [eσ7]; exact hF.sf _ _ (by decide)
      exact pa_some hσ7
    ·
      exact pa_some hF
  ·
    refine pa_bd ?_
    refine pa_lets (fun i9 _ => ?_)
    refine pa_lets (fun σ10 eσ10 => ?_)
    have hσ10 : Fr [9, 11] [] σ σ10 := by rw [eσ10]; exact hF.sf _ _ (by decide)
    exact pa_some hσ10

theorem fr_U_setOccurrence (N : Nat) (σ : vS) (a0 : Int32) (a1 : Int32) : Pa (f_U_setOccurrence N σ a0 a1) (fun v => Fr [] [24, 25] σ v.2) := by
  have hF : Fr [] [24, 25] σ σ := Fr.rf
  unfold f_U_setOccurrence
  refine pa_bi (fr_Z_nodeAt _ _ _ _) (fun q1 hq1 => ?_)
  have hq1 := Fr.on hF hq1 (by decide) (by decide)
  refine pa_lets (fun i3 _ => ?_)
  refine pa_bd ?_
  refine pa_lets (fun σ5 eσ5 => ?_)
  have hσ5 : Fr [] [24, 25] σ σ5 := by rw [eσ5]; exact hq1.sa _ _ _ (by decide)
  refine pa_bd ?_
  refine pa_lets (fun i7 _ => ?_)
  refine pa_lets (fun i8 _ => ?_)
  refine pa_bd ?_
  refine pa_lets (fun σ10 eσ10 => ?_)
  have hσ10 : Fr [] [24, 25] σ σ10 := by rw [eσ10]; exact hσ5.sa _ _ _ (by decide)
  exact pa_some hσ10

theorem fr_U_valueOf (N : Nat) (σ : vS) (a0 : Int32) : Pa (f_U_valueOf N σ a0) (fun v => Fr [] [] σ v.2) := by
  have hF : Fr [] [] σ σ := Fr.rf
  unfold f_U_valueOf
  refine pa_bi (fr_Z_nodeAt _ _ _ _) (fun q1 hq1 => ?_)
  have hq1 := Fr.on hF hq1 (by decide) (by decide)
  refine pa_lets (fun i3 _ => ?_)
  refine pa_bd ?_
  refine pa_lets (fun i5 _ => ?_)
  exact pa_some hq1

theorem fr_U_result (N : Nat) (σ : vS) (a0 : Int32) : Pa (f_U_result N σ a0) (fun v => Fr [] [] σ v.2) := by
  have hF : Fr [] [] σ σ := Fr.rf
  unfold f_U_result
  refine pa_bd ?_
  refine pa_lets (fun i2 _ => ?_)
  refine pa_bd ?_
  refine pa_lets (fun i4 _ => ?_)
  refine pa_bd ?_
  refine pa_lets (fun i6 _ => ?_)
  refine pa_if ?_ ?_
  ·
    exact pa_some hF
  ·
    refine pa_if ?_ ?_
    ·
      refine pa_bd ?_
      refine pa_lets (fun i10 _ => ?_)
      exact pa_some hF
    ·
      refine pa_if ?_ ?_
      ·
        refine pa_bi (fr_U_valueOf _ _ _) (fun q12 hq12 => ?_)
        have hq12 := Fr.on hF hq12 (by decide) (by decide)
        exact pa_some hq12
      ·
        refine pa_if ?_ ?_
        ·
          refine pa_bi (fr_U_valueOf _ _ _) (fun q15 hq15 => ?_)
          have hq15 := Fr.on hF hq15 (by decide) (by decide)
          refine pa_bi (fr_U_valueOf _ _ _) (fun q17 hq17 => ?_)
          have hq17 := Fr.on hq15 hq17 (by decide) (by decide)
          exact pa_some hq17
        ·
          refine pa_if ?_ ?_
          ·
            refine pa_bi (fr_U_valueOf _ _ _) (fun q20 hq20 => ?_)
            have hq20 := Fr.on hF hq20 (by decide) (by decide)
            refine pa_bi (fr_U_valueOf _ _ _) (fun q22 hq22 => ?_)
            have hq22 := Fr.on hq20 hq22 (by decide) (by decide)
            exact pa_some hq22
          ·
            refine pa_if ?_ ?_
            ·
              refine pa_bi (fr_U_valueOf _ _ _) (fun q25 hq25 => ?_)
              have hq25 := Fr.on hF hq25 (by decide) (by decide)
              refine pa_bi (fr_U_valueOf _ _ _) (fun q27 hq27 => ?_)
              have hq27 := Fr.on hq25 hq27 (by decide) (by decide)
              exact pa_some hq27
            ·
              refine pa_if ?_ ?_
              ·
                refine pa_bi (fr_U_valueOf _ _ _) (fun q30 hq30 => ?_)
                have hq30 := Fr.on hF hq30 (by decide) (by decide)
                refine pa_bi (fr_U_valueOf _ _ _) (fun q32 hq32 => ?_)
                have hq32 := Fr.on hq30 hq32 (by decide) (by decide)
                exact pa_some hq32
              ·
                refine pa_bd ?_
                refine pa_lets (fun i35 _ => ?_)
                refine pa_bi (fr_U_valueOf _ _ _) (fun q36 hq36 => ?_)
                have hq36 := Fr.on hF hq36 (by decide) (by decide)
                exact pa_some hq36

theorem fr_U_step (N : Nat) (σ : vS) : Pa (f_U_step N σ) (fun v => Fr [9, 11] [24, 25, 26] σ v.2) := by
  have hF : Fr [9, 11] [24, 25, 26] σ σ := Fr.rf
  unfold f_U_step
  refine pa_bd ?_
  refine pa_lets (fun i2 _ => ?_)
  refine pa_bd ?_
  refine pa_lets (fun i4 _ => ?_)
  refine pa_bi (fr_Q_at _ _ _ _) (fun q5 hq5 => ?_)
  have hq5 := Fr.on hF hq5 (by decide) (by decide)
  refine pa_bd ?_
  refine pa_lets (fun i8 _ => ?_)
  refine pa_bd ?_
  refine pa_lets (fun σ10 eσ10 => ?_)
  have hσ10 : Fr [9, 11] [24, 25, 26] σ σ10 := by rw [eσ10]; exact hq5.sa _ _ _ (by decide)
  refine pa_if ?_ ?_
  ·
    refine pa_if ?_ ?_
    ·
      refine pa_if ?_ ?_
      ·
        exact pa_some hσ10
      ·
        refine pa_bi (fr_U_result _ _ _) (fun q14 hq14 => ?_)
        have hq14 := Fr.on hσ10 hq14 (by decide) (by decide)
        refine pa_bi (fr_U_setOccurrence _ _ _ _) (fun q16 hq16 => ?_)
        have hq16 := Fr.on hq14 hq16 (by decide) (by decide)
        exact pa_some hq16
    ·
      refine pa_bi (fr_Z_nodeAt _ _ _ _) (fun q18 hq18 => ?_)
      have hq18 := Fr.on hσ10 hq18 (by decide) (by decide)
      refine pa_lets (fun σ20 eσ20 => ?_)
      have hσ20 : Fr [9, 11] [24, 25, 26] σ σ20 := by rw [eσ20]; exact hq18.sf _ _ (by decide)
      exact pa_some hσ20
  ·
    refine pa_bi (fr_U_leaveNode _ _ _) (fun q21 hq21 => ?_)
    have hq21 := Fr.on hσ10 hq21 (by decide) (by decide)
    exact pa_some hq21

theorem fr_U_advance (N : Nat) (σ : vS) (a0 : Int32) : Pa (f_U_advance N σ a0) (fun v => Fr [9, 11] [24, 25, 26] σ v.2) := by
  have hF : Fr [9, 11] [24, 25, 26] σ σ := Fr.rf
  have L2 : ∀ (n2 : Nat) (τ : vS) (x1 : Int32) (x2 : Int32), Fr [9, 11] [24, 25, 26] σ τ → Pa (f_U_advance_2 N n2 τ x1 x2) (fun v => Fr [9, 11] [24, 25, 26] σ v.2) := by
    intro n2
    induction n2 with
    | zero => intro τ x1 x2 hF; rw [f_U_advance_2]; exact pa_none
    | succ n2 ih2 =>
      intro τ x1 x2 hF
      rw [f_U_advance_2]
      dsimp only
      refine pa_if ?_ ?_
      ·
        exact pa_some hF
      ·
        refine pa_if ?_ ?_
        ·
          refine pa_bi (fr_U_step _ _) (fun q3 hq3 => ?_)
          have hq3 := Fr.on hF hq3 (by decide) (by decide)
          exact ih2 _ _ _ hq3
        ·
          exact pa_some hF
  unfold f_U_advance
  exact L2 N _ _ _ hF

theorem fr_A_forgetFault (N : Nat) (σ : vS) : Pa (f_A_forgetFault N σ) (fun v => Fr [3, 4, 5] [] σ v.2) := by
  have hF : Fr [3, 4, 5] [] σ σ := Fr.rf
  unfold f_A_forgetFault
  refine pa_lets (fun σ1 eσ1 => ?_)
  have hσ1 : Fr [3, 4, 5] [] σ σ1 := by rw [eσ1]; exact hF.sf _ _ (by decide)
  refine pa_lets (fun σ2 eσ2 => ?_)
  have hσ2 : Fr [3, 4, 5] [] σ σ2 := by rw [eσ2]; exact hσ1.sf _ _ (by decide)
  refine pa_lets (fun σ3 eσ3 => ?_)
  have hσ3 : Fr [3, 4, 5] [] σ σ3 := by rw [eσ3]; exact hσ2.sf _ _ (by decide)
  exact pa_some hσ3

theorem fr_A_noteFault (N : Nat) (σ : vS) (a0 : Int32) (a1 : Int32) (a2 : Int32) : Pa (f_A_noteFault N σ a0 a1 a2) (fun v => Fr [3, 4, 5] [] σ v.2) := by
  have hF : Fr [3, 4, 5] [] σ σ := Fr.rf
  unfold f_A_noteFault
  refine pa_lets (fun σ1 eσ1 => ?_)
  have hσ1 : Fr [3, 4, 5] [] σ σ1 := by rw [eσ1]; exact hF.sf _ _ (by decide)
  refine pa_lets (fun σ2 eσ2 => ?_)
  have hσ2 : Fr [3, 4, 5] [] σ σ2 := by rw [eσ2]; exact hσ1.sf _ _ (by decide)
  refine pa_lets (fun σ3 eσ3 => ?_)
  have hσ3 : Fr [3, 4, 5] [] σ σ3 := by rw [eσ3]; exact hσ2.sf _ _ (by decide)
  exact pa_some hσ3

theorem fr_A_isComplete (N : Nat) (σ : vS) : Pa (f_A_isComplete N σ) (fun v => Fr [3, 4, 5] [] σ v.2) := by
  have hF : Fr [3, 4, 5] [] σ σ := Fr.rf
  have L2 : ∀ (n2 : Nat) (τ : vS) (x1 : Int32), Fr [3, 4, 5] [] σ τ → Pa (f_A_isComplete_2 N n2 τ x1) (fun v => Fr [3, 4, 5] [] σ v.2) := by
    intro n2
    induction n2 with
    | zero => intro τ x1 hF; rw [f_A_isComplete_2]; exact pa_none
    | succ n2 ih2 =>
      intro τ x1 hF
      rw [f_A_isComplete_2]
      dsimp only
      refine pa_if ?_ ?_
      ·
        exact pa_some hF
      ·
        refine pa_bi (fr_G_leastWithoutRule _ _ _) (fun q2 hq2 => ?_)
        have hq2 := Fr.on hF hq2 (by decide) (by decide)
        refine pa_if ?_ ?_
        ·
          exact ih2 _ _ hq2
        ·
          refine pa_bi (fr_A_noteFault _ _ _ _ _) (fun q5 hq5 => ?_)
          have hq5 := Fr.on hq2 hq5 (by decide) (by decide)
          exact pa_some hq5
  unfold f_A_isComplete
  exact L2 N _ _ hF

theorem fr_A_noneLeadsToItself (N : Nat) (σ : vS) (a0 : Int32) : Pa (f_A_noneLeadsToItself N σ a0) (fun v => Fr [3, 4, 5] [] σ v.2) := by
  have hF : Fr [3, 4, 5] [] σ σ := Fr.rf
  have L2 : ∀ (n2 : Nat) (τ : vS) (x1 : Int32) (x2 : Int32), Fr [3, 4, 5] [] σ τ → Pa (f_A_noneLeadsToItself_2 N n2 τ x1 x2) (fun v => Fr [3, 4, 5] [] σ v.2) := by
    intro n2
    induction n2 with
    | zero => intro τ x1 x2 hF; rw [f_A_noneLeadsToItself_2]; exact pa_none
    | succ n2 ih2 =>
      intro τ x1 x2 hF
      rw [f_A_noneLeadsToItself_2]
      dsimp only
      refine pa_if ?_ ?_
      ·
        exact pa_some hF
      ·
        refine pa_bi (fr_E_leastLeadingToItself _ _ _) (fun q2 hq2 => ?_)
        have hq2 := Fr.on hF hq2 (by decide) (by decide)
        refine pa_if ?_ ?_
        ·
          exact ih2 _ _ _ hq2
        ·
          refine pa_bi (fr_A_noteFault _ _ _ _ _) (fun q5 hq5 => ?_)
          have hq5 := Fr.on hq2 hq5 (by decide) (by decide)
          exact pa_some hq5
  unfold f_A_noneLeadsToItself
  exact L2 N _ _ _ hF

theorem fr_A_isWithoutCircle (N : Nat) (σ : vS) : Pa (f_A_isWithoutCircle N σ) (fun v => Fr [3, 4, 5] [11, 12] σ v.2) := by
  have hF : Fr [3, 4, 5] [11, 12] σ σ := Fr.rf
  unfold f_A_isWithoutCircle
  refine pa_bi (fr_E_spread _ _) (fun q1 hq1 => ?_)
  have hq1 := Fr.on hF hq1 (by decide) (by decide)
  refine pa_bi (fr_A_noneLeadsToItself _ _ _) (fun q3 hq3 => ?_)
  have hq3 := Fr.on hq1 hq3 (by decide) (by decide)
  exact pa_some hq3

theorem fr_A_isOrdered (N : Nat) (σ : vS) : Pa (f_A_isOrdered N σ) (fun v => Fr [3, 4, 5] [11, 12, 13, 14, 15] σ v.2) := by
  have hF : Fr [3, 4, 5] [11, 12, 13, 14, 15] σ σ := Fr.rf
  unfold f_A_isOrdered
  refine pa_bi (fr_K_make _ _) (fun q1 hq1 => ?_)
  have hq1 := Fr.on hF hq1 (by decide) (by decide)
  refine pa_bi (fr_K_addToLeads _ _) (fun q3 hq3 => ?_)
  have hq3 := Fr.on hq1 hq3 (by decide) (by decide)
  refine pa_bi (fr_E_takeOrder _ _) (fun q5 hq5 => ?_)
  have hq5 := Fr.on hq3 hq5 (by decide) (by decide)
  refine pa_bi (fr_A_noneLeadsToItself _ _ _) (fun q7 hq7 => ?_)
  have hq7 := Fr.on hq5 hq7 (by decide) (by decide)
  exact pa_some hq7

theorem fr_A_make (N : Nat) (σ : vS) : Pa (f_A_make N σ) (fun v => Fr [2, 3, 4, 5, 6, 7] [11, 12, 13, 14, 15, 16, 17, 18] σ v.2) := by
  have hF : Fr [2, 3, 4, 5, 6, 7] [11, 12, 13, 14, 15, 16, 17, 18] σ σ := Fr.rf
  have J40 : ∀ (τ : vS), Fr [2, 3, 4, 5, 6, 7] [11, 12, 13, 14, 15, 16, 17, 18] σ τ → Pa (f_A_make_40 N τ) (fun v => Fr [2, 3, 4, 5, 6, 7] [11, 12, 13, 14, 15, 16, 17, 18] σ v.2) := by
    intro τ hF
    unfold f_A_make_40
    refine pa_lets (fun σ3 eσ3 => ?_)
    have hσ3 : Fr [2, 3, 4, 5, 6, 7] [11, 12, 13, 14, 15, 16, 17, 18] σ σ3 := by rw [eσ3]; exact hF.sf _ _ (by decide)
    refine pa_if ?_ ?_
    ·
      exact pa_some hσ3
    ·
      refine pa_bi (fr_Q_write _ _) (fun q5 hq5 => ?_)
      have hq5 := Fr.on hσ3 hq5 (by decide) (by decide)
      exact pa_some hq5
  unfold f_A_make
  refine pa_bi (fr_A_forgetFault _ _) (fun q1 hq1 => ?_)
  have hq1 := Fr.on hF hq1 (by decide) (by decide)
  refine pa_if ?_ ?_
  ·
    exact J40 _ hq1
  ·
    refine pa_bi (fr_A_isComplete _ _) (fun q8 hq8 => ?_)
    have hq8 := Fr.on hq1 hq8 (by decide) (by decide)
    refine pa_if ?_ ?_
    ·
      exact J40 _ hq8
    ·
      refine pa_bi (fr_A_isWithoutCircle _ _) (fun q11 hq11 => ?_)
      have hq11 := Fr.on hq8 hq11 (by decide) (by decide)
      refine pa_if ?_ ?_
      ·
        exact J40 _ hq11
      ·
        refine pa_bi (fr_A_isOrdered _ _) (fun q14 hq14 => ?_)
        have hq14 := Fr.on hq11 hq14 (by decide) (by decide)
        refine pa_if ?_ ?_
        ·
          exact J40 _ hq14
        ·
          refine pa_lets (fun σ17 eσ17 => ?_)
          have hσ17 : Fr [2, 3, 4, 5, 6, 7] [11, 12, 13, 14, 15, 16, 17, 18] σ σ17 := by rw [eσ17]; exact hq14.sf _ _ (by decide)
          refine pa_if ?_ ?_
          ·
            exact pa_some hσ17
          ·
            refine pa_bi (fr_Q_write _ _) (fun q19 hq19 => ?_)
            have hq19 := Fr.on hσ17 hq19 (by decide) (by decide)
            exact pa_some hq19

theorem fr_M_thrown (N : Nat) (σ : vS) : Pa (f_M_thrown N σ) (fun v => Fr [] [] σ v.2) := by
  have hF : Fr [] [] σ σ := Fr.rf
  unfold f_M_thrown
  exact pa_some hF

theorem fr_M_fail (N : Nat) (σ : vS) (a0 : Int32) : Pa (f_M_fail N σ a0) (fun v => Fr [0] [] σ v.2) := by
  have hF : Fr [0] [] σ σ := Fr.rf
  unfold f_M_fail
  refine pa_lets (fun σ1 eσ1 => ?_)
  have hσ1 : Fr [0] [] σ σ1 := by rw [eσ1]; exact hF.sf _ _ (by decide)
  exact pa_some hσ1

theorem fr_M_endRun (N : Nat) (σ : vS) : Pa (f_M_endRun N σ) (fun v => Fr [8, 9] [22] σ v.2) := by
  have hF : Fr [8, 9] [22] σ σ := Fr.rf
  have L12 : ∀ (n12 : Nat) (τ : vS) (x1 : Int32), Fr [8, 9] [22] σ τ → Pa (f_M_endRun_12 N n12 τ x1) (fun v => Fr [8, 9] [22] σ v.2) := by
    intro n12
    induction n12 with
    | zero => intro τ x1 hF; rw [f_M_endRun_12]; exact pa_none
    | succ n12 ih12 =>
      intro τ x1 hF
      rw [f_M_endRun_12]
      dsimp only
      refine pa_if ?_ ?_
      ·
        exact pa_some hF
      ·
        refine pa_bd ?_
        refine pa_lets (fun σ5 eσ5 => ?_)
        have hσ5 : Fr [8, 9] [22] σ σ5 := by rw [eσ5]; exact hF.sa _ _ _ (by decide)
        exact ih12 _ _ hσ5
  unfold f_M_endRun
  refine pa_lets (fun σ1 eσ1 => ?_)
  have hσ1 : Fr [8, 9] [22] σ σ1 := by rw [eσ1]; exact hF.sf _ _ (by decide)
  refine pa_lets (fun σ2 eσ2 => ?_)
  have hσ2 : Fr [8, 9] [22] σ σ2 := by rw [eσ2]; exact hσ1.sf _ _ (by decide)
  exact L12 N _ _ hσ2

theorem fr_M_forget (N : Nat) (σ : vS) : Pa (f_M_forget N σ) (fun v => Fr [3, 8, 9] [22] σ v.2) := by
  have hF : Fr [3, 8, 9] [22] σ σ := Fr.rf
  unfold f_M_forget
  refine pa_lets (fun σ1 eσ1 => ?_)
  have hσ1 : Fr [3, 8, 9] [22] σ σ1 := by rw [eσ1]; exact hF.sf _ _ (by decide)
  refine pa_bi (fr_M_endRun _ _) (fun q2 hq2 => ?_)
  have hq2 := Fr.on hσ1 hq2 (by decide) (by decide)
  exact pa_some hq2

theorem fr_M_symbol (N : Nat) (σ : vS) (a0 : Int32) (a1 : Int32) : Pa (f_M_symbol N σ a0 a1) (fun v => Fr [0, 1, 3, 8, 9] [0, 1, 22] σ v.2) := by
  have hF : Fr [0, 1, 3, 8, 9] [0, 1, 22] σ σ := Fr.rf
  have L52 : ∀ (n52 : Nat) (τ : vS) (x1 : Int32) (x2 : Int32) (x3 : Int32), Fr [0, 1, 3, 8, 9] [0, 1, 22] σ τ → Pa (f_M_symbol_52 N n52 τ x1 x2 x3) (fun v => Fr [0, 1, 3, 8, 9] [0, 1, 22] σ v.2) := by
    intro n52
    induction n52 with
    | zero => intro τ x1 x2 x3 hF; rw [f_M_symbol_52]; exact pa_none
    | succ n52 ih52 =>
      have J88 : ∀ (τ : vS) (x1 : Int32) (x2 : Int32) (x3 : Int32) (y0 : Int32) (y1 : Int32), Fr [0, 1, 3, 8, 9] [0, 1, 22] σ τ → Pa (f_M_symbol_88 N (f_M_symbol_52 N n52) τ x1 x2 x3 y0 y1) (fun v => Fr [0, 1, 3, 8, 9] [0, 1, 22] σ v.2) := by
        intro τ x1 x2 x3 y0 y1 hF
        unfold f_M_symbol_88
        refine pa_bd ?_
        refine pa_lets (fun σ10 eσ10 => ?_)
        have hσ10 : Fr [0, 1, 3, 8, 9] [0, 1, 22] σ σ10 := by rw [eσ10]; exact hF.sa _ _ _ (by decide)
        exact ih52 _ _ _ _ hσ10
      have J87 : ∀ (τ : vS) (x1 : Int32) (x2 : Int32) (x3 : Int32) (y0 : Int32), Fr [0, 1, 3, 8, 9] [0, 1, 22] σ τ → Pa (f_M_symbol_87 N (f_M_symbol_52 N n52) τ x1 x2 x3 y0) (fun v => Fr [0, 1, 3, 8, 9] [0, 1, 22] σ v.2) := by
        intro τ x1 x2 x3 y0 hF
        unfold f_M_symbol_87
        exact J88 _ _ _ _ _ _ hF
      intro τ x1 x2 x3 hF
      rw [f_M_symbol_52]
      dsimp only
      refine pa_if ?_ ?_
      ·
        refine pa_lets (fun σ6 eσ6 => ?_)
        have hσ6 : Fr [0, 1, 3, 8, 9] [0, 1, 22] σ σ6 := by rw [eσ6]; exact hF.sf _ _ (by decide)
        refine pa_bi (fr_M_forget _ _) (fun q7 hq7 => ?_)
        have hq7 := Fr.on hσ6 hq7 (by decide) (by decide)
        exact pa_some hq7
      ·
        refine pa_if ?_ ?_
        ·
          exact J87 _ _ _ _ _ hF
        ·
          refine pa_if ?_ ?_
          ·
            exact J88 _ _ _ _ _ _ hF
          ·
            exact J87 _ _ _ _ _ hF
  have J28 : ∀ (τ : vS) (x1 : Int32) (x2 : Int32) (y0 : Int32), Fr [0, 1, 3, 8, 9] [0, 1, 22] σ τ → Pa (f_M_symbol_28 N τ x1 x2 y0) (fun v => Fr [0, 1, 3, 8, 9] [0, 1, 22] σ v.2) := by
    intro τ x1 x2 y0 hF
    unfold f_M_symbol_28
    refine pa_lets (fun σ1 eσ1 => ?_)
    have hσ1 : Fr [0, 1, 3, 8, 9] [0, 1, 22] σ σ1 := by rw [eσ1]; exact hF.sf _ _ (by decide)
    refine pa_if ?_ ?_
    ·
      refine pa_bd ?_
      refine pa_lets (fun σ4 eσ4 => ?_)
      have hσ4 : Fr [0, 1, 3, 8, 9] [0, 1, 22] σ σ4 := by rw [eσ4]; exact hσ1.sa _ _ _ (by decide)
      exact L52 N _ _ _ _ hσ4
    ·
      exact pa_some hσ1
  have J10 : ∀ (τ : vS) (x1 : Int32) (x2 : Int32), Fr [0, 1, 3, 8, 9] [0, 1, 22] σ τ → Pa (f_M_symbol_10 N τ x1 x2) (fun v => Fr [0, 1, 3, 8, 9] [0, 1, 22] σ v.2) := by
    intro τ x1 x2 hF
    unfold f_M_symbol_10
    exact J28 _ _ _ _ hF
  unfold f_M_symbol
  refine pa_if ?_ ?_
  ·
    exact J10 _ _ _ hF
  ·
    refine pa_if ?_ ?_
    ·
      refine pa_if ?_ ?_
      ·
        exact J28 _ _ _ _ hF
      ·
        exact J28 _ _ _ _ hF
    ·
      exact J10 _ _ _ hF

theorem fr_M_isSymbol (N : Nat) (σ : vS) (a0 : Int32) : Pa (f_M_isSymbol N σ a0) (fun v => Fr [] [] σ v.2) := by
  have hF : Fr [] [] σ σ := Fr.rf
  unfold f_M_isSymbol
  refine pa_if ?_ ?_
  ·
    exact pa_some hF
  ·
    refine pa_if ?_ ?_
    ·
      exact pa_some hF
    ·
      exact pa_some hF

theorem fr_M_production (N : Nat) (σ : vS) (a0 : Int32) (a1 : Int32) (a2 : Int32) (a3 : Int32) : Pa (f_M_production N σ a0 a1 a2 a3) (fun v => Fr [0, 2, 3, 8, 9] [2, 3, 22] σ v.2) := by
  have hF : Fr [0, 2, 3, 8, 9] [2, 3, 22] σ σ := Fr.rf
  have J221 : ∀ (τ : vS) (x8 : Int32) (y0 : Int32) (y1 : Int32), Fr [0, 2, 3, 8, 9] [2, 3, 22] σ τ → Pa (f_M_production_221 N τ x8 y0 y1) (fun v => Fr [0, 2, 3, 8, 9] [2, 3, 22] σ v.2) := by
    intro τ x8 y0 y1 hF
    unfold f_M_production_221
    refine pa_bd ?_
    refine pa_lets (fun σ14 eσ14 => ?_)
    have hσ14 : Fr [0, 2, 3, 8, 9] [2, 3, 22] σ σ14 := by rw [eσ14]; exact hF.sa _ _ _ (by decide)
    refine pa_lets (fun σ15 eσ15 => ?_)
    have hσ15 : Fr [0, 2, 3, 8, 9] [2, 3, 22] σ σ15 := by rw [eσ15]; exact hσ14.sf _ _ (by decide)
    refine pa_bi (fr_M_forget _ _) (fun q16 hq16 => ?_)
    have hq16 := Fr.on hσ15 hq16 (by decide) (by decide)
    exact pa_some hq16
  have J121 : ∀ (τ : vS) (x1 : Int32) (x2 : Int32) (x3 : Int32) (x4 : Int32) (y0 : Int32), Fr [0, 2, 3, 8, 9] [2, 3, 22] σ τ → Pa (f_M_production_121 N τ x1 x2 x3 x4 y0) (fun v => Fr [0, 2, 3, 8, 9] [2, 3, 22] σ v.2) := by
    intro τ x1 x2 x3 x4 y0 hF
    unfold f_M_production_121
    refine pa_lets (fun σ3 eσ3 => ?_)
    have hσ3 : Fr [0, 2, 3, 8, 9] [2, 3, 22] σ σ3 := by rw [eσ3]; exact hF.sf _ _ (by decide)
    refine pa_if ?_ ?_
    ·
      refine pa_bd ?_
      refine pa_lets (fun σ6 eσ6 => ?_)
      have hσ6 : Fr [0, 2, 3, 8, 9] [2, 3, 22] σ σ6 := by rw [eσ6]; exact hσ3.sa _ _ _ (by decide)
      refine pa_bd ?_
      refine pa_lets (fun σ8 eσ8 => ?_)
      have hσ8 : Fr [0, 2, 3, 8, 9] [2, 3, 22] σ σ8 := by rw [eσ8]; exact hσ6.sa _ _ _ (by decide)
      refine pa_bd ?_
      refine pa_lets (fun σ10 eσ10 => ?_)
      have hσ10 : Fr [0, 2, 3, 8, 9] [2, 3, 22] σ σ10 := by rw [eσ10]; exact hσ8.sa _ _ _ (by decide)
      refine pa_bd ?_
      refine pa_lets (fun σ12 eσ12 => ?_)
      have hσ12 : Fr [0, 2, 3, 8, 9] [2, 3, 22] σ σ12 := by rw [eσ12]; exact hσ10.sa _ _ _ (by decide)
      refine pa_if ?_ ?_
      ·
        exact J221 _ _ _ _ hσ12
      ·
        refine pa_if ?_ ?_
        ·
          exact J221 _ _ _ _ hσ12
        ·
          refine pa_if ?_ ?_
          ·
            exact J221 _ _ _ _ hσ12
          ·
            exact J221 _ _ _ _ hσ12
    ·
      exact pa_some hσ3
  have J103 : ∀ (τ : vS) (x1 : Int32) (x2 : Int32) (x3 : Int32) (x4 : Int32), Fr [0, 2, 3, 8, 9] [2, 3, 22] σ τ → Pa (f_M_production_103 N τ x1 x2 x3 x4) (fun v => Fr [0, 2, 3, 8, 9] [2, 3, 22] σ v.2) := by
    intro τ x1 x2 x3 x4 hF
    unfold f_M_production_103
    exact J121 _ _ _ _ _ _ hF
  have J77 : ∀ (τ : vS) (x1 : Int32) (x2 : Int32) (x3 : Int32) (x4 : Int32) (x5 : Int32) (x6 : Int32) (y0 : Int32), Fr [0, 2, 3, 8, 9] [2, 3, 22] σ τ → Pa (f_M_production_77 N τ x1 x2 x3 x4 x5 x6 y0) (fun v => Fr [0, 2, 3, 8, 9] [2, 3, 22] σ v.2) := by
    intro τ x1 x2 x3 x4 x5 x6 y0 hF
    unfold f_M_production_77
    refine pa_bi (fr_M_isSymbol _ _ _) (fun q1 hq1 => ?_)
    have hq1 := Fr.on hF hq1 (by decide) (by decide)
    refine pa_if ?_ ?_
    ·
      exact J103 _ _ _ _ _ hq1
    ·
      refine pa_if ?_ ?_
      ·
        exact J103 _ _ _ _ _ hq1
      ·
        refine pa_if ?_ ?_
        ·
          exact J103 _ _ _ _ _ hq1
        ·
          refine pa_if ?_ ?_
          ·
            exact J103 _ _ _ _ _ hq1
          ·
            refine pa_if ?_ ?_
            ·
              exact J121 _ _ _ _ _ _ hq1
            ·
              exact J121 _ _ _ _ _ _ hq1
  have J72 : ∀ (τ : vS) (x1 : Int32) (x2 : Int32) (x3 : Int32) (x4 : Int32) (x5 : Int32) (x6 : Int32), Fr [0, 2, 3, 8, 9] [2, 3, 22] σ τ → Pa (f_M_production_72 N τ x1 x2 x3 x4 x5 x6) (fun v => Fr [0, 2, 3, 8, 9] [2, 3, 22] σ v.2) := by
    intro τ x1 x2 x3 x4 x5 x6 hF
    unfold f_M_production_72
    exact J77 _ _ _ _ _ _ _ _ hF
  have J55 : ∀ (τ : vS) (x1 : Int32) (x2 : Int32) (x3 : Int32) (x4 : Int32) (x5 : Int32) (y0 : Int32), Fr [0, 2, 3, 8, 9] [2, 3, 22] σ τ → Pa (f_M_production_55 N τ x1 x2 x3 x4 x5 y0) (fun v => Fr [0, 2, 3, 8, 9] [2, 3, 22] σ v.2) := by
    intro τ x1 x2 x3 x4 x5 y0 hF
    unfold f_M_production_55
    refine pa_if ?_ ?_
    ·
      exact J72 _ _ _ _ _ _ _ hF
    ·
      refine pa_bi (fr_M_isSymbol _ _ _) (fun q27 hq27 => ?_)
      have hq27 := Fr.on hF hq27 (by decide) (by decide)
      refine pa_if ?_ ?_
      ·
        exact J77 _ _ _ _ _ _ _ _ hq27
      ·
        exact J72 _ _ _ _ _ _ _ hq27
  have J29 : ∀ (τ : vS) (x1 : Int32) (x2 : Int32) (x3 : Int32) (x4 : Int32) (y0 : Int32), Fr [0, 2, 3, 8, 9] [2, 3, 22] σ τ → Pa (f_M_production_29 N τ x1 x2 x3 x4 y0) (fun v => Fr [0, 2, 3, 8, 9] [2, 3, 22] σ v.2) := by
    intro τ x1 x2 x3 x4 y0 hF
    unfold f_M_production_29
    refine pa_if ?_ ?_
    ·
      refine pa_if ?_ ?_
      ·
        exact J55 _ _ _ _ _ _ _ hF
      ·
        exact J55 _ _ _ _ _ _ _ hF
    ·
      refine pa_bi (fr_M_isSymbol _ _ _) (fun q31 hq31 => ?_)
      have hq31 := Fr.on hF hq31 (by decide) (by decide)
      exact J55 _ _ _ _ _ _ _ hq31
  have J20 : ∀ (τ : vS) (x1 : Int32) (x2 : Int32) (x3 : Int32) (x4 : Int32), Fr [0, 2, 3, 8, 9] [2, 3, 22] σ τ → Pa (f_M_production_20 N τ x1 x2 x3 x4) (fun v => Fr [0, 2, 3, 8, 9] [2, 3, 22] σ v.2) := by
    intro τ x1 x2 x3 x4 hF
    unfold f_M_production_20
    exact J29 _ _ _ _ _ _ hF
  unfold f_M_production
  refine pa_if ?_ ?_
  ·
    refine pa_if ?_ ?_
    ·
      refine pa_if ?_ ?_
      ·
        exact J29 _ _ _ _ _ _ hF
      ·
        exact J20 _ _ _ _ _ hF
    ·
      exact J20 _ _ _ _ _ hF
  ·
    refine pa_bi (fr_M_isSymbol _ _ _) (fun q35 hq35 => ?_)
    have hq35 := Fr.on hF hq35 (by decide) (by decide)
    exact J29 _ _ _ _ _ _ hq35

theorem fr_M_isOccurrence (N : Nat) (σ : vS) (a0 : Int32) (a1 : Int32) : Pa (f_M_isOccurrence N σ a0 a1) (fun v => Fr [] [] σ v.2) := by
  have hF : Fr [] [] σ σ := Fr.rf
  unfold f_M_isOccurrence
  refine pa_if ?_ ?_
  ·
    exact pa_some hF
  ·
    refine pa_bd ?_
    refine pa_lets (fun i3 _ => ?_)
    refine pa_if ?_ ?_
    ·
      exact pa_some hF
    ·
      refine pa_bd ?_
      refine pa_lets (fun i6 _ => ?_)
      refine pa_bd ?_
      refine pa_lets (fun i8 _ => ?_)
      refine pa_if ?_ ?_
      ·
        exact pa_some hF
      ·
        exact pa_some hF

theorem fr_M_attributeOf (N : Nat) (σ : vS) (a0 : Int32) (a1 : Int32) : Pa (f_M_attributeOf N σ a0 a1) (fun v => Fr [] [] σ v.2) := by
  have hF : Fr [] [] σ σ := Fr.rf
  unfold f_M_attributeOf
  refine pa_bd ?_
  refine pa_lets (fun i2 _ => ?_)
  refine pa_lets (fun i3 _ => ?_)
  exact pa_some hF

theorem fr_M_isDefined (N : Nat) (σ : vS) (a0 : Int32) (a1 : Int32) : Pa (f_M_isDefined N σ a0 a1) (fun v => Fr [] [] σ v.2) := by
  have hF : Fr [] [] σ σ := Fr.rf
  have J30 : ∀ (τ : vS) (y0 : Int32) (y1 : Int32), Fr [] [] σ τ → Pa (f_M_isDefined_30 N τ y0 y1) (fun v => Fr [] [] σ v.2) := by
    intro τ y0 y1 hF
    unfold f_M_isDefined_30
    refine pa_if ?_ ?_
    ·
      exact pa_some hF
    ·
      exact pa_some hF
  unfold f_M_isDefined
  refine pa_bi (fr_M_isOccurrence _ _ _ _) (fun q1 hq1 => ?_)
  have hq1 := Fr.on hF hq1 (by decide) (by decide)
  refine pa_if ?_ ?_
  ·
    exact pa_some hq1
  ·
    refine pa_bi (fr_M_attributeOf _ _ _ _) (fun q4 hq4 => ?_)
    have hq4 := Fr.on hq1 hq4 (by decide) (by decide)
    refine pa_bd ?_
    refine pa_lets (fun i7 _ => ?_)
    refine pa_if ?_ ?_
    ·
      exact J30 _ _ _ hq4
    ·
      exact J30 _ _ _ hq4

theorem fr_M_rule (N : Nat) (σ : vS) (a0 : Int32) (a1 : Int32) (a2 : Int32) (a3 : Int32) (a4 : Int32) : Pa (f_M_rule N σ a0 a1 a2 a3 a4) (fun v => Fr [0, 3, 8, 9] [4, 5, 6, 22] σ v.2) := by
  have hF : Fr [0, 3, 8, 9] [4, 5, 6, 22] σ σ := Fr.rf
  have J102 : ∀ (τ : vS) (x1 : Int32) (x2 : Int32) (x3 : Int32) (x4 : Int32) (x5 : Int32) (y0 : Int32), Fr [0, 3, 8, 9] [4, 5, 6, 22] σ τ → Pa (f_M_rule_102 N τ x1 x2 x3 x4 x5 y0) (fun v => Fr [0, 3, 8, 9] [4, 5, 6, 22] σ v.2) := by
    intro τ x1 x2 x3 x4 x5 y0 hF
    unfold f_M_rule_102
    refine pa_lets (fun σ5 eσ5 => ?_)
    have hσ5 : Fr [0, 3, 8, 9] [4, 5, 6, 22] σ σ5 := by rw [eσ5]; exact hF.sf _ _ (by decide)
    refine pa_if ?_ ?_
    ·
      refine pa_bd ?_
      refine pa_lets (fun σ8 eσ8 => ?_)
      have hσ8 : Fr [0, 3, 8, 9] [4, 5, 6, 22] σ σ8 := by rw [eσ8]; exact hσ5.sa _ _ _ (by decide)
      refine pa_bd ?_
      refine pa_lets (fun σ10 eσ10 => ?_)
      have hσ10 : Fr [0, 3, 8, 9] [4, 5, 6, 22] σ σ10 := by rw [eσ10]; exact hσ8.sa _ _ _ (by decide)
      refine pa_bd ?_
      refine pa_lets (fun σ12 eσ12 => ?_)
      have hσ12 : Fr [0, 3, 8, 9] [4, 5, 6, 22] σ σ12 := by rw [eσ12]; exact hσ10.sa _ _ _ (by decide)
      refine pa_bi (fr_M_forget _ _) (fun q13 hq13 => ?_)
      have hq13 := Fr.on hσ12 hq13 (by decide) (by decide)
      exact pa_some hq13
    ·
      exact pa_some hσ5
  have J89 : ∀ (τ : vS) (x1 : Int32) (x2 : Int32) (x3 : Int32) (x4 : Int32) (x5 : Int32) (y0 : Int32), Fr [0, 3, 8, 9] [4, 5, 6, 22] σ τ → Pa (f_M_rule_89 N τ x1 x2 x3 x4 x5 y0) (fun v => Fr [0, 3, 8, 9] [4, 5, 6, 22] σ v.2) := by
    intro τ x1 x2 x3 x4 x5 y0 hF
    unfold f_M_rule_89
    refine pa_if ?_ ?_
    ·
      exact J102 _ _ _ _ _ _ _ hF
    ·
      exact J102 _ _ _ _ _ _ _ hF
  have J88 : ∀ (τ : vS) (x1 : Int32) (x2 : Int32) (x3 : Int32) (x4 : Int32) (x5 : Int32), Fr [0, 3, 8, 9] [4, 5, 6, 22] σ τ → Pa (f_M_rule_88 N τ x1 x2 x3 x4 x5) (fun v => Fr [0, 3, 8, 9] [4, 5, 6, 22] σ v.2) := by
    intro τ x1 x2 x3 x4 x5 hF
    unfold f_M_rule_88
    exact J89 _ _ _ _ _ _ _ hF
  have J84 : ∀ (τ : vS) (x1 : Int32) (x2 : Int32) (x3 : Int32) (x4 : Int32) (x5 : Int32), Fr [0, 3, 8, 9] [4, 5, 6, 22] σ τ → Pa (f_M_rule_84 N τ x1 x2 x3 x4 x5) (fun v => Fr [0, 3, 8, 9] [4, 5, 6, 22] σ v.2) := by
    intro τ x1 x2 x3 x4 x5 hF
    unfold f_M_rule_84
    exact J89 _ _ _ _ _ _ _ hF
  have J66 : ∀ (τ : vS) (x1 : Int32) (x2 : Int32) (x3 : Int32) (x4 : Int32) (x5 : Int32), Fr [0, 3, 8, 9] [4, 5, 6, 22] σ τ → Pa (f_M_rule_66 N τ x1 x2 x3 x4 x5) (fun v => Fr [0, 3, 8, 9] [4, 5, 6, 22] σ v.2) := by
    intro τ x1 x2 x3 x4 x5 hF
    unfold f_M_rule_66
    refine pa_bi0 (fun q21 => ?_)
    refine pa_if ?_ ?_
    ·
      exact J84 _ _ _ _ _ _ hF
    ·
      refine pa_bi (fr_M_isOccurrence _ _ _ _) (fun q24 hq24 => ?_)
      have hq24 := Fr.on hF hq24 (by decide) (by decide)
      refine pa_if ?_ ?_
      ·
        exact J88 _ _ _ _ _ _ hq24
      ·
        exact J84 _ _ _ _ _ _ hq24
  have J18 : ∀ (τ : vS) (x1 : Int32) (x2 : Int32) (x3 : Int32) (x4 : Int32) (x5 : Int32) (y0 : Int32), Fr [0, 3, 8, 9] [4, 5, 6, 22] σ τ → Pa (f_M_rule_18 N τ x1 x2 x3 x4 x5 y0) (fun v => Fr [0, 3, 8, 9] [4, 5, 6, 22] σ v.2) := by
    intro τ x1 x2 x3 x4 x5 y0 hF
    unfold f_M_rule_18
    refine pa_lets (fun σ1 eσ1 => ?_)
    have hσ1 : Fr [0, 3, 8, 9] [4, 5, 6, 22] σ σ1 := by rw [eσ1]; exact hF.sf _ _ (by decide)
    refine pa_if ?_ ?_
    ·
      refine pa_bi (fr_M_isDefined _ _ _ _) (fun q3 hq3 => ?_)
      have hq3 := Fr.on hσ1 hq3 (by decide) (by decide)
      refine pa_if ?_ ?_
      ·
        exact J88 _ _ _ _ _ _ hq3
      ·
        refine pa_if ?_ ?_
        ·
          exact J88 _ _ _ _ _ _ hq3
        ·
          refine pa_if ?_ ?_
          ·
            exact J88 _ _ _ _ _ _ hq3
          ·
            refine pa_bi0 (fun q19 => ?_)
            refine pa_if ?_ ?_
            ·
              exact J66 _ _ _ _ _ _ hq3
            ·
              refine pa_bi (fr_M_isOccurrence _ _ _ _) (fun q28 hq28 => ?_)
              have hq28 := Fr.on hq3 hq28 (by decide) (by decide)
              refine pa_if ?_ ?_
              ·
                exact J88 _ _ _ _ _ _ hq28
              ·
                exact J66 _ _ _ _ _ _ hq28
    ·
      exact pa_some hσ1
  have J13 : ∀ (τ : vS) (x1 : Int32) (x2 : Int32) (x3 : Int32) (x4 : Int32) (x5 : Int32), Fr [0, 3, 8, 9] [4, 5, 6, 22] σ τ → Pa (f_M_rule_13 N τ x1 x2 x3 x4 x5) (fun v => Fr [0, 3, 8, 9] [4, 5, 6, 22] σ v.2) := by
    intro τ x1 x2 x3 x4 x5 hF
    unfold f_M_rule_13
    exact J18 _ _ _ _ _ _ _ hF
  unfold f_M_rule
  refine pa_if ?_ ?_
  ·
    exact J13 _ _ _ _ _ _ hF
  ·
    refine pa_if ?_ ?_
    ·
      exact J18 _ _ _ _ _ _ _ hF
    ·
      exact J13 _ _ _ _ _ _ hF

theorem fr_M_isUsed (N : Nat) (σ : vS) (a0 : Int32) (a1 : Int32) (a2 : Int32) : Pa (f_M_isUsed N σ a0 a1 a2) (fun v => Fr [] [] σ v.2) := by
  have hF : Fr [] [] σ σ := Fr.rf
  have J57 : ∀ (τ : vS), Fr [] [] σ τ → Pa (f_M_isUsed_57 N τ) (fun v => Fr [] [] σ v.2) := by
    intro τ hF
    unfold f_M_isUsed_57
    exact pa_some hF
  have J32 : ∀ (τ : vS) (x2 : Int32) (x4 : Int32), Fr [] [] σ τ → Pa (f_M_isUsed_32 N τ x2 x4) (fun v => Fr [] [] σ v.2) := by
    intro τ x2 x4 hF
    unfold f_M_isUsed_32
    refine pa_bd ?_
    refine pa_lets (fun i6 _ => ?_)
    refine pa_bi0 (fun q7 => ?_)
    refine pa_if ?_ ?_
    ·
      exact pa_some hF
    ·
      refine pa_bd ?_
      refine pa_lets (fun i11 _ => ?_)
      refine pa_if ?_ ?_
      ·
        exact J57 _ hF
      ·
        exact pa_some hF
  unfold f_M_isUsed
  refine pa_bd ?_
  refine pa_lets (fun i2 _ => ?_)
  refine pa_bi0 (fun q3 => ?_)
  refine pa_if ?_ ?_
  ·
    exact J32 _ _ _ hF
  ·
    refine pa_bd ?_
    refine pa_lets (fun i15 _ => ?_)
    refine pa_if ?_ ?_
    ·
      exact J57 _ hF
    ·
      exact J32 _ _ _ hF

theorem fr_M_blame (N : Nat) (σ : vS) (a0 : Int32) (a1 : Int32) (a2 : Int32) : Pa (f_M_blame N σ a0 a1 a2) (fun v => Fr [4, 5, 6] [] σ v.2) := by
  have hF : Fr [4, 5, 6] [] σ σ := Fr.rf
  unfold f_M_blame
  refine pa_lets (fun σ1 eσ1 => ?_)
  have hσ1 : Fr [4, 5, 6] [] σ σ1 := by rw [eσ1]; exact hF.sf _ _ (by decide)
  refine pa_lets (fun σ2 eσ2 => ?_)
  have hσ2 : Fr [4, 5, 6] [] σ σ2 := by rw [eσ2]; exact hσ1.sf _ _ (by decide)
  refine pa_lets (fun σ3 eσ3 => ?_)
  have hσ3 : Fr [4, 5, 6] [] σ σ3 := by rw [eσ3]; exact hσ2.sf _ _ (by decide)
  exact pa_some hσ3

theorem fr_M_lacks (N : Nat) (σ : vS) : Pa (f_M_lacks N σ) (fun v => Fr [4, 5, 6] [] σ v.2) := by
  have hF : Fr [4, 5, 6] [] σ σ := Fr.rf
  have L2 : ∀ (n2 : Nat) (τ : vS) (x1 : Int32), Fr [4, 5, 6] [] σ τ → Pa (f_M_lacks_2 N n2 τ x1) (fun v => Fr [4, 5, 6] [] σ v.2) := by
    intro n2
    induction n2 with
    | zero => intro τ x1 hF; rw [f_M_lacks_2]; exact pa_none
    | succ n2 ih2 =>
      have L12 : ∀ (n12 : Nat) (τ : vS) (x1 : Int32) (x2 : Int32), Fr [4, 5, 6] [] σ τ → Pa (f_M_lacks_12 N (f_M_lacks_2 N n2) n12 τ x1 x2) (fun v => Fr [4, 5, 6] [] σ v.2) := by
        intro n12
        induction n12 with
        | zero => intro τ x1 x2 hF; rw [f_M_lacks_12]; exact pa_none
        | succ n12 ih12 =>
          have J50 : ∀ (τ : vS) (x1 : Int32) (x2 : Int32), Fr [4, 5, 6] [] σ τ → Pa (f_M_lacks_50 N (f_M_lacks_2 N n2) (f_M_lacks_12 N (f_M_lacks_2 N n2) n12) τ x1 x2) (fun v => Fr [4, 5, 6] [] σ v.2) := by
            intro τ x1 x2 hF
            unfold f_M_lacks_50
            exact ih12 _ _ _ hF
          intro τ x1 x2 hF
          rw [f_M_lacks_12]
          dsimp only
          refine pa_if ?_ ?_
          ·
            exact ih2 _ _ hF
          ·
            refine pa_bi (fr_M_isDefined _ _ _ _) (fun q3 hq3 => ?_)
            have hq3 := Fr.on hF hq3 (by decide) (by decide)
            refine pa_if ?_ ?_
            ·
              exact J50 _ _ _ hq3
            ·
              refine pa_bd ?_
              refine pa_lets (fun i7 _ => ?_)
              refine pa_if ?_ ?_
              ·
                refine pa_bi (fr_M_blame _ _ _ _ _) (fun q9 hq9 => ?_)
                have hq9 := Fr.on hq3 hq9 (by decide) (by decide)
                exact pa_some hq9
              ·
                exact J50 _ _ _ hq3
      intro τ x1 hF
      rw [f_M_lacks_2]
      dsimp only
      refine pa_if ?_ ?_
      ·
        exact pa_some hF
      ·
        exact L12 N _ _ _ hF
  unfold f_M_lacks
  exact L2 N _ _ hF

theorem fr_M_begin (N : Nat) (σ : vS) : Pa (f_M_begin N σ) (fun v => Fr [] [7, 8, 9] σ v.2) := by
  have hF : Fr [] [7, 8, 9] σ σ := Fr.rf
  have L23 : ∀ (n23 : Nat) (τ : vS) (x1 : Int32), Fr [] [7, 8, 9] σ τ → Pa (f_M_begin_23 N n23 τ x1) (fun v => Fr [] [7, 8, 9] σ v.2) := by
    intro n23
    induction n23 with
    | zero => intro τ x1 hF; rw [f_M_begin_23]; exact pa_none
    | succ n23 ih23 =>
      have J86 : ∀ (τ : vS) (x1 : Int32) (y0 : Int32) (y1 : Int32), Fr [] [7, 8, 9] σ τ → Pa (f_M_begin_86 N (f_M_begin_23 N n23) τ x1 y0 y1) (fun v => Fr [] [7, 8, 9] σ v.2) := by
        intro τ x1 y0 y1 hF
        unfold f_M_begin_86
        refine pa_bd ?_
        refine pa_lets (fun σ7 eσ7 => ?_)
        have hσ7 : Fr [] [7, 8, 9] σ σ7 := by rw [eσ7]; exact hF.sa _ _ _ (by decide)
        refine pa_bd ?_
        refine pa_lets (fun i9 _ => ?_)
        refine pa_bd ?_
        refine pa_lets (fun σ11 eσ11 => ?_)
        have hσ11 : Fr [] [7, 8, 9] σ σ11 := by rw [eσ11]; exact hσ7.sa _ _ _ (by decide)
        exact ih23 _ _ hσ11
      have J85 : ∀ (τ : vS) (x1 : Int32) (y0 : Int32), Fr [] [7, 8, 9] σ τ → Pa (f_M_begin_85 N (f_M_begin_23 N n23) τ x1 y0) (fun v => Fr [] [7, 8, 9] σ v.2) := by
        intro τ x1 y0 hF
        unfold f_M_begin_85
        exact J86 _ _ _ _ hF
      intro τ x1 hF
      rw [f_M_begin_23]
      dsimp only
      refine pa_if ?_ ?_
      ·
        exact pa_some hF
      ·
        refine pa_lets (fun i3 _ => ?_)
        refine pa_bi (fr_M_isDefined _ _ _ _) (fun q4 hq4 => ?_)
        have hq4 := Fr.on hF hq4 (by decide) (by decide)
        refine pa_if ?_ ?_
        ·
          exact J85 _ _ _ hq4
        ·
          refine pa_bi (fr_M_isUsed _ _ _ _ _) (fun q13 hq13 => ?_)
          have hq13 := Fr.on hq4 hq13 (by decide) (by decide)
          refine pa_if ?_ ?_
          ·
            exact J85 _ _ _ hq13
          ·
            exact J86 _ _ _ _ hq13
  have L2 : ∀ (n2 : Nat) (τ : vS) (x1 : Int32), Fr [] [7, 8, 9] σ τ → Pa (f_M_begin_2 N n2 τ x1) (fun v => Fr [] [7, 8, 9] σ v.2) := by
    intro n2
    induction n2 with
    | zero => intro τ x1 hF; rw [f_M_begin_2]; exact pa_none
    | succ n2 ih2 =>
      intro τ x1 hF
      rw [f_M_begin_2]
      dsimp only
      refine pa_if ?_ ?_
      ·
        exact L23 N _ _ hF
      ·
        refine pa_bd ?_
        refine pa_lets (fun σ17 eσ17 => ?_)
        have hσ17 : Fr [] [7, 8, 9] σ σ17 := by rw [eσ17]; exact hF.sa _ _ _ (by decide)
        exact ih2 _ _ hσ17
  unfold f_M_begin
  exact L2 N _ _ hF

theorem fr_M_learn (N : Nat) (σ : vS) (a0 : Int32) : Pa (f_M_learn N σ a0) (fun v => Fr [] [8, 9] σ v.2) := by
  have hF : Fr [] [8, 9] σ σ := Fr.rf
  have L212 : ∀ (n212 : Nat) (τ : vS) (x1 : Int32) (x2 : Int32) (x3 : Int32) (x4 : Int32), Fr [] [8, 9] σ τ → Pa (f_M_learn_212 N n212 τ x1 x2 x3 x4) (fun v => Fr [] [8, 9] σ v.2) := by
    intro n212
    induction n212 with
    | zero => intro τ x1 x2 x3 x4 hF; rw [f_M_learn_212]; exact pa_none
    | succ n212 ih212 =>
      have L226 : ∀ (n226 : Nat) (τ : vS) (x1 : Int32) (x2 : Int32) (x3 : Int32) (x4 : Int32) (x5 : Int32), Fr [] [8, 9] σ τ → Pa (f_M_learn_226 N (f_M_learn_212 N n212) n226 τ x1 x2 x3 x4 x5) (fun v => Fr [] [8, 9] σ v.2) := by
        intro n226
        induction n226 with
        | zero => intro τ x1 x2 x3 x4 x5 hF; rw [f_M_learn_226]; exact pa_none
        | succ n226 ih226 =>
          have J334 : ∀ (τ : vS) (x1 : Int32) (x2 : Int32) (x3 : Int32) (x4 : Int32) (x5 : Int32) (y0 : Int32) (y1 : Int32), Fr [] [8, 9] σ τ → Pa (f_M_learn_334 N (f_M_learn_212 N n212) (f_M_learn_226 N (f_M_learn_212 N n212) n226) τ x1 x2 x3 x4 x5 y0 y1) (fun v => Fr [] [8, 9] σ v.2) := by
            intro τ x1 x2 x3 x4 x5 y0 y1 hF
            unfold f_M_learn_334
            refine pa_bd ?_
            refine pa_lets (fun σ18 eσ18 => ?_)
            have hσ18 : Fr [] [8, 9] σ σ18 := by rw [eσ18]; exact hF.sa _ _ _ (by decide)
            exact ih226 _ _ _ _ _ _ hσ18
          have J329 : ∀ (τ : vS) (x1 : Int32) (x2 : Int32) (x3 : Int32) (x4 : Int32) (x5 : Int32) (y0 : Int32), Fr [] [8, 9] σ τ → Pa (f_M_learn_329 N (f_M_learn_212 N n212) (f_M_learn_226 N (f_M_learn_212 N n212) n226) τ x1 x2 x3 x4 x5 y0) (fun v => Fr [] [8, 9] σ v.2) := by
            intro τ x1 x2 x3 x4 x5 y0 hF
            unfold f_M_learn_329
            exact J334 _ _ _ _ _ _ _ _ hF
          have J307 : ∀ (τ : vS) (x1 : Int32) (x2 : Int32) (x4 : Int32) (x5 : Int32) (x6 : Int32) (x7 : Int32) (y0 : Int32), Fr [] [8, 9] σ τ → Pa (f_M_learn_307 N (f_M_learn_212 N n212) (f_M_learn_226 N (f_M_learn_212 N n212) n226) τ x1 x2 x4 x5 x6 x7 y0) (fun v => Fr [] [8, 9] σ v.2) := by
            intro τ x1 x2 x4 x5 x6 x7 y0 hF
            unfold f_M_learn_307
            refine pa_bd ?_
            refine pa_lets (fun i16 _ => ?_)
            refine pa_if ?_ ?_
            ·
              refine pa_if ?_ ?_
              ·
                exact J334 _ _ _ _ _ _ _ _ hF
              ·
                exact J329 _ _ _ _ _ _ _ hF
            ·
              exact J329 _ _ _ _ _ _ _ hF
          have J306 : ∀ (τ : vS) (x1 : Int32) (x2 : Int32) (x4 : Int32) (x5 : Int32) (x6 : Int32) (x7 : Int32), Fr [] [8, 9] σ τ → Pa (f_M_learn_306 N (f_M_learn_212 N n212) (f_M_learn_226 N (f_M_learn_212 N n212) n226) τ x1 x2 x4 x5 x6 x7) (fun v => Fr [] [8, 9] σ v.2) := by
            intro τ x1 x2 x4 x5 x6 x7 hF
            unfold f_M_learn_306
            exact J307 _ _ _ _ _ _ _ _ hF
          have J302 : ∀ (τ : vS) (x1 : Int32) (x2 : Int32) (x4 : Int32) (x5 : Int32) (x6 : Int32) (x7 : Int32), Fr [] [8, 9] σ τ → Pa (f_M_learn_302 N (f_M_learn_212 N n212) (f_M_learn_226 N (f_M_learn_212 N n212) n226) τ x1 x2 x4 x5 x6 x7) (fun v => Fr [] [8, 9] σ v.2) := by
            intro τ x1 x2 x4 x5 x6 x7 hF
            unfold f_M_learn_302
            exact J307 _ _ _ _ _ _ _ _ hF
          intro τ x1 x2 x3 x4 x5 hF
          rw [f_M_learn_226]
          dsimp only
          refine pa_if ?_ ?_
          ·
            exact ih212 _ _ _ _ _ hF
          ·
            refine pa_bd ?_
            refine pa_lets (fun i10 _ => ?_)
            refine pa_lets (fun i11 _ => ?_)
            refine pa_lets (fun i12 _ => ?_)
            refine pa_bd ?_
            refine pa_lets (fun i14 _ => ?_)
            refine pa_if ?_ ?_
            ·
              refine pa_if ?_ ?_
              ·
                exact J306 _ _ _ _ _ _ _ hF
              ·
                refine pa_bd ?_
                refine pa_lets (fun i24 _ => ?_)
                refine pa_if ?_ ?_
                ·
                  exact J302 _ _ _ _ _ _ _ hF
                ·
                  exact J306 _ _ _ _ _ _ _ hF
            ·
              exact J302 _ _ _ _ _ _ _ hF
      intro τ x1 x2 x3 x4 hF
      rw [f_M_learn_212]
      dsimp only
      refine pa_bd ?_
      refine pa_lets (fun i6 _ => ?_)
      refine pa_if ?_ ?_
      ·
        exact pa_some hF
      ·
        exact L226 N _ _ _ _ _ _ hF
  have L112 : ∀ (n112 : Nat) (τ : vS) (x1 : Int32) (x2 : Int32) (x3 : Int32), Fr [] [8, 9] σ τ → Pa (f_M_learn_112 N n112 τ x1 x2 x3) (fun v => Fr [] [8, 9] σ v.2) := by
    intro n112
    induction n112 with
    | zero => intro τ x1 x2 x3 hF; rw [f_M_learn_112]; exact pa_none
    | succ n112 ih112 =>
      have L121 : ∀ (n121 : Nat) (τ : vS) (x1 : Int32) (x2 : Int32) (x3 : Int32) (x4 : Int32), Fr [] [8, 9] σ τ → Pa (f_M_learn_121 N (f_M_learn_112 N n112) n121 τ x1 x2 x3 x4) (fun v => Fr [] [8, 9] σ v.2) := by
        intro n121
        induction n121 with
        | zero => intro τ x1 x2 x3 x4 hF; rw [f_M_learn_121]; exact pa_none
        | succ n121 ih121 =>
          have J194 : ∀ (τ : vS) (x1 : Int32) (x2 : Int32) (x3 : Int32) (x4 : Int32) (y0 : Int32) (y1 : Int32), Fr [] [8, 9] σ τ → Pa (f_M_learn_194 N (f_M_learn_112 N n112) (f_M_learn_121 N (f_M_learn_112 N n112) n121) τ x1 x2 x3 x4 y0 y1) (fun v => Fr [] [8, 9] σ v.2) := by
            intro τ x1 x2 x3 x4 y0 y1 hF
            unfold f_M_learn_194
            refine pa_bd ?_
            refine pa_lets (fun σ30 eσ30 => ?_)
            have hσ30 : Fr [] [8, 9] σ σ30 := by rw [eσ30]; exact hF.sa _ _ _ (by decide)
            exact ih121 _ _ _ _ _ hσ30
          have J193 : ∀ (τ : vS) (x1 : Int32) (x2 : Int32) (x3 : Int32) (x4 : Int32) (y0 : Int32), Fr [] [8, 9] σ τ → Pa (f_M_learn_193 N (f_M_learn_112 N n112) (f_M_learn_121 N (f_M_learn_112 N n112) n121) τ x1 x2 x3 x4 y0) (fun v => Fr [] [8, 9] σ v.2) := by
            intro τ x1 x2 x3 x4 y0 hF
            unfold f_M_learn_193
            exact J194 _ _ _ _ _ _ _ hF
          have J189 : ∀ (τ : vS) (x1 : Int32) (x2 : Int32) (x3 : Int32) (x4 : Int32) (y0 : Int32), Fr [] [8, 9] σ τ → Pa (f_M_learn_189 N (f_M_learn_112 N n112) (f_M_learn_121 N (f_M_learn_112 N n112) n121) τ x1 x2 x3 x4 y0) (fun v => Fr [] [8, 9] σ v.2) := by
            intro τ x1 x2 x3 x4 y0 hF
            unfold f_M_learn_189
            exact J194 _ _ _ _ _ _ _ hF
          intro τ x1 x2 x3 x4 hF
          rw [f_M_learn_121]
          dsimp only
          refine pa_if ?_ ?_
          ·
            exact ih112 _ _ _ _ hF
          ·
            refine pa_bd ?_
            refine pa_lets (fun i28 _ => ?_)
            refine pa_if ?_ ?_
            ·
              refine pa_bd ?_
              refine pa_lets (fun i33 _ => ?_)
              refine pa_if ?_ ?_
              ·
                exact J193 _ _ _ _ _ _ hF
              ·
                refine pa_lets (fun i35 _ => ?_)
                refine pa_bd ?_
                refine pa_lets (fun i37 _ => ?_)
                refine pa_if ?_ ?_
                ·
                  exact J193 _ _ _ _ _ _ hF
                ·
                  exact J189 _ _ _ _ _ _ hF
            ·
              exact J189 _ _ _ _ _ _ hF
      intro τ x1 x2 x3 hF
      rw [f_M_learn_112]
      dsimp only
      refine pa_if ?_ ?_
      ·
        exact L212 N _ _ _ _ _ hF
      ·
        exact L121 N _ _ _ _ _ hF
  have L8 : ∀ (n8 : Nat) (τ : vS) (x1 : Int32) (x2 : Int32) (x3 : Int32), Fr [] [8, 9] σ τ → Pa (f_M_learn_8 N n8 τ x1 x2 x3) (fun v => Fr [] [8, 9] σ v.2) := by
    intro n8
    induction n8 with
    | zero => intro τ x1 x2 x3 hF; rw [f_M_learn_8]; exact pa_none
    | succ n8 ih8 =>
      have L21 : ∀ (n21 : Nat) (τ : vS) (x1 : Int32) (x2 : Int32) (x3 : Int32) (x4 : Int32), Fr [] [8, 9] σ τ → Pa (f_M_learn_21 N (f_M_learn_8 N n8) n21 τ x1 x2 x3 x4) (fun v => Fr [] [8, 9] σ v.2) := by
        intro n21
        induction n21 with
        | zero => intro τ x1 x2 x3 x4 hF; rw [f_M_learn_21]; exact pa_none
        | succ n21 ih21 =>
          have J97 : ∀ (τ : vS) (x1 : Int32) (x2 : Int32) (x3 : Int32) (x4 : Int32) (y0 : Int32) (y1 : Int32), Fr [] [8, 9] σ τ → Pa (f_M_learn_97 N (f_M_learn_8 N n8) (f_M_learn_21 N (f_M_learn_8 N n8) n21) τ x1 x2 x3 x4 y0 y1) (fun v => Fr [] [8, 9] σ v.2) := by
            intro τ x1 x2 x3 x4 y0 y1 hF
            unfold f_M_learn_97
            refine pa_bd ?_
            refine pa_lets (fun σ45 eσ45 => ?_)
            have hσ45 : Fr [] [8, 9] σ σ45 := by rw [eσ45]; exact hF.sa _ _ _ (by decide)
            exact ih21 _ _ _ _ _ hσ45
          have J92 : ∀ (τ : vS) (x1 : Int32) (x2 : Int32) (x3 : Int32) (x4 : Int32) (y0 : Int32), Fr [] [8, 9] σ τ → Pa (f_M_learn_92 N (f_M_learn_8 N n8) (f_M_learn_21 N (f_M_learn_8 N n8) n21) τ x1 x2 x3 x4 y0) (fun v => Fr [] [8, 9] σ v.2) := by
            intro τ x1 x2 x3 x4 y0 hF
            unfold f_M_learn_92
            exact J97 _ _ _ _ _ _ _ hF
          intro τ x1 x2 x3 x4 hF
          rw [f_M_learn_21]
          dsimp only
          refine pa_if ?_ ?_
          ·
            exact ih8 _ _ _ _ hF
          ·
            refine pa_lets (fun i40 _ => ?_)
            refine pa_lets (fun i41 _ => ?_)
            refine pa_bd ?_
            refine pa_lets (fun i43 _ => ?_)
            refine pa_if ?_ ?_
            ·
              refine pa_bd ?_
              refine pa_lets (fun i48 _ => ?_)
              refine pa_bd ?_
              refine pa_lets (fun i50 _ => ?_)
              refine pa_if ?_ ?_
              ·
                exact J97 _ _ _ _ _ _ _ hF
              ·
                exact J92 _ _ _ _ _ _ hF
            ·
              exact J92 _ _ _ _ _ _ hF
      intro τ x1 x2 x3 hF
      rw [f_M_learn_8]
      dsimp only
      refine pa_bd ?_
      refine pa_lets (fun i2 _ => ?_)
      refine pa_if ?_ ?_
      ·
        exact L112 N _ _ _ _ hF
      ·
        exact L21 N _ _ _ _ _ hF
  unfold f_M_learn
  exact L8 N _ _ _ _ hF

theorem fr_M_circles (N : Nat) (σ : vS) : Pa (f_M_circles N σ) (fun v => Fr [4, 5, 6] [8, 9] σ v.2) := by
  have hF : Fr [4, 5, 6] [8, 9] σ σ := Fr.rf
  have L39 : ∀ (n39 : Nat) (τ : vS) (x2 : Int32), Fr [4, 5, 6] [8, 9] σ τ → Pa (f_M_circles_39 N n39 τ x2) (fun v => Fr [4, 5, 6] [8, 9] σ v.2) := by
    intro n39
    induction n39 with
    | zero => intro τ x2 hF; rw [f_M_circles_39]; exact pa_none
    | succ n39 ih39 =>
      have L49 : ∀ (n49 : Nat) (τ : vS) (x2 : Int32) (x3 : Int32), Fr [4, 5, 6] [8, 9] σ τ → Pa (f_M_circles_49 N (f_M_circles_39 N n39) n49 τ x2 x3) (fun v => Fr [4, 5, 6] [8, 9] σ v.2) := by
        intro n49
        induction n49 with
        | zero => intro τ x2 x3 hF; rw [f_M_circles_49]; exact pa_none
        | succ n49 ih49 =>
          intro τ x2 x3 hF
          rw [f_M_circles_49]
          dsimp only
          refine pa_if ?_ ?_
          ·
            exact ih39 _ _ hF
          ·
            refine pa_lets (fun i4 _ => ?_)
            refine pa_bd ?_
            refine pa_lets (fun i6 _ => ?_)
            refine pa_if ?_ ?_
            ·
              exact ih49 _ _ _ hF
            ·
              refine pa_bi (fr_M_blame _ _ _ _ _) (fun q8 hq8 => ?_)
              have hq8 := Fr.on hF hq8 (by decide) (by decide)
              exact pa_some hq8
      intro τ x2 hF
      rw [f_M_circles_39]
      dsimp only
      refine pa_if ?_ ?_
      ·
        exact pa_some hF
      ·
        exact L49 N _ _ _ hF
  have L2 : ∀ (n2 : Nat) (τ : vS) (x1 : Int32), Fr [4, 5, 6] [8, 9] σ τ → Pa (f_M_circles_2 N n2 τ x1) (fun v => Fr [4, 5, 6] [8, 9] σ v.2) := by
    intro n2
    induction n2 with
    | zero => intro τ x1 hF; rw [f_M_circles_2]; exact pa_none
    | succ n2 ih2 =>
      have L10 : ∀ (n10 : Nat) (τ : vS) (x1 : Int32) (x2 : Int32), Fr [4, 5, 6] [8, 9] σ τ → Pa (f_M_circles_10 N (f_M_circles_2 N n2) n10 τ x1 x2) (fun v => Fr [4, 5, 6] [8, 9] σ v.2) := by
        intro n10
        induction n10 with
        | zero => intro τ x1 x2 hF; rw [f_M_circles_10]; exact pa_none
        | succ n10 ih10 =>
          have J28 : ∀ (τ : vS) (x1 : Int32) (x2 : Int32), Fr [4, 5, 6] [8, 9] σ τ → Pa (f_M_circles_28 N (f_M_circles_2 N n2) (f_M_circles_10 N (f_M_circles_2 N n2) n10) τ x1 x2) (fun v => Fr [4, 5, 6] [8, 9] σ v.2) := by
            intro τ x1 x2 hF
            unfold f_M_circles_28
            exact ih10 _ _ _ hF
          intro τ x1 x2 hF
          rw [f_M_circles_10]
          dsimp only
          refine pa_if ?_ ?_
          ·
            exact ih2 _ _ hF
          ·
            refine pa_bi (fr_M_learn _ _ _) (fun q11 hq11 => ?_)
            have hq11 := Fr.on hF hq11 (by decide) (by decide)
            refine pa_if ?_ ?_
            ·
              exact J28 _ _ _ hq11
            ·
              exact J28 _ _ _ hq11
      intro τ x1 hF
      rw [f_M_circles_2]
      dsimp only
      refine pa_if ?_ ?_
      ·
        exact L39 N _ _ hF
      ·
        exact L10 N _ _ _ hF
  unfold f_M_circles
  exact L2 N _ _ hF

theorem fr_M_reach (N : Nat) (σ : vS) (a0 : Int32) (a1 : Int32) : Pa (f_M_reach N σ a0 a1) (fun v => Fr [] [] σ v.2) := by
  have hF : Fr [] [] σ σ := Fr.rf
  have L5 : ∀ (n5 : Nat) (τ : vS) (x1 : Int32) (x2 : Int32) (x3 : Int32) (x4 : Int32), Fr [] [] σ τ → Pa (f_M_reach_5 N n5 τ x1 x2 x3 x4) (fun v => Fr [] [] σ v.2) := by
    intro n5
    induction n5 with
    | zero => intro τ x1 x2 x3 x4 hF; rw [f_M_reach_5]; exact pa_none
    | succ n5 ih5 =>
      have J36 : ∀ (τ : vS) (x1 : Int32) (x2 : Int32) (x4 : Int32) (y0 : Int32) (y1 : Int32), Fr [] [] σ τ → Pa (f_M_reach_36 N (f_M_reach_5 N n5) τ x1 x2 x4 y0 y1) (fun v => Fr [] [] σ v.2) := by
        intro τ x1 x2 x4 y0 y1 hF
        unfold f_M_reach_36
        exact ih5 _ _ _ _ _ hF
      intro τ x1 x2 x3 x4 hF
      rw [f_M_reach_5]
      dsimp only
      refine pa_if ?_ ?_
      ·
        exact pa_some hF
      ·
        refine pa_lets (fun i2 _ => ?_)
        refine pa_bd ?_
        refine pa_lets (fun i4 _ => ?_)
        refine pa_if ?_ ?_
        ·
          exact J36 _ _ _ _ _ _ hF
        ·
          exact J36 _ _ _ _ _ _ hF
  unfold f_M_reach
  exact L5 N _ _ _ _ _ hF

theorem fr_M_rankAll (N : Nat) (σ : vS) (a0 : Int32) : Pa (f_M_rankAll N σ a0) (fun v => Fr [] [11, 12] σ v.2) := by
  have hF : Fr [] [11, 12] σ σ := Fr.rf
  have L4 : ∀ (n4 : Nat) (τ : vS) (x1 : Int32) (x2 : Int32) (x3 : Int32), Fr [] [11, 12] σ τ → Pa (f_M_rankAll_4 N n4 τ x1 x2 x3) (fun v => Fr [] [11, 12] σ v.2) := by
    intro n4
    induction n4 with
    | zero => intro τ x1 x2 x3 hF; rw [f_M_rankAll_4]; exact pa_none
    | succ n4 ih4 =>
      have L12 : ∀ (n12 : Nat) (τ : vS) (x1 : Int32) (x2 : Int32) (x3 : Int32) (x4 : Int32), Fr [] [11, 12] σ τ → Pa (f_M_rankAll_12 N (f_M_rankAll_4 N n4) n12 τ x1 x2 x3 x4) (fun v => Fr [] [11, 12] σ v.2) := by
        intro n12
        induction n12 with
        | zero => intro τ x1 x2 x3 x4 hF; rw [f_M_rankAll_12]; exact pa_none
        | succ n12 ih12 =>
          have J199 : ∀ (τ : vS) (x1 : Int32) (x2 : Int32) (x3 : Int32) (x4 : Int32), Fr [] [11, 12] σ τ → Pa (f_M_rankAll_199 N (f_M_rankAll_4 N n4) (f_M_rankAll_12 N (f_M_rankAll_4 N n4) n12) τ x1 x2 x3 x4) (fun v => Fr [] [11, 12] σ v.2) := by
            intro τ x1 x2 x3 x4 hF
            unfold f_M_rankAll_199
            exact ih12 _ _ _ _ _ hF
          have J198 : ∀ (τ : vS) (x1 : Int32) (x3 : Int32) (x4 : Int32) (y0 : Int32), Fr [] [11, 12] σ τ → Pa (f_M_rankAll_198 N (f_M_rankAll_4 N n4) (f_M_rankAll_12 N (f_M_rankAll_4 N n4) n12) τ x1 x3 x4 y0) (fun v => Fr [] [11, 12] σ v.2) := by
            intro τ x1 x3 x4 y0 hF
            unfold f_M_rankAll_198
            exact J199 _ _ _ _ _ hF
          have J167 : ∀ (τ : vS) (x1 : Int32) (x2 : Int32) (x3 : Int32) (x4 : Int32) (y0 : Int32) (y1 : Int32), Fr [] [11, 12] σ τ → Pa (f_M_rankAll_167 N (f_M_rankAll_4 N n4) (f_M_rankAll_12 N (f_M_rankAll_4 N n4) n12) τ x1 x2 x3 x4 y0 y1) (fun v => Fr [] [11, 12] σ v.2) := by
            intro τ x1 x2 x3 x4 y0 y1 hF
            unfold f_M_rankAll_167
            refine pa_bd ?_
            refine pa_lets (fun σ14 eσ14 => ?_)
            have hσ14 : Fr [] [11, 12] σ σ14 := by rw [eσ14]; exact hF.sa _ _ _ (by decide)
            refine pa_bd ?_
            refine pa_lets (fun i16 _ => ?_)
            refine pa_if ?_ ?_
            ·
              exact J198 _ _ _ _ _ hσ14
            ·
              refine pa_bd ?_
              refine pa_lets (fun i19 _ => ?_)
              exact J198 _ _ _ _ _ hσ14
          have J153 : ∀ (τ : vS) (x1 : Int32) (x2 : Int32) (x3 : Int32) (x4 : Int32) (x5 : Int32) (x6 : Int32) (y0 : Int32) (y1 : Int32), Fr [] [11, 12] σ τ → Pa (f_M_rankAll_153 N (f_M_rankAll_4 N n4) (f_M_rankAll_12 N (f_M_rankAll_4 N n4) n12) τ x1 x2 x3 x4 x5 x6 y0 y1) (fun v => Fr [] [11, 12] σ v.2) := by
            intro τ x1 x2 x3 x4 x5 x6 y0 y1 hF
            unfold f_M_rankAll_153
            refine pa_if ?_ ?_
            ·
              exact J167 _ _ _ _ _ _ _ hF
            ·
              exact J167 _ _ _ _ _ _ _ hF
          have J128 : ∀ (τ : vS) (x1 : Int32) (x2 : Int32) (x3 : Int32) (x4 : Int32) (x5 : Int32) (y0 : Int32), Fr [] [11, 12] σ τ → Pa (f_M_rankAll_128 N (f_M_rankAll_4 N n4) (f_M_rankAll_12 N (f_M_rankAll_4 N n4) n12) τ x1 x2 x3 x4 x5 y0) (fun v => Fr [] [11, 12] σ v.2) := by
            intro τ x1 x2 x3 x4 x5 y0 hF
            unfold f_M_rankAll_128
            refine pa_if ?_ ?_
            ·
              exact J153 _ _ _ _ _ _ _ _ _ hF
            ·
              exact J153 _ _ _ _ _ _ _ _ _ hF
          have L43 : ∀ (n43 : Nat) (τ : vS) (x1 : Int32) (x2 : Int32) (x3 : Int32) (x4 : Int32) (x5 : Int32) (x6 : Int32), Fr [] [11, 12] σ τ → Pa (f_M_rankAll_43 N (f_M_rankAll_4 N n4) (f_M_rankAll_12 N (f_M_rankAll_4 N n4) n12) n43 τ x1 x2 x3 x4 x5 x6) (fun v => Fr [] [11, 12] σ v.2) := by
            intro n43
            induction n43 with
            | zero => intro τ x1 x2 x3 x4 x5 x6 hF; rw [f_M_rankAll_43]; exact pa_none
            | succ n43 ih43 =>
              have J101 : ∀ (τ : vS) (x1 : Int32) (x2 : Int32) (x3 : Int32) (x4 : Int32) (x6 : Int32) (y0 : Int32), Fr [] [11, 12] σ τ → Pa (f_M_rankAll_101 N (f_M_rankAll_4 N n4) (f_M_rankAll_12 N (f_M_rankAll_4 N n4) n12) (f_M_rankAll_43 N (f_M_rankAll_4 N n4) (f_M_rankAll_12 N (f_M_rankAll_4 N n4) n12) n43) τ x1 x2 x3 x4 x6 y0) (fun v => Fr [] [11, 12] σ v.2) := by
                intro τ x1 x2 x3 x4 x6 y0 hF
                unfold f_M_rankAll_101
                exact ih43 _ _ _ _ _ _ _ hF
              have J99 : ∀ (τ : vS) (x1 : Int32) (x2 : Int32) (x3 : Int32) (x4 : Int32) (x5 : Int32) (x6 : Int32), Fr [] [11, 12] σ τ → Pa (f_M_rankAll_99 N (f_M_rankAll_4 N n4) (f_M_rankAll_12 N (f_M_rankAll_4 N n4) n12) (f_M_rankAll_43 N (f_M_rankAll_4 N n4) (f_M_rankAll_12 N (f_M_rankAll_4 N n4) n12) n43) τ x1 x2 x3 x4 x5 x6) (fun v => Fr [] [11, 12] σ v.2) := by
                intro τ x1 x2 x3 x4 x5 x6 hF
                unfold f_M_rankAll_99
                exact J101 _ _ _ _ _ _ _ hF
              intro τ x1 x2 x3 x4 x5 x6 hF
              rw [f_M_rankAll_43]
              dsimp only
              refine pa_if ?_ ?_
              ·
                refine pa_bd ?_
                refine pa_lets (fun i12 _ => ?_)
                refine pa_if ?_ ?_
                ·
                  exact J128 _ _ _ _ _ _ _ hF
                ·
                  exact J128 _ _ _ _ _ _ _ hF
              ·
                refine pa_lets (fun i23 _ => ?_)
                refine pa_bd ?_
                refine pa_lets (fun i25 _ => ?_)
                refine pa_if ?_ ?_
                ·
                  exact J99 _ _ _ _ _ _ _ hF
                ·
                  refine pa_bd ?_
                  refine pa_lets (fun i28 _ => ?_)
                  refine pa_if ?_ ?_
                  ·
                    exact J99 _ _ _ _ _ _ _ hF
                  ·
                    refine pa_bd ?_
                    refine pa_lets (fun i31 _ => ?_)
                    exact J101 _ _ _ _ _ _ _ hF
          intro τ x1 x2 x3 x4 hF
          rw [f_M_rankAll_12]
          dsimp only
          refine pa_bd ?_
          refine pa_lets (fun i5 _ => ?_)
          refine pa_if ?_ ?_
          ·
            exact ih4 _ _ _ _ hF
          ·
            refine pa_bi (fr_M_reach _ _ _ _) (fun q7 hq7 => ?_)
            have hq7 := Fr.on hF hq7 (by decide) (by decide)
            refine pa_if ?_ ?_
            ·
              exact L43 N _ _ _ _ _ _ _ hq7
            ·
              exact J199 _ _ _ _ _ hq7
      intro τ x1 x2 x3 hF
      rw [f_M_rankAll_4]
      dsimp only
      refine pa_if ?_ ?_
      ·
        refine pa_bd ?_
        refine pa_lets (fun σ3 eσ3 => ?_)
        have hσ3 : Fr [] [11, 12] σ σ3 := by rw [eσ3]; exact hF.sa _ _ _ (by decide)
        exact pa_some hσ3
      ·
        exact L12 N _ _ _ _ _ hF
  unfold f_M_rankAll
  exact L4 N _ _ _ _ hF

theorem fr_M_isDemanded (N : Nat) (σ : vS) (a0 : Int32) (a1 : Int32) (a2 : Int32) : Pa (f_M_isDemanded N σ a0 a1 a2) (fun v => Fr [] [] σ v.2) := by
  have hF : Fr [] [] σ σ := Fr.rf
  have J113 : ∀ (τ : vS), Fr [] [] σ τ → Pa (f_M_isDemanded_113 N τ) (fun v => Fr [] [] σ v.2) := by
    intro τ hF
    unfold f_M_isDemanded_113
    exact pa_some hF
  unfold f_M_isDemanded
  refine pa_lets (fun i1 _ => ?_)
  refine pa_bd ?_
  refine pa_lets (fun i3 _ => ?_)
  refine pa_if ?_ ?_
  ·
    refine pa_if ?_ ?_
    ·
      refine pa_bi (fr_M_isOccurrence _ _ _ _) (fun q6 hq6 => ?_)
      have hq6 := Fr.on hF hq6 (by decide) (by decide)
      refine pa_if ?_ ?_
      ·
        exact pa_some hq6
      ·
        refine pa_bi (fr_M_isOccurrence _ _ _ _) (fun q9 hq9 => ?_)
        have hq9 := Fr.on hq6 hq9 (by decide) (by decide)
        refine pa_if ?_ ?_
        ·
          exact pa_some hq9
        ·
          refine pa_bd ?_
          refine pa_lets (fun i13 _ => ?_)
          refine pa_lets (fun i14 _ => ?_)
          refine pa_lets (fun i15 _ => ?_)
          refine pa_bd ?_
          refine pa_lets (fun i17 _ => ?_)
          refine pa_if ?_ ?_
          ·
            refine pa_bi (fr_M_attributeOf _ _ _ _) (fun q19 hq19 => ?_)
            have hq19 := Fr.on hq9 hq19 (by decide) (by decide)
            refine pa_bd ?_
            refine pa_lets (fun i22 _ => ?_)
            refine pa_bi (fr_M_attributeOf _ _ _ _) (fun q23 hq23 => ?_)
            have hq23 := Fr.on hq19 hq23 (by decide) (by decide)
            refine pa_bd ?_
            refine pa_lets (fun i26 _ => ?_)
            refine pa_if ?_ ?_
            ·
              exact pa_some hq23
            ·
              exact J113 _ hq23
          ·
            exact J113 _ hq9
    ·
      exact pa_some hF
  ·
    exact pa_some hF

theorem fr_M_mixes (N : Nat) (σ : vS) : Pa (f_M_mixes N σ) (fun v => Fr [4, 5, 6] [10] σ v.2) := by
  have hF : Fr [4, 5, 6] [10] σ σ := Fr.rf
  have L2 : ∀ (n2 : Nat) (τ : vS) (x1 : Int32), Fr [4, 5, 6] [10] σ τ → Pa (f_M_mixes_2 N n2 τ x1) (fun v => Fr [4, 5, 6] [10] σ v.2) := by
    intro n2
    induction n2 with
    | zero => intro τ x1 hF; rw [f_M_mixes_2]; exact pa_none
    | succ n2 ih2 =>
      have L129 : ∀ (n129 : Nat) (τ : vS) (x1 : Int32) (x2 : Int32), Fr [4, 5, 6] [10] σ τ → Pa (f_M_mixes_129 N (f_M_mixes_2 N n2) n129 τ x1 x2) (fun v => Fr [4, 5, 6] [10] σ v.2) := by
        intro n129
        induction n129 with
        | zero => intro τ x1 x2 hF; rw [f_M_mixes_129]; exact pa_none
        | succ n129 ih129 =>
          intro τ x1 x2 hF
          rw [f_M_mixes_129]
          dsimp only
          refine pa_if ?_ ?_
          ·
            exact ih2 _ _ hF
          ·
            refine pa_bd ?_
            refine pa_lets (fun i6 _ => ?_)
            refine pa_if ?_ ?_
            ·
              exact ih129 _ _ _ hF
            ·
              refine pa_bi (fr_M_blame _ _ _ _ _) (fun q8 hq8 => ?_)
              have hq8 := Fr.on hF hq8 (by decide) (by decide)
              exact pa_some hq8
      have L46 : ∀ (n46 : Nat) (τ : vS) (x1 : Int32) (x2 : Int32), Fr [4, 5, 6] [10] σ τ → Pa (f_M_mixes_46 N (f_M_mixes_2 N n2) n46 τ x1 x2) (fun v => Fr [4, 5, 6] [10] σ v.2) := by
        intro n46
        induction n46 with
        | zero => intro τ x1 x2 hF; rw [f_M_mixes_46]; exact pa_none
        | succ n46 ih46 =>
          have L54 : ∀ (n54 : Nat) (τ : vS) (x1 : Int32) (x2 : Int32) (x3 : Int32), Fr [4, 5, 6] [10] σ τ → Pa (f_M_mixes_54 N (f_M_mixes_2 N n2) (f_M_mixes_46 N (f_M_mixes_2 N n2) n46) n54 τ x1 x2 x3) (fun v => Fr [4, 5, 6] [10] σ v.2) := by
            intro n54
            induction n54 with
            | zero => intro τ x1 x2 x3 hF; rw [f_M_mixes_54]; exact pa_none
            | succ n54 ih54 =>
              have J114 : ∀ (τ : vS) (x1 : Int32) (x2 : Int32) (x3 : Int32) (y0 : Int32) (y1 : Int32), Fr [4, 5, 6] [10] σ τ → Pa (f_M_mixes_114 N (f_M_mixes_2 N n2) (f_M_mixes_46 N (f_M_mixes_2 N n2) n46) (f_M_mixes_54 N (f_M_mixes_2 N n2) (f_M_mixes_46 N (f_M_mixes_2 N n2) n46) n54) τ x1 x2 x3 y0 y1) (fun v => Fr [4, 5, 6] [10] σ v.2) := by
                intro τ x1 x2 x3 y0 y1 hF
                unfold f_M_mixes_114
                refine pa_bd ?_
                refine pa_lets (fun σ14 eσ14 => ?_)
                have hσ14 : Fr [4, 5, 6] [10] σ σ14 := by rw [eσ14]; exact hF.sa _ _ _ (by decide)
                exact ih54 _ _ _ _ hσ14
              have J113 : ∀ (τ : vS) (x1 : Int32) (x2 : Int32) (x3 : Int32) (y0 : Int32), Fr [4, 5, 6] [10] σ τ → Pa (f_M_mixes_113 N (f_M_mixes_2 N n2) (f_M_mixes_46 N (f_M_mixes_2 N n2) n46) (f_M_mixes_54 N (f_M_mixes_2 N n2) (f_M_mixes_46 N (f_M_mixes_2 N n2) n46) n54) τ x1 x2 x3 y0) (fun v => Fr [4, 5, 6] [10] σ v.2) := by
                intro τ x1 x2 x3 y0 hF
                unfold f_M_mixes_113
                exact J114 _ _ _ _ _ _ hF
              have J109 : ∀ (τ : vS) (x1 : Int32) (x2 : Int32) (x3 : Int32) (y0 : Int32), Fr [4, 5, 6] [10] σ τ → Pa (f_M_mixes_109 N (f_M_mixes_2 N n2) (f_M_mixes_46 N (f_M_mixes_2 N n2) n46) (f_M_mixes_54 N (f_M_mixes_2 N n2) (f_M_mixes_46 N (f_M_mixes_2 N n2) n46) n54) τ x1 x2 x3 y0) (fun v => Fr [4, 5, 6] [10] σ v.2) := by
                intro τ x1 x2 x3 y0 hF
                unfold f_M_mixes_109
                exact J114 _ _ _ _ _ _ hF
              intro τ x1 x2 x3 hF
              rw [f_M_mixes_54]
              dsimp only
              refine pa_if ?_ ?_
              ·
                exact ih46 _ _ _ hF
              ·
                refine pa_bd ?_
                refine pa_lets (fun i12 _ => ?_)
                refine pa_if ?_ ?_
                ·
                  refine pa_bd ?_
                  refine pa_lets (fun i17 _ => ?_)
                  refine pa_if ?_ ?_
                  ·
                    exact J113 _ _ _ _ _ hF
                  ·
                    refine pa_lets (fun i19 _ => ?_)
                    refine pa_bd ?_
                    refine pa_lets (fun i21 _ => ?_)
                    refine pa_if ?_ ?_
                    ·
                      exact J113 _ _ _ _ _ hF
                    ·
                      exact J109 _ _ _ _ _ hF
                ·
                  exact J109 _ _ _ _ _ hF
          intro τ x1 x2 hF
          rw [f_M_mixes_46]
          dsimp only
          refine pa_if ?_ ?_
          ·
            exact L129 N _ _ _ hF
          ·
            exact L54 N _ _ _ _ hF
      have L12 : ∀ (n12 : Nat) (τ : vS) (x1 : Int32) (x2 : Int32), Fr [4, 5, 6] [10] σ τ → Pa (f_M_mixes_12 N (f_M_mixes_2 N n2) n12 τ x1 x2) (fun v => Fr [4, 5, 6] [10] σ v.2) := by
        intro n12
        induction n12 with
        | zero => intro τ x1 x2 hF; rw [f_M_mixes_12]; exact pa_none
        | succ n12 ih12 =>
          intro τ x1 x2 hF
          rw [f_M_mixes_12]
          dsimp only
          refine pa_if ?_ ?_
          ·
            exact L46 N _ _ _ hF
          ·
            refine pa_bi (fr_M_isDemanded _ _ _ _ _) (fun q23 hq23 => ?_)
            have hq23 := Fr.on hF hq23 (by decide) (by decide)
            refine pa_bd ?_
            refine pa_lets (fun σ26 eσ26 => ?_)
            have hσ26 : Fr [4, 5, 6] [10] σ σ26 := by rw [eσ26]; exact hq23.sa _ _ _ (by decide)
            exact ih12 _ _ _ hσ26
      intro τ x1 hF
      rw [f_M_mixes_2]
      dsimp only
      refine pa_if ?_ ?_
      ·
        exact pa_some hF
      ·
        exact L12 N _ _ _ hF
  unfold f_M_mixes
  exact L2 N _ _ hF

theorem fr_M_visitOf (N : Nat) (σ : vS) (a0 : Int32) (a1 : Int32) : Pa (f_M_visitOf N σ a0 a1) (fun v => Fr [] [] σ v.2) := by
  have hF : Fr [] [] σ σ := Fr.rf
  unfold f_M_visitOf
  refine pa_bi (fr_M_attributeOf _ _ _ _) (fun q1 hq1 => ?_)
  have hq1 := Fr.on hF hq1 (by decide) (by decide)
  refine pa_bd ?_
  refine pa_lets (fun i4 _ => ?_)
  refine pa_bd ?_
  refine pa_lets (fun i6 _ => ?_)
  exact pa_some hq1

theorem fr_M_isKnown (N : Nat) (σ : vS) (a0 : Int32) (a1 : Int32) : Pa (f_M_isKnown N σ a0 a1) (fun v => Fr [] [] σ v.2) := by
  have hF : Fr [] [] σ σ := Fr.rf
  unfold f_M_isKnown
  refine pa_bd ?_
  refine pa_lets (fun i2 _ => ?_)
  refine pa_if ?_ ?_
  ·
    refine pa_bi (fr_M_isDefined _ _ _ _) (fun q4 hq4 => ?_)
    have hq4 := Fr.on hF hq4 (by decide) (by decide)
    refine pa_if ?_ ?_
    ·
      refine pa_if ?_ ?_
      ·
        refine pa_bi (fr_M_visitOf _ _ _ _) (fun q8 hq8 => ?_)
        have hq8 := Fr.on hq4 hq8 (by decide) (by decide)
        refine pa_bd ?_
        refine pa_lets (fun i11 _ => ?_)
        refine pa_if ?_ ?_
        ·
          exact pa_some hq8
        ·
          exact pa_some hq8
      ·
        refine pa_bi (fr_M_visitOf _ _ _ _) (fun q13 hq13 => ?_)
        have hq13 := Fr.on hq4 hq13 (by decide) (by decide)
        refine pa_bd ?_
        refine pa_lets (fun i16 _ => ?_)
        refine pa_if ?_ ?_
        ·
          exact pa_some hq13
        ·
          exact pa_some hq13
    ·
      exact pa_some hq4
  ·
    exact pa_some hF

theorem fr_M_canSet (N : Nat) (σ : vS) (a0 : Int32) (a1 : Int32) : Pa (f_M_canSet N σ a0 a1) (fun v => Fr [] [] σ v.2) := by
  have hF : Fr [] [] σ σ := Fr.rf
  have L25 : ∀ (n25 : Nat) (τ : vS) (x1 : Int32) (x2 : Int32) (x3 : Int32) (x4 : Int32), Fr [] [] σ τ → Pa (f_M_canSet_25 N n25 τ x1 x2 x3 x4) (fun v => Fr [] [] σ v.2) := by
    intro n25
    induction n25 with
    | zero => intro τ x1 x2 x3 x4 hF; rw [f_M_canSet_25]; exact pa_none
    | succ n25 ih25 =>
      have J62 : ∀ (τ : vS) (x1 : Int32) (x2 : Int32) (x4 : Int32) (y0 : Int32), Fr [] [] σ τ → Pa (f_M_canSet_62 N (f_M_canSet_25 N n25) τ x1 x2 x4 y0) (fun v => Fr [] [] σ v.2) := by
        intro τ x1 x2 x4 y0 hF
        unfold f_M_canSet_62
        exact ih25 _ _ _ _ _ hF
      have J61 : ∀ (τ : vS) (x1 : Int32) (x2 : Int32) (x4 : Int32), Fr [] [] σ τ → Pa (f_M_canSet_61 N (f_M_canSet_25 N n25) τ x1 x2 x4) (fun v => Fr [] [] σ v.2) := by
        intro τ x1 x2 x4 hF
        unfold f_M_canSet_61
        exact J62 _ _ _ _ _ hF
      have J57 : ∀ (τ : vS) (x1 : Int32) (x2 : Int32) (x4 : Int32), Fr [] [] σ τ → Pa (f_M_canSet_57 N (f_M_canSet_25 N n25) τ x1 x2 x4) (fun v => Fr [] [] σ v.2) := by
        intro τ x1 x2 x4 hF
        unfold f_M_canSet_57
        exact J62 _ _ _ _ _ hF
      intro τ x1 x2 x3 x4 hF
      rw [f_M_canSet_25]
      dsimp only
      refine pa_if ?_ ?_
      ·
        exact pa_some hF
      ·
        refine pa_if ?_ ?_
        ·
          exact J61 _ _ _ _ hF
        ·
          refine pa_bi (fr_M_isUsed _ _ _ _ _) (fun q9 hq9 => ?_)
          have hq9 := Fr.on hF hq9 (by decide) (by decide)
          refine pa_if ?_ ?_
          ·
            exact J57 _ _ _ _ hq9
          ·
            refine pa_bi (fr_M_isKnown _ _ _ _) (fun q12 hq12 => ?_)
            have hq12 := Fr.on hq9 hq12 (by decide) (by decide)
            refine pa_if ?_ ?_
            ·
              exact J61 _ _ _ _ hq12
            ·
              exact J57 _ _ _ _ hq12
  unfold f_M_canSet
  refine pa_bi (fr_M_isDefined _ _ _ _) (fun q1 hq1 => ?_)
  have hq1 := Fr.on hF hq1 (by decide) (by decide)
  refine pa_if ?_ ?_
  ·
    exact pa_some hq1
  ·
    refine pa_bd ?_
    refine pa_lets (fun i5 _ => ?_)
    refine pa_if ?_ ?_
    ·
      exact L25 N _ _ _ _ _ hq1
    ·
      exact pa_some hq1

theorem fr_M_isPrepared (N : Nat) (σ : vS) (a0 : Int32) (a1 : Int32) (a2 : Int32) : Pa (f_M_isPrepared N σ a0 a1 a2) (fun v => Fr [] [] σ v.2) := by
  have hF : Fr [] [] σ σ := Fr.rf
  have L8 : ∀ (n8 : Nat) (τ : vS) (x1 : Int32) (x2 : Int32) (x3 : Int32) (x4 : Int32) (x5 : Int32), Fr [] [] σ τ → Pa (f_M_isPrepared_8 N n8 τ x1 x2 x3 x4 x5) (fun v => Fr [] [] σ v.2) := by
    intro n8
    induction n8 with
    | zero => intro τ x1 x2 x3 x4 x5 hF; rw [f_M_isPrepared_8]; exact pa_none
    | succ n8 ih8 =>
      have J59 : ∀ (τ : vS) (x1 : Int32) (x2 : Int32) (x3 : Int32) (x5 : Int32) (y0 : Int32), Fr [] [] σ τ → Pa (f_M_isPrepared_59 N (f_M_isPrepared_8 N n8) τ x1 x2 x3 x5 y0) (fun v => Fr [] [] σ v.2) := by
        intro τ x1 x2 x3 x5 y0 hF
        unfold f_M_isPrepared_59
        exact ih8 _ _ _ _ _ _ hF
      have J58 : ∀ (τ : vS) (x1 : Int32) (x2 : Int32) (x3 : Int32) (x5 : Int32), Fr [] [] σ τ → Pa (f_M_isPrepared_58 N (f_M_isPrepared_8 N n8) τ x1 x2 x3 x5) (fun v => Fr [] [] σ v.2) := by
        intro τ x1 x2 x3 x5 hF
        unfold f_M_isPrepared_58
        exact J59 _ _ _ _ _ _ hF
      have J54 : ∀ (τ : vS) (x1 : Int32) (x2 : Int32) (x3 : Int32) (x5 : Int32), Fr [] [] σ τ → Pa (f_M_isPrepared_54 N (f_M_isPrepared_8 N n8) τ x1 x2 x3 x5) (fun v => Fr [] [] σ v.2) := by
        intro τ x1 x2 x3 x5 hF
        unfold f_M_isPrepared_54
        exact J59 _ _ _ _ _ _ hF
      intro τ x1 x2 x3 x4 x5 hF
      rw [f_M_isPrepared_8]
      dsimp only
      refine pa_if ?_ ?_
      ·
        exact pa_some hF
      ·
        refine pa_if ?_ ?_
        ·
          exact J58 _ _ _ _ _ hF
        ·
          refine pa_bi (fr_M_isDefined _ _ _ _) (fun q3 hq3 => ?_)
          have hq3 := Fr.on hF hq3 (by decide) (by decide)
          refine pa_if ?_ ?_
          ·
            exact J54 _ _ _ _ _ hq3
          ·
            refine pa_bd ?_
            refine pa_lets (fun i7 _ => ?_)
            refine pa_if ?_ ?_
            ·
              refine pa_bi (fr_M_visitOf _ _ _ _) (fun q9 hq9 => ?_)
              have hq9 := Fr.on hq3 hq9 (by decide) (by decide)
              refine pa_if ?_ ?_
              ·
                exact J58 _ _ _ _ _ hq9
              ·
                exact J54 _ _ _ _ _ hq9
            ·
              exact J54 _ _ _ _ _ hq3
  unfold f_M_isPrepared
  exact L8 N _ _ _ _ _ _ hF

theorem fr_M_canGo (N : Nat) (σ : vS) (a0 : Int32) (a1 : Int32) : Pa (f_M_canGo N σ a0 a1) (fun v => Fr [] [] σ v.2) := by
  have hF : Fr [] [] σ σ := Fr.rf
  unfold f_M_canGo
  refine pa_bd ?_
  refine pa_lets (fun i2 _ => ?_)
  refine pa_bd ?_
  refine pa_lets (fun i4 _ => ?_)
  refine pa_bd ?_
  refine pa_lets (fun i6 _ => ?_)
  refine pa_if ?_ ?_
  ·
    exact pa_some hF
  ·
    refine pa_bi (fr_M_isPrepared _ _ _ _ _) (fun q8 hq8 => ?_)
    have hq8 := Fr.on hF hq8 (by decide) (by decide)
    refine pa_if ?_ ?_
    ·
      exact pa_some hq8
    ·
      exact pa_some hq8

theorem fr_M_plan (N : Nat) (σ : vS) (a0 : Int32) : Pa (f_M_plan N σ a0) (fun v => Fr [] [13, 14, 15, 16] σ v.2) := by
  have hF : Fr [] [13, 14, 15, 16] σ σ := Fr.rf
  have L50 : ∀ (n50 : Nat) (τ : vS) (x1 : Int32) (x2 : Int32), Fr [] [13, 14, 15, 16] σ τ → Pa (f_M_plan_50 N n50 τ x1 x2) (fun v => Fr [] [13, 14, 15, 16] σ v.2) := by
    intro n50
    induction n50 with
    | zero => intro τ x1 x2 hF; rw [f_M_plan_50]; exact pa_none
    | succ n50 ih50 =>
      have J210 : ∀ (τ : vS) (x1 : Int32) (x2 : Int32), Fr [] [13, 14, 15, 16] σ τ → Pa (f_M_plan_210 N (f_M_plan_50 N n50) τ x1 x2) (fun v => Fr [] [13, 14, 15, 16] σ v.2) := by
        intro τ x1 x2 hF
        unfold f_M_plan_210
        refine pa_bd ?_
        refine pa_lets (fun i11 _ => ?_)
        refine pa_bd ?_
        refine pa_lets (fun σ13 eσ13 => ?_)
        have hσ13 : Fr [] [13, 14, 15, 16] σ σ13 := by rw [eσ13]; exact hF.sa _ _ _ (by decide)
        refine pa_bd ?_
        refine pa_lets (fun i15 _ => ?_)
        refine pa_bd ?_
        refine pa_lets (fun σ17 eσ17 => ?_)
        have hσ17 : Fr [] [13, 14, 15, 16] σ σ17 := by rw [eσ17]; exact hσ13.sa _ _ _ (by decide)
        exact ih50 _ _ _ hσ17
      have J205 : ∀ (τ : vS) (x1 : Int32) (x2 : Int32) (y0 : Int32), Fr [] [13, 14, 15, 16] σ τ → Pa (f_M_plan_205 N (f_M_plan_50 N n50) τ x1 x2 y0) (fun v => Fr [] [13, 14, 15, 16] σ v.2) := by
        intro τ x1 x2 y0 hF
        unfold f_M_plan_205
        refine pa_bd ?_
        refine pa_lets (fun i20 _ => ?_)
        refine pa_bd ?_
        refine pa_lets (fun σ22 eσ22 => ?_)
        have hσ22 : Fr [] [13, 14, 15, 16] σ σ22 := by rw [eσ22]; exact hF.sa _ _ _ (by decide)
        exact J210 _ _ _ hσ22
      have J162 : ∀ (τ : vS) (x1 : Int32) (x2 : Int32), Fr [] [13, 14, 15, 16] σ τ → Pa (f_M_plan_162 N (f_M_plan_50 N n50) τ x1 x2) (fun v => Fr [] [13, 14, 15, 16] σ v.2) := by
        intro τ x1 x2 hF
        unfold f_M_plan_162
        refine pa_if ?_ ?_
        ·
          exact ih50 _ _ _ hF
        ·
          refine pa_if ?_ ?_
          ·
            refine pa_if ?_ ?_
            ·
              exact J205 _ _ _ _ hF
            ·
              exact J205 _ _ _ _ hF
          ·
            refine pa_bd ?_
            refine pa_lets (fun σ25 eσ25 => ?_)
            have hσ25 : Fr [] [13, 14, 15, 16] σ σ25 := by rw [eσ25]; exact hF.sa _ _ _ (by decide)
            exact J210 _ _ _ hσ25
      have J135 : ∀ (τ : vS) (x1 : Int32) (x2 : Int32), Fr [] [13, 14, 15, 16] σ τ → Pa (f_M_plan_135 N (f_M_plan_50 N n50) τ x1 x2) (fun v => Fr [] [13, 14, 15, 16] σ v.2) := by
        intro τ x1 x2 hF
        unfold f_M_plan_135
        refine pa_if ?_ ?_
        ·
          refine pa_bi (fr_M_canGo _ _ _ _) (fun q27 hq27 => ?_)
          have hq27 := Fr.on hF hq27 (by decide) (by decide)
          refine pa_if ?_ ?_
          ·
            exact J162 _ _ _ hq27
          ·
            refine pa_bd ?_
            refine pa_lets (fun i31 _ => ?_)
            exact J162 _ _ _ hq27
        ·
          exact J162 _ _ _ hF
      have L87 : ∀ (n87 : Nat) (τ : vS) (x1 : Int32) (x2 : Int32) (x3 : Int32), Fr [] [13, 14, 15, 16] σ τ → Pa (f_M_plan_87 N (f_M_plan_50 N n50) n87 τ x1 x2 x3) (fun v => Fr [] [13, 14, 15, 16] σ v.2) := by
        intro n87
        induction n87 with
        | zero => intro τ x1 x2 x3 hF; rw [f_M_plan_87]; exact pa_none
        | succ n87 ih87 =>
          have J128 : ∀ (τ : vS) (x1 : Int32) (x3 : Int32) (y0 : Int32), Fr [] [13, 14, 15, 16] σ τ → Pa (f_M_plan_128 N (f_M_plan_50 N n50) (f_M_plan_87 N (f_M_plan_50 N n50) n87) τ x1 x3 y0) (fun v => Fr [] [13, 14, 15, 16] σ v.2) := by
            intro τ x1 x3 y0 hF
            unfold f_M_plan_128
            exact ih87 _ _ _ _ hF
          intro τ x1 x2 x3 hF
          rw [f_M_plan_87]
          dsimp only
          refine pa_bd ?_
          refine pa_lets (fun i8 _ => ?_)
          refine pa_if ?_ ?_
          ·
            exact J135 _ _ _ hF
          ·
            refine pa_if ?_ ?_
            ·
              refine pa_bi (fr_M_canGo _ _ _ _) (fun q34 hq34 => ?_)
              have hq34 := Fr.on hF hq34 (by decide) (by decide)
              refine pa_if ?_ ?_
              ·
                exact J128 _ _ _ _ hq34
              ·
                refine pa_bd ?_
                refine pa_lets (fun i38 _ => ?_)
                refine pa_lets (fun i39 _ => ?_)
                exact J128 _ _ _ _ hq34
            ·
              exact J135 _ _ _ hF
      have L60 : ∀ (n60 : Nat) (τ : vS) (x1 : Int32) (x2 : Int32) (x3 : Int32), Fr [] [13, 14, 15, 16] σ τ → Pa (f_M_plan_60 N (f_M_plan_50 N n50) n60 τ x1 x2 x3) (fun v => Fr [] [13, 14, 15, 16] σ v.2) := by
        intro n60
        induction n60 with
        | zero => intro τ x1 x2 x3 hF; rw [f_M_plan_60]; exact pa_none
        | succ n60 ih60 =>
          have J78 : ∀ (τ : vS) (x1 : Int32) (x3 : Int32) (y0 : Int32), Fr [] [13, 14, 15, 16] σ τ → Pa (f_M_plan_78 N (f_M_plan_50 N n50) (f_M_plan_60 N (f_M_plan_50 N n50) n60) τ x1 x3 y0) (fun v => Fr [] [13, 14, 15, 16] σ v.2) := by
            intro τ x1 x3 y0 hF
            unfold f_M_plan_78
            exact ih60 _ _ _ _ hF
          intro τ x1 x2 x3 hF
          rw [f_M_plan_60]
          dsimp only
          refine pa_if ?_ ?_
          ·
            exact L87 N _ _ _ _ hF
          ·
            refine pa_bi (fr_M_canSet _ _ _ _) (fun q40 hq40 => ?_)
            have hq40 := Fr.on hF hq40 (by decide) (by decide)
            refine pa_if ?_ ?_
            ·
              exact J78 _ _ _ _ hq40
            ·
              exact J78 _ _ _ _ hq40
      intro τ x1 x2 hF
      rw [f_M_plan_50]
      dsimp only
      refine pa_if ?_ ?_
      ·
        exact pa_some hF
      ·
        exact L60 N _ _ _ _ hF
  have L23 : ∀ (n23 : Nat) (τ : vS) (x1 : Int32) (x2 : Int32), Fr [] [13, 14, 15, 16] σ τ → Pa (f_M_plan_23 N n23 τ x1 x2) (fun v => Fr [] [13, 14, 15, 16] σ v.2) := by
    intro n23
    induction n23 with
    | zero => intro τ x1 x2 hF; rw [f_M_plan_23]; exact pa_none
    | succ n23 ih23 =>
      intro τ x1 x2 hF
      rw [f_M_plan_23]
      dsimp only
      refine pa_if ?_ ?_
      ·
        refine pa_bd ?_
        refine pa_lets (fun σ4 eσ4 => ?_)
        have hσ4 : Fr [] [13, 14, 15, 16] σ σ4 := by rw [eσ4]; exact hF.sa _ _ _ (by decide)
        exact L50 N _ _ _ hσ4
      ·
        refine pa_bd ?_
        refine pa_lets (fun σ44 eσ44 => ?_)
        have hσ44 : Fr [] [13, 14, 15, 16] σ σ44 := by rw [eσ44]; exact hF.sa _ _ _ (by decide)
        exact ih23 _ _ _ hσ44
  have L2 : ∀ (n2 : Nat) (τ : vS) (x1 : Int32) (x2 : Int32), Fr [] [13, 14, 15, 16] σ τ → Pa (f_M_plan_2 N n2 τ x1 x2) (fun v => Fr [] [13, 14, 15, 16] σ v.2) := by
    intro n2
    induction n2 with
    | zero => intro τ x1 x2 hF; rw [f_M_plan_2]; exact pa_none
    | succ n2 ih2 =>
      intro τ x1 x2 hF
      rw [f_M_plan_2]
      dsimp only
      refine pa_if ?_ ?_
      ·
        exact L23 N _ _ _ hF
      ·
        refine pa_bd ?_
        refine pa_lets (fun σ46 eσ46 => ?_)
        have hσ46 : Fr [] [13, 14, 15, 16] σ σ46 := by rw [eσ46]; exact hF.sa _ _ _ (by decide)
        exact ih2 _ _ _ hσ46
  unfold f_M_plan
  exact L2 N _ _ _ hF

theorem fr_M_analyse (N : Nat) (σ : vS) : Pa (f_M_analyse N σ) (fun v => Fr [0, 3, 4, 5, 6, 8, 9] [7, 8, 9, 10, 11, 12, 13, 14, 15, 16, 22] σ v.2) := by
  have hF : Fr [0, 3, 4, 5, 6, 8, 9] [7, 8, 9, 10, 11, 12, 13, 14, 15, 16, 22] σ σ := Fr.rf
  have L92 : ∀ (n92 : Nat) (τ : vS) (x1 : Int32) (x2 : Int32), Fr [0, 3, 4, 5, 6, 8, 9] [7, 8, 9, 10, 11, 12, 13, 14, 15, 16, 22] σ τ → Pa (f_M_analyse_92 N n92 τ x1 x2) (fun v => Fr [0, 3, 4, 5, 6, 8, 9] [7, 8, 9, 10, 11, 12, 13, 14, 15, 16, 22] σ v.2) := by
    intro n92
    induction n92 with
    | zero => intro τ x1 x2 hF; rw [f_M_analyse_92]; exact pa_none
    | succ n92 ih92 =>
      intro τ x1 x2 hF
      rw [f_M_analyse_92]
      dsimp only
      refine pa_if ?_ ?_
      ·
        refine pa_lets (fun σ22 eσ22 => ?_)
        have hσ22 : Fr [0, 3, 4, 5, 6, 8, 9] [7, 8, 9, 10, 11, 12, 13, 14, 15, 16, 22] σ σ22 := by rw [eσ22]; exact hF.sf _ _ (by decide)
        exact pa_some hσ22
      ·
        refine pa_bi (fr_M_plan _ _ _) (fun q23 hq23 => ?_)
        have hq23 := Fr.on hF hq23 (by decide) (by decide)
        refine pa_bd ?_
        refine pa_lets (fun i26 _ => ?_)
        exact ih92 _ _ _ hq23
  have L56 : ∀ (n56 : Nat) (τ : vS) (x1 : Int32), Fr [0, 3, 4, 5, 6, 8, 9] [7, 8, 9, 10, 11, 12, 13, 14, 15, 16, 22] σ τ → Pa (f_M_analyse_56 N n56 τ x1) (fun v => Fr [0, 3, 4, 5, 6, 8, 9] [7, 8, 9, 10, 11, 12, 13, 14, 15, 16, 22] σ v.2) := by
    intro n56
    induction n56 with
    | zero => intro τ x1 hF; rw [f_M_analyse_56]; exact pa_none
    | succ n56 ih56 =>
      intro τ x1 hF
      rw [f_M_analyse_56]
      dsimp only
      refine pa_if ?_ ?_
      ·
        refine pa_bi (fr_M_mixes _ _) (fun q18 hq18 => ?_)
        have hq18 := Fr.on hF hq18 (by decide) (by decide)
        refine pa_if ?_ ?_
        ·
          exact L92 N _ _ _ hq18
        ·
          refine pa_bi (fr_M_fail _ _ _) (fun q27 hq27 => ?_)
          have hq27 := Fr.on hq18 hq27 (by decide) (by decide)
          exact pa_some hq27
      ·
        refine pa_bi (fr_M_rankAll _ _ _) (fun q29 hq29 => ?_)
        have hq29 := Fr.on hF hq29 (by decide) (by decide)
        exact ih56 _ _ hq29
  have J31 : ∀ (τ : vS), Fr [0, 3, 4, 5, 6, 8, 9] [7, 8, 9, 10, 11, 12, 13, 14, 15, 16, 22] σ τ → Pa (f_M_analyse_31 N τ) (fun v => Fr [0, 3, 4, 5, 6, 8, 9] [7, 8, 9, 10, 11, 12, 13, 14, 15, 16, 22] σ v.2) := by
    intro τ hF
    unfold f_M_analyse_31
    refine pa_bi (fr_M_fail _ _ _) (fun q8 hq8 => ?_)
    have hq8 := Fr.on hF hq8 (by decide) (by decide)
    exact pa_some hq8
  unfold f_M_analyse
  refine pa_lets (fun σ1 eσ1 => ?_)
  have hσ1 : Fr [0, 3, 4, 5, 6, 8, 9] [7, 8, 9, 10, 11, 12, 13, 14, 15, 16, 22] σ σ1 := by rw [eσ1]; exact hF.sf _ _ (by decide)
  refine pa_bi (fr_M_forget _ _) (fun q2 hq2 => ?_)
  have hq2 := Fr.on hσ1 hq2 (by decide) (by decide)
  refine pa_bi (fr_M_blame _ _ _ _ _) (fun q4 hq4 => ?_)
  have hq4 := Fr.on hq2 hq4 (by decide) (by decide)
  refine pa_bi (fr_M_lacks _ _) (fun q6 hq6 => ?_)
  have hq6 := Fr.on hq4 hq6 (by decide) (by decide)
  refine pa_if ?_ ?_
  ·
    refine pa_if ?_ ?_
    ·
      exact J31 _ hq6
    ·
      refine pa_bi (fr_M_begin _ _) (fun q12 hq12 => ?_)
      have hq12 := Fr.on hq6 hq12 (by decide) (by decide)
      refine pa_bi (fr_M_circles _ _) (fun q14 hq14 => ?_)
      have hq14 := Fr.on hq12 hq14 (by decide) (by decide)
      refine pa_if ?_ ?_
      ·
        exact L56 N _ _ hq14
      ·
        refine pa_bi (fr_M_fail _ _ _) (fun q31 hq31 => ?_)
        have hq31 := Fr.on hq14 hq31 (by decide) (by decide)
        exact pa_some hq31
  ·
    exact J31 _ hq6

theorem fr_M_fault (N : Nat) (σ : vS) (a0 : Int32) : Pa (f_M_fault N σ a0) (fun v => Fr [0] [] σ v.2) := by
  have hF : Fr [0] [] σ σ := Fr.rf
  unfold f_M_fault
  refine pa_lets (fun σ1 eσ1 => ?_)
  have hσ1 : Fr [0] [] σ σ1 := by rw [eσ1]; exact hF.sf _ _ (by decide)
  refine pa_if ?_ ?_
  ·
    exact pa_some hσ1
  ·
    refine pa_if ?_ ?_
    ·
      exact pa_some hσ1
    ·
      refine pa_if ?_ ?_
      ·
        exact pa_some hσ1
      ·
        exact pa_some hσ1

theorem fr_M_visits (N : Nat) (σ : vS) (a0 : Int32) : Pa (f_M_visits N σ a0) (fun v => Fr [0] [] σ v.2) := by
  have hF : Fr [0] [] σ σ := Fr.rf
  have J25 : ∀ (τ : vS) (x1 : Int32) (y0 : Int32), Fr [0] [] σ τ → Pa (f_M_visits_25 N τ x1 y0) (fun v => Fr [0] [] σ v.2) := by
    intro τ x1 y0 hF
    unfold f_M_visits_25
    refine pa_lets (fun σ1 eσ1 => ?_)
    have hσ1 : Fr [0] [] σ σ1 := by rw [eσ1]; exact hF.sf _ _ (by decide)
    refine pa_if ?_ ?_
    ·
      refine pa_bd ?_
      refine pa_lets (fun i4 _ => ?_)
      exact pa_some hσ1
    ·
      exact pa_some hσ1
  unfold f_M_visits
  refine pa_if ?_ ?_
  ·
    exact J25 _ _ _ hF
  ·
    refine pa_bi (fr_M_isSymbol _ _ _) (fun q6 hq6 => ?_)
    have hq6 := Fr.on hF hq6 (by decide) (by decide)
    refine pa_if ?_ ?_
    ·
      exact J25 _ _ _ hq6
    ·
      exact J25 _ _ _ hq6

theorem fr_M_rank (N : Nat) (σ : vS) (a0 : Int32) (a1 : Int32) : Pa (f_M_rank N σ a0 a1) (fun v => Fr [0] [] σ v.2) := by
  have hF : Fr [0] [] σ σ := Fr.rf
  have J39 : ∀ (τ : vS) (x1 : Int32) (x2 : Int32) (y0 : Int32), Fr [0] [] σ τ → Pa (f_M_rank_39 N τ x1 x2 y0) (fun v => Fr [0] [] σ v.2) := by
    intro τ x1 x2 y0 hF
    unfold f_M_rank_39
    refine pa_lets (fun σ1 eσ1 => ?_)
    have hσ1 : Fr [0] [] σ σ1 := by rw [eσ1]; exact hF.sf _ _ (by decide)
    refine pa_if ?_ ?_
    ·
      refine pa_bd ?_
      refine pa_lets (fun i4 _ => ?_)
      exact pa_some hσ1
    ·
      exact pa_some hσ1
  have J38 : ∀ (τ : vS) (x1 : Int32) (x2 : Int32), Fr [0] [] σ τ → Pa (f_M_rank_38 N τ x1 x2) (fun v => Fr [0] [] σ v.2) := by
    intro τ x1 x2 hF
    unfold f_M_rank_38
    exact J39 _ _ _ _ hF
  unfold f_M_rank
  refine pa_if ?_ ?_
  ·
    exact J39 _ _ _ _ hF
  ·
    refine pa_bi (fr_M_isSymbol _ _ _) (fun q6 hq6 => ?_)
    have hq6 := Fr.on hF hq6 (by decide) (by decide)
    refine pa_if ?_ ?_
    ·
      exact J38 _ _ _ hq6
    ·
      refine pa_if ?_ ?_
      ·
        exact J38 _ _ _ hq6
      ·
        refine pa_bd ?_
        refine pa_lets (fun i11 _ => ?_)
        refine pa_if ?_ ?_
        ·
          exact J38 _ _ _ hq6
        ·
          exact J39 _ _ _ _ hq6

theorem fr_M_instruction (N : Nat) (σ : vS) (a0 : Int32) (a1 : Int32) : Pa (f_M_instruction N σ a0 a1) (fun v => Fr [0] [] σ v.2) := by
  have hF : Fr [0] [] σ σ := Fr.rf
  have J33 : ∀ (τ : vS) (x1 : Int32) (x2 : Int32) (y0 : Int32), Fr [0] [] σ τ → Pa (f_M_instruction_33 N τ x1 x2 y0) (fun v => Fr [0] [] σ v.2) := by
    intro τ x1 x2 y0 hF
    unfold f_M_instruction_33
    refine pa_lets (fun σ1 eσ1 => ?_)
    have hσ1 : Fr [0] [] σ σ1 := by rw [eσ1]; exact hF.sf _ _ (by decide)
    refine pa_if ?_ ?_
    ·
      refine pa_bd ?_
      refine pa_lets (fun i4 _ => ?_)
      refine pa_if ?_ ?_
      ·
        exact pa_some hσ1
      ·
        refine pa_bd ?_
        refine pa_lets (fun i7 _ => ?_)
        exact pa_some hσ1
    ·
      exact pa_some hσ1
  have J28 : ∀ (τ : vS) (x1 : Int32) (x2 : Int32), Fr [0] [] σ τ → Pa (f_M_instruction_28 N τ x1 x2) (fun v => Fr [0] [] σ v.2) := by
    intro τ x1 x2 hF
    unfold f_M_instruction_28
    exact J33 _ _ _ _ hF
  unfold f_M_instruction
  refine pa_if ?_ ?_
  ·
    exact J33 _ _ _ _ hF
  ·
    refine pa_if ?_ ?_
    ·
      exact J28 _ _ _ hF
    ·
      refine pa_if ?_ ?_
      ·
        exact J28 _ _ _ hF
      ·
        refine pa_if ?_ ?_
        ·
          exact J33 _ _ _ _ hF
        ·
          exact J28 _ _ _ hF

theorem fr_M_fits (N : Nat) (σ : vS) (a0 : Int32) (a1 : Int32) (a2 : Int32) : Pa (f_M_fits N σ a0 a1 a2) (fun v => Fr [] [] σ v.2) := by
  have hF : Fr [] [] σ σ := Fr.rf
  unfold f_M_fits
  refine pa_bd ?_
  refine pa_lets (fun i2 _ => ?_)
  refine pa_if ?_ ?_
  ·
    refine pa_if ?_ ?_
    ·
      exact pa_some hF
    ·
      refine pa_if ?_ ?_
      ·
        exact pa_some hF
      ·
        refine pa_bd ?_
        refine pa_lets (fun i7 _ => ?_)
        refine pa_if ?_ ?_
        ·
          refine pa_bd ?_
          refine pa_lets (fun i10 _ => ?_)
          refine pa_bd ?_
          refine pa_lets (fun i12 _ => ?_)
          refine pa_bd ?_
          refine pa_lets (fun i14 _ => ?_)
          refine pa_if ?_ ?_
          ·
            exact pa_some hF
          ·
            exact pa_some hF
        ·
          exact pa_some hF
  ·
    refine pa_if ?_ ?_
    ·
      exact pa_some hF
    ·
      exact pa_some hF

theorem fr_M_node (N : Nat) (σ : vS) (a0 : Int32) (a1 : Int32) (a2 : Int32) (a3 : Int32) (a4 : Int32) : Pa (f_M_node N σ a0 a1 a2 a3 a4) (fun v => Fr [0, 7] [17, 18, 19, 20, 22] σ v.2) := by
  have hF : Fr [0, 7] [17, 18, 19, 20, 22] σ σ := Fr.rf
  have L248 : ∀ (n248 : Nat) (τ : vS) (x7 : Int32) (x8 : Int32), Fr [0, 7] [17, 18, 19, 20, 22] σ τ → Pa (f_M_node_248 N n248 τ x7 x8) (fun v => Fr [0, 7] [17, 18, 19, 20, 22] σ v.2) := by
    intro n248
    induction n248 with
    | zero => intro τ x7 x8 hF; rw [f_M_node_248]; exact pa_none
    | succ n248 ih248 =>
      intro τ x7 x8 hF
      rw [f_M_node_248]
      dsimp only
      refine pa_if ?_ ?_
      ·
        refine pa_lets (fun σ17 eσ17 => ?_)
        have hσ17 : Fr [0, 7] [17, 18, 19, 20, 22] σ σ17 := by rw [eσ17]; exact hF.sf _ _ (by decide)
        exact pa_some hσ17
      ·
        refine pa_bd ?_
        refine pa_lets (fun σ19 eσ19 => ?_)
        have hσ19 : Fr [0, 7] [17, 18, 19, 20, 22] σ σ19 := by rw [eσ19]; exact hF.sa _ _ _ (by decide)
        exact ih248 _ _ _ hσ19
  have L198 : ∀ (n198 : Nat) (τ : vS) (x7 : Int32) (x8 : Int32), Fr [0, 7] [17, 18, 19, 20, 22] σ τ → Pa (f_M_node_198 N n198 τ x7 x8) (fun v => Fr [0, 7] [17, 18, 19, 20, 22] σ v.2) := by
    intro n198
    induction n198 with
    | zero => intro τ x7 x8 hF; rw [f_M_node_198]; exact pa_none
    | succ n198 ih198 =>
      have J239 : ∀ (τ : vS) (x7 : Int32) (x8 : Int32), Fr [0, 7] [17, 18, 19, 20, 22] σ τ → Pa (f_M_node_239 N (f_M_node_198 N n198) τ x7 x8) (fun v => Fr [0, 7] [17, 18, 19, 20, 22] σ v.2) := by
        intro τ x7 x8 hF
        unfold f_M_node_239
        exact ih198 _ _ _ hF
      intro τ x7 x8 hF
      rw [f_M_node_198]
      dsimp only
      refine pa_if ?_ ?_
      ·
        exact L248 N _ _ _ hF
      ·
        refine pa_bd ?_
        refine pa_lets (fun i21 _ => ?_)
        refine pa_if ?_ ?_
        ·
          exact J239 _ _ _ hF
        ·
          refine pa_bd ?_
          refine pa_lets (fun i24 _ => ?_)
          refine pa_bd ?_
          refine pa_lets (fun σ26 eσ26 => ?_)
          have hσ26 : Fr [0, 7] [17, 18, 19, 20, 22] σ σ26 := by rw [eσ26]; exact hF.sa _ _ _ (by decide)
          exact J239 _ _ _ hσ26
  have J117 : ∀ (τ : vS) (x1 : Int32) (x2 : Int32) (x3 : Int32) (x4 : Int32) (x5 : Int32) (y0 : Int32), Fr [0, 7] [17, 18, 19, 20, 22] σ τ → Pa (f_M_node_117 N τ x1 x2 x3 x4 x5 y0) (fun v => Fr [0, 7] [17, 18, 19, 20, 22] σ v.2) := by
    intro τ x1 x2 x3 x4 x5 y0 hF
    unfold f_M_node_117
    refine pa_lets (fun σ1 eσ1 => ?_)
    have hσ1 : Fr [0, 7] [17, 18, 19, 20, 22] σ σ1 := by rw [eσ1]; exact hF.sf _ _ (by decide)
    refine pa_if ?_ ?_
    ·
      refine pa_bd ?_
      refine pa_lets (fun σ4 eσ4 => ?_)
      have hσ4 : Fr [0, 7] [17, 18, 19, 20, 22] σ σ4 := by rw [eσ4]; exact hσ1.sa _ _ _ (by decide)
      refine pa_bd ?_
      refine pa_lets (fun σ6 eσ6 => ?_)
      have hσ6 : Fr [0, 7] [17, 18, 19, 20, 22] σ σ6 := by rw [eσ6]; exact hσ4.sa _ _ _ (by decide)
      refine pa_bd ?_
      refine pa_lets (fun σ8 eσ8 => ?_)
      have hσ8 : Fr [0, 7] [17, 18, 19, 20, 22] σ σ8 := by rw [eσ8]; exact hσ6.sa _ _ _ (by decide)
      refine pa_bd ?_
      refine pa_lets (fun σ10 eσ10 => ?_)
      have hσ10 : Fr [0, 7] [17, 18, 19, 20, 22] σ σ10 := by rw [eσ10]; exact hσ8.sa _ _ _ (by decide)
      refine pa_bd ?_
      refine pa_lets (fun σ12 eσ12 => ?_)
      have hσ12 : Fr [0, 7] [17, 18, 19, 20, 22] σ σ12 := by rw [eσ12]; exact hσ10.sa _ _ _ (by decide)
      refine pa_bd ?_
      refine pa_lets (fun σ14 eσ14 => ?_)
      have hσ14 : Fr [0, 7] [17, 18, 19, 20, 22] σ σ14 := by rw [eσ14]; exact hσ12.sa _ _ _ (by decide)
      exact L198 N _ _ _ hσ14
    ·
      exact pa_some hσ1
  have J91 : ∀ (τ : vS) (x1 : Int32) (x2 : Int32) (x3 : Int32) (x4 : Int32) (x5 : Int32) (y0 : Int32), Fr [0, 7] [17, 18, 19, 20, 22] σ τ → Pa (f_M_node_91 N τ x1 x2 x3 x4 x5 y0) (fun v => Fr [0, 7] [17, 18, 19, 20, 22] σ v.2) := by
    intro τ x1 x2 x3 x4 x5 y0 hF
    unfold f_M_node_91
    refine pa_if ?_ ?_
    ·
      exact J117 _ _ _ _ _ _ _ hF
    ·
      refine pa_if ?_ ?_
      ·
        exact J117 _ _ _ _ _ _ _ hF
      ·
        exact J117 _ _ _ _ _ _ _ hF
  have J90 : ∀ (τ : vS) (x1 : Int32) (x2 : Int32) (x3 : Int32) (x4 : Int32) (x5 : Int32), Fr [0, 7] [17, 18, 19, 20, 22] σ τ → Pa (f_M_node_90 N τ x1 x2 x3 x4 x5) (fun v => Fr [0, 7] [17, 18, 19, 20, 22] σ v.2) := by
    intro τ x1 x2 x3 x4 x5 hF
    unfold f_M_node_90
    exact J91 _ _ _ _ _ _ _ hF
  have J86 : ∀ (τ : vS) (x1 : Int32) (x2 : Int32) (x3 : Int32) (x4 : Int32) (x5 : Int32), Fr [0, 7] [17, 18, 19, 20, 22] σ τ → Pa (f_M_node_86 N τ x1 x2 x3 x4 x5) (fun v => Fr [0, 7] [17, 18, 19, 20, 22] σ v.2) := by
    intro τ x1 x2 x3 x4 x5 hF
    unfold f_M_node_86
    exact J91 _ _ _ _ _ _ _ hF
  have J73 : ∀ (τ : vS) (x1 : Int32) (x2 : Int32) (x3 : Int32) (x4 : Int32) (x5 : Int32), Fr [0, 7] [17, 18, 19, 20, 22] σ τ → Pa (f_M_node_73 N τ x1 x2 x3 x4 x5) (fun v => Fr [0, 7] [17, 18, 19, 20, 22] σ v.2) := by
    intro τ x1 x2 x3 x4 x5 hF
    unfold f_M_node_73
    refine pa_if ?_ ?_
    ·
      exact J86 _ _ _ _ _ _ hF
    ·
      refine pa_if ?_ ?_
      ·
        exact J90 _ _ _ _ _ _ hF
      ·
        exact J86 _ _ _ _ _ _ hF
  have J49 : ∀ (τ : vS) (x1 : Int32) (x2 : Int32) (x3 : Int32) (x4 : Int32) (x5 : Int32) (y0 : Int32), Fr [0, 7] [17, 18, 19, 20, 22] σ τ → Pa (f_M_node_49 N τ x1 x2 x3 x4 x5 y0) (fun v => Fr [0, 7] [17, 18, 19, 20, 22] σ v.2) := by
    intro τ x1 x2 x3 x4 x5 y0 hF
    unfold f_M_node_49
    refine pa_if ?_ ?_
    ·
      exact J90 _ _ _ _ _ _ hF
    ·
      refine pa_if ?_ ?_
      ·
        exact J73 _ _ _ _ _ _ hF
      ·
        refine pa_if ?_ ?_
        ·
          exact J90 _ _ _ _ _ _ hF
        ·
          refine pa_if ?_ ?_
          ·
            exact J90 _ _ _ _ _ _ hF
          ·
            exact J73 _ _ _ _ _ _ hF
  have J48 : ∀ (τ : vS) (x1 : Int32) (x2 : Int32) (x3 : Int32) (x4 : Int32) (x5 : Int32), Fr [0, 7] [17, 18, 19, 20, 22] σ τ → Pa (f_M_node_48 N τ x1 x2 x3 x4 x5) (fun v => Fr [0, 7] [17, 18, 19, 20, 22] σ v.2) := by
    intro τ x1 x2 x3 x4 x5 hF
    unfold f_M_node_48
    exact J49 _ _ _ _ _ _ _ hF
  unfold f_M_node
  refine pa_if ?_ ?_
  ·
    exact J48 _ _ _ _ _ _ hF
  ·
    refine pa_if ?_ ?_
    ·
      exact J48 _ _ _ _ _ _ hF
    ·
      refine pa_bi (fr_M_fits _ _ _ _ _) (fun q37 hq37 => ?_)
      have hq37 := Fr.on hF hq37 (by decide) (by decide)
      refine pa_if ?_ ?_
      ·
        exact J48 _ _ _ _ _ _ hq37
      ·
        refine pa_bi (fr_M_fits _ _ _ _ _) (fun q40 hq40 => ?_)
        have hq40 := Fr.on hq37 hq40 (by decide) (by decide)
        refine pa_if ?_ ?_
        ·
          exact J48 _ _ _ _ _ _ hq40
        ·
          refine pa_bi (fr_M_fits _ _ _ _ _) (fun q43 hq43 => ?_)
          have hq43 := Fr.on hq40 hq43 (by decide) (by decide)
          refine pa_if ?_ ?_
          ·
            exact J48 _ _ _ _ _ _ hq43
          ·
            exact J49 _ _ _ _ _ _ _ hq43

theorem fr_M_fell (N : Nat) (σ : vS) : Pa (f_M_fell N σ) (fun v => Fr [0, 7, 8, 9] [22] σ v.2) := by
  have hF : Fr [0, 7, 8, 9] [22] σ σ := Fr.rf
  unfold f_M_fell
  refine pa_lets (fun σ1 eσ1 => ?_)
  have hσ1 : Fr [0, 7, 8, 9] [22] σ σ1 := by rw [eσ1]; exact hF.sf _ _ (by decide)
  refine pa_bi (fr_M_endRun _ _) (fun q2 hq2 => ?_)
  have hq2 := Fr.on hσ1 hq2 (by decide) (by decide)
  refine pa_lets (fun σ4 eσ4 => ?_)
  have hσ4 : Fr [0, 7, 8, 9] [22] σ σ4 := by rw [eσ4]; exact hq2.sf _ _ (by decide)
  exact pa_some hσ4

theorem fr_M_give (N : Nat) (σ : vS) (a0 : Int32) (a1 : Int32) : Pa (f_M_give N σ a0 a1) (fun v => Fr [0] [24] σ v.2) := by
  have hF : Fr [0] [24] σ σ := Fr.rf
  have J15 : ∀ (τ : vS) (x1 : Int32) (x2 : Int32) (y0 : Int32), Fr [0] [24] σ τ → Pa (f_M_give_15 N τ x1 x2 y0) (fun v => Fr [0] [24] σ v.2) := by
    intro τ x1 x2 y0 hF
    unfold f_M_give_15
    refine pa_lets (fun σ1 eσ1 => ?_)
    have hσ1 : Fr [0] [24] σ σ1 := by rw [eσ1]; exact hF.sf _ _ (by decide)
    refine pa_if ?_ ?_
    ·
      refine pa_bd ?_
      refine pa_lets (fun σ4 eσ4 => ?_)
      have hσ4 : Fr [0] [24] σ σ4 := by rw [eσ4]; exact hσ1.sa _ _ _ (by decide)
      exact pa_some hσ4
    ·
      exact pa_some hσ1
  have J10 : ∀ (τ : vS) (x1 : Int32) (x2 : Int32), Fr [0] [24] σ τ → Pa (f_M_give_10 N τ x1 x2) (fun v => Fr [0] [24] σ v.2) := by
    intro τ x1 x2 hF
    unfold f_M_give_10
    exact J15 _ _ _ _ hF
  unfold f_M_give
  refine pa_if ?_ ?_
  ·
    exact J10 _ _ _ hF
  ·
    refine pa_if ?_ ?_
    ·
      exact J15 _ _ _ _ hF
    ·
      exact J10 _ _ _ hF

theorem fr_M_isNode (N : Nat) (σ : vS) (a0 : Int32) : Pa (f_M_isNode N σ a0) (fun v => Fr [] [] σ v.2) := by
  have hF : Fr [] [] σ σ := Fr.rf
  unfold f_M_isNode
  refine pa_if ?_ ?_
  ·
    exact pa_some hF
  ·
    refine pa_if ?_ ?_
    ·
      exact pa_some hF
    ·
      exact pa_some hF

theorem fr_M_start (N : Nat) (σ : vS) (a0 : Int32) : Pa (f_M_start N σ a0) (fun v => Fr [0, 8, 9] [21, 22, 23] σ v.2) := by
  have hF : Fr [0, 8, 9] [21, 22, 23] σ σ := Fr.rf
  have L79 : ∀ (n79 : Nat) (τ : vS) (x1 : Int32) (x2 : Int32) (x3 : Int32), Fr [0, 8, 9] [21, 22, 23] σ τ → Pa (f_M_start_79 N n79 τ x1 x2 x3) (fun v => Fr [0, 8, 9] [21, 22, 23] σ v.2) := by
    intro n79
    induction n79 with
    | zero => intro τ x1 x2 x3 hF; rw [f_M_start_79]; exact pa_none
    | succ n79 ih79 =>
      intro τ x1 x2 x3 hF
      rw [f_M_start_79]
      dsimp only
      refine pa_if ?_ ?_
      ·
        refine pa_lets (fun σ11 eσ11 => ?_)
        have hσ11 : Fr [0, 8, 9] [21, 22, 23] σ σ11 := by rw [eσ11]; exact hF.sf _ _ (by decide)
        refine pa_lets (fun σ12 eσ12 => ?_)
        have hσ12 : Fr [0, 8, 9] [21, 22, 23] σ σ12 := by rw [eσ12]; exact hσ11.sf _ _ (by decide)
        exact pa_some hσ12
      ·
        refine pa_bd ?_
        refine pa_lets (fun i14 _ => ?_)
        refine pa_bd ?_
        refine pa_lets (fun σ16 eσ16 => ?_)
        have hσ16 : Fr [0, 8, 9] [21, 22, 23] σ σ16 := by rw [eσ16]; exact hF.sa _ _ _ (by decide)
        refine pa_bd ?_
        refine pa_lets (fun i18 _ => ?_)
        refine pa_bd ?_
        refine pa_lets (fun σ20 eσ20 => ?_)
        have hσ20 : Fr [0, 8, 9] [21, 22, 23] σ σ20 := by rw [eσ20]; exact hσ16.sa _ _ _ (by decide)
        exact ih79 _ _ _ _ hσ20
  have L42 : ∀ (n42 : Nat) (τ : vS) (x1 : Int32) (x2 : Int32), Fr [0, 8, 9] [21, 22, 23] σ τ → Pa (f_M_start_42 N n42 τ x1 x2) (fun v => Fr [0, 8, 9] [21, 22, 23] σ v.2) := by
    intro n42
    induction n42 with
    | zero => intro τ x1 x2 hF; rw [f_M_start_42]; exact pa_none
    | succ n42 ih42 =>
      intro τ x1 x2 hF
      rw [f_M_start_42]
      dsimp only
      refine pa_if ?_ ?_
      ·
        refine pa_bd ?_
        refine pa_lets (fun i7 _ => ?_)
        refine pa_bd ?_
        refine pa_lets (fun i9 _ => ?_)
        exact L79 N _ _ _ _ hF
      ·
        refine pa_bd ?_
        refine pa_lets (fun σ22 eσ22 => ?_)
        have hσ22 : Fr [0, 8, 9] [21, 22, 23] σ σ22 := by rw [eσ22]; exact hF.sa _ _ _ (by decide)
        exact ih42 _ _ _ hσ22
  have J25 : ∀ (τ : vS) (x1 : Int32) (y0 : Int32), Fr [0, 8, 9] [21, 22, 23] σ τ → Pa (f_M_start_25 N τ x1 y0) (fun v => Fr [0, 8, 9] [21, 22, 23] σ v.2) := by
    intro τ x1 y0 hF
    unfold f_M_start_25
    refine pa_lets (fun σ1 eσ1 => ?_)
    have hσ1 : Fr [0, 8, 9] [21, 22, 23] σ σ1 := by rw [eσ1]; exact hF.sf _ _ (by decide)
    refine pa_if ?_ ?_
    ·
      refine pa_bi (fr_M_endRun _ _) (fun q3 hq3 => ?_)
      have hq3 := Fr.on hσ1 hq3 (by decide) (by decide)
      exact L42 N _ _ _ hq3
    ·
      exact pa_some hσ1
  unfold f_M_start
  refine pa_if ?_ ?_
  ·
    exact J25 _ _ _ hF
  ·
    refine pa_bi (fr_M_isNode _ _ _) (fun q24 hq24 => ?_)
    have hq24 := Fr.on hF hq24 (by decide) (by decide)
    refine pa_if ?_ ?_
    ·
      exact J25 _ _ _ hq24
    ·
      exact J25 _ _ _ hq24

theorem fr_M_cell (N : Nat) (σ : vS) (a0 : Int32) (a1 : Int32) : Pa (f_M_cell N σ a0 a1) (fun v => Fr [] [] σ v.2) := by
  have hF : Fr [] [] σ σ := Fr.rf
  have J24 : ∀ (τ : vS) (x2 : Int32) (y0 : Int32) (y1 : Int32), Fr [] [] σ τ → Pa (f_M_cell_24 N τ x2 y0 y1) (fun v => Fr [] [] σ v.2) := by
    intro τ x2 y0 y1 hF
    unfold f_M_cell_24
    exact pa_some hF
  unfold f_M_cell
  refine pa_if ?_ ?_
  ·
    refine pa_lets (fun i2 _ => ?_)
    refine pa_bd ?_
    refine pa_lets (fun i4 _ => ?_)
    exact J24 _ _ _ _ hF
  ·
    exact J24 _ _ _ _ hF

theorem fr_M_worth (N : Nat) (σ : vS) (a0 : Int32) (a1 : Int32) : Pa (f_M_worth N σ a0 a1) (fun v => Fr [] [] σ v.2) := by
  have hF : Fr [] [] σ σ := Fr.rf
  have J79 : ∀ (τ : vS) (x1 : Int32) (x3 : Int32) (x4 : Int32) (x5 : Int32) (y0 : Int32), Fr [] [] σ τ → Pa (f_M_worth_79 N τ x1 x3 x4 x5 y0) (fun v => Fr [] [] σ v.2) := by
    intro τ x1 x3 x4 x5 y0 hF
    unfold f_M_worth_79
    refine pa_if ?_ ?_
    ·
      refine pa_bd ?_
      refine pa_lets (fun i11 _ => ?_)
      exact pa_some hF
    ·
      refine pa_if ?_ ?_
      ·
        refine pa_bd ?_
        refine pa_lets (fun i14 _ => ?_)
        exact pa_some hF
      ·
        refine pa_if ?_ ?_
        ·
          exact pa_some hF
        ·
          refine pa_if ?_ ?_
          ·
            exact pa_some hF
          ·
            refine pa_if ?_ ?_
            ·
              exact pa_some hF
            ·
              refine pa_if ?_ ?_
              ·
                exact pa_some hF
              ·
                refine pa_if ?_ ?_
                ·
                  refine pa_if ?_ ?_
                  ·
                    exact pa_some hF
                  ·
                    exact pa_some hF
                ·
                  refine pa_bd ?_
                  refine pa_lets (fun i22 _ => ?_)
                  exact pa_some hF
  have J48 : ∀ (τ : vS) (x1 : Int32) (x3 : Int32) (x4 : Int32) (y0 : Int32), Fr [] [] σ τ → Pa (f_M_worth_48 N τ x1 x3 x4 y0) (fun v => Fr [] [] σ v.2) := by
    intro τ x1 x3 x4 y0 hF
    unfold f_M_worth_48
    refine pa_bi0 (fun q7 => ?_)
    refine pa_if ?_ ?_
    ·
      exact J79 _ _ _ _ _ _ hF
    ·
      refine pa_bd ?_
      refine pa_lets (fun i25 _ => ?_)
      refine pa_bi (fr_M_cell _ _ _ _) (fun q26 hq26 => ?_)
      have hq26 := Fr.on hF hq26 (by decide) (by decide)
      refine pa_bd ?_
      refine pa_lets (fun i29 _ => ?_)
      exact J79 _ _ _ _ _ _ hq26
  unfold f_M_worth
  refine pa_bd ?_
  refine pa_lets (fun i2 _ => ?_)
  refine pa_bd ?_
  refine pa_lets (fun i4 _ => ?_)
  refine pa_bi0 (fun q5 => ?_)
  refine pa_if ?_ ?_
  ·
    exact J48 _ _ _ _ _ hF
  ·
    refine pa_bd ?_
    refine pa_lets (fun i32 _ => ?_)
    refine pa_bi (fr_M_cell _ _ _ _) (fun q33 hq33 => ?_)
    have hq33 := Fr.on hF hq33 (by decide) (by decide)
    refine pa_bd ?_
    refine pa_lets (fun i36 _ => ?_)
    exact J48 _ _ _ _ _ hq33

theorem fr_M_step (N : Nat) (σ : vS) : Pa (f_M_step N σ) (fun v => Fr [9] [21, 22, 23] σ v.2) := by
  have hF : Fr [9] [21, 22, 23] σ σ := Fr.rf
  unfold f_M_step
  refine pa_bd ?_
  refine pa_lets (fun i2 _ => ?_)
  refine pa_bd ?_
  refine pa_lets (fun i4 _ => ?_)
  refine pa_bd ?_
  refine pa_lets (fun i6 _ => ?_)
  refine pa_bd ?_
  refine pa_lets (fun i8 _ => ?_)
  refine pa_bd ?_
  refine pa_lets (fun σ10 eσ10 => ?_)
  have hσ10 : Fr [9] [21, 22, 23] σ σ10 := by rw [eσ10]; exact hF.sa _ _ _ (by decide)
  refine pa_if ?_ ?_
  ·
    refine pa_if ?_ ?_
    ·
      refine pa_if ?_ ?_
      ·
        refine pa_bd ?_
        refine pa_lets (fun i15 _ => ?_)
        refine pa_bd ?_
        refine pa_lets (fun i17 _ => ?_)
        refine pa_if ?_ ?_
        ·
          refine pa_lets (fun σ20 eσ20 => ?_)
          have hσ20 : Fr [9] [21, 22, 23] σ σ20 := by rw [eσ20]; exact hσ10.sf _ _ (by decide)
          exact pa_some hσ20
        ·
          refine pa_lets (fun σ19 eσ19 => ?_)
          have hσ19 : Fr [9] [21, 22, 23] σ σ19 := by rw [eσ19]; exact hσ10.sf _ _ (by decide)
          exact pa_some hσ19
      ·
        refine pa_bd ?_
        refine pa_lets (fun i22 _ => ?_)
        refine pa_lets (fun σ23 eσ23 => ?_)
        have hσ23 : Fr [9] [21, 22, 23] σ σ23 := by rw [eσ23]; exact hσ10.sf _ _ (by decide)
        exact pa_some hσ23
    ·
      refine pa_lets (fun i24 _ => ?_)
      refine pa_bd ?_
      refine pa_lets (fun i26 _ => ?_)
      refine pa_lets (fun σ27 eσ27 => ?_)
      have hσ27 : Fr [9] [21, 22, 23] σ σ27 := by rw [eσ27]; exact hσ10.sf _ _ (by decide)
      exact pa_some hσ27
  ·
    refine pa_bi (fr_M_cell _ _ _ _) (fun q28 hq28 => ?_)
    have hq28 := Fr.on hσ10 hq28 (by decide) (by decide)
    refine pa_bi (fr_M_worth _ _ _ _) (fun q30 hq30 => ?_)
    have hq30 := Fr.on hq28 hq30 (by decide) (by decide)
    refine pa_bd ?_
    refine pa_lets (fun σ33 eσ33 => ?_)
    have hσ33 : Fr [9] [21, 22, 23] σ σ33 := by rw [eσ33]; exact hq30.sa _ _ _ (by decide)
    refine pa_bi (fr_M_cell _ _ _ _) (fun q34 hq34 => ?_)
    have hq34 := Fr.on hσ33 hq34 (by decide) (by decide)
    refine pa_bd ?_
    refine pa_lets (fun σ37 eσ37 => ?_)
    have hσ37 : Fr [9] [21, 22, 23] σ σ37 := by rw [eσ37]; exact hq34.sa _ _ _ (by decide)
    exact pa_some hσ37

theorem fr_M_run (N : Nat) (σ : vS) (a0 : Int32) : Pa (f_M_run N σ a0) (fun v => Fr [0, 9] [21, 22, 23] σ v.2) := by
  have hF : Fr [0, 9] [21, 22, 23] σ σ := Fr.rf
  have L43 : ∀ (n43 : Nat) (τ : vS) (x1 : Int32) (x2 : Int32), Fr [0, 9] [21, 22, 23] σ τ → Pa (f_M_run_43 N n43 τ x1 x2) (fun v => Fr [0, 9] [21, 22, 23] σ v.2) := by
    intro n43
    induction n43 with
    | zero => intro τ x1 x2 hF; rw [f_M_run_43]; exact pa_none
    | succ n43 ih43 =>
      intro τ x1 x2 hF
      rw [f_M_run_43]
      dsimp only
      refine pa_if ?_ ?_
      ·
        exact pa_some hF
      ·
        refine pa_if ?_ ?_
        ·
          exact pa_some hF
        ·
          refine pa_bi (fr_M_step _ _) (fun q5 hq5 => ?_)
          have hq5 := Fr.on hF hq5 (by decide) (by decide)
          exact ih43 _ _ _ hq5
  have J29 : ∀ (τ : vS) (x1 : Int32) (y0 : Int32), Fr [0, 9] [21, 22, 23] σ τ → Pa (f_M_run_29 N τ x1 y0) (fun v => Fr [0, 9] [21, 22, 23] σ v.2) := by
    intro τ x1 y0 hF
    unfold f_M_run_29
    refine pa_lets (fun σ1 eσ1 => ?_)
    have hσ1 : Fr [0, 9] [21, 22, 23] σ σ1 := by rw [eσ1]; exact hF.sf _ _ (by decide)
    refine pa_if ?_ ?_
    ·
      exact L43 N _ _ _ hσ1
    ·
      exact pa_some hσ1
  have J12 : ∀ (τ : vS) (x1 : Int32), Fr [0, 9] [21, 22, 23] σ τ → Pa (f_M_run_12 N τ x1) (fun v => Fr [0, 9] [21, 22, 23] σ v.2) := by
    intro τ x1 hF
    unfold f_M_run_12
    exact J29 _ _ _ hF
  unfold f_M_run
  refine pa_if ?_ ?_
  ·
    exact J12 _ _ hF
  ·
    refine pa_if ?_ ?_
    ·
      refine pa_if ?_ ?_
      ·
        exact J29 _ _ _ hF
      ·
        exact J29 _ _ _ hF
    ·
      exact J12 _ _ hF

theorem fr_M_status (N : Nat) (σ : vS) : Pa (f_M_status N σ) (fun v => Fr [0] [] σ v.2) := by
  have hF : Fr [0] [] σ σ := Fr.rf
  unfold f_M_status
  refine pa_lets (fun σ1 eσ1 => ?_)
  have hσ1 : Fr [0] [] σ σ1 := by rw [eσ1]; exact hF.sf _ _ (by decide)
  refine pa_if ?_ ?_
  ·
    exact pa_some hσ1
  ·
    refine pa_if ?_ ?_
    ·
      exact pa_some hσ1
    ·
      exact pa_some hσ1

theorem fr_M_atHand (N : Nat) (σ : vS) : Pa (f_M_atHand N σ) (fun v => Fr [0] [] σ v.2) := by
  have hF : Fr [0] [] σ σ := Fr.rf
  unfold f_M_atHand
  refine pa_lets (fun σ1 eσ1 => ?_)
  have hσ1 : Fr [0] [] σ σ1 := by rw [eσ1]; exact hF.sf _ _ (by decide)
  exact pa_some hσ1

theorem fr_M_isAttribute (N : Nat) (σ : vS) (a0 : Int32) (a1 : Int32) : Pa (f_M_isAttribute N σ a0 a1) (fun v => Fr [] [] σ v.2) := by
  have hF : Fr [] [] σ σ := Fr.rf
  unfold f_M_isAttribute
  refine pa_bi (fr_M_isNode _ _ _) (fun q1 hq1 => ?_)
  have hq1 := Fr.on hF hq1 (by decide) (by decide)
  refine pa_if ?_ ?_
  ·
    exact pa_some hq1
  ·
    refine pa_if ?_ ?_
    ·
      exact pa_some hq1
    ·
      refine pa_bd ?_
      refine pa_lets (fun i6 _ => ?_)
      refine pa_bd ?_
      refine pa_lets (fun i8 _ => ?_)
      refine pa_bd ?_
      refine pa_lets (fun i10 _ => ?_)
      refine pa_if ?_ ?_
      ·
        exact pa_some hq1
      ·
        exact pa_some hq1

theorem fr_M_knows (N : Nat) (σ : vS) (a0 : Int32) (a1 : Int32) : Pa (f_M_knows N σ a0 a1) (fun v => Fr [0] [] σ v.2) := by
  have hF : Fr [0] [] σ σ := Fr.rf
  have J15 : ∀ (τ : vS) (x1 : Int32) (x2 : Int32) (y0 : Int32), Fr [0] [] σ τ → Pa (f_M_knows_15 N τ x1 x2 y0) (fun v => Fr [0] [] σ v.2) := by
    intro τ x1 x2 y0 hF
    unfold f_M_knows_15
    refine pa_lets (fun σ3 eσ3 => ?_)
    have hσ3 : Fr [0] [] σ σ3 := by rw [eσ3]; exact hF.sf _ _ (by decide)
    refine pa_if ?_ ?_
    ·
      refine pa_bd ?_
      refine pa_lets (fun i6 _ => ?_)
      refine pa_if ?_ ?_
      ·
        exact pa_some hσ3
      ·
        exact pa_some hσ3
    ·
      exact pa_some hσ3
  unfold f_M_knows
  refine pa_bi (fr_M_isAttribute _ _ _ _) (fun q1 hq1 => ?_)
  have hq1 := Fr.on hF hq1 (by decide) (by decide)
  refine pa_if ?_ ?_
  ·
    exact J15 _ _ _ _ hq1
  ·
    exact J15 _ _ _ _ hq1

theorem fr_M_value (N : Nat) (σ : vS) (a0 : Int32) (a1 : Int32) : Pa (f_M_value N σ a0 a1) (fun v => Fr [0] [] σ v.2) := by
  have hF : Fr [0] [] σ σ := Fr.rf
  have J32 : ∀ (τ : vS) (x1 : Int32) (x2 : Int32) (y0 : Int32), Fr [0] [] σ τ → Pa (f_M_value_32 N τ x1 x2 y0) (fun v => Fr [0] [] σ v.2) := by
    intro τ x1 x2 y0 hF
    unfold f_M_value_32
    refine pa_lets (fun σ3 eσ3 => ?_)
    have hσ3 : Fr [0] [] σ σ3 := by rw [eσ3]; exact hF.sf _ _ (by decide)
    refine pa_if ?_ ?_
    ·
      refine pa_bd ?_
      refine pa_lets (fun i6 _ => ?_)
      exact pa_some hσ3
    ·
      exact pa_some hσ3
  unfold f_M_value
  refine pa_bi (fr_M_isAttribute _ _ _ _) (fun q1 hq1 => ?_)
  have hq1 := Fr.on hF hq1 (by decide) (by decide)
  refine pa_if ?_ ?_
  ·
    exact J32 _ _ _ _ hq1
  ·
    refine pa_bd ?_
    refine pa_lets (fun i9 _ => ?_)
    refine pa_if ?_ ?_
    ·
      exact J32 _ _ _ _ hq1
    ·
      exact J32 _ _ _ _ hq1

theorem fr_V_dropAnalysis (N : Nat) (σ : vS) : Pa (f_V_dropAnalysis N σ) (fun v => Fr [2, 9] [] σ v.2) := by
  have hF : Fr [2, 9] [] σ σ := Fr.rf
  unfold f_V_dropAnalysis
  refine pa_lets (fun σ1 eσ1 => ?_)
  have hσ1 : Fr [2, 9] [] σ σ1 := by rw [eσ1]; exact hF.sf _ _ (by decide)
  refine pa_bi (fr_U_end _ _) (fun q2 hq2 => ?_)
  have hq2 := Fr.on hσ1 hq2 (by decide) (by decide)
  exact pa_some hq2

theorem fr_V_requireAnalysis (N : Nat) (σ : vS) : Pa (f_V_requireAnalysis N σ) (fun v => Fr [] [] σ v.2) := by
  have hF : Fr [] [] σ σ := Fr.rf
  unfold f_V_requireAnalysis
  refine pa_if ?_ ?_
  ·
    exact pa_some hF
  ·
    exact pa_some hF

theorem fr_V_requireAttribute (N : Nat) (σ : vS) (a0 : Int32) (a1 : Int32) : Pa (f_V_requireAttribute N σ a0 a1) (fun v => Fr [] [] σ v.2) := by
  have hF : Fr [] [] σ σ := Fr.rf
  have J30 : ∀ (τ : vS), Fr [] [] σ τ → Pa (f_V_requireAttribute_30 N τ) (fun v => Fr [] [] σ v.2) := by
    intro τ hF
    unfold f_V_requireAttribute_30
    exact pa_some hF
  unfold f_V_requireAttribute
  refine pa_bi (fr_Z_hasNode _ _ _) (fun q1 hq1 => ?_)
  have hq1 := Fr.on hF hq1 (by decide) (by decide)
  refine pa_if ?_ ?_
  ·
    exact J30 _ hq1
  ·
    refine pa_bi (fr_Z_symbolOf _ _ _) (fun q4 hq4 => ?_)
    have hq4 := Fr.on hq1 hq4 (by decide) (by decide)
    refine pa_bi (fr_G_hasAttribute _ _ _ _) (fun q6 hq6 => ?_)
    have hq6 := Fr.on hq4 hq6 (by decide) (by decide)
    refine pa_if ?_ ?_
    ·
      exact J30 _ hq6
    ·
      exact pa_some hq6

theorem fr_V_symbol (N : Nat) (σ : vS) (a0 : Int32) (a1 : Int32) : Pa (f_V_symbol N σ a0 a1) (fun v => Fr [0, 2, 9] [0, 1] σ v.2) := by
  have hF : Fr [0, 2, 9] [0, 1] σ σ := Fr.rf
  have J9 : ∀ (τ : vS), Fr [0, 2, 9] [0, 1] σ τ → Pa (f_V_symbol_9 N τ) (fun v => Fr [0, 2, 9] [0, 1] σ v.2) := by
    intro τ hF
    unfold f_V_symbol_9
    exact pa_some hF
  unfold f_V_symbol
  refine pa_if ?_ ?_
  ·
    exact J9 _ hF
  ·
    refine pa_if ?_ ?_
    ·
      refine pa_if ?_ ?_
      ·
        exact pa_some hF
      ·
        refine pa_bi (fr_V_dropAnalysis _ _) (fun q4 hq4 => ?_)
        have hq4 := Fr.on hF hq4 (by decide) (by decide)
        refine pa_bi (fr_G_addSymbol _ _ _ _) (fun q6 hq6 => ?_)
        have hq6 := Fr.on hq4 hq6 (by decide) (by decide)
        exact pa_some hq6
    ·
      exact J9 _ hF

theorem fr_V_production (N : Nat) (σ : vS) (a0 : Int32) (a1 : Int32) (a2 : Int32) (a3 : Int32) : Pa (f_V_production N σ a0 a1 a2 a3) (fun v => Fr [1, 2, 9] [2, 3, 4, 5] σ v.2) := by
  have hF : Fr [1, 2, 9] [2, 3, 4, 5] σ σ := Fr.rf
  have J25 : ∀ (τ : vS), Fr [1, 2, 9] [2, 3, 4, 5] σ τ → Pa (f_V_production_25 N τ) (fun v => Fr [1, 2, 9] [2, 3, 4, 5] σ v.2) := by
    intro τ hF
    unfold f_V_production_25
    exact pa_some hF
  unfold f_V_production
  refine pa_bi (fr_G_hasSymbol _ _ _) (fun q1 hq1 => ?_)
  have hq1 := Fr.on hF hq1 (by decide) (by decide)
  refine pa_if ?_ ?_
  ·
    exact J25 _ hq1
  ·
    refine pa_bi (fr_G_isRight _ _ _ _ _) (fun q4 hq4 => ?_)
    have hq4 := Fr.on hq1 hq4 (by decide) (by decide)
    refine pa_if ?_ ?_
    ·
      exact J25 _ hq4
    ·
      refine pa_if ?_ ?_
      ·
        exact pa_some hq4
      ·
        refine pa_bi (fr_V_dropAnalysis _ _) (fun q8 hq8 => ?_)
        have hq8 := Fr.on hq4 hq8 (by decide) (by decide)
        refine pa_bi (fr_G_addProduction _ _ _ _ _ _) (fun q10 hq10 => ?_)
        have hq10 := Fr.on hq8 hq10 (by decide) (by decide)
        exact pa_some hq10

theorem fr_V_rule (N : Nat) (σ : vS) (a0 : Int32) (a1 : Int32) (a2 : Int32) (a3 : Int32) (a4 : Int32) : Pa (f_V_rule N σ a0 a1 a2 a3 a4) (fun v => Fr [2, 9] [6, 7, 8, 9, 10] σ v.2) := by
  have hF : Fr [2, 9] [6, 7, 8, 9, 10] σ σ := Fr.rf
  unfold f_V_rule
  refine pa_bi (fr_G_hasProduction _ _ _) (fun q1 hq1 => ?_)
  have hq1 := Fr.on hF hq1 (by decide) (by decide)
  refine pa_if ?_ ?_
  ·
    exact pa_some hq1
  ·
    refine pa_bi (fr_G_isToBeDefined _ _ _ _) (fun q4 hq4 => ?_)
    have hq4 := Fr.on hq1 hq4 (by decide) (by decide)
    refine pa_if ?_ ?_
    ·
      exact pa_some hq4
    ·
      refine pa_bi (fr_G_isForm _ _ _ _ _ _) (fun q7 hq7 => ?_)
      have hq7 := Fr.on hq4 hq7 (by decide) (by decide)
      refine pa_if ?_ ?_
      ·
        exact pa_some hq7
      ·
        refine pa_bi (fr_V_dropAnalysis _ _) (fun q10 hq10 => ?_)
        have hq10 := Fr.on hq7 hq10 (by decide) (by decide)
        refine pa_bi (fr_G_setRule _ _ _ _ _ _ _) (fun q12 hq12 => ?_)
        have hq12 := Fr.on hq10 hq12 (by decide) (by decide)
        exact pa_some hq12

theorem fr_V_analyse (N : Nat) (σ : vS) : Pa (f_V_analyse N σ) (fun v => Fr [2, 3, 4, 5, 6, 7, 9] [11, 12, 13, 14, 15, 16, 17, 18] σ v.2) := by
  have hF : Fr [2, 3, 4, 5, 6, 7, 9] [11, 12, 13, 14, 15, 16, 17, 18] σ σ := Fr.rf
  have J36 : ∀ (τ : vS), Fr [2, 3, 4, 5, 6, 7, 9] [11, 12, 13, 14, 15, 16, 17, 18] σ τ → Pa (f_V_analyse_36 N τ) (fun v => Fr [2, 3, 4, 5, 6, 7, 9] [11, 12, 13, 14, 15, 16, 17, 18] σ v.2) := by
    intro τ hF
    unfold f_V_analyse_36
    exact pa_some hF
  unfold f_V_analyse
  refine pa_bi (fr_U_end _ _) (fun q1 hq1 => ?_)
  have hq1 := Fr.on hF hq1 (by decide) (by decide)
  refine pa_bi (fr_A_make _ _) (fun q3 hq3 => ?_)
  have hq3 := Fr.on hq1 hq3 (by decide) (by decide)
  refine pa_if ?_ ?_
  ·
    exact J36 _ hq3
  ·
    refine pa_if ?_ ?_
    ·
      exact J36 _ hq3
    ·
      refine pa_if ?_ ?_
      ·
        exact pa_some hq3
      ·
        refine pa_bi (fr_Q_lengthOfAll _ _) (fun q8 hq8 => ?_)
        have hq8 := Fr.on hq3 hq8 (by decide) (by decide)
        exact pa_some hq8

theorem fr_V_fault (N : Nat) (σ : vS) (a0 : Int32) : Pa (f_V_fault N σ a0) (fun v => Fr [] [] σ v.2) := by
  have hF : Fr [] [] σ σ := Fr.rf
  unfold f_V_fault
  refine pa_if ?_ ?_
  ·
    exact pa_some hF
  ·
    refine pa_if ?_ ?_
    ·
      exact pa_some hF
    ·
      refine pa_if ?_ ?_
      ·
        exact pa_some hF
      ·
        exact pa_some hF

theorem fr_V_visits (N : Nat) (σ : vS) (a0 : Int32) : Pa (f_V_visits N σ a0) (fun v => Fr [] [] σ v.2) := by
  have hF : Fr [] [] σ σ := Fr.rf
  unfold f_V_visits
  refine pa_bi (fr_V_requireAnalysis _ _) (fun q1 hq1 => ?_)
  have hq1 := Fr.on hF hq1 (by decide) (by decide)
  refine pa_if ?_ ?_
  ·
    refine pa_bi (fr_G_hasSymbol _ _ _) (fun q4 hq4 => ?_)
    have hq4 := Fr.on hq1 hq4 (by decide) (by decide)
    refine pa_if ?_ ?_
    ·
      exact pa_some hq4
    ·
      refine pa_bd ?_
      refine pa_lets (fun i8 _ => ?_)
      exact pa_some hq4
  ·
    exact pa_some hq1

theorem fr_V_rank (N : Nat) (σ : vS) (a0 : Int32) (a1 : Int32) : Pa (f_V_rank N σ a0 a1) (fun v => Fr [] [] σ v.2) := by
  have hF : Fr [] [] σ σ := Fr.rf
  have J27 : ∀ (τ : vS), Fr [] [] σ τ → Pa (f_V_rank_27 N τ) (fun v => Fr [] [] σ v.2) := by
    intro τ hF
    unfold f_V_rank_27
    exact pa_some hF
  unfold f_V_rank
  refine pa_bi (fr_V_requireAnalysis _ _) (fun q1 hq1 => ?_)
  have hq1 := Fr.on hF hq1 (by decide) (by decide)
  refine pa_if ?_ ?_
  ·
    refine pa_bi (fr_G_hasSymbol _ _ _) (fun q4 hq4 => ?_)
    have hq4 := Fr.on hq1 hq4 (by decide) (by decide)
    refine pa_if ?_ ?_
    ·
      exact J27 _ hq4
    ·
      refine pa_bi (fr_G_hasAttribute _ _ _ _) (fun q7 hq7 => ?_)
      have hq7 := Fr.on hq4 hq7 (by decide) (by decide)
      refine pa_if ?_ ?_
      ·
        exact J27 _ hq7
      ·
        refine pa_bd ?_
        refine pa_lets (fun i11 _ => ?_)
        exact pa_some hq7
  ·
    exact pa_some hq1

theorem fr_V_instruction (N : Nat) (σ : vS) (a0 : Int32) (a1 : Int32) : Pa (f_V_instruction N σ a0 a1) (fun v => Fr [] [] σ v.2) := by
  have hF : Fr [] [] σ σ := Fr.rf
  have J19 : ∀ (τ : vS), Fr [] [] σ τ → Pa (f_V_instruction_19 N τ) (fun v => Fr [] [] σ v.2) := by
    intro τ hF
    unfold f_V_instruction_19
    exact pa_some hF
  unfold f_V_instruction
  refine pa_bi (fr_V_requireAnalysis _ _) (fun q1 hq1 => ?_)
  have hq1 := Fr.on hF hq1 (by decide) (by decide)
  refine pa_if ?_ ?_
  ·
    refine pa_bi (fr_G_hasProduction _ _ _) (fun q4 hq4 => ?_)
    have hq4 := Fr.on hq1 hq4 (by decide) (by decide)
    refine pa_if ?_ ?_
    ·
      exact J19 _ hq4
    ·
      refine pa_if ?_ ?_
      ·
        refine pa_bi (fr_Q_at _ _ _ _) (fun q8 hq8 => ?_)
        have hq8 := Fr.on hq4 hq8 (by decide) (by decide)
        exact pa_some hq8
      ·
        exact J19 _ hq4
  ·
    exact pa_some hq1

theorem fr_V_node (N : Nat) (σ : vS) (a0 : Int32) (a1 : Int32) (a2 : Int32) (a3 : Int32) (a4 : Int32) : Pa (f_V_node N σ a0 a1 a2 a3 a4) (fun v => Fr [8] [19, 20, 21, 22] σ v.2) := by
  have hF : Fr [8] [19, 20, 21, 22] σ σ := Fr.rf
  have J27 : ∀ (τ : vS), Fr [8] [19, 20, 21, 22] σ τ → Pa (f_V_node_27 N τ) (fun v => Fr [8] [19, 20, 21, 22] σ v.2) := by
    intro τ hF
    unfold f_V_node_27
    exact pa_some hF
  unfold f_V_node
  refine pa_bi (fr_G_hasProduction _ _ _) (fun q1 hq1 => ?_)
  have hq1 := Fr.on hF hq1 (by decide) (by decide)
  refine pa_if ?_ ?_
  ·
    exact J27 _ hq1
  ·
    refine pa_bi (fr_Z_canBeChildren _ _ _ _ _ _) (fun q4 hq4 => ?_)
    have hq4 := Fr.on hq1 hq4 (by decide) (by decide)
    refine pa_if ?_ ?_
    ·
      exact J27 _ hq4
    ·
      refine pa_if ?_ ?_
      ·
        exact pa_some hq4
      ·
        refine pa_bi (fr_Z_grow _ _ _ _ _ _ _) (fun q8 hq8 => ?_)
        have hq8 := Fr.on hq4 hq8 (by decide) (by decide)
        exact pa_some hq8

theorem fr_V_fell (N : Nat) (σ : vS) : Pa (f_V_fell N σ) (fun v => Fr [8, 9] [] σ v.2) := by
  have hF : Fr [8, 9] [] σ σ := Fr.rf
  unfold f_V_fell
  refine pa_bi (fr_U_end _ _) (fun q1 hq1 => ?_)
  have hq1 := Fr.on hF hq1 (by decide) (by decide)
  refine pa_bi (fr_Z_clear _ _) (fun q3 hq3 => ?_)
  have hq3 := Fr.on hq1 hq3 (by decide) (by decide)
  exact pa_some hq3

theorem fr_V_give (N : Nat) (σ : vS) (a0 : Int32) (a1 : Int32) : Pa (f_V_give N σ a0 a1) (fun v => Fr [] [23] σ v.2) := by
  have hF : Fr [] [23] σ σ := Fr.rf
  have J9 : ∀ (τ : vS), Fr [] [23] σ τ → Pa (f_V_give_9 N τ) (fun v => Fr [] [23] σ v.2) := by
    intro τ hF
    unfold f_V_give_9
    exact pa_some hF
  unfold f_V_give
  refine pa_if ?_ ?_
  ·
    exact J9 _ hF
  ·
    refine pa_if ?_ ?_
    ·
      refine pa_bd ?_
      refine pa_lets (fun σ4 eσ4 => ?_)
      have hσ4 : Fr [] [23] σ σ4 := by rw [eσ4]; exact hF.sa _ _ _ (by decide)
      exact pa_some hσ4
    ·
      exact J9 _ hF

theorem fr_V_start (N : Nat) (σ : vS) (a0 : Int32) : Pa (f_V_start N σ a0) (fun v => Fr [9, 10, 11] [24, 25, 26] σ v.2) := by
  have hF : Fr [9, 10, 11] [24, 25, 26] σ σ := Fr.rf
  unfold f_V_start
  refine pa_bi (fr_V_requireAnalysis _ _) (fun q1 hq1 => ?_)
  have hq1 := Fr.on hF hq1 (by decide) (by decide)
  refine pa_if ?_ ?_
  ·
    refine pa_bi (fr_Z_hasNode _ _ _) (fun q4 hq4 => ?_)
    have hq4 := Fr.on hq1 hq4 (by decide) (by decide)
    refine pa_if ?_ ?_
    ·
      exact pa_some hq4
    ·
      refine pa_bi (fr_U_begin _ _ _) (fun q7 hq7 => ?_)
      have hq7 := Fr.on hq4 hq7 (by decide) (by decide)
      exact pa_some hq7
  ·
    exact pa_some hq1

theorem fr_V_run (N : Nat) (σ : vS) (a0 : Int32) : Pa (f_V_run N σ a0) (fun v => Fr [9, 11] [24, 25, 26] σ v.2) := by
  have hF : Fr [9, 11] [24, 25, 26] σ σ := Fr.rf
  have J11 : ∀ (τ : vS), Fr [9, 11] [24, 25, 26] σ τ → Pa (f_V_run_11 N τ) (fun v => Fr [9, 11] [24, 25, 26] σ v.2) := by
    intro τ hF
    unfold f_V_run_11
    exact pa_some hF
  unfold f_V_run
  refine pa_if ?_ ?_
  ·
    exact J11 _ hF
  ·
    refine pa_if ?_ ?_
    ·
      refine pa_if ?_ ?_
      ·
        exact pa_some hF
      ·
        refine pa_bi (fr_U_advance _ _ _) (fun q4 hq4 => ?_)
        have hq4 := Fr.on hF hq4 (by decide) (by decide)
        exact pa_some hq4
    ·
      exact J11 _ hF

theorem fr_V_status (N : Nat) (σ : vS) : Pa (f_V_status N σ) (fun v => Fr [] [] σ v.2) := by
  have hF : Fr [] [] σ σ := Fr.rf
  unfold f_V_status
  exact pa_some hF

theorem fr_V_atHand (N : Nat) (σ : vS) : Pa (f_V_atHand N σ) (fun v => Fr [] [] σ v.2) := by
  have hF : Fr [] [] σ σ := Fr.rf
  unfold f_V_atHand
  refine pa_if ?_ ?_
  ·
    exact pa_some hF
  ·
    exact pa_some hF

theorem fr_V_knows (N : Nat) (σ : vS) (a0 : Int32) (a1 : Int32) : Pa (f_V_knows N σ a0 a1) (fun v => Fr [] [] σ v.2) := by
  have hF : Fr [] [] σ σ := Fr.rf
  unfold f_V_knows
  refine pa_bi (fr_V_requireAttribute _ _ _ _) (fun q1 hq1 => ?_)
  have hq1 := Fr.on hF hq1 (by decide) (by decide)
  refine pa_if ?_ ?_
  ·
    refine pa_bi (fr_U_isKnown _ _ _ _) (fun q4 hq4 => ?_)
    have hq4 := Fr.on hq1 hq4 (by decide) (by decide)
    exact pa_some hq4
  ·
    exact pa_some hq1

theorem fr_V_value (N : Nat) (σ : vS) (a0 : Int32) (a1 : Int32) : Pa (f_V_value N σ a0 a1) (fun v => Fr [] [] σ v.2) := by
  have hF : Fr [] [] σ σ := Fr.rf
  unfold f_V_value
  refine pa_bi (fr_V_requireAttribute _ _ _ _) (fun q1 hq1 => ?_)
  have hq1 := Fr.on hF hq1 (by decide) (by decide)
  refine pa_if ?_ ?_
  ·
    refine pa_bi (fr_U_isKnown _ _ _ _) (fun q4 hq4 => ?_)
    have hq4 := Fr.on hq1 hq4 (by decide) (by decide)
    refine pa_if ?_ ?_
    ·
      exact pa_some hq4
    ·
      refine pa_bd ?_
      refine pa_lets (fun i8 _ => ?_)
      exact pa_some hq4
  ·
    exact pa_some hq1

