/-! rule, the class's side: its decision. -/
theorem x_isForm {N : Nat} {g : vA} {σ : vS} (hg : XG g σ) (hw : wfA g) {p : Nat} (hp : p < gnp g) (f x y : Int32) : f_G_isForm N σ (nI p) f x y = some (b01 (fB f && ((decide (nds f.toNatClampNeg < 1) || oB g p x) && (decide (nds f.toNatClampNeg < 2) || oB g p y))), σ) := by
  unfold f_G_isForm
  by_cases h0 : f < 0
  · rw [if_pos h0]
    unfold fB
    rw [decide_eq_false (fun h9 => h9 h0)]; rfl
  · by_cases h7 : (7 : Int32) < f
    · have h8 : (8 : Int32) ≤ f := by
        rw [Int32.lt_iff_toInt_lt, show (7 : Int32).toInt = 7 from by decide] at h7
        rw [Int32.le_iff_toInt_le, show (8 : Int32).toInt = 8 from by decide]
        omega
      rw [if_neg h0, if_pos h7]
      unfold fB
      rw [decide_eq_false (show ¬ ¬ (8 : Int32) ≤ f from fun h9 => h9 h8), Bool.and_false]; rfl
    · have h8 : ¬ (8 : Int32) ≤ f := fun h8 => h7 (by
        rw [Int32.le_iff_toInt_le, show (8 : Int32).toInt = 8 from by decide] at h8
        rw [Int32.lt_iff_toInt_lt, show (7 : Int32).toInt = 7 from by decide]
        omega)
      have e : fB f = true := by
        unfold fB
        rw [decide_eq_true h0, decide_eq_true h8]; rfl
      obtain ⟨n, hn, en⟩ := Nn.lt (x := f) (n := 7) (k := 8) h0 (by decide) (by decide) h8
      rw [if_neg h0, if_neg h7, e, Bool.true_and, en, nds_x1 n (by omega), Option.bind_some, nI_clamp (by omega)]
      have f26 : f_G_isForm_26 N σ (nI p) (nI n) y = some (b01 (decide (nds n < 2) || oB g p y), σ) := by
        unfold f_G_isForm_26 f_G_isForm_43
        rw [nds_x2 n (by omega), Option.bind_some]
        by_cases h2 : nds n < 2
        · rw [decide_eq_false (show ¬ 2 ≤ nds n by omega), if_pos (show b01 false = 0 from rfl), decide_eq_true h2]; rfl
        · rw [decide_eq_true (show 2 ≤ nds n by omega), if_neg (by decide), x_oB hg hw hp, Option.bind_some, decide_eq_false h2, Bool.false_or]
          cases oB g p y <;> rfl
      by_cases h1 : nds n < 1
      · rw [decide_eq_false (show ¬ 1 ≤ nds n by omega), if_pos (show b01 false = 0 from rfl), f26, decide_eq_true h1, Bool.true_or, Bool.true_and]
      · rw [decide_eq_true (show 1 ≤ nds n by omega), if_neg (by decide), x_oB hg hw hp, Option.bind_some, decide_eq_false h1, Bool.false_or]
        dsimp only
        cases oB g p x
        · rfl
        · rw [if_neg (by decide), f26, Bool.true_and]
