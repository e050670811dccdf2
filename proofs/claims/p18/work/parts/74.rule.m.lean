/-! rule, the reference's side: its decision. -/
def fB (f : Int32) : Bool := decide (¬ f < 0) && decide (¬ (8 : Int32) ≤ f)
def rB (g : vA) (p : Nat) (o f x y : Int32) : Bool := dB g p o && (fB f && ((decide (nds f.toNatClampNeg < 1) || oB g p x) && (decide (nds f.toNatClampNeg < 2) || oB g p y)))
theorem nds_le (f : Nat) : nds f ≤ 2 := by
  unfold nds
  by_cases h : f < 2
  · rw [if_pos h]; omega
  · rw [if_neg h]
    by_cases h2 : f = 2 ∨ f = 7
    · rw [if_pos h2]; omega
    · rw [if_neg h2]; omega
theorem m_rule_eq {N : Nat} {g : vA} {σ : vS} (hg : MG g σ) (hw : wfA g) {p : Nat} (hp : p < gnp g) (o f x y : Int32) : f_M_rule_18 N σ (nI p) o f x y 0 = f_M_rule_102 N (sf σ 0 0) (nI p) o f x y (if rB g p o f x y = true then 0 else 2) := by
  obtain ⟨σ1, e1⟩ : ∃ σ1, σ1 = sf σ 0 0 := ⟨_, rfl⟩
  have hg1 : MG g σ1 := hg.stay (by rw [e1, sf_1n (by decide)]) (by rw [e1, sf_1n (by decide)]) (fun a _ => by rw [e1, sf_2])
  have bad : f_M_rule_88 N σ1 (nI p) o f x y = f_M_rule_102 N σ1 (nI p) o f x y 2 := by
    unfold f_M_rule_88 f_M_rule_89
    rw [if_pos rfl]
  have good : f_M_rule_84 N σ1 (nI p) o f x y = f_M_rule_102 N σ1 (nI p) o f x y 0 := by
    unfold f_M_rule_84 f_M_rule_89
    rw [if_neg (by decide)]
  unfold f_M_rule_18 vlet
  dsimp only
  rw [sf_1, if_pos (by decide), ← e1, m_dB hg1 hw hp, Option.bind_some]
  dsimp only
  unfold rB
  cases dB g p o
  · rw [if_pos (show b01 false = 0 from rfl), bad]; rfl
  · rw [if_neg (by decide), Bool.true_and]
    by_cases h0 : f < 0
    · rw [if_pos h0, bad]
      unfold fB
      rw [decide_eq_false (fun h9 => h9 h0)]; rfl
    · by_cases h8 : (8 : Int32) ≤ f
      · rw [if_neg h0, if_pos h8, bad]
        unfold fB
        rw [decide_eq_false (show ¬ ¬ (8 : Int32) ≤ f from fun h9 => h9 h8), Bool.and_false]; rfl
      · have e : fB f = true := by
          unfold fB
          rw [decide_eq_true h0, decide_eq_true h8]; rfl
        obtain ⟨n, hn, en⟩ := Nn.lt (x := f) (n := 7) (k := 8) h0 (by decide) (by decide) h8
        have hl := nds_le n
        rw [if_neg h0, if_neg h8, e, Bool.true_and, en, nds_m n (by omega), Option.bind_some, nI_clamp (by omega)]
        rw [en] at bad good
        have f66 : f_M_rule_66 N σ1 (nI p) o (nI n) x y = f_M_rule_102 N σ1 (nI p) o (nI n) x y (if (decide (nds n < 2) || oB g p y) = true then 0 else 2) := by
          unfold f_M_rule_66
          rw [nds_m n (by omega), Option.bind_some]
          by_cases h2 : nds n < 2
          · rw [if_pos (show nI (nds n) < (2 : Int32) from nI_lt (a := nds n) (b := 2) h2 (by decide)), good, decide_eq_true h2]; rfl
          · rw [if_neg (show ¬ nI (nds n) < (2 : Int32) from nI_nlt (a := nds n) (b := 2) (by omega) (by omega)), m_oB hg1 hw hp, Option.bind_some, decide_eq_false h2, Bool.false_or]
            dsimp only
            cases oB g p y
            · rw [if_pos (show b01 false = 0 from rfl), bad]; rfl
            · rw [if_neg (by decide), good]; rfl
        by_cases h1 : nds n < 1
        · rw [if_pos (show nI (nds n) < (1 : Int32) from nI_lt (a := nds n) (b := 1) h1 (by decide)), f66, decide_eq_true h1, Bool.true_or, Bool.true_and]
        · rw [if_neg (show ¬ nI (nds n) < (1 : Int32) from nI_nlt (a := nds n) (b := 1) (by omega) (by omega)), m_oB hg1 hw hp, Option.bind_some, decide_eq_false h1, Bool.false_or]
          dsimp only
          cases oB g p x
          · rw [if_pos (show b01 false = 0 from rfl), bad]; rfl
          · rw [if_neg (by decide), f66, Bool.true_and]
