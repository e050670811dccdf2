/-! The reference: plan. -/
def MP (x : pS) (τ : vS) : Prop := (∀ o, o < 16 → τ.2 15 o = b01 (x.1 o)) ∧ ∀ q, q < 4 → τ.2 16 q = nI (x.2 q)
theorem m_visitOf {N : Nat} {g : vA} {σ : vS} (hg : MG g σ) (hw : wfA g) {S : vL} (hR : SAC g S) (hM : MR g S (gns g) σ) {p o : Nat} (hp : p < gnp g) (ho : occ g p o = true) : f_M_visitOf N σ (nI p) (nI o) = some (nI (wP g (VW g S) p o), σ) := by
  have h6 := hw.1
  have hq := occ_q ho
  have oo := occ_iff.mp ho
  have hs := hw.2.2.2.2.2.1 p (o / 4) hp hq
  have h4 := hw.2.1 _ hs
  have r5 := rk_5 (ih := gih g (gsy g p (o / 4))) (hR _ hs) oo.2
  have r1 : 1 ≤ rkS g S (gsy g p (o / 4)) (o % 4) := r5.1
  have r2 : rkS g S (gsy g p (o / 4)) (o % 4) ≤ 5 := r5.2
  have v3 := vs_3 hR hs
  have w3 := vo_3 hR hs oo.2
  unfold f_M_visitOf vlet
  dsimp only
  rw [m_attributeOf hg hw hp oo.1, Option.bind_some]
  dsimp only
  rw [show nI (4 * gsy g p (o / 4) + o % 4) / (4 : Int32) = nI ((4 * gsy g p (o / 4) + o % 4) / 4) from pk_div (d := 4) (by omega) (by decide) (by decide), show (4 * gsy g p (o / 4) + o % 4) / 4 = gsy g p (o / 4) by omega, if_pos (bIn_nI (by omega) (by decide)), if_pos (bIn_nI (by omega) (by decide)), nI_clamp (by omega), nI_clamp (by omega), (hM _ hs).1 _ oo.2, (hM _ hs).2, show nI (rkS g S (gsy g p (o / 4)) (o % 4)) - (1 : Int32) = nI (rkS g S (gsy g p (o / 4)) (o % 4) - 1) from pk_sub (b := 1) r1, show nI (rkS g S (gsy g p (o / 4)) (o % 4) - 1) / (2 : Int32) = nI ((rkS g S (gsy g p (o / 4)) (o % 4) - 1) / 2) from pk_div (d := 2) (by omega) (by decide) (by decide)]
  unfold voS at w3
  rw [show nI (vsS g S (gsy g p (o / 4))) - nI ((rkS g S (gsy g p (o / 4)) (o % 4) - 1) / 2) = nI (vsS g S (gsy g p (o / 4)) - (rkS g S (gsy g p (o / 4)) (o % 4) - 1) / 2) from pk_sub (by omega)]
  unfold wP
  rw [VW_2 hs (Nat.mod_lt _ (by decide))]
  rfl
theorem wP_3 {g : vA} (hw : wfA g) {V : vV} (hV : HV g V) {p o : Nat} (hp : p < gnp g) (ho : occ g p o = true) : 1 ≤ wP g V p o ∧ wP g V p o ≤ 3 := by
  have hs := hw.2.2.2.2.2.1 p (o / 4) hp (occ_q ho)
  have h1 := hV _ hs
  have h2 := h1.2.2 _ (occ_iff.mp ho).2
  exact ⟨h2.1, Nat.le_trans h2.2 h1.2.1⟩
theorem m_isKnown {N : Nat} {g : vA} {σ : vS} (hg : MG g σ) (hw : wfA g) {S : vL} (hR : SAC g S) (hM : MR g S (gns g) σ) {p : Nat} (hp : p < gnp g) {x : pS} (hx : INVP g (VW g S) p x) (hP : MP x σ) {u : Nat} (hu : occ g p u = true) : f_M_isKnown N σ (nI p) (nI u) = some (b01 (knA g (VW g S) p x u), σ) := by
  have hu16 := (occ_lt hw hp hu).1
  have h5 := hw.2.2.2.2.1 p hp
  have hV := hv_of hw hR
  have w3 := wP_3 hw hV hp hu
  have hq := occ_q hu
  have x3 : ∀ q, q < gpo g p → x.2 q ≤ 3 := fun q hq => Nat.le_trans (hx.2.1 q hq) (hV _ (hw.2.2.2.2.2.1 p q hp hq)).2.1
  unfold f_M_isKnown vlet
  dsimp only
  rw [if_pos (bIn_nI (by omega) (by decide)), nI_clamp (by omega), hP.1 u hu16]
  unfold knA
  cases hs : x.1 u
  · rw [if_pos (show b01 false = 0 from rfl), m_dfn hg hw hp (by omega), Option.bind_some, Bool.false_or]
    dsimp only
    cases hd : dfn g p u
    · rw [if_pos (show b01 false = 0 from rfl), Bool.not_false, Bool.true_and]
      by_cases h4 : u < 4
      · rw [if_neg (show ¬ (4 : Int32) ≤ nI u from nI_ge (a := u) (b := 4) (by omega) (by decide)), m_visitOf hg hw hR hM hp hu, Option.bind_some, if_pos (by decide)]
        dsimp only
        have z0 : ((0 : Int32)).toNatClampNeg = 0 := rfl
        have := x3 0 (by omega)
        rw [z0, hP.2 0 (by decide), nI_1, if_pos h4]
        by_cases hc : wP g (VW g S) p u ≤ x.2 0 + 1
        · rw [if_neg (nI_nlt hc (by omega)), decide_eq_true hc]; rfl
        · rw [if_pos (nI_lt (by omega) (by omega)), decide_eq_false hc]; rfl
      · rw [if_pos (show (4 : Int32) ≤ nI u from nI_le (a := 4) (b := u) (by omega) (by omega)), m_visitOf hg hw hR hM hp hu, Option.bind_some]
        dsimp only
        have := x3 (u / 4) hq
        rw [show nI u / (4 : Int32) = nI (u / 4) from pk_div (d := 4) (by omega) (by decide) (by decide), if_pos (bIn_nI (by omega) (by decide)), nI_clamp (by omega), hP.2 (u / 4) (by omega), if_neg h4]
        by_cases hc : wP g (VW g S) p u ≤ x.2 (u / 4)
        · rw [if_neg (nI_nlt hc (by omega)), decide_eq_true hc]; rfl
        · rw [if_pos (nI_lt (by omega) (by omega)), decide_eq_false hc]; rfl
    · rw [if_neg (by decide), Bool.not_true, Bool.false_and]; rfl
  · rw [if_neg (by decide), Bool.true_or]; rfl
theorem m_canSet {N : Nat} (hN : 3000 ≤ N) {g : vA} {σ : vS} (hg : MG g σ) (hw : wfA g) {S : vL} (hR : SAC g S) (hM : MR g S (gns g) σ) {p : Nat} (hp : p < gnp g) {x : pS} (hx : INVP g (VW g S) p x) (hP : MP x σ) {o : Nat} (ho : o < 16) : f_M_canSet N σ (nI p) (nI o) = some (b01 (canS g (VW g S) p x o), σ) := by
  have loop : ∀ n i, i ≤ 16 → 16 < i + n → f_M_canSet_25 N n σ (nI p) (nI o) (b01 (allB (fun u => !usd g p u o || knA g (VW g S) p x u) i)) (nI i) = some (b01 (allB (fun u => !usd g p u o || knA g (VW g S) p x u) 16), σ) := by
    intro n
    induction n with
    | zero => intro i h1 h2; omega
    | succ n ih =>
      intro i h1 h2
      rw [f_M_canSet_25]
      dsimp only
      by_cases hi : i = 16
      · subst hi
        rw [if_pos (show (16 : Int32) ≤ nI 16 from nI_le (a := 16) (b := 16) (by decide) (by decide)), nar_b01]
      · rw [if_neg (show ¬ (16 : Int32) ≤ nI i from nI_ge (a := i) (b := 16) (by omega) (by decide))]
        have es : allB (fun u => !usd g p u o || knA g (VW g S) p x u) (i + 1) = (allB (fun u => !usd g p u o || knA g (VW g S) p x u) i && (!usd g p i o || knA g (VW g S) p x i)) := rfl
        have go : ∀ y : Bool, y = allB (fun u => !usd g p u o || knA g (VW g S) p x u) (i + 1) → f_M_canSet_62 N (f_M_canSet_25 N n) σ (nI p) (nI o) (nI i) (b01 y) = some (b01 (allB (fun u => !usd g p u o || knA g (VW g S) p x u) 16), σ) := fun y hy => by
          unfold f_M_canSet_62
          rw [nI_1, hy]
          exact ih (i + 1) (by omega) (by omega)
        cases ha : allB (fun u => !usd g p u o || knA g (VW g S) p x u) i
        · rw [if_pos (show b01 false = 0 from rfl)]
          exact go false (by rw [es, ha, Bool.false_and])
        · rw [if_neg (by decide), m_isUsed hg hw hp ho, Option.bind_some]
          dsimp only
          cases hu : usd g p i o
          · rw [if_pos (show b01 false = 0 from rfl)]
            exact go true (by rw [es, ha, hu]; rfl)
          · rw [if_neg (by decide), m_isKnown hg hw hR hM hp hx hP (usd_occ hw hp (by omega) ho hu).1, Option.bind_some]
            dsimp only
            cases hk : knA g (VW g S) p x i
            · rw [if_pos (show b01 false = 0 from rfl)]
              exact go false (by rw [es, ha, hu, hk]; rfl)
            · rw [if_neg (by decide)]
              exact go true (by rw [es, ha, hu, hk]; rfl)
  unfold f_M_canSet
  rw [m_dfn hg hw hp (by omega), Option.bind_some]
  dsimp only
  unfold canS
  cases hd : dfn g p o
  · rw [if_pos (show b01 false = 0 from rfl), Bool.false_and]; rfl
  · rw [if_neg (by decide), if_pos (bIn_nI (by omega) (by decide)), Bool.true_and]
    unfold vlet
    dsimp only
    rw [nI_clamp (by omega), hP.1 o ho]
    cases hs : x.1 o
    · rw [if_pos (show b01 false = 0 from rfl), Bool.not_false, Bool.true_and]
      exact loop N 0 (by omega) (by omega)
    · rw [if_neg (by decide)]; rfl
theorem m_canGo {N : Nat} (hN : 3000 ≤ N) {g : vA} {σ : vS} (hg : MG g σ) (hw : wfA g) {S : vL} (hR : SAC g S) (hM : MR g S (gns g) σ) {p : Nat} (hp : p < gnp g) {x : pS} (hx : INVP g (VW g S) p x) (hP : MP x σ) {q : Nat} (hq : q < gpo g p) : f_M_canGo N σ (nI p) (nI q) = some (b01 (canG g (VW g S) p x q), σ) := by
  have h10 := hw.2.2.2.1
  have h6 := hw.1
  have h5 := hw.2.2.2.2.1 p hp
  have hs := hw.2.2.2.2.2.1 p q hp hq
  have hV := hv_of hw hR
  have hv3 : vP g (VW g S) p q ≤ 3 := (hV _ hs).2.1
  have hx2 := hx.2.1 q hq
  have hvs : vP g (VW g S) p q = vsS g S (gsy g p q) := VW_1 hs
  have loop : ∀ v, v ≤ 3 → ∀ n j, j ≤ 4 → 4 < j + n → f_M_isPrepared_8 N n σ (nI p) (nI q) (nI v) (b01 (allB (fun j => !dfn g p (4 * q + j) || (x.1 (4 * q + j) || decide (wP g (VW g S) p (4 * q + j) ≠ v))) j)) (nI (4 * q + j)) = some (b01 (prepA g (VW g S) p x q v), σ) := by
    intro v hv n
    induction n with
    | zero => intro j h1 h2; omega
    | succ n ih =>
      intro j h1 h2
      rw [f_M_isPrepared_8]
      dsimp only
      rw [show (4 : Int32) * nI q = nI (4 * q) from pk_mul 4 q, show nI (4 * q) + (4 : Int32) = nI (4 * q + 4) from nI_add _ 4]
      by_cases hj : j = 4
      · subst hj
        rw [if_pos (nI_le (Nat.le_refl _) (by omega)), nar_b01]
        rfl
      · rw [if_neg (nI_ge (by omega) (by omega))]
        have go : ∀ y : Bool, y = allB (fun j => !dfn g p (4 * q + j) || (x.1 (4 * q + j) || decide (wP g (VW g S) p (4 * q + j) ≠ v))) (j + 1) → f_M_isPrepared_59 N (f_M_isPrepared_8 N n) σ (nI p) (nI q) (nI v) (nI (4 * q + j)) (b01 y) = some (b01 (prepA g (VW g S) p x q v), σ) := fun y hy => by
          unfold f_M_isPrepared_59
          rw [nI_1, hy, Nat.add_assoc]
          exact ih (j + 1) (by omega) (by omega)
        have es : allB (fun j => !dfn g p (4 * q + j) || (x.1 (4 * q + j) || decide (wP g (VW g S) p (4 * q + j) ≠ v))) (j + 1) = (allB (fun j => !dfn g p (4 * q + j) || (x.1 (4 * q + j) || decide (wP g (VW g S) p (4 * q + j) ≠ v))) j && (!dfn g p (4 * q + j) || (x.1 (4 * q + j) || decide (wP g (VW g S) p (4 * q + j) ≠ v)))) := rfl
        cases ha : allB (fun j => !dfn g p (4 * q + j) || (x.1 (4 * q + j) || decide (wP g (VW g S) p (4 * q + j) ≠ v))) j
        · rw [if_pos (show b01 false = 0 from rfl)]
          exact go false (by rw [es, ha, Bool.false_and])
        · rw [if_neg (by decide), m_dfn hg hw hp (by omega), Option.bind_some]
          dsimp only
          cases hd : dfn g p (4 * q + j)
          · rw [if_pos (show b01 false = 0 from rfl)]
            exact go true (by rw [es, ha, hd]; rfl)
          · rw [if_neg (by decide), if_pos (bIn_nI (by omega) (by decide))]
            unfold vlet
            dsimp only
            rw [nI_clamp (by omega), hP.1 _ (by omega)]
            cases hst : x.1 (4 * q + j)
            · rw [if_pos (show b01 false = 0 from rfl), m_visitOf hg hw hR hM hp (dfn_occ hd), Option.bind_some]
              dsimp only
              have w3 := wP_3 hw hV hp (dfn_occ hd)
              by_cases hc : wP g (VW g S) p (4 * q + j) = v
              · rw [if_pos (by rw [hc])]
                exact go false (by rw [es, ha, hd, hst, decide_eq_false (fun h9 => h9 hc)]; rfl)
              · rw [if_neg (fun h9 => hc ((nI_eq (by omega) (by omega)).mp h9))]
                exact go true (by rw [es, ha, hd, hst, decide_eq_true hc]; rfl)
            · rw [if_neg (by decide)]
              exact go true (by rw [es, ha, hd, hst]; rfl)
  unfold f_M_canGo vlet
  dsimp only
  rw [if_pos (bIn_nI (by omega) (by decide)), nI_clamp (by omega), hP.2 q (by omega), show (4 : Int32) * nI p = nI (4 * p) from pk_mul 4 p, nI_add, if_pos (bIn_nI (by omega) (by decide)), nI_clamp (by omega), hg.2.2.2.2.2.1 p q hp hq, if_pos (bIn_nI (by omega) (by decide)), nI_clamp (by omega), (hM _ hs).2, nI_1, ← hvs]
  unfold canG
  by_cases hl : x.2 q + 1 ≤ vP g (VW g S) p q
  · rw [if_neg (nI_nlt hl (by omega)), decide_eq_true hl, Bool.true_and]
    unfold f_M_isPrepared
    rw [show (4 : Int32) * nI q = nI (4 * q) from pk_mul 4 q]
    have := loop (x.2 q + 1) (by omega) N 0 (by omega) (by omega)
    have this : f_M_isPrepared_8 N N σ (nI p) (nI q) (nI (x.2 q + 1)) 1 (nI (4 * q)) = _ := this
    rw [this, Option.bind_some]
    dsimp only
    cases prepA g (VW g S) p x q (x.2 q + 1) <;> rfl
  · rw [if_pos (nI_lt (by omega) (by omega)), decide_eq_false hl, Bool.false_and]; rfl
/-! plan: finding the next -/
def EP (σ τ : vS) : Prop := τ.1 = σ.1 ∧ ∀ a, a ≠ 13 → a ≠ 14 → a ≠ 15 → a ≠ 16 → τ.2 a = σ.2 a
theorem MG.ep {g : vA} {σ τ : vS} (hg : MG g σ) (h : EP σ τ) : MG g τ := hg.stay (by rw [h.1]) (by rw [h.1]) (fun a ha => h.2 a (by omega) (by omega) (by omega) (by omega))
theorem MR.ep {g : vA} {S : vL} {n : Nat} {σ τ : vS} (hM : MR g S n σ) (h : EP σ τ) : MR g S n τ := fun s hs => by rw [h.2 11 (by decide) (by decide) (by decide) (by decide), h.2 12 (by decide) (by decide) (by decide) (by decide)]; exact hM s hs
theorem m_plan_find {N : Nat} (hN : 3000 ≤ N) {g : vA} {σ : vS} (hg : MG g σ) (hw : wfA g) {S : vL} (hR : SAC g S) (hM : MR g S (gns g) σ) {p : Nat} (hp : p < gnp g) {x : pS} (hx : INVP g (VW g S) p x) (hP : MP x σ) {Q : Int32 × vS → Prop} {k50 : vS → Int32 → Int32 → Option (Int32 × vS)} (hk : Ok (f_M_plan_162 N k50 σ (nI p) (oI (nxF g (VW g S) p x))) Q) : Ok (f_M_plan_60 N k50 N σ (nI p) (-1) 15) Q := by
  have h10 := hw.2.2.2.1
  have h5 := hw.2.2.2.2.1 p hp
  have l135 : Ok (f_M_plan_135 N k50 σ (nI p) (match lst (canS g (VW g S) p x) 16 0 with | some o => nI o | none => match lst (canG g (VW g S) p x) (gpo g p - 1) 1 with | some q => nI (100 * q + x.2 q + 1) | none => -1)) Q := by
    unfold nxF at hk
    unfold f_M_plan_135
    cases e1 : lst (canS g (VW g S) p x) 16 0 with
    | some o =>
      rw [e1] at hk
      have ho := (lst_some 16 0 o e1).2.1
      dsimp only at hk ⊢
      rw [if_neg (nI_nm1 (by omega))]
      exact hk
    | none =>
      rw [e1] at hk
      dsimp only at hk ⊢
      cases e2 : lst (canG g (VW g S) p x) (gpo g p - 1) 1 with
      | some q =>
        rw [e2] at hk
        obtain ⟨a1, a2, a3, a4⟩ := lst_some _ 1 q e2
        have := hx.2.1 q (by omega)
        have hv3 := (hv_of hw hR _ (hw.2.2.2.2.2.1 p q hp (by omega))).2.1
        have hv3 : vP g (VW g S) p q ≤ 3 := hv3
        dsimp only at hk ⊢
        rw [if_neg (nI_nm1 (by omega))]
        exact hk
      | none =>
        rw [e2] at hk
        dsimp only at hk ⊢
        have cg : f_M_canGo N σ (nI p) 0 = some (b01 (canG g (VW g S) p x 0), σ) := m_canGo (q := 0) hN hg hw hR hM hp hx hP (by omega)
        rw [if_pos rfl, cg, Option.bind_some]
        dsimp only
        cases e3 : canG g (VW g S) p x 0
        · rw [e3, if_neg (by decide)] at hk
          rw [if_pos (show b01 false = 0 from rfl)]
          exact hk
        · rw [e3, if_pos rfl] at hk
          rw [if_neg (by decide), if_pos (by decide)]
          unfold vlet
          have z0 : ((0 : Int32)).toNatClampNeg = 0 := rfl
          rw [z0, hP.2 0 (by decide)]
          dsimp only
          rw [show (1000 : Int32) + nI (x.2 0) = nI (1000 + x.2 0) from nI_add 1000 _, nI_1]
          exact hk
  have l87n : ∀ n q, 1 ≤ q → q ≤ gpo g p → gpo g p < q + n → lst (canS g (VW g S) p x) 16 0 = none → (∀ k, 1 ≤ k → k < q → canG g (VW g S) p x k = false) → Ok (f_M_plan_87 N k50 n σ (nI p) (-1) (nI q)) Q := by
    intro n
    induction n with
    | zero => intro q h0 h1 h2; omega
    | succ n ih =>
      intro q h0 h1 h2 e1 h3
      rw [f_M_plan_87]
      dsimp only
      refine ok_bd (bIn_nI (by omega) (by decide)) (ok_lets (fun i8 e8 => ?_))
      rw [nI_clamp (by omega), hg.2.2.2.2.1 p hp] at e8
      rw [e8]
      by_cases hq : q = gpo g p
      · refine ok_then (nI_le (by omega) (by omega)) ?_
        have := l135
        rw [e1, lst_not _ 1 (fun k k1 k2 => h3 k k1 (by omega))] at this
        exact this
      · refine ok_else (nI_ge (by omega) (by omega)) (ok_then rfl ?_)
        rw [m_canGo hN hg hw hR hM hp hx hP (show q < gpo g p by omega), Option.bind_some]
        dsimp only
        unfold f_M_plan_128
        rw [nI_1]
        cases ec : canG g (VW g S) p x q
        · rw [if_pos (show b01 false = 0 from rfl)]
          refine ih (q + 1) (by omega) (by omega) (by omega) e1 (fun k k1 k2 => ?_)
          by_cases e : k = q
          · rw [e]; exact ec
          · exact h3 k k1 (by omega)
        · rw [if_neg (by decide)]
          refine ok_bd (bIn_nI (by omega) (by decide)) (ok_lets (fun i38 e38 => ok_lets (fun i39 e39 => ?_)))
          rw [nI_clamp (by omega), hP.2 q (by omega)] at e38
          rw [e38, show (100 : Int32) * nI q = nI (100 * q) from pk_mul 100 q, nI_add, nI_1] at e39
          rw [e39]
          have := l135
          rw [e1, lst_is _ 1 q h0 (by omega) ec h3] at this
          have hv3 := (hv_of hw hR _ (hw.2.2.2.2.2.1 p q hp (by omega))).2.1
          have hv3 : vP g (VW g S) p q ≤ 3 := hv3
          have := hx.2.1 q (by omega)
          cases n with
          | zero => omega
          | succ n =>
            rw [f_M_plan_87]
            dsimp only
            refine ok_bd (bIn_nI (by omega) (by decide)) (ok_lets (fun i8 e8' => ?_))
            refine ok_if (fun _ => l135 |> fun h => by rw [e1, lst_is _ 1 q h0 (by omega) ec h3] at h; exact h) (fun _ => ok_else (nI_nm1 (by omega)) (l135 |> fun h => by rw [e1, lst_is _ 1 q h0 (by omega) ec h3] at h; exact h))
  have l87 : Ok (f_M_plan_87 N k50 N σ (nI p) (oI (lst (canS g (VW g S) p x) 16 0)) 1) Q := by
    cases e1 : lst (canS g (VW g S) p x) 16 0 with
    | none => exact l87n N 1 (by omega) (by omega) (by omega) e1 (fun k k1 k2 => by omega)
    | some o =>
      have ho := (lst_some 16 0 o e1).2.1
      have h9 := l135
      rw [e1] at h9
      cases N with
      | zero => omega
      | succ M =>
        rw [f_M_plan_87]
        dsimp only
        refine ok_bd (bIn_nI (by omega) (by decide)) (ok_lets (fun i8 e8 => ?_))
        exact ok_if (fun _ => h9) (fun _ => ok_else (show ¬ oI (some o) = -1 from nI_nm1 (by omega)) h9)
  have l60 : ∀ n j, j ≤ 16 → j < n → ∀ z, z = nI j - 1 → Ok (f_M_plan_60 N k50 n σ (nI p) (oI (lst (canS g (VW g S) p x) (16 - j) j)) z) Q := by
    intro n
    induction n with
    | zero => intro j _ h2; omega
    | succ n ih =>
      intro j h1 h2 z hz
      rw [f_M_plan_60]
      dsimp only
      cases j with
      | zero =>
        rw [hz]
        exact ok_then (by decide) l87
      | succ j =>
        have ez : z = nI j := by rw [hz]; exact nI_pred j
        rw [ez]
        refine ok_else (nI_pos (by omega)) ?_
        rw [m_canSet hN hg hw hR hM hp hx hP (show j < 16 by omega), Option.bind_some]
        dsimp only
        have e := lst_s (f := canS g (VW g S) p x) (show j < 16 by omega)
        have hz' : nI j + (-1) = nI j - 1 := by rw [Int32.sub_eq_add_neg]
        unfold f_M_plan_78
        cases ec : canS g (VW g S) p x j
        · rw [ec, if_neg (by decide)] at e
          rw [if_pos (show b01 false = 0 from rfl), ← e]
          exact ih j (by omega) (by omega) _ hz'
        · rw [ec, if_pos rfl] at e
          rw [if_neg (by decide)]
          have := ih j (by omega) (by omega) _ hz'
          rw [e] at this
          exact this
  exact l60 N 16 (by omega) (by omega) 15 (by decide)
