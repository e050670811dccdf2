/-! The reference: plan as a whole. -/
def MSQ (g : vA) (V : vV) (n : Nat) (τ : vS) : Prop := ∀ p, p < n → τ.2 13 p = nI (lnP g V p) ∧ ∀ k, k < lnP g V p → τ.2 14 (48 * p + k) = nI (sqN g V p k)
theorem MR.tr15 {g : vA} {S : vL} {n : Nat} {σ τ : vS} (hM : MR g S n σ) (h11 : τ.2 11 = σ.2 11) (h12 : τ.2 12 = σ.2 12) : MR g S n τ := fun s hs => by rw [h11, h12]; exact hM s hs
theorem m_plan_50 {N : Nat} (hN : 3000 ≤ N) {g : vA} {σ : vS} (hg : MG g σ) (hw : wfA g) {S : vL} (hR : SAC g S) (hy : acy g (ordL g S)) (hM : MR g S (gns g) σ) {p : Nat} (hp : p < gnp g) : ∀ n k τ (z : Int32), z ≠ -1 → k ≤ lnP g (VW g S) p → lnP g (VW g S) p + 1 < k + n → EP σ τ → MSQ g (VW g S) p τ → MP (pst g (VW g S) p k) τ → τ.2 13 p = nI k → (∀ j, j < k → τ.2 14 (48 * p + j) = nI (sqN g (VW g S) p j)) → Ok (f_M_plan_50 N n τ (nI p) z) (fun v => EP σ v.2 ∧ MSQ g (VW g S) (p + 1) v.2) := by
  have h10 := hw.2.2.2.1
  have h5 := hw.2.2.2.2.1 p hp
  have hV := hv_of hw hR
  have hO := ho_of hw hR hy
  have hl := len_28 hw hV hp
  intro n
  induction n with
  | zero => intro k τ z _ h1 h2; omega
  | succ n ih =>
    intro k τ z hz h1 h2 hE hQ hP hL hS
    obtain ⟨i1, i2⟩ := plan_k hw hV hO hp k h1
    rw [f_M_plan_50]
    dsimp only
    refine ok_else hz (m_plan_find hN (hg.ep hE) hw hR (hM.ep hE) hp i1 hP ?_)
    by_cases hkl : k = lnP g (VW g S) p
    · have hn := plan_end hw hV hO hp
      rw [← hkl] at hn
      rw [hn]
      unfold f_M_plan_162
      rw [if_pos (show oI none = -1 from rfl)]
      cases n with
      | zero => omega
      | succ n =>
        rw [f_M_plan_50]
        dsimp only
        refine ok_then rfl (ok_some ⟨hE, fun t ht => ?_⟩)
        by_cases e : t = p
        · rw [e, ← hkl]; exact ⟨hL, hS⟩
        · exact hQ t (by omega)
    · obtain ⟨n1, n2, n3⟩ := plan_at hw hV hO hp (show k < lnP g (VW g S) p by omega)
      rw [n1]
      obtain ⟨i, hi⟩ : ∃ i, i = sqN g (VW g S) p k := ⟨_, rfl⟩
      rw [← hi] at n1 n2 n3 ⊢
      have fin : ∀ υ : vS, υ.1 = τ.1 → (∀ a, a ≠ 15 → a ≠ 16 → υ.2 a = τ.2 a) → MP (pst g (VW g S) p (k + 1)) υ → i < 2000 → Ok (f_M_plan_210 N (f_M_plan_50 N n) υ (nI p) (nI i)) (fun v => EP σ v.2 ∧ MSQ g (VW g S) (p + 1) v.2) := by
        intro υ u1 u2 u3 hi2
        unfold f_M_plan_210
        refine ok_bd (bIn_nI (by omega) (by decide)) (ok_lets (fun i11 e11 => ?_))
        rw [nI_clamp (by omega), u2 13 (by decide) (by decide), hL] at e11
        rw [e11, show (48 : Int32) * nI p = nI (48 * p) from pk_mul 48 p, nI_add]
        refine ok_bd (bIn_nI (by omega) (by decide)) (ok_lets (fun σ13 e13 => ok_bd (bIn_nI (by omega) (by decide)) (ok_lets (fun i15 e15 => ok_bd (bIn_nI (by omega) (by decide)) (ok_lets (fun σ17 e17 => ?_))))))
        rw [nI_clamp (by omega)] at e13
        rw [nI_clamp (by omega), e13, sa_2a (by decide), u2 13 (by decide) (by decide), hL] at e15
        rw [nI_clamp (by omega), e15, nI_1] at e17
        refine ih (k + 1) σ17 (nI i) (nI_nm1 (by omega)) (by omega) (by omega) ⟨by rw [e17, e13]; exact u1.trans hE.1, fun a a13 a14 a15 a16 => by rw [e17, sa_2a a13, e13, sa_2a a14, u2 a a15 a16]; exact hE.2 a a13 a14 a15 a16⟩ (fun t ht => ?_) ?_ (by rw [e17, sa_2]) (fun j hj => ?_)
        · obtain ⟨q1, q2⟩ := hQ t ht
          have hlt := len_28 hw hV (show t < gnp g by omega)
          exact ⟨by rw [e17, sa_2n (by omega), e13, sa_2a (by decide), u2 13 (by decide) (by decide)]; exact q1, fun j hj => by rw [e17, sa_2a (by decide), e13, sa_2n (by omega), u2 14 (by decide) (by decide)]; exact q2 j hj⟩
        · exact ⟨fun o ho => by rw [e17, sa_2a (by decide), e13, sa_2a (by decide)]; exact u3.1 o ho, fun q hq => by rw [e17, sa_2a (by decide), e13, sa_2a (by decide)]; exact u3.2 q hq⟩
        · rw [e17, sa_2a (by decide), e13]
          by_cases e : j = k
          · rw [e, sa_2, hi]
          · rw [sa_2n (by omega), u2 14 (by decide) (by decide)]; exact hS j (by omega)
      have vis : ∀ q, q < gpo g p → (pst g (VW g S) p k).2 q ≤ 3 := fun q hq => Nat.le_trans (i1.2.1 q hq) (hV _ (hw.2.2.2.2.2.1 p q hp hq)).2.1
      have go205 : ∀ q, q < gpo g p → i < 2000 → apx (pst g (VW g S) p k) i = ((pst g (VW g S) p k).1, fun j => if j = q then (pst g (VW g S) p k).2 j + 1 else (pst g (VW g S) p k).2 j) → Ok (f_M_plan_205 N (f_M_plan_50 N n) τ (nI p) (nI i) (nI q)) (fun v => EP σ v.2 ∧ MSQ g (VW g S) (p + 1) v.2) := by
        intro q hq hi2 ea
        unfold f_M_plan_205
        refine ok_bd (bIn_nI (by omega) (by decide)) (ok_lets (fun i20 e20 => ok_bd (bIn_nI (by omega) (by decide)) (ok_lets (fun σ22 e22 => ?_))))
        rw [nI_clamp (by omega), hP.2 q (by omega)] at e20
        rw [nI_clamp (by omega), e20, nI_1] at e22
        refine fin σ22 (by rw [e22]; rfl) (fun a _ a16 => by rw [e22, sa_2a a16]) ?_ hi2
        rw [n3, ea, e22]
        refine ⟨fun o ho => by rw [sa_2a (by decide)]; exact hP.1 o ho, fun j hj => ?_⟩
        show (sa τ 16 q (nI ((pst g (VW g S) p k).2 q + 1))).2 16 j = nI (if j = q then (pst g (VW g S) p k).2 j + 1 else (pst g (VW g S) p k).2 j)
        by_cases e : j = q
        · rw [e, sa_2, if_pos rfl]
        · rw [sa_2n e, if_neg e]; exact hP.2 j hj
      show Ok (f_M_plan_162 N (f_M_plan_50 N n) τ (nI p) (nI i)) _
      unfold f_M_plan_162
      rcases n2 with ⟨hi16, hcs⟩ | ⟨q, hq1, hq, hql, hqi⟩ | ⟨hql, hqi⟩
      · rw [if_neg (nI_nm1 (by omega)), if_neg (show ¬ (100 : Int32) ≤ nI i from nI_ge (a := i) (b := 100) (by omega) (by decide))]
        refine ok_bd (bIn_nI (by omega) (by decide)) (ok_lets (fun σ25 e25 => ?_))
        rw [nI_clamp (by omega), show vp_nar .boolean 1 = 1 from by decide] at e25
        refine fin σ25 (by rw [e25]; rfl) (fun a a15 _ => by rw [e25, sa_2a a15]) ?_ (by omega)
        have ea : apx (pst g (VW g S) p k) i = (fun o => (pst g (VW g S) p k).1 o || decide (o = i), (pst g (VW g S) p k).2) := if_pos (by omega)
        rw [n3, ea, e25]
        refine ⟨fun o ho => ?_, fun q hq => by rw [sa_2a (by decide)]; exact hP.2 q hq⟩
        show _ = b01 ((pst g (VW g S) p k).1 o || decide (o = i))
        by_cases e : o = i
        · rw [e, sa_2, decide_eq_true rfl, Bool.or_true]; rfl
        · rw [sa_2n e, decide_eq_false e, Bool.or_false]; exact hP.1 o ho
      · have := vis q hq
        rw [if_neg (nI_nm1 (by omega)), if_pos (show (100 : Int32) ≤ nI i from nI_le (a := 100) (b := i) (by omega) (by omega)), if_neg (show ¬ (1000 : Int32) ≤ nI i from nI_ge (a := i) (b := 1000) (by omega) (by decide)), show nI i / (100 : Int32) = nI (i / 100) from pk_div (d := 100) (by omega) (by decide) (by decide), show i / 100 = q by omega]
        refine go205 q hq (by omega) ?_
        unfold apx
        rw [if_neg (by omega), if_pos (by omega), show i / 100 = q by omega]
      · have := vis 0 (by omega)
        rw [if_neg (nI_nm1 (by omega)), if_pos (show (100 : Int32) ≤ nI i from nI_le (a := 100) (b := i) (by omega) (by omega)), if_pos (show (1000 : Int32) ≤ nI i from nI_le (a := 1000) (b := i) (by omega) (by omega))]
        refine go205 0 (by omega) (by omega) ?_
        unfold apx
        rw [if_neg (by omega), if_neg (by omega)]
theorem m_plan {N : Nat} (hN : 3000 ≤ N) {g : vA} {σ : vS} (hg : MG g σ) (hw : wfA g) {S : vL} (hR : SAC g S) (hy : acy g (ordL g S)) (hM : MR g S (gns g) σ) {p : Nat} (hp : p < gnp g) (hQ : MSQ g (VW g S) p σ) : Ok (f_M_plan N σ (nI p)) (fun v => EP σ v.2 ∧ MSQ g (VW g S) (p + 1) v.2) := by
  have h10 := hw.2.2.2.1
  have hV := hv_of hw hR
  have hl := len_28 hw hV hp
  have l23 : ∀ n q τ, q ≤ 4 → 4 < q + n → EP σ τ → (∀ t, t < 40 → τ.2 13 t = σ.2 13 t) → τ.2 14 = σ.2 14 → (∀ o, o < 16 → τ.2 15 o = 0) → (∀ r, r < q → τ.2 16 r = 0) → Ok (f_M_plan_23 N n τ (nI p) (nI q)) (fun v => EP σ v.2 ∧ MSQ g (VW g S) (p + 1) v.2) := by
    intro n
    induction n with
    | zero => intro q τ h1 h2; omega
    | succ n ih =>
      intro q τ h1 h2 hE h13 h14 h15 h16
      rw [f_M_plan_23]
      dsimp only
      by_cases hq : q = 4
      · subst hq
        refine ok_then (show (4 : Int32) ≤ nI 4 from nI_le (a := 4) (b := 4) (by decide) (by decide)) (ok_bd (bIn_nI (by omega) (by decide)) (ok_lets (fun σ4 e4 => ?_)))
        rw [nI_clamp (by omega)] at e4
        refine m_plan_50 hN hg hw hR hy hM hp N 0 σ4 0 (by decide) (by omega) (by omega) ⟨by rw [e4]; exact hE.1, fun a a13 a14 a15 a16 => by rw [e4, sa_2a a13]; exact hE.2 a a13 a14 a15 a16⟩ (fun t ht => ?_) ⟨fun o ho => by rw [e4, sa_2a (by decide), h15 o ho]; rfl, fun r hr => by rw [e4, sa_2a (by decide), h16 r hr]; rfl⟩ (by rw [e4, sa_2]; rfl) (fun j hj => absurd hj (Nat.not_lt_zero _))
        exact ⟨by rw [e4, sa_2n (by omega), h13 t (by omega)]; exact (hQ t ht).1, fun j hj => by rw [e4, sa_2a (by decide), h14]; exact (hQ t ht).2 j hj⟩
      · refine ok_else (show ¬ (4 : Int32) ≤ nI q from nI_ge (a := q) (b := 4) (by omega) (by decide)) (ok_bd (bIn_nI (by omega) (by decide)) (ok_lets (fun σ44 e44 => ?_)))
        rw [nI_clamp (by omega)] at e44
        rw [nI_1]
        refine ih (q + 1) σ44 (by omega) (by omega) ⟨by rw [e44]; exact hE.1, fun a a13 a14 a15 a16 => by rw [e44, sa_2a a16]; exact hE.2 a a13 a14 a15 a16⟩ (fun t ht => by rw [e44, sa_2a (by decide)]; exact h13 t ht) (by rw [e44, sa_2a (by decide)]; exact h14) (fun o ho => by rw [e44, sa_2a (by decide)]; exact h15 o ho) (fun r hr => ?_)
        rw [e44]
        by_cases e : r = q
        · rw [e, sa_2]
        · rw [sa_2n e]; exact h16 r (by omega)
  have l2 : ∀ n o τ, o ≤ 16 → 16 < o + n → E1 15 σ τ → (∀ r, r < o → τ.2 15 r = 0) → Ok (f_M_plan_2 N n τ (nI p) (nI o)) (fun v => EP σ v.2 ∧ MSQ g (VW g S) (p + 1) v.2) := by
    intro n
    induction n with
    | zero => intro o τ h1 h2; omega
    | succ n ih =>
      intro o τ h1 h2 hE h15
      rw [f_M_plan_2]
      dsimp only
      by_cases ho : o = 16
      · subst ho
        refine ok_then (show (16 : Int32) ≤ nI 16 from nI_le (a := 16) (b := 16) (by decide) (by decide)) ?_
        exact l23 N 0 τ (by omega) (by omega) ⟨hE.1, fun a _ _ a15 _ => hE.2 a a15⟩ (fun t _ => by rw [hE.2 13 (by decide)]) (hE.2 14 (by decide)) h15 (fun r hr => absurd hr (Nat.not_lt_zero _))
      · refine ok_else (show ¬ (16 : Int32) ≤ nI o from nI_ge (a := o) (b := 16) (by omega) (by decide)) (ok_bd (bIn_nI (by omega) (by decide)) (ok_lets (fun σ46 e46 => ?_)))
        rw [nI_clamp (by omega), show vp_nar .boolean 0 = 0 from by decide] at e46
        rw [nI_1]
        refine ih (o + 1) σ46 (by omega) (by omega) (by rw [e46]; exact hE.sa) (fun r hr => ?_)
        rw [e46]
        by_cases e : r = o
        · rw [e, sa_2]
        · rw [sa_2n e]; exact h15 r (by omega)
  unfold f_M_plan
  exact l2 N 0 σ (by omega) (by omega) E1.rf (fun r hr => absurd hr (Nat.not_lt_zero _))
/-! analyse: the reference. -/
/-- the sum of the lengths -/
def lnA (g : vA) (V : vV) : Nat := smQ (lnP g V) (gnp g)
/-- an analysis is there: both sides hold it -/
def ANA (g : vA) (S : vL) : Prop := SAC g S ∧ acy g (ordL g S)
def cpl (g : vA) : Prop := ∀ p o, p < gnp g → o < 16 → dfn g p o = true → (grl g p o).isSome = true
/-- what the reference's analyse leaves: k is the code -/
def MAN (g : vA) (σ : vS) (v : Int32 × vS) : Prop := MG g v.2 ∧ v.2.1 8 = -1 ∧ v.2.1 9 = -1 ∧ (∀ k, k ≠ 0 → k ≠ 3 → k ≠ 4 → k ≠ 5 → k ≠ 6 → k ≠ 8 → k ≠ 9 → v.2.1 k = σ.1 k) ∧ (∀ j, j < 160 → v.2.2 22 j = 0) ∧ (∀ a, 17 ≤ a → a ≠ 22 → v.2.2 a = σ.2 a) ∧ ((v.2.1 0 = 1 ∧ v.2.1 3 = 0 ∧ (gnp g = 0 ∨ ¬ cpl g)) ∨ (gnp g ≠ 0 ∧ cpl g ∧ ∃ L S, FX true g L S ∧ ((v.2.1 0 = 2 ∧ v.2.1 3 = 0 ∧ ¬ acy g L) ∨ (acy g L ∧ v.2.1 0 = 2 ∧ v.2.1 3 = 0 ∧ ¬ acy g (ordL g S)) ∨ (acy g L ∧ v.2.1 0 = 0 ∧ v.2.1 3 = 1 ∧ v.1 = nI (lnA g (VW g S)) ∧ ANA g S ∧ MR g S (gns g) v.2 ∧ MSQ g (VW g S) (gnp g) v.2))))
theorem m_lacks {N : Nat} (hN : 3000 ≤ N) {g : vA} {σ : vS} (hg : MG g σ) (hw : wfA g) : Ok (f_M_lacks N σ) (fun v => (v.1 = 0 ∧ cpl g ∧ v.2 = σ) ∨ (v.1 = 1 ∧ ¬ cpl g ∧ v.2.2 = σ.2 ∧ ∀ k, k ≠ 4 → k ≠ 5 → k ≠ 6 → v.2.1 k = σ.1 k)) := by
  have h10 := hw.2.2.2.1
  have l12 : ∀ p, p < gnp g → ∀ k2 : vS → Int32 → Option (Int32 × vS), ((∀ o, o < 16 → dfn g p o = true → (grl g p o).isSome = true) → Ok (k2 σ (nI (p + 1))) (fun v => (v.1 = 0 ∧ cpl g ∧ v.2 = σ) ∨ (v.1 = 1 ∧ ¬ cpl g ∧ v.2.2 = σ.2 ∧ ∀ k, k ≠ 4 → k ≠ 5 → k ≠ 6 → v.2.1 k = σ.1 k))) → ∀ n o, o ≤ 16 → 16 < o + n → (∀ o', o' < o → dfn g p o' = true → (grl g p o').isSome = true) → Ok (f_M_lacks_12 N k2 n σ (nI p) (nI o)) (fun v => (v.1 = 0 ∧ cpl g ∧ v.2 = σ) ∨ (v.1 = 1 ∧ ¬ cpl g ∧ v.2.2 = σ.2 ∧ ∀ k, k ≠ 4 → k ≠ 5 → k ≠ 6 → v.2.1 k = σ.1 k)) := by
    intro p hp k2 hk n
    induction n with
    | zero => intro o h1 h2; omega
    | succ n ih =>
      intro o h1 h2 h3
      rw [f_M_lacks_12]
      dsimp only
      by_cases ho : o = 16
      · subst ho
        refine ok_then (show (16 : Int32) ≤ nI 16 from nI_le (a := 16) (b := 16) (by decide) (by decide)) ?_
        rw [nI_1]
        exact hk h3
      · refine ok_else (show ¬ (16 : Int32) ≤ nI o from nI_ge (a := o) (b := 16) (by omega) (by decide)) ?_
        rw [m_dfn hg hw hp (by omega), Option.bind_some]
        dsimp only
        unfold f_M_lacks_50
        rw [nI_1]
        cases hd : dfn g p o
        · rw [if_pos (show b01 false = 0 from rfl)]
          refine ih (o + 1) (by omega) (by omega) (fun o' ho' hd' => ?_)
          by_cases e : o' = o
          · rw [e, hd] at hd'; cases hd'
          · exact h3 o' (by omega) hd'
        · rw [if_neg (by decide), show (16 : Int32) * nI p = nI (16 * p) from pk_mul 16 p, nI_add]
          refine ok_bd (bIn_nI (by omega) (by decide)) (ok_lets (fun i7 e7 => ?_))
          rw [nI_clamp (by omega)] at e7
          have h7 := hg.2.2.2.2.2.2.1 p o hp (by omega)
          cases hr : grl g p o with
          | none =>
            rw [hr] at h7
            have h7 : σ.2 4 (16 * p + o) = -1 := h7
            rw [e7, h7, if_pos rfl]
            refine ok_some (Or.inr ⟨(by show vp_nar .boolean (1 : Int32) = 1; decide), fun h9 => ?_, rfl, fun k k4 k5 k6 => ?_⟩)
            · have := h9 p o hp (by omega) hd
              rw [hr] at this
              cases this
            · show (sf (sf (sf σ 4 1) 5 (nI p)) 6 (nI o)).1 k = σ.1 k
              rw [sf_1n k6, sf_1n k5, sf_1n k4]
          | some r =>
            rw [hr] at h7
            have h7 : σ.2 4 (16 * p + o) = nI r.1 ∧ _ := h7
            have hr8 := (hw.2.2.2.2.2.2 p o r hp (by omega) hr).2.1
            rw [e7, h7.1, if_neg (nI_nm1 (by omega))]
            refine ih (o + 1) (by omega) (by omega) (fun o' ho' hd' => ?_)
            by_cases e : o' = o
            · rw [e, hr]; rfl
            · exact h3 o' (by omega) hd'
  have l2 : ∀ n p, p ≤ gnp g → gnp g < p + n → (∀ p' o, p' < p → o < 16 → dfn g p' o = true → (grl g p' o).isSome = true) → Ok (f_M_lacks_2 N n σ (nI p)) (fun v => (v.1 = 0 ∧ cpl g ∧ v.2 = σ) ∨ (v.1 = 1 ∧ ¬ cpl g ∧ v.2.2 = σ.2 ∧ ∀ k, k ≠ 4 → k ≠ 5 → k ≠ 6 → v.2.1 k = σ.1 k)) := by
    intro n
    induction n with
    | zero => intro p h1 h2; omega
    | succ n ih =>
      intro p h1 h2 h3
      rw [f_M_lacks_2]
      dsimp only
      rw [hg.2.1]
      by_cases hp : p = gnp g
      · subst hp
        exact ok_then (nI_le (Nat.le_refl _) (by omega)) (ok_some (Or.inl ⟨rfl, h3, rfl⟩))
      · refine ok_else (nI_ge (by omega) (by omega)) ?_
        refine l12 p (by omega) _ (fun h9 => ih (p + 1) (by omega) (by omega) (fun p' o hp' ho hd => ?_)) N 0 (by omega) (by omega) (fun o' h9 => absurd h9 (Nat.not_lt_zero _))
        by_cases e : p' = p
        · rw [e] at hd ⊢; exact h9 o ho hd
        · exact h3 p' o (by omega) ho hd
  unfold f_M_lacks
  exact l2 N 0 (by omega) (by omega) (fun p' o h9 => absurd h9 (Nat.not_lt_zero _))
theorem smQ_s {f : Nat → Nat} {n : Nat} : smQ f (n + 1) = smQ f n + f n := rfl
theorem m_analyse_92 {N : Nat} (hN : 3000 ≤ N) {g : vA} {σ : vS} (hg : MG g σ) (hw : wfA g) {S : vL} (hR : SAC g S) (hy : acy g (ordL g S)) (hM : MR g S (gns g) σ) : ∀ n p τ, p ≤ gnp g → gnp g < p + n → EP σ τ → MSQ g (VW g S) p τ → Ok (f_M_analyse_92 N n τ (nI (smQ (lnP g (VW g S)) p)) (nI p)) (fun v => v.1 = nI (lnA g (VW g S)) ∧ v.2.1 3 = 1 ∧ (∀ k, k ≠ 3 → v.2.1 k = σ.1 k) ∧ (∀ a, a ≠ 13 → a ≠ 14 → a ≠ 15 → a ≠ 16 → v.2.2 a = σ.2 a) ∧ MSQ g (VW g S) (gnp g) v.2) := by
  have h10 := hw.2.2.2.1
  intro n
  induction n with
  | zero => intro p τ h1 h2; omega
  | succ n ih =>
    intro p τ h1 h2 hE hQ
    have hg1 := hg.ep hE
    rw [f_M_analyse_92]
    dsimp only
    rw [hg1.2.1]
    by_cases hp : p = gnp g
    · subst hp
      refine ok_then (nI_le (Nat.le_refl _) (by omega)) (ok_lets (fun σ22 e22 => ok_some ?_))
      dsimp only
      exact ⟨rfl, by rw [e22, sf_1], fun k k3 => by rw [e22, sf_1n k3, hE.1], fun a a13 a14 a15 a16 => by rw [e22, sf_2]; exact hE.2 a a13 a14 a15 a16, by rw [e22]; exact hQ⟩
    · refine ok_else (nI_ge (by omega) (by omega)) (ok_bi (m_plan hN hg1 hw hR hy (hM.ep hE) (by omega) hQ) (fun q hq => ?_))
      refine ok_bd (bIn_nI (by omega) (by decide)) (ok_lets (fun i26 e26 => ?_))
      rw [nI_clamp (by omega), (hq.2 p (by omega)).1] at e26
      rw [e26, nI_add, nI_1]
      exact ih (p + 1) q.2 (by omega) (by omega) ⟨hq.1.1.trans hE.1, fun a a13 a14 a15 a16 => (hq.1.2 a a13 a14 a15 a16).trans (hE.2 a a13 a14 a15 a16)⟩ hq.2
/-- of the symbols ranked so far -/
def E8 (σ τ : vS) : Prop := τ.1 = σ.1 ∧ ∀ a, a ≠ 11 → a ≠ 12 → τ.2 a = σ.2 a
theorem m_analyse_56 {N : Nat} (hN : 3000 ≤ N) {g : vA} {σ : vS} (hg : MG g σ) (hw : wfA g) {L S : vL} (hF : FX true g L S) (ha : acy g L) (hU : MU g σ) (hS : MS S σ) : ∀ n s τ, s ≤ gns g → gns g < s + n → E8 σ τ → MR g S s τ → Ok (f_M_analyse_56 N n τ (nI s)) (fun v => (∀ k, k ≠ 0 → k ≠ 3 → k ≠ 4 → k ≠ 5 → k ≠ 6 → v.2.1 k = σ.1 k) ∧ (∀ a, a < 10 ∨ 17 ≤ a → v.2.2 a = σ.2 a) ∧ ((v.2.1 0 = 2 ∧ v.2.1 3 = σ.1 3 ∧ ¬ acy g (ordL g S)) ∨ (v.2.1 0 = σ.1 0 ∧ v.2.1 3 = 1 ∧ v.1 = nI (lnA g (VW g S)) ∧ ANA g S ∧ MR g S (gns g) v.2 ∧ MSQ g (VW g S) (gnp g) v.2))) := by
  have h6 := hw.1
  have h10 := hw.2.2.2.1
  have hR := fx_sac hw hF ha
  intro n
  induction n with
  | zero => intro s τ h1 h2; omega
  | succ n ih =>
    intro s τ h1 h2 hE hM
    have hg1 : MG g τ := hg.stay (by rw [hE.1]) (by rw [hE.1]) (fun a ha => hE.2 a (by omega) (by omega))
    have hS1 : MS S τ := hS.eq (hE.2 9 (by decide) (by decide)) (fun _ _ _ _ _ _ => rfl)
    have hU1 : MU g τ := fun p a b hp ha hb => by rw [hE.2 7 (by decide) (by decide)]; exact hU p a b hp ha hb
    rw [f_M_analyse_56]
    dsimp only
    rw [hg1.1]
    by_cases hs : s = gns g
    · subst hs
      refine ok_then (nI_le (Nat.le_refl _) (by omega)) (ok_bi (m_mixes hN hg1 hw hU1 hS1 hR hM) (fun q hq => ?_))
      obtain ⟨q1, q2⟩ := hq
      rcases q2 with ⟨e, hy, e2⟩ | ⟨e, hy, e2⟩
      · rw [e, if_pos rfl]
        have hg2 : MG g q.2 := hg1.stay (by rw [e2]) (by rw [e2]) (fun a ha => q1 a (by omega))
        have hM2 : MR g S (gns g) q.2 := hM.tr15 (q1 11 (by decide)) (q1 12 (by decide))
        refine ok_mono (m_analyse_92 hN hg2 hw hR hy hM2 N 0 q.2 (by omega) (by omega) ⟨rfl, fun _ _ _ _ _ => rfl⟩ (fun p h9 => absurd h9 (Nat.not_lt_zero _))) (fun v hv => ?_)
        obtain ⟨v1, v2, v3, v4, v5⟩ := hv
        refine ⟨fun k k0 k3 k4 k5 k6 => by rw [v3 k k3, e2, hE.1], fun a ha => by rw [v4 a (by omega) (by omega) (by omega) (by omega), q1 a (by omega), hE.2 a (by omega) (by omega)], Or.inr ⟨by rw [v3 0 (by decide), e2, hE.1], v2, v1, ⟨hR, hy⟩, hM2.tr15 (v4 11 (by decide) (by decide) (by decide) (by decide)) (v4 12 (by decide) (by decide) (by decide) (by decide)), v5⟩⟩
      · rw [e, if_neg (by decide)]
        refine ok_some ⟨fun k k0 k3 k4 k5 k6 => ?_, fun a ha => ?_, Or.inl ⟨?_, ?_, hy⟩⟩
        · show (sf q.2 0 2).1 k = _
          rw [sf_1n k0, e2 k k4 k5 k6, hE.1]
        · show (sf q.2 0 2).2 a = _
          rw [sf_2, q1 a (by omega), hE.2 a (by omega) (by omega)]
        · show (sf q.2 0 2).1 0 = 2
          rw [sf_1]
        · show (sf q.2 0 2).1 3 = _
          rw [sf_1n (by decide), e2 3 (by decide) (by decide) (by decide), hE.1]
    · refine ok_else (nI_ge (by omega) (by omega)) (ok_bi (m_rankAll hN hg1 hw hS1 hR (by omega)) (fun q hq => ?_))
      rw [nI_1]
      refine ih (s + 1) q.2 (by omega) (by omega) ⟨hq.1.trans hE.1, fun a a11 a12 => (hq.2.1 a a11 a12).trans (hE.2 a a11 a12)⟩ (hM.step hw (by omega) hq)
theorem m_analyse {N : Nat} (hN : 3000 ≤ N) {g : vA} {σ : vS} (hg : MG g σ) (hw : wfA g) : Ok (f_M_analyse N σ) (MAN g σ) := by
  have h10 := hw.2.2.2.1
  unfold f_M_analyse
  refine ok_lets (fun σ1 e1 => ok_bi (m_forget (by omega) σ1) (fun q2 h2 => ?_))
  obtain ⟨a1, a2, a3, a4, a5, a6⟩ := h2
  obtain ⟨τ, eτ⟩ : ∃ τ, τ = sf (sf (sf q2.2 4 0) 5 (-1)) 6 (-1) := ⟨_, rfl⟩
  have hb : f_M_blame N q2.2 0 (-1) (-1) = some (1, τ) := by rw [eτ]; rfl
  rw [hb, Option.bind_some]
  dsimp only
  have t1 : ∀ k, k ≠ 0 → k ≠ 3 → k ≠ 4 → k ≠ 5 → k ≠ 6 → k ≠ 8 → k ≠ 9 → τ.1 k = σ.1 k := fun k k0 k3 k4 k5 k6 k8 k9 => by rw [eτ, sf_1n k6, sf_1n k5, sf_1n k4, a4 k k3 k8 k9, e1, sf_1n k0]
  have t2 : ∀ a, a ≠ 22 → τ.2 a = σ.2 a := fun a a22 => by rw [eτ, sf_2, sf_2, sf_2, a6 a a22, e1, sf_2]
  have t0 : τ.1 0 = 0 := by rw [eτ, sf_1n (by decide), sf_1n (by decide), sf_1n (by decide), a4 0 (by decide) (by decide) (by decide), e1, sf_1]
  have t3 : τ.1 3 = 0 := by rw [eτ, sf_1n (by decide), sf_1n (by decide), sf_1n (by decide)]; exact a1
  have t8 : τ.1 8 = -1 := by rw [eτ, sf_1n (by decide), sf_1n (by decide), sf_1n (by decide)]; exact a2
  have t9 : τ.1 9 = -1 := by rw [eτ, sf_1n (by decide), sf_1n (by decide), sf_1n (by decide)]; exact a3
  have t22 : ∀ j, j < 160 → τ.2 22 j = 0 := fun j hj => by rw [eτ, sf_2, sf_2, sf_2]; exact a5 j hj
  have hgτ : MG g τ := hg.stay (t1 1 (by decide) (by decide) (by decide) (by decide) (by decide) (by decide) (by decide)) (t1 2 (by decide) (by decide) (by decide) (by decide) (by decide) (by decide) (by decide)) (fun a ha => t2 a (by omega))
  have f31 : ∀ υ : vS, (∀ k, k ≠ 4 → k ≠ 5 → k ≠ 6 → υ.1 k = τ.1 k) → υ.2 = τ.2 → (gnp g = 0 ∨ ¬ cpl g) → Ok (f_M_analyse_31 N υ) (MAN g σ) := by
    intro υ u1 u2 hc
    refine ok_some ?_
    have e : ∀ k, k ≠ 0 → (sf υ 0 1).1 k = υ.1 k := fun k k0 => sf_1n k0
    show MAN g σ (0, sf υ 0 1)
    refine ⟨hgτ.stay (by rw [e 1 (by decide), u1 1 (by decide) (by decide) (by decide)]) (by rw [e 2 (by decide), u1 2 (by decide) (by decide) (by decide)]) (fun a _ => by rw [sf_2, u2]), by rw [e 8 (by decide), u1 8 (by decide) (by decide) (by decide), t8], by rw [e 9 (by decide), u1 9 (by decide) (by decide) (by decide), t9], fun k k0 k3 k4 k5 k6 k8 k9 => by rw [e k k0, u1 k k4 k5 k6, t1 k k0 k3 k4 k5 k6 k8 k9], fun j hj => by rw [sf_2, u2]; exact t22 j hj, fun a _ a22 => by rw [sf_2, u2, t2 a a22], Or.inl ⟨sf_1, by rw [e 3 (by decide), u1 3 (by decide) (by decide) (by decide), t3], hc⟩⟩
  refine ok_bi (m_lacks hN hgτ hw) (fun q6 h6 => ?_)
  rcases h6 with ⟨e6, hc, e6'⟩ | ⟨e6, hc, e6a, e6b⟩
  · rw [e6, e6', if_pos rfl, hgτ.2.1]
    by_cases hz : gnp g = 0
    · rw [if_pos (by rw [hz]; rfl)]
      exact f31 τ (fun _ _ _ _ => rfl) rfl (Or.inl hz)
    · rw [if_neg (show ¬ nI (gnp g) = (0 : Int32) from fun h9 => hz ((nI_eq (a := gnp g) (b := 0) (by omega) (by decide)).mp h9))]
      unfold f_M_begin
      refine ok_bi (m_begin_2 hN hgτ hw N 0 τ (by omega) (by omega) E1.rf (fun j h9 => absurd h9 (Nat.not_lt_zero _))) (fun q12 h12 => ?_)
      obtain ⟨b1, b2, b3, b4, b5⟩ := h12
      have hg12 : MG g q12.2 := hgτ.stay (by rw [b1]) (by rw [b1]) (fun a ha => b2 a (by omega) (by omega) (by omega))
      refine ok_bi (m_circles hN hg12 hw b4 b5) (fun q14 h14 => ?_)
      obtain ⟨L, S, υ, hF, hE3, hL, hS, hC⟩ := h14
      have hgυ := hg12.e3 hE3
      have uυ : υ.1 = τ.1 := by rw [hE3.1, b1]
      have aυ : ∀ a, a ≠ 7 → a ≠ 8 → a ≠ 9 → υ.2 a = τ.2 a := fun a a7 a8 a9 => by rw [hE3.2 a a8 a9, b2 a a7 a8 a9]
      rcases hC with ⟨e14, hy, e14'⟩ | ⟨e14, hy, e14a, e14b⟩
      · rw [e14, e14', if_pos rfl]
        have hUυ : MU g υ := fun p a b hp ha hb => by rw [hE3.2 7 (by decide) (by decide)]; exact b3 p a b hp ha hb
        refine ok_mono (m_analyse_56 hN hgυ hw hF hy hUυ hS N 0 υ (by omega) (by have := hw.1; omega) ⟨rfl, fun _ _ _ => rfl⟩ (fun s h9 => absurd h9 (Nat.not_lt_zero _))) (fun v hv => ?_)
        obtain ⟨v1, v2, v3⟩ := hv
        have kk : ∀ k, k ≠ 0 → k ≠ 3 → k ≠ 4 → k ≠ 5 → k ≠ 6 → v.2.1 k = τ.1 k := fun k k0 k3 k4 k5 k6 => by rw [v1 k k0 k3 k4 k5 k6, uυ]
        refine ⟨hgυ.stay (v1 1 (by decide) (by decide) (by decide) (by decide) (by decide)) (v1 2 (by decide) (by decide) (by decide) (by decide) (by decide)) (fun a ha => v2 a (by omega)), by rw [kk 8 (by decide) (by decide) (by decide) (by decide) (by decide), t8], by rw [kk 9 (by decide) (by decide) (by decide) (by decide) (by decide), t9], fun k k0 k3 k4 k5 k6 k8 k9 => by rw [kk k k0 k3 k4 k5 k6, t1 k k0 k3 k4 k5 k6 k8 k9], fun j hj => by rw [v2 22 (by decide), aυ 22 (by decide) (by decide) (by decide)]; exact t22 j hj, fun a ha a22 => by rw [v2 a (Or.inr ha), aυ a (by omega) (by omega) (by omega), t2 a a22], Or.inr ⟨hz, hc, L, S, hF, ?_⟩⟩
        rcases v3 with ⟨c1, c2, c3⟩ | ⟨c1, c2, c3, c4, c5, c6⟩
        · exact Or.inr (Or.inl ⟨hy, c1, by rw [c2, uυ, t3], c3⟩)
        · exact Or.inr (Or.inr ⟨hy, by rw [c1, uυ, t0], c2, c3, c4, c5, c6⟩)
      · rw [e14, if_neg (by decide)]
        have kk : ∀ k, k ≠ 0 → k ≠ 4 → k ≠ 5 → k ≠ 6 → (sf q14.2 0 2).1 k = τ.1 k := fun k k0 k4 k5 k6 => by rw [sf_1n k0, e14b k k4 k5 k6, uυ]
        have aa : ∀ a, (sf q14.2 0 2).2 a = υ.2 a := fun a => by rw [sf_2, e14a]
        refine ok_some ?_
        show MAN g σ (0, sf q14.2 0 2)
        exact ⟨hgυ.stay (by rw [kk 1 (by decide) (by decide) (by decide) (by decide), uυ]) (by rw [kk 2 (by decide) (by decide) (by decide) (by decide), uυ]) (fun a _ => aa a), by rw [kk 8 (by decide) (by decide) (by decide) (by decide), t8], by rw [kk 9 (by decide) (by decide) (by decide) (by decide), t9], fun k k0 k3 k4 k5 k6 k8 k9 => by rw [kk k k0 k4 k5 k6, t1 k k0 k3 k4 k5 k6 k8 k9], fun j hj => by rw [aa, aυ 22 (by decide) (by decide) (by decide)]; exact t22 j hj, fun a ha a22 => by rw [aa, aυ a (by omega) (by omega) (by omega), t2 a a22], Or.inr ⟨hz, hc, L, S, hF, Or.inl ⟨sf_1, by rw [kk 3 (by decide) (by decide) (by decide) (by decide), t3], hy⟩⟩⟩
  · rw [e6, if_neg (by decide)]
    exact f31 q6.2 e6b e6a (Or.inr hc)
