/-! analyse: the class. -/
theorem x_leastOf {N : Nat} (z : Int32) : ∃ r, f_V_leastOf N z = some r ∧ (r = -1 ↔ z = 0) := by
  unfold f_V_leastOf
  by_cases h : z = 0
  · exact ⟨-1, by rw [if_pos h], fun _ => h, fun _ => rfl⟩
  · rw [if_neg h]
    obtain ⟨w, hw⟩ : ∃ w, f_I_bitCount N ((z &&& (-z)) - 1) = some (w &&& 63) := ⟨_, rfl⟩
    obtain ⟨j, hj, e⟩ := pk_andE w (m := 63) 6 (by decide)
    rw [hw, Option.bind_some]
    refine ⟨_, rfl, fun h9 => ?_, fun h9 => absurd h9 h⟩
    rw [e] at h9
    exact absurd h9 (nI_nm1 (by omega))
theorem x_isComplete {N : Nat} (hN : 161 ≤ N) {g : vA} {σ : vS} (hg : XG g σ) (hw : wfA g) : Ok (f_A_isComplete N σ) (fun v => (v.1 = 1 ∧ cpl g ∧ v.2 = σ) ∨ (v.1 = 0 ∧ ¬ cpl g ∧ v.2.2 = σ.2 ∧ v.2.1 3 = 1 ∧ ∀ k, k ≠ 3 → k ≠ 4 → k ≠ 5 → v.2.1 k = σ.1 k)) := by
  have h10 := hw.2.2.2.1
  have l2 : ∀ n p, p ≤ gnp g → gnp g < p + n → (∀ p' o, p' < p → o < 16 → dfn g p' o = true → (grl g p' o).isSome = true) → Ok (f_A_isComplete_2 N n σ (nI p)) (fun v => (v.1 = 1 ∧ cpl g ∧ v.2 = σ) ∨ (v.1 = 0 ∧ ¬ cpl g ∧ v.2.2 = σ.2 ∧ v.2.1 3 = 1 ∧ ∀ k, k ≠ 3 → k ≠ 4 → k ≠ 5 → v.2.1 k = σ.1 k)) := by
    intro n
    induction n with
    | zero => intro p h1 h2; omega
    | succ n ih =>
      intro p h1 h2 h3
      rw [f_A_isComplete_2]
      dsimp only
      rw [hg.2.1]
      by_cases hp : p = gnp g
      · subst hp
        exact ok_then (nI_le (Nat.le_refl _) (by omega)) (ok_some (Or.inl ⟨rfl, h3, rfl⟩))
      · refine ok_else (nI_ge (by omega) (by omega)) ?_
        obtain ⟨r, hr, hrc⟩ := x_leastOf (N := N) (σ.2 5 p &&& (σ.2 6 p ^^^ (-1)))
        have hl : f_G_leastWithoutRule N σ (nI p) = some (r, σ) := by
          unfold f_G_leastWithoutRule vlet
          dsimp only
          rw [if_pos (bIn_nI (by omega) (by decide)), if_pos (bIn_nI (by omega) (by decide)), nI_clamp (by omega), hr, Option.bind_some]
        have hbit : ∀ i, i < 32 → bt (σ.2 5 p &&& (σ.2 6 p ^^^ (-1))) i = (dfn g p i && !(decide (i < 16) && (grl g p i).isSome)) := fun i hi => by
          rw [bt_and, bt_not hi, hg.2.2.2.2.2.2.2.1 p i (by omega) hi, hg.2.2.2.2.2.2.2.2.1 p i (by omega) hi]
        rw [hl, Option.bind_some]
        dsimp only
        by_cases e : r = -1
        · rw [if_pos e, nI_1]
          refine ih (p + 1) (by omega) (by omega) (fun p' o hp' ho hd => ?_)
          by_cases e2 : p' = p
          · rw [e2] at hd ⊢
            have h9 := hbit o (by omega)
            rw [hrc.mp e, bt_0, hd, decide_eq_true ho, Bool.true_and, Bool.true_and] at h9
            cases h8 : (grl g p o).isSome
            · rw [h8] at h9; cases h9
            · rfl
          · exact h3 p' o (by omega) ho hd
        · rw [if_neg e]
          refine ok_some (Or.inr ⟨rfl, fun h9 => e (hrc.mpr (bt_ext (fun i hi => ?_))), rfl, ?_, fun k k3 k4 k5 => ?_⟩)
          · rw [hbit i hi, bt_0]
            cases hd : dfn g p i
            · rfl
            · have h16 := (occ_lt hw (show p < gnp g by omega) (dfn_occ hd)).1
              rw [h9 p i (by omega) h16 hd, decide_eq_true h16]; rfl
          · show (sf (sf (sf σ 3 1) 4 (nI p)) 5 r).1 3 = 1
            rw [sf_1n (by decide), sf_1n (by decide), sf_1]
          · show (sf (sf (sf σ 3 1) 4 (nI p)) 5 r).1 k = σ.1 k
            rw [sf_1n k5, sf_1n k4, sf_1n k3]
  unfold f_A_isComplete
  exact l2 N 0 (by omega) (by omega) (fun p' o h9 => absurd h9 (Nat.not_lt_zero _))
theorem x_lengthOfAll {N : Nat} (hN : 161 ≤ N) {g : vA} {σ : vS} (hg : XG g σ) (hw : wfA g) {V : vV} (hQ : XQ g V (gnp g) σ) : f_Q_lengthOfAll N σ = some (nI (lnA g V), σ) := by
  have h10 := hw.2.2.2.1
  have l4 : ∀ n p, p ≤ gnp g → gnp g < p + n → f_Q_lengthOfAll_4 N n σ (nI (smQ (lnP g V) p)) (nI p) = some (nI (lnA g V), σ) := by
    intro n
    induction n with
    | zero => intro p h1 h2; omega
    | succ n ih =>
      intro p h1 h2
      rw [f_Q_lengthOfAll_4]
      dsimp only
      rw [hg.2.1]
      by_cases hp : p = gnp g
      · subst hp
        rw [if_pos (nI_le (Nat.le_refl _) (by omega))]
        rfl
      · rw [if_neg (nI_ge (by omega) (by omega)), if_pos (bIn_nI (by omega) (by decide))]
        unfold vlet
        dsimp only
        rw [nI_clamp (by omega), (hQ p (by omega)).1, nI_add, nI_1]
        exact ih (p + 1) (by omega) (by omega)
  unfold f_Q_lengthOfAll
  exact l4 N 0 (by omega) (by omega)
/-- what the class's analyse leaves -/
def XAN (g : vA) (σ : vS) (v : (Nat × Int32) × vS) : Prop := XG g v.2 ∧ v.2.1 9 = 0 ∧ (∀ k, k ≠ 2 → k ≠ 3 → k ≠ 4 → k ≠ 5 → k ≠ 6 → k ≠ 7 → k ≠ 9 → v.2.1 k = σ.1 k) ∧ (∀ a, 19 ≤ a → v.2.2 a = σ.2 a) ∧ ((v.1.1 = 2 ∧ v.2.1 2 = 0 ∧ (gnp g = 0 ∨ ¬ cpl g)) ∨ (gnp g ≠ 0 ∧ cpl g ∧ ∃ L S, FX false g L S ∧ ((v.1.1 = 4 ∧ v.2.1 2 = 0 ∧ ¬ acy g L) ∨ (acy g L ∧ v.1.1 = 4 ∧ v.2.1 2 = 0 ∧ ¬ acy g (ordL g S)) ∨ (acy g L ∧ v.1 = (0, nI (lnA g (VW g S))) ∧ v.2.1 2 = 1 ∧ ANA g S ∧ XR g S (gns g) v.2 ∧ XQ g (VW g S) (gnp g) v.2))))
theorem x_analyse {N : Nat} (hN : 161 ≤ N) {g : vA} {σ : vS} (hg : XG g σ) (hw : wfA g) : Ok (f_V_analyse N σ) (XAN g σ) := by
  have h10 := hw.2.2.2.1
  unfold f_V_analyse f_A_make
  obtain ⟨τ, eτ⟩ : ∃ τ, τ = sf (sf (sf (sf σ 9 0) 3 0) 4 (-1)) 5 (-1) := ⟨_, rfl⟩
  have he : f_U_end N σ = some (0, sf σ 9 0) := rfl
  have hf : f_A_forgetFault N (sf σ 9 0) = some (0, τ) := by rw [eτ]; rfl
  rw [he, Option.bind_some]
  dsimp only
  rw [hf, Option.bind_some]
  dsimp only
  have t1 : ∀ k, k ≠ 3 → k ≠ 4 → k ≠ 5 → k ≠ 9 → τ.1 k = σ.1 k := fun k k3 k4 k5 k9 => by rw [eτ, sf_1n k5, sf_1n k4, sf_1n k3, sf_1n k9]
  have t9 : τ.1 9 = 0 := by rw [eτ, sf_1n (by decide), sf_1n (by decide), sf_1n (by decide), sf_1]
  have t3 : τ.1 3 = 0 := by rw [eτ, sf_1n (by decide), sf_1n (by decide), sf_1]
  have t2 : τ.2 = σ.2 := by rw [eτ]; rfl
  have hgτ : XG g τ := hg.stay (t1 0 (by decide) (by decide) (by decide) (by decide)) (t1 1 (by decide) (by decide) (by decide) (by decide)) (fun a _ => by rw [t2])
  obtain ⟨K, hK⟩ : ∃ K : Int32 × vS → Option ((Nat × Int32) × vS), K = (fun q3 => if q3.2.1 3 = 2 then f_V_analyse_36 N q3.2 else (if q3.2.1 3 = 3 then f_V_analyse_36 N q3.2 else (if q3.2.1 2 = 0 then some ((2, 0), q3.2) else ((f_Q_lengthOfAll N q3.2).bind (fun q8 => some ((0, q8.1), q8.2)))))) := ⟨_, rfl⟩
  rw [← hK]
  have f40 : ∀ υ : vS, f_A_make_40 N υ = some (0, sf υ 2 0) := fun υ => by
    unfold f_A_make_40 vlet
    dsimp only
    rw [if_pos sf_1]
  -- no analysis: faultKind decides
  have no2 : ∀ υ : vS, XG g υ → υ.1 9 = 0 → (∀ k, k ≠ 2 → k ≠ 3 → k ≠ 4 → k ≠ 5 → k ≠ 6 → k ≠ 7 → k ≠ 9 → υ.1 k = σ.1 k) → (∀ a, 19 ≤ a → υ.2 a = σ.2 a) → υ.1 3 ≠ 2 → υ.1 3 ≠ 3 → (gnp g = 0 ∨ ¬ cpl g) → Ok ((f_A_make_40 N υ).bind K) (XAN g σ) := by
    intro υ hgu u9 uk ua u2 u3 hc
    have e : ∀ k, k ≠ 2 → (sf υ 2 0).1 k = υ.1 k := fun k k2 => sf_1n k2
    rw [f40, Option.bind_some, hK]
    dsimp only
    rw [e 3 (by decide), if_neg u2, if_neg u3, if_pos sf_1]
    refine ok_some ⟨hgu.stay (e 0 (by decide)) (e 1 (by decide)) (fun _ _ => rfl), by rw [e 9 (by decide)]; exact u9, fun k k2 k3 k4 k5 k6 k7 k9 => by rw [e k k2]; exact uk k k2 k3 k4 k5 k6 k7 k9, ua, Or.inl ⟨rfl, sf_1, hc⟩⟩
  have no4 : ∀ υ : vS, XG g υ → υ.1 9 = 0 → (∀ k, k ≠ 2 → k ≠ 3 → k ≠ 4 → k ≠ 5 → k ≠ 6 → k ≠ 7 → k ≠ 9 → υ.1 k = σ.1 k) → (∀ a, 19 ≤ a → υ.2 a = σ.2 a) → (υ.1 3 = 2 ∨ υ.1 3 = 3) → gnp g ≠ 0 → cpl g → (∃ L S, FX false g L S ∧ (¬ acy g L ∨ (acy g L ∧ ¬ acy g (ordL g S)))) → Ok ((f_A_make_40 N υ).bind K) (XAN g σ) := by
    intro υ hgu u9 uk ua u23 hz hc hL
    obtain ⟨L, S, hF, hL⟩ := hL
    have e : ∀ k, k ≠ 2 → (sf υ 2 0).1 k = υ.1 k := fun k k2 => sf_1n k2
    have fin : Ok (f_V_analyse_36 N (sf υ 2 0)) (XAN g σ) := by
      refine ok_some ⟨hgu.stay (e 0 (by decide)) (e 1 (by decide)) (fun _ _ => rfl), by rw [e 9 (by decide)]; exact u9, fun k k2 k3 k4 k5 k6 k7 k9 => by rw [e k k2]; exact uk k k2 k3 k4 k5 k6 k7 k9, ua, Or.inr ⟨hz, hc, L, S, hF, ?_⟩⟩
      rcases hL with h9 | ⟨h8, h9⟩
      · exact Or.inl ⟨rfl, sf_1, h9⟩
      · exact Or.inr (Or.inl ⟨h8, rfl, sf_1, h9⟩)
    rw [f40, Option.bind_some, hK]
    dsimp only
    rw [e 3 (by decide)]
    rcases u23 with u | u
    · rw [if_pos u]; exact fin
    · rw [u, if_neg (by decide), if_pos rfl]; exact fin
  rw [hgτ.2.1]
  by_cases hz : gnp g = 0
  · rw [if_pos (show nI (gnp g) ≤ (0 : Int32) by rw [hz]; decide)]
    exact no2 τ hgτ t9 (fun k _ k3 k4 k5 _ _ k9 => t1 k k3 k4 k5 k9) (fun a _ => by rw [t2]) (by rw [t3]; decide) (by rw [t3]; decide) (Or.inl hz)
  · rw [if_neg (show ¬ nI (gnp g) ≤ (0 : Int32) from nI_ge (a := 0) (b := gnp g) (by omega) (by omega)), Option.bind_assoc]
    refine ok_bi (x_isComplete hN hgτ hw) (fun q8 h8 => ?_)
    rcases h8 with ⟨e8, hc, e8'⟩ | ⟨e8, hc, e8a, e8b, e8c⟩
    · rw [e8, e8', if_neg (by decide), Option.bind_assoc]
      unfold f_A_isWithoutCircle
      rw [Option.bind_assoc]
      refine ok_bi (x_spread hN hgτ hw) (fun q9 h9 => ?_)
      obtain ⟨hE9, L, S, hF, hL, hS⟩ := h9
      have hg9 := hgτ.e2 hE9
      rw [Option.bind_assoc]
      refine ok_bi (x_none hN hw hg9 hL) (fun q10 h10' => ?_)
      rw [Option.bind_some]
      dsimp only
      have k9 : ∀ k, k ≠ 3 → k ≠ 4 → k ≠ 5 → k ≠ 9 → q9.2.1 k = σ.1 k := fun k k3 k4 k5 k9 => by rw [hE9.1, t1 k k3 k4 k5 k9]
      have a9 : ∀ a, a ≠ 11 → a ≠ 12 → q9.2.2 a = σ.2 a := fun a a11 a12 => by rw [hE9.2 a a11 a12, t2]
      rcases h10' with ⟨e10, hy, e10'⟩ | ⟨e10, hy, e10a, e10b, e10c⟩
      · rw [e10, e10', if_neg (by decide), Option.bind_assoc]
        refine ok_bi (x_isOrdered hN hg9 hw hF hy hL hS) (fun q14 h14 => ?_)
        obtain ⟨o1, o2, o3⟩ := h14
        have a14 : ∀ a, a ≠ 11 → a ≠ 12 → a ≠ 13 → a ≠ 14 → a ≠ 15 → q14.2.2 a = σ.2 a := fun a a11 a12 a13 a14 a15 => by rw [o1 a a11 a12 a13 a14 a15, a9 a a11 a12]
        rcases o3 with ⟨e14, hy2, e14'⟩ | ⟨e14, hy2, e14a, e14b⟩
        · rw [e14, if_neg (by decide)]
          obtain ⟨υ, eυ⟩ : ∃ υ, υ = sf q14.2 2 1 := ⟨_, rfl⟩
          have k14 : ∀ k, k ≠ 2 → k ≠ 3 → k ≠ 4 → k ≠ 5 → k ≠ 9 → υ.1 k = σ.1 k := fun k k2 k3 k4 k5 k9' => by rw [eυ, sf_1n k2, e14', k9 k k3 k4 k5 k9']
          have aυ : ∀ a, υ.2 a = q14.2.2 a := fun a => by rw [eυ, sf_2]
          have hgυ : XG g υ := hg9.stay (by rw [eυ, sf_1n (by decide), e14']) (by rw [eυ, sf_1n (by decide), e14']) (fun a ha => by rw [aυ, o1 a (by omega) (by omega) (by omega) (by omega) (by omega)])
          have hR := fx_sac hw hF hy
          have hRυ : XR g S (gns g) υ := o2.eq (aυ 13) (aυ 14) (aυ 15)
          unfold vlet
          dsimp only
          rw [← eυ, if_neg (by rw [eυ, sf_1]; decide), Option.bind_assoc]
          refine ok_bi (x_write hN hgυ hw (hv_of hw hR) (ho_of hw hR hy2) (XV_of hw hRυ)) (fun q19 h19 => ?_)
          obtain ⟨w1, w2⟩ := h19
          have hg19 := hgυ.fw w1
          rw [Option.bind_some, hK]
          dsimp only
          have u3 : q19.2.1 3 = 0 := by rw [w1.1 3 (by decide) (by decide), eυ, sf_1n (by decide), e14', hE9.1, t3]
          have u2 : q19.2.1 2 = 1 := by rw [w1.1 2 (by decide) (by decide), eυ, sf_1]
          rw [u3, u2, if_neg (by decide), if_neg (by decide), if_neg (by decide), x_lengthOfAll hN hg19 hw w2, Option.bind_some]
          refine ok_some ⟨hg19, by show q19.2.1 9 = 0; rw [w1.1 9 (by decide) (by decide), eυ, sf_1n (by decide), e14', hE9.1, t9], fun k k2 k3 k4 k5 k6 k7 k9' => by show q19.2.1 k = σ.1 k; rw [w1.1 k k6 k7, k14 k k2 k3 k4 k5 k9'], fun a ha => by show q19.2.2 a = σ.2 a; rw [w1.2 a (by omega) (by omega) (by omega), aυ, a14 a (by omega) (by omega) (by omega) (by omega) (by omega)], Or.inr ⟨hz, hc, L, S, hF, Or.inr (Or.inr ⟨hy, rfl, u2, ⟨hR, hy2⟩, hRυ.eq (w1.2 13 (by decide) (by decide) (by decide)) (w1.2 14 (by decide) (by decide) (by decide)) (w1.2 15 (by decide) (by decide) (by decide)), w2⟩)⟩⟩
        · rw [e14, if_pos rfl]
          exact no4 q14.2 (hg9.stay (e14b 0 (by decide) (by decide) (by decide)) (e14b 1 (by decide) (by decide) (by decide)) (fun a ha => o1 a (by omega) (by omega) (by omega) (by omega) (by omega))) (by rw [e14b 9 (by decide) (by decide) (by decide), hE9.1, t9]) (fun k k2 k3 k4 k5 k6 k7 k9' => by rw [e14b k k3 k4 k5, k9 k k3 k4 k5 k9']) (fun a ha => a14 a (by omega) (by omega) (by omega) (by omega) (by omega)) (Or.inr e14a) hz hc ⟨L, S, hF, Or.inr ⟨hy, hy2⟩⟩
      · rw [e10, if_pos (by decide)]
        exact no4 q10.2 (hg9.stay (e10c 0 (by decide) (by decide) (by decide)) (e10c 1 (by decide) (by decide) (by decide)) (fun a _ => by rw [e10a])) (by rw [e10c 9 (by decide) (by decide) (by decide), hE9.1, t9]) (fun k k2 k3 k4 k5 k6 k7 k9' => by rw [e10c k k3 k4 k5, k9 k k3 k4 k5 k9']) (fun a ha => by rw [e10a]; exact a9 a (by omega) (by omega)) (Or.inl e10b) hz hc ⟨L, S, hF, Or.inl hy⟩
    · rw [e8, if_pos rfl]
      exact no2 q8.2 (hgτ.stay (e8c 0 (by decide) (by decide) (by decide)) (e8c 1 (by decide) (by decide) (by decide)) (fun a _ => by rw [e8a])) (by rw [e8c 9 (by decide) (by decide) (by decide), t9]) (fun k _ k3 k4 k5 _ _ k9 => by rw [e8c k k3 k4 k5, t1 k k3 k4 k5 k9]) (fun a _ => by rw [e8a, t2]) (by rw [e8b]; decide) (by rw [e8b]; decide) (Or.inr hc)
/-! Both together. -/
/-- the analysis that both hold -/
def AN (g : vA) (S : vL) (σx σm : vS) : Prop := cpl g ∧ ANA g S ∧ XR g S (gns g) σx ∧ XQ g (VW g S) (gnp g) σx ∧ MR g S (gns g) σm ∧ MSQ g (VW g S) (gnp g) σm
theorem MR.cong {g : vA} (hw : wfA g) {S S' : vL} (h : ∀ s a b, s < gns g → a < 4 → b < 4 → S s a b = S' s a b) {τ : vS} (hM : MR g S' (gns g) τ) : MR g S (gns g) τ := fun s hs => by
  have h4 := hw.2.1 s hs
  obtain ⟨m1, m2⟩ := hM s hs
  exact ⟨fun a ha => by rw [rkS_cong h hs (by omega)]; exact m1 a ha, by rw [vsS_cong h hs]; exact m2⟩
theorem analyse_both {g : vA} (hw : wfA g) {σx σm : vS} {v : (Nat × Int32) × vS} {w : Int32 × vS} (hx : XAN g σx v) (hm : MAN g σm w) : (v.1.1 = 2 ∧ w.2.1 0 = 1 ∧ v.2.1 2 = 0 ∧ w.2.1 3 = 0) ∨ (v.1.1 = 4 ∧ w.2.1 0 = 2 ∧ v.2.1 2 = 0 ∧ w.2.1 3 = 0) ∨ (v.1 = (0, w.1) ∧ w.2.1 0 = 0 ∧ v.2.1 2 = 1 ∧ w.2.1 3 = 1 ∧ ∃ S, AN g S v.2 w.2) := by
  obtain ⟨_, _, _, _, hx⟩ := hx
  obtain ⟨_, _, _, _, _, _, hm⟩ := hm
  rcases hx with ⟨x1, x2, x3⟩ | ⟨x1, x2, L, S, hF, hx⟩
  · rcases hm with ⟨m1, m2, m3⟩ | ⟨m1, m2, _⟩
    · exact Or.inl ⟨x1, m1, x2, m2⟩
    · rcases x3 with x3 | x3
      · exact absurd x3 m1
      · exact absurd m2 x3
  · rcases hm with ⟨m1, m2, m3⟩ | ⟨m1, m2, L', S', hF', hm⟩
    · rcases m3 with m3 | m3
      · exact absurd m3 x1
      · exact absurd x2 m3
    · have ha := fx_acy hw hF hF'
      have ho : acy g L → (acy g (ordL g S) ↔ acy g (ordL g S')) := fun hy => by
        have hs := (fx_same hw hF hF' hy).2
        exact ⟨fun h p o hp h16 => by rw [← ordL_cong hw hs hp h16 h16]; exact h p o hp h16, fun h p o hp h16 => by rw [ordL_cong hw hs hp h16 h16]; exact h p o hp h16⟩
      rcases hx with ⟨x3, x4, x5⟩ | ⟨x3, x4, x5, x6⟩ | ⟨x3, x4, x5, x6, x7, x8⟩
      · rcases hm with ⟨m3, m4, m5⟩ | ⟨m3, _⟩ | ⟨m3, _⟩
        · exact Or.inr (Or.inl ⟨x3, m3, x4, m4⟩)
        · exact absurd (ha.mpr m3) x5
        · exact absurd (ha.mpr m3) x5
      · rcases hm with ⟨m3, m4, m5⟩ | ⟨m3, m4, m5, m6⟩ | ⟨m3, m4, m5, m6, m7, _⟩
        · exact absurd (ha.mp x3) m5
        · exact Or.inr (Or.inl ⟨x4, m4, x5, m5⟩)
        · exact absurd ((ho x3).mpr m7.2) x6
      · rcases hm with ⟨m3, m4, m5⟩ | ⟨m3, m4, m5, m6⟩ | ⟨m3, m4, m5, m6, m7, m8, m9⟩
        · exact absurd (ha.mp x3) m5
        · exact absurd ((ho x3).mp x6.2) m6
        · have hs := (fx_same hw hF hF' x3).2
          have hV : VW g S = VW g S' := VW_cong hs
          refine Or.inr (Or.inr ⟨by rw [x4, m6, hV], m4, x5, m5, S, x2, x6, x7, x8, m8.cong hw hs, by rw [hV]; exact m9⟩)
