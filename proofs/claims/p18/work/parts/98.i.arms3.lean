/-! start, on both sides. -/
theorem scpy_2 {σ : vS} {a b dp n j : Nat} : (scpy σ a b dp n).2 b j = if dp ≤ j ∧ j < dp + n then σ.2 a (j - dp) else σ.2 b j := by
  show (if b = b then va_cpy (σ.2 a) (σ.2 b) 0 dp n else σ.2 b) j = _
  rw [if_pos rfl]
  unfold va_cpy
  rw [Nat.zero_add]
theorem x_begin {N : Nat} {g : vA} {t : vT} {σ : vS} (hg : XG g σ) (hw : wfA g) (hT : wfT g t) (hX : XT t σ) {n : Nat} (hn : n < tN t) : Ok (f_U_begin N σ (nI n)) (fun v => v.2.1 9 = 1 ∧ v.2.1 10 = nI n ∧ v.2.1 11 = nI n ∧ (∀ k, k ≠ 9 → k ≠ 10 → k ≠ 11 → v.2.1 k = σ.1 k) ∧ (∀ a, a < 24 → v.2.2 a = σ.2 a) ∧ (∀ j, v.2.2 24 j = if 4 * n ≤ j ∧ j < 4 * n + 4 then σ.2 23 (j - 4 * n) else σ.2 24 j) ∧ (∀ j, j ≠ n → v.2.2 25 j = 0) ∧ (∀ a, a < 32 → bt (v.2.2 25 n) a = gih g (gsy g (tPr t n) 0) a) ∧ ∀ j, v.2.2 26 j = 0) := by
  have h40 := hT.1
  have h6 := hw.1
  have hp := hT.2.1 n hn
  have h5 := hw.2.2.2.2.1 _ hp
  have hs := hw.2.2.2.2.2.1 _ 0 hp (by omega)
  unfold f_U_begin
  refine ok_lets (fun σ1 e1 => ok_lets (fun σ2 e2 => ?_))
  rw [show nI n * (4 : Int32) = nI (n * 4) from pk_mul n 4]
  refine ok_bd (bIn_nI (by omega) (by decide)) (ok_lets (fun σ4 e4 => ?_))
  rw [nI_clamp (by omega)] at e4
  have k4 : σ4.1 = σ.1 := by rw [e4, e2, e1]; rfl
  have a4 : ∀ a, a ≠ 24 → a ≠ 25 → a ≠ 26 → σ4.2 a = σ.2 a := fun a b1 b2 b3 => by rw [e4, scpy_2a b1, e2, sfill_2a b3, e1, sfill_2a b2]
  have c24 : ∀ j, σ4.2 24 j = if 4 * n ≤ j ∧ j < 4 * n + 4 then σ.2 23 (j - 4 * n) else σ.2 24 j := fun j => by
    rw [e4, scpy_2, e2, sfill_2a (by decide), sfill_2a (by decide), e1, sfill_2a (by decide), sfill_2a (by decide), show n * 4 = 4 * n by omega]
  have c25 : ∀ j, σ4.2 25 j = 0 := fun j => by rw [e4, scpy_2a (by decide), e2, sfill_2a (by decide), e1, sfill_2]
  have c26 : ∀ j, σ4.2 26 j = 0 := fun j => by rw [e4, scpy_2a (by decide), e2, sfill_2]
  have hg4 : XG g σ4 := hg.stay (by rw [k4]) (by rw [k4]) (fun a ha => a4 a (by omega) (by omega) (by omega))
  have hX4 : XT t σ4 := hX.stay (by rw [k4]) (fun a _ ha => a4 a (by omega) (by omega) (by omega))
  rw [x_symbolOf hg4 hw hT hX4 hn, Option.bind_some]
  dsimp only
  refine ok_bd (bIn_nI (by omega) (by decide)) (ok_lets (fun i8 e8 => ok_bd (bIn_nI (by omega) (by decide)) (ok_lets (fun σ10 e10 => ok_lets (fun σ11 e11 => ok_lets (fun σ12 e12 => ok_lets (fun σ13 e13 => ok_some ?_)))))))
  rw [nI_clamp (by omega)] at e8 e10
  have a13 : ∀ a, σ13.2 a = σ10.2 a := fun a => by rw [e13, e12, e11]; rfl
  dsimp only
  refine ⟨by rw [e13, sf_1], by rw [e13, sf_1n (by decide), e12, sf_1n (by decide), e11, sf_1], by rw [e13, sf_1n (by decide), e12, sf_1], fun k k9 k10 k11 => by rw [e13, sf_1n k9, e12, sf_1n k11, e11, sf_1n k10, e10, sa_1, k4], fun a ha => by rw [a13, e10, sa_2a (by omega), a4 a (by omega) (by omega) (by omega)], fun j => by rw [a13, e10, sa_2a (by decide), c24], fun j hj => by rw [a13, e10, sa_2n hj, c25], fun a ha => ?_, fun j => by rw [a13, e10, sa_2a (by decide), c26]⟩
  rw [a13, e10, sa_2, e8, hg4.2.2.2.1 _ a hs ha]
theorem m_start_ok {N : Nat} (hN : 3000 ≤ N) {g : vA} {t : vT} {σ : vS} (hg : MG g σ) (hw : wfA g) (hT : wfT g t) (hX : MT t σ) {n : Nat} (hn : n < tN t) : Ok (f_M_start_25 N σ (nI n) 0) (fun v => v.2.1 0 = 0 ∧ v.2.1 8 = nI n ∧ v.2.1 9 = nI n ∧ (∀ k, k ≠ 0 → k ≠ 8 → k ≠ 9 → v.2.1 k = σ.1 k) ∧ (∀ a, a < 21 ∨ a = 24 → v.2.2 a = σ.2 a) ∧ (∀ k, k < tN t → v.2.2 21 k = 0) ∧ (∀ j, j < 160 → v.2.2 22 j = if 4 * n ≤ j ∧ j < 4 * n + 4 then b01 (gih g (gsy g (tPr t n) 0) (j - 4 * n)) else 0) ∧ ∀ j, v.2.2 23 j = if 4 * n ≤ j ∧ j < 4 * n + 4 then σ.2 24 (j - 4 * n) else σ.2 23 j) := by
  have h40 := hT.1
  have h6 := hw.1
  have h10 := hw.2.2.2.1
  have hp := hT.2.1 n hn
  have h5 := hw.2.2.2.2.1 _ hp
  have hs := hw.2.2.2.2.2.1 _ 0 hp (by omega)
  unfold f_M_start_25
  refine ok_lets (fun σ1 e1 => ok_then (by rw [e1, sf_1]; decide) (ok_bi (m_endRun (by omega) σ1) (fun q hq => ?_)))
  obtain ⟨q1, q2, q3, q4, q5⟩ := hq
  have kq : ∀ k, k ≠ 0 → k ≠ 8 → k ≠ 9 → q.2.1 k = σ.1 k := fun k k0 k8 k9 => by rw [q3 k k8 k9, e1, sf_1n k0]
  have zq : q.2.1 0 = 0 := by rw [q3 0 (by decide) (by decide), e1, sf_1]
  have aq : ∀ a, a ≠ 22 → q.2.2 a = σ.2 a := fun a a22 => by rw [q5 a a22, e1, sf_2]
  have l79 : ∀ τ0 : vS, τ0.1 = q.2.1 → (∀ a, a ≠ 21 → τ0.2 a = q.2.2 a) → (∀ k, k < tN t → τ0.2 21 k = 0) → ∀ m i τ, i ≤ 4 → 4 < i + m → τ.1 = τ0.1 → (∀ a, a ≠ 22 → a ≠ 23 → τ.2 a = τ0.2 a) → (∀ j, τ.2 22 j = if 4 * n ≤ j ∧ j < 4 * n + i then b01 (gih g (gsy g (tPr t n) 0) (j - 4 * n)) else q.2.2 22 j) → (∀ j, τ.2 23 j = if 4 * n ≤ j ∧ j < 4 * n + i then σ.2 24 (j - 4 * n) else σ.2 23 j) → Ok (f_M_start_79 N m τ (nI n) (nI (gsy g (tPr t n) 0)) (nI i)) (fun v => v.2.1 0 = 0 ∧ v.2.1 8 = nI n ∧ v.2.1 9 = nI n ∧ (∀ k, k ≠ 0 → k ≠ 8 → k ≠ 9 → v.2.1 k = σ.1 k) ∧ (∀ a, a < 21 ∨ a = 24 → v.2.2 a = σ.2 a) ∧ (∀ k, k < tN t → v.2.2 21 k = 0) ∧ (∀ j, j < 160 → v.2.2 22 j = if 4 * n ≤ j ∧ j < 4 * n + 4 then b01 (gih g (gsy g (tPr t n) 0) (j - 4 * n)) else 0) ∧ ∀ j, v.2.2 23 j = if 4 * n ≤ j ∧ j < 4 * n + 4 then σ.2 24 (j - 4 * n) else σ.2 23 j) := by
    intro τ0 u1 u2 u3 m
    induction m with
    | zero => intro i τ h1 h2; omega
    | succ m ih =>
      intro i τ h1 h2 t1 t2 t3 t4
      rw [f_M_start_79]
      dsimp only
      by_cases hi : i = 4
      · subst hi
        refine ok_then (show (4 : Int32) ≤ nI 4 from nI_le (a := 4) (b := 4) (by decide) (by decide)) (ok_lets (fun σ11 e11 => ok_lets (fun σ12 e12 => ok_some ?_)))
        have a12 : ∀ a, σ12.2 a = τ.2 a := fun a => by rw [e12, e11]; rfl
        have k12 : ∀ k, k ≠ 8 → k ≠ 9 → σ12.1 k = q.2.1 k := fun k k8 k9 => by rw [e12, sf_1n k9, e11, sf_1n k8, t1, u1]
        dsimp only
        refine ⟨by rw [k12 0 (by decide) (by decide)]; exact zq, by rw [e12, sf_1n (by decide), e11, sf_1], by rw [e12, sf_1], fun k k0 k8 k9 => by rw [k12 k k8 k9, kq k k0 k8 k9], fun a ha => by rw [a12, t2 a (by omega) (by omega), u2 a (by omega), aq a (by omega)], fun k hk => by rw [a12, t2 21 (by decide) (by decide)]; exact u3 k hk, fun j hj => ?_, fun j => by rw [a12, t4 j]⟩
        rw [a12, t3 j, q4 j hj]
      · refine ok_else (show ¬ (4 : Int32) ≤ nI i from nI_ge (a := i) (b := 4) (by omega) (by decide)) ?_
        rw [show (4 : Int32) * nI (gsy g (tPr t n) 0) = nI (4 * gsy g (tPr t n) 0) from pk_mul 4 _, show (4 : Int32) * nI n = nI (4 * n) from pk_mul 4 _, nI_add, nI_add]
        refine ok_bd (bIn_nI (by omega) (by decide)) (ok_lets (fun i14 e14 => ok_bd (bIn_nI (by omega) (by decide)) (ok_lets (fun σ16 e16 => ok_bd (bIn_nI (by omega) (by decide)) (ok_lets (fun i18 e18 => ok_bd (bIn_nI (by omega) (by decide)) (ok_lets (fun σ20 e20 => ?_))))))))
        rw [nI_clamp (by omega), t2 1 (by decide) (by decide), u2 1 (by decide), aq 1 (by decide), hg.2.2.2.1 _ i hs (by omega)] at e14
        rw [nI_clamp (by omega), e14, nar_b01] at e16
        rw [nI_clamp (by omega), e16, sa_2a (by decide), t2 24 (by decide) (by decide), u2 24 (by decide), aq 24 (by decide)] at e18
        rw [nI_clamp (by omega), e18] at e20
        rw [nI_1]
        refine ih (i + 1) σ20 (by omega) (by omega) (by rw [e20, e16]; exact t1) (fun a a22 a23 => by rw [e20, sa_2a a23, e16, sa_2a a22]; exact t2 a a22 a23) (fun j => ?_) (fun j => ?_)
        · rw [e20, sa_2a (by decide), e16]
          by_cases e : j = 4 * n + i
          · rw [e, sa_2, if_pos (by omega), show 4 * n + i - 4 * n = i by omega]
          · rw [sa_2n e, t3 j]
            by_cases h9 : 4 * n ≤ j ∧ j < 4 * n + i
            · rw [if_pos h9, if_pos (by omega)]
            · rw [if_neg h9, if_neg (by omega)]
        · rw [e20]
          by_cases e : j = 4 * n + i
          · rw [e, sa_2, if_pos (by omega), show 4 * n + i - 4 * n = i by omega]
          · rw [sa_2n e, e16, sa_2a (by decide), t4 j]
            by_cases h9 : 4 * n ≤ j ∧ j < 4 * n + i
            · rw [if_pos h9, if_pos (by omega)]
            · rw [if_neg h9, if_neg (by omega)]
  have l42 : ∀ m k τ, k ≤ tN t → tN t < k + m → E1 21 q.2 τ → (∀ j, j < k → τ.2 21 j = 0) → Ok (f_M_start_42 N m τ (nI n) (nI k)) (fun v => v.2.1 0 = 0 ∧ v.2.1 8 = nI n ∧ v.2.1 9 = nI n ∧ (∀ k, k ≠ 0 → k ≠ 8 → k ≠ 9 → v.2.1 k = σ.1 k) ∧ (∀ a, a < 21 ∨ a = 24 → v.2.2 a = σ.2 a) ∧ (∀ k, k < tN t → v.2.2 21 k = 0) ∧ (∀ j, j < 160 → v.2.2 22 j = if 4 * n ≤ j ∧ j < 4 * n + 4 then b01 (gih g (gsy g (tPr t n) 0) (j - 4 * n)) else 0) ∧ ∀ j, v.2.2 23 j = if 4 * n ≤ j ∧ j < 4 * n + 4 then σ.2 24 (j - 4 * n) else σ.2 23 j) := by
    intro m
    induction m with
    | zero => intro k τ h1 h2; omega
    | succ m ih =>
      intro k τ h1 h2 hE hI
      rw [f_M_start_42]
      dsimp only
      rw [hE.1, kq 7 (by decide) (by decide) (by decide), hX.1]
      by_cases hk : k = tN t
      · subst hk
        refine ok_then (nI_le (Nat.le_refl _) (by omega)) (ok_bd (bIn_nI (by omega) (by decide)) (ok_lets (fun i7 e7 => ?_)))
        rw [nI_clamp (by omega), hE.2 17 (by decide), aq 17 (by decide), (hX.2 n hn).1] at e7
        rw [e7, show (4 : Int32) * nI (tPr t n) = nI (4 * tPr t n) from pk_mul 4 _]
        refine ok_bd (bIn_nI (by omega) (by decide)) (ok_lets (fun i9 e9 => ?_))
        have g0 := hg.2.2.2.2.2.1 _ 0 hp (by omega)
        rw [show 4 * tPr t n + 0 = 4 * tPr t n by omega] at g0
        rw [nI_clamp (by omega), hE.2 3 (by decide), aq 3 (by decide), g0] at e9
        rw [e9]
        exact l79 τ hE.1 hE.2 hI N 0 τ (by omega) (by omega) rfl (fun _ _ _ => rfl) (fun j => by rw [if_neg (by omega), hE.2 22 (by decide)]) (fun j => by rw [if_neg (by omega), hE.2 23 (by decide), aq 23 (by decide)])
      · refine ok_else (nI_ge (by omega) (by omega)) (ok_bd (bIn_nI (by omega) (by decide)) (ok_lets (fun σ22 e22 => ?_)))
        rw [nI_clamp (by omega)] at e22
        rw [nI_1]
        refine ih (k + 1) σ22 (by omega) (by omega) (by rw [e22]; exact hE.sa) (fun j hj => ?_)
        rw [e22]
        by_cases e : j = k
        · rw [e, sa_2]
        · rw [sa_2n e]; exact hI j (by omega)
  exact l42 N 0 q.2 (by omega) (by omega) E1.rf (fun j h9 => absurd h9 (Nat.not_lt_zero _))
theorem a_start {N : Nat} (hN : 3000 ≤ N) {σx σm : vS} (h : TOG σx σm) (a : Int32) : ∃ kd r σx' u σm', f_V_start N σx a = some ((kd, r), σx') ∧ f_M_start N σm a = some (u, σm') ∧ TOG σx' σm' ∧ ((kd = 0 ∧ σm'.1 0 = 0) ∨ (kd = 2 ∧ σm'.1 0 = 1) ∨ (kd = 3 ∧ σm'.1 0 = 2)) := by
  obtain ⟨g, t, hI⟩ := h
  have hI0 := hI
  obtain ⟨⟨hw, hT, hg, hm, hX, hM, hH⟩, _⟩ := hI
  have h40 := hT.1
  have f25 : ∀ c : Int32, c = 1 ∨ c = 2 → f_M_start_25 N σm a c = some (0, sf σm 0 c) := fun c hc => by
    unfold f_M_start_25 vlet
    dsimp only
    rw [sf_1, if_neg (by rcases hc with rfl | rfl <;> decide)]
  unfold f_V_start f_M_start f_V_requireAnalysis
  rcases hI0.has with ⟨h1, h2⟩ | ⟨h1, h2, S, hA⟩
  · rw [if_pos h1, if_pos h2, Option.bind_some]
    dsimp only
    rw [if_neg (by decide), f25 1 (Or.inl rfl)]
    exact ⟨2, 0, σx, 0, sf σm 0 1, rfl, rfl, ⟨g, t, hI0.code 1⟩, Or.inr (Or.inl ⟨rfl, sf_1⟩)⟩
  · rw [if_neg (by rw [h1]; decide), if_neg (by rw [h2]; decide), Option.bind_some]
    dsimp only
    rw [if_pos rfl, x_hasNode hX, m_isNode hM, Option.bind_some, Option.bind_some]
    dsimp only
    by_cases hc : ¬ a < 0 ∧ ¬ nI (tN t) ≤ a
    · rw [decide_eq_true hc, if_neg (show ¬ b01 true = 0 by decide), if_neg (show ¬ b01 true = 0 by decide)]
      rcases pk_ix a (n := tN t) (by omega) with h9 | h9 | ⟨n, hn, e⟩
      · exact absurd h9 hc.1
      · exact absurd h9 hc.2
      · rw [e]
        obtain ⟨v, hv, v1, v2, v3, v4, v5, v6, v7, v8, v9⟩ := x_begin (N := N) hg hw hT hX hn
        obtain ⟨w, hw', w1, w2, w3, w4, w5, w6, w7, w8⟩ := m_start_ok hN hm hw hT hM hn
        rw [hv, Option.bind_some]
        have hB : BASE g t v.2 w.2 := by
          refine hI0.1.stay (v4 0 (by decide) (by decide) (by decide)) (v4 1 (by decide) (by decide) (by decide)) (v4 8 (by decide) (by decide) (by decide)) (fun a ha => v5 a (by omega)) (w4 1 (by decide) (by decide) (by decide)) (w4 2 (by decide) (by decide) (by decide)) (w4 7 (by decide) (by decide) (by decide)) (fun a ha => w5 a (by omega)) ⟨fun j => by rw [v5 23 (by decide), w5 24 (by decide)]; exact hH.1 j, fun j => ?_⟩
          rw [v6 j, w8 j, hH.1, hH.2]
        have hK : KNW (tN t) v.2 w.2 := by
          refine ⟨fun n' a' hn' ha' => ?_, fun n' a' hb hn' ha' => by rw [v7 n' (by omega), bt_0]⟩
          rw [w7 _ (by omega)]
          by_cases e2 : n' = n
          · rw [e2, if_pos (by omega), v8 a' (by omega), show 4 * n + a' - 4 * n = a' by omega]
          · rw [if_neg (by omega), v7 n' e2, bt_0]; rfl
        have hR := run_start hw (hv_of hw hA.2.1.1) hT hn
        refine ⟨0, 0, v.2, w.1, w.2, rfl, hw', ⟨g, t, hB, Or.inr ⟨by rw [v4 2 (by decide) (by decide) (by decide)]; exact h1, by rw [w4 3 (by decide) (by decide) (by decide)]; exact h2, S, hA.stay (fun a _ a2 => v5 a (by omega)) (fun a _ a2 => w5 a (by omega)), Or.inr (Or.inl ⟨n, tN t, n, [], fun _ => 0, hR, hK, v1, v2, v3, w2, w3, fun k hk => ⟨v9 k, w6 k hk⟩⟩)⟩⟩, Or.inl ⟨rfl, w1⟩⟩
    · rw [decide_eq_false hc, if_pos (show b01 false = 0 from rfl), if_pos (show b01 false = 0 from rfl), f25 2 (Or.inr rfl)]
      exact ⟨3, 0, σx, 0, sf σm 0 2, rfl, rfl, ⟨g, t, hI0.code 2⟩, Or.inr (Or.inr ⟨rfl, sf_1⟩)⟩
theorem a_run {N : Nat} (hN : 3000 ≤ N) {σx σm : vS} (h : TOG σx σm) (a : Int32) : ∃ kd r σx' u σm', f_V_run N σx a = some ((kd, r), σx') ∧ f_M_run N σm a = some (u, σm') ∧ TOG σx' σm' ∧ ((kd = 0 ∧ σm'.1 0 = 0 ∧ u = r) ∨ (kd = 1 ∧ σm'.1 0 = 1) ∨ (kd = 2 ∧ σm'.1 0 = 2)) := by
  obtain ⟨g, t, hI⟩ := h
  have h40 := hI.1.2.1.1
  have f29 : ∀ c : Int32, c = 1 ∨ c = 2 → f_M_run_29 N σm a c = some (0, sf σm 0 c) := fun c hc => by
    unfold f_M_run_29 vlet
    dsimp only
    rw [sf_1, if_neg (by rcases hc with rfl | rfl <;> decide)]
  unfold f_V_run f_M_run f_V_run_11 f_M_run_12
  by_cases h0 : a < 0
  · rw [if_pos h0, if_pos h0, f29 1 (Or.inl rfl)]
    exact ⟨1, 0, σx, 0, sf σm 0 1, rfl, rfl, ⟨g, t, hI.code 1⟩, Or.inr (Or.inl ⟨rfl, sf_1⟩)⟩
  · rw [if_neg h0, if_neg h0]
    by_cases h5 : a ≤ 500
    · rw [if_pos h5, if_pos h5]
      obtain ⟨s, hs, es⟩ := Nn.le h0 500 (n := 500) (by decide) h5
      have idle : IDLE σx σm → ∃ kd r σx' u σm', (if σx.1 9 = 0 then some (((2 : Nat), (0 : Int32)), σx) else ((f_U_advance N σx a).bind (fun q4 => some ((0, (q4.1)), q4.2)))) = some ((kd, r), σx') ∧ (if σm.1 8 = -1 then f_M_run_29 N σm a 2 else f_M_run_29 N σm a 0) = some (u, σm') ∧ TOG σx' σm' ∧ ((kd = 0 ∧ σm'.1 0 = 0 ∧ u = r) ∨ (kd = 1 ∧ σm'.1 0 = 1) ∨ (kd = 2 ∧ σm'.1 0 = 2)) := fun ⟨i1, i2, _, _⟩ => by
        rw [if_pos i1, if_pos i2, f29 2 (Or.inr rfl)]
        exact ⟨2, 0, σx, 0, sf σm 0 2, rfl, rfl, ⟨g, t, hI.code 2⟩, Or.inr (Or.inr ⟨rfl, sf_1⟩)⟩
      have hI0 := hI
      obtain ⟨hB, hI⟩ := hI
      rcases hI with ⟨_, _, h3⟩ | ⟨g1, g2, S, hA, h4⟩
      · exact idle h3
      · have go : (GOES g (VW g S) t σx σm ∨ ENDED t σx σm) → σx.1 9 ≠ 0 → σm.1 8 ≠ -1 → ∃ kd r σx' u σm', (if σx.1 9 = 0 then some (((2 : Nat), (0 : Int32)), σx) else ((f_U_advance N σx a).bind (fun q4 => some ((0, (q4.1)), q4.2)))) = some ((kd, r), σx') ∧ (if σm.1 8 = -1 then f_M_run_29 N σm a 2 else f_M_run_29 N σm a 0) = some (u, σm') ∧ TOG σx' σm' ∧ ((kd = 0 ∧ σm'.1 0 = 0 ∧ u = r) ∨ (kd = 1 ∧ σm'.1 0 = 1) ∨ (kd = 2 ∧ σm'.1 0 = 2)) := fun hG n9 n8 => by
          obtain ⟨hB', hI'⟩ := hI0.code 0
          have hG' : GOES g (VW g S) t σx (sf σm 0 0) ∨ ENDED t σx (sf σm 0 0) := by
            have e : ∀ k, k ≠ 0 → (sf σm 0 0).1 k = σm.1 k := fun k hk => sf_1n hk
            rcases hG with hG | hG
            · obtain ⟨root, b, hh, r, k, r1, r2, r3, r4, r5, r6, r7, r8⟩ := hG
              exact Or.inl ⟨root, b, hh, r, k, r1, r2, r3, r4, r5, by rw [e 8 (by decide)]; exact r6, by rw [e 9 (by decide)]; exact r7, r8⟩
            · obtain ⟨root, b, r1, r2, r3, r4, r5, r6⟩ := hG
              exact Or.inr ⟨root, b, r1, r2, r3, r4, by rw [e 8 (by decide)]; exact r5, by rw [e 9 (by decide)]; exact r6⟩
          obtain ⟨d, σx', σm', c1, c2, c3, c4, c5, c6, c7, c8⟩ := run_both (N := N) hs N 0 σx (sf σm 0 0) (by omega) (by omega) hB' (hA.code 0) hG'
          have c1 : f_U_advance N σx (nI s) = some (nI d, σx') := c1
          have c2 : f_M_run_29 N σm (nI s) 0 = some (nI d, σm') := by
            unfold f_M_run_29 vlet
            dsimp only
            rw [sf_1, if_pos (by decide)]
            exact c2
          rw [if_neg n9, if_neg n8, es, c1, c2, Option.bind_some]
          refine ⟨0, nI d, σx', nI d, σm', rfl, rfl, ⟨g, t, c3, Or.inr ⟨by rw [c6]; exact g1, by rw [c7, sf_1n (by decide)]; exact g2, S, c4, Or.inr c5⟩⟩, Or.inl ⟨rfl, by rw [c8, sf_1], rfl⟩⟩
        rcases h4 with h4 | h4 | h4
        · exact idle h4
        · have hG := h4
          obtain ⟨root, b, hh, r, k, r1, r2, r3, r4, r5, r6, r7, r8⟩ := h4
          have hb := r1.2.1
          have hr := r1.1
          exact go (Or.inl hG) (by rw [r3]; decide) (by rw [r6]; exact nI_nm1 (by omega))
        · have hG := h4
          obtain ⟨root, b, r1, r2, r3, r4, r5, r6⟩ := h4
          exact go (Or.inr hG) (by rw [r4]; decide) (by rw [r5]; exact nI_nm1 (by omega))
    · rw [if_neg h5, if_neg h5, f29 1 (Or.inl rfl)]
      exact ⟨1, 0, σx, 0, sf σm 0 1, rfl, rfl, ⟨g, t, hI.code 1⟩, Or.inr (Or.inl ⟨rfl, sf_1⟩)⟩
/-- whether a node has the attribute, on both sides -/
theorem a_attr {N : Nat} {g : vA} {t : vT} {σx σm : vS} (hI : INV g t σx σm) (a b : Int32) : (∃ n j, n < tN t ∧ j < 4 ∧ a = nI n ∧ b = nI j ∧ f_V_requireAttribute N σx a b = some ((0, 0), σx) ∧ f_M_isAttribute N σm a b = some (1, σm)) ∨ (f_V_requireAttribute N σx a b = some ((3, 0), σx) ∧ f_M_isAttribute N σm a b = some (0, σm)) := by
  obtain ⟨⟨hw, hT, hg, hm, hX, hM, hH⟩, _⟩ := hI
  have h40 := hT.1
  have h6 := hw.1
  have h10 := hw.2.2.2.1
  unfold f_V_requireAttribute f_M_isAttribute f_V_requireAttribute_30
  rw [x_hasNode hX, m_isNode hM, Option.bind_some, Option.bind_some]
  dsimp only
  by_cases hc : ¬ a < 0 ∧ ¬ nI (tN t) ≤ a
  · rw [decide_eq_true hc, if_neg (show ¬ b01 true = 0 by decide), if_neg (show ¬ b01 true = 0 by decide)]
    rcases pk_ix a (n := tN t) (by omega) with h9 | h9 | ⟨n, hn, e⟩
    · exact absurd h9 hc.1
    · exact absurd h9 hc.2
    · have hp := hT.2.1 n hn
      have h5 := hw.2.2.2.2.1 _ hp
      have hs := hw.2.2.2.2.2.1 _ 0 hp (by omega)
      have h4 := hw.2.1 _ hs
      have g0 := hm.2.2.2.2.2.1 _ 0 hp (by omega)
      rw [show 4 * tPr t n + 0 = 4 * tPr t n by omega] at g0
      rw [e, x_symbolOf hg hw hT hX hn, Option.bind_some]
      dsimp only
      rw [x_hasAttribute hg hw hs, Option.bind_some]
      dsimp only
      by_cases h0 : b < 0
      · rw [if_pos h0, decide_eq_false (fun h => h.1 h0), if_pos (show b01 false = 0 from rfl)]
        exact Or.inr ⟨rfl, rfl⟩
      · rw [if_neg h0, if_pos (bIn_nI (by omega) (by decide))]
        unfold vlet
        dsimp only
        rw [nI_clamp (by omega), (hM.2 n hn).1, show (4 : Int32) * nI (tPr t n) = nI (4 * tPr t n) from pk_mul 4 _, if_pos (bIn_nI (by omega) (by decide)), nI_clamp (by omega), g0, if_pos (bIn_nI (by omega) (by decide)), nI_clamp (by omega), hm.2.2.1 _ hs]
        by_cases h9 : nI (gna g (gsy g (tPr t n) 0)) ≤ b
        · rw [if_pos h9, decide_eq_false (fun h => h.2 h9), if_pos (show b01 false = 0 from rfl)]
          exact Or.inr ⟨rfl, rfl⟩
        · rw [if_neg h9, decide_eq_true ⟨h0, h9⟩, if_neg (by decide)]
          rcases pk_ix b (n := gna g (gsy g (tPr t n) 0)) (by omega) with h8 | h8 | ⟨j, hj, ej⟩
          · exact absurd h8 h0
          · exact absurd h8 h9
          · exact Or.inl ⟨n, j, hn, by omega, rfl, ej, rfl, rfl⟩
  · rw [decide_eq_false hc, if_pos (show b01 false = 0 from rfl), if_pos (show b01 false = 0 from rfl)]
    exact Or.inr ⟨rfl, rfl⟩
/-- whether it is known, on both sides -/
theorem a_kn {N : Nat} {g : vA} {t : vT} {σx σm : vS} (hI : INV g t σx σm) {n j : Nat} (hn : n < tN t) (hj : j < 4) : ∃ y, f_U_isKnown N σx (nI n) (nI j) = some (b01 y, σx) ∧ σm.2 22 (4 * n + j) = b01 y := by
  have h40 := hI.1.2.1.1
  have idle : IDLE σx σm → ∃ y, f_U_isKnown N σx (nI n) (nI j) = some (b01 y, σx) ∧ σm.2 22 (4 * n + j) = b01 y := fun ⟨i1, _, _, i4⟩ => ⟨false, by unfold f_U_isKnown; rw [if_pos i1]; rfl, i4 _ (by omega)⟩
  have run : σx.1 9 ≠ 0 → (∀ n a, n < 40 → a < 4 → σm.2 22 (4 * n + a) = b01 (bt (σx.2 25 n) a)) → ∃ y, f_U_isKnown N σx (nI n) (nI j) = some (b01 y, σx) ∧ σm.2 22 (4 * n + j) = b01 y := fun h9 hk => by
    refine ⟨bt (σx.2 25 n) j, ?_, hk n j (by omega) hj⟩
    unfold f_U_isKnown vlet
    dsimp only
    rw [if_neg h9, if_pos (bIn_nI (by omega) (by decide)), nI_clamp (by omega), f_holds (by omega), Option.bind_some]
    cases bt (σx.2 25 n) j
    · rfl
    · rfl
  rcases hI.2 with ⟨_, _, h3⟩ | ⟨_, _, S, _, h4⟩
  · exact idle h3
  · rcases h4 with h4 | h4 | h4
    · exact idle h4
    · obtain ⟨root, b, hh, r, k, r1, r2, r3, _⟩ := h4
      exact run (by rw [r3]; decide) r2.1
    · obtain ⟨root, b, r1, r2, r3, r4, _⟩ := h4
      exact run (by rw [r4]; decide) r3.1
theorem a_knows {N : Nat} {σx σm : vS} (h : TOG σx σm) (a b : Int32) : ∃ kd r σx' u σm', f_V_knows N σx a b = some ((kd, r), σx') ∧ f_M_knows N σm a b = some (u, σm') ∧ TOG σx' σm' ∧ ((kd = 0 ∧ σm'.1 0 = 0 ∧ u = r ∧ (r = 0 ∨ r = 1)) ∨ (kd = 3 ∧ σm'.1 0 = 1 ∧ u = 0)) := by
  obtain ⟨g, t, hI⟩ := h
  have h40 := hI.1.2.1.1
  unfold f_V_knows f_M_knows f_M_knows_15
  rcases a_attr (N := N) hI a b with ⟨n, j, hn, hj, ea, eb, h1, h2⟩ | ⟨h1, h2⟩
  · obtain ⟨y, k1, k2⟩ := a_kn (N := N) hI hn hj
    rw [h1, h2, Option.bind_some, Option.bind_some]
    dsimp only
    rw [if_pos rfl, if_neg (by decide), ea, eb, k1, Option.bind_some]
    unfold vlet
    dsimp only
    rw [sf_1, if_pos rfl, show (4 : Int32) * nI n = nI (4 * n) from pk_mul 4 n, nI_add, if_pos (bIn_nI (by omega) (by decide)), nI_clamp (by omega), sf_2, k2, nar_b01]
    cases y
    · rw [if_pos (show b01 false = 0 from rfl)]
      exact ⟨0, _, σx, _, sf σm 0 0, rfl, rfl, ⟨g, t, hI.code 0⟩, Or.inl ⟨rfl, sf_1, rfl, Or.inl rfl⟩⟩
    · rw [if_neg (by decide)]
      exact ⟨0, _, σx, _, sf σm 0 0, rfl, rfl, ⟨g, t, hI.code 0⟩, Or.inl ⟨rfl, sf_1, rfl, Or.inr rfl⟩⟩
  · rw [h1, h2, Option.bind_some, Option.bind_some]
    dsimp only
    rw [if_neg (by decide), if_pos rfl]
    unfold vlet
    dsimp only
    rw [sf_1, if_neg (by decide)]
    exact ⟨3, 0, σx, 0, sf σm 0 1, rfl, rfl, ⟨g, t, hI.code 1⟩, Or.inr ⟨rfl, sf_1, rfl⟩⟩
theorem a_value {N : Nat} {σx σm : vS} (h : TOG σx σm) (a b : Int32) : ∃ kd r σx' u σm', f_V_value N σx a b = some ((kd, r), σx') ∧ f_M_value N σm a b = some (u, σm') ∧ TOG σx' σm' ∧ ((kd = 0 ∧ σm'.1 0 = 0 ∧ u = r) ∨ (kd = 3 ∧ σm'.1 0 = 1) ∨ (kd = 2 ∧ σm'.1 0 = 2)) := by
  obtain ⟨g, t, hI⟩ := h
  have h40 := hI.1.2.1.1
  have hH := hI.1.2.2.2.2.2.2
  unfold f_V_value f_M_value f_M_value_32
  rcases a_attr (N := N) hI a b with ⟨n, j, hn, hj, ea, eb, h1, h2⟩ | ⟨h1, h2⟩
  · obtain ⟨y, k1, k2⟩ := a_kn (N := N) hI hn hj
    rw [h1, h2, Option.bind_some, Option.bind_some]
    dsimp only
    rw [if_pos rfl, if_neg (by decide), ea, eb, k1, Option.bind_some, show (4 : Int32) * nI n = nI (4 * n) from pk_mul 4 n, nI_add, if_pos (bIn_nI (by omega) (by decide)), nI_clamp (by omega)]
    unfold vlet
    dsimp only
    rw [k2]
    cases y
    · rw [if_pos (show b01 false = 0 from rfl), if_pos (show b01 false = 0 from rfl), sf_1, if_neg (by decide)]
      exact ⟨2, 0, σx, 0, sf σm 0 2, rfl, rfl, ⟨g, t, hI.code 2⟩, Or.inr (Or.inr ⟨rfl, sf_1⟩)⟩
    · rw [if_neg (show ¬ b01 true = 0 by decide), if_neg (show ¬ b01 true = 0 by decide), sf_1, if_pos (show (0 : Int32) ≤ 0 by decide), show nI n * (4 : Int32) = nI (n * 4) from pk_mul n 4, nI_add, if_pos (bIn_nI (by omega) (by decide)), nI_clamp (by omega), if_pos (bIn_nI (by omega) (by decide)), sf_2, show n * 4 + j = 4 * n + j by omega, hH.2]
      exact ⟨0, _, σx, _, sf σm 0 0, rfl, rfl, ⟨g, t, hI.code 0⟩, Or.inl ⟨rfl, sf_1, rfl⟩⟩
  · rw [h1, h2, Option.bind_some, Option.bind_some]
    dsimp only
    rw [if_neg (by decide), if_pos rfl]
    unfold vlet
    dsimp only
    rw [sf_1, if_neg (by decide)]
    exact ⟨3, 0, σx, 0, sf σm 0 1, rfl, rfl, ⟨g, t, hI.code 1⟩, Or.inr (Or.inl ⟨rfl, sf_1⟩)⟩
/-- both begin together -/
theorem TOG0 : TOG σx0 σm0 := ⟨gA0, tE, ⟨wfA0, wfTE, XG0, MG0, ⟨rfl, fun k hk => absurd hk (Nat.not_lt_zero _)⟩, ⟨rfl, fun k hk => absurd hk (Nat.not_lt_zero _)⟩, fun _ => rfl, fun _ => rfl⟩, Or.inl ⟨rfl, rfl, rfl, rfl, rfl, fun _ _ => rfl⟩⟩
