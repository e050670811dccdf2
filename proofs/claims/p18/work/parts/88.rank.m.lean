/-! The reference: ranks. -/
theorem m_reach_5 {N : Nat} {S : vL} {σ : vS} (hS : MS S σ) {s a : Nat} (hs : s < 6) (ha : a < 4) : ∀ n i, i ≤ 4 → 4 < i + n → f_M_reach_5 N n σ (nI s) (nI a) (nI (cB (S s a) i)) (nI i) = some (nI (hgt (S s) a), σ) := by
  intro n
  induction n with
  | zero => intro i h1 h2; omega
  | succ n ih =>
    intro i h1 h2
    rw [f_M_reach_5]
    dsimp only
    by_cases hi : i = 4
    · subst hi
      rw [if_pos (show (4 : Int32) ≤ nI 4 from nI_le (a := 4) (b := 4) (by decide) (by decide))]
      rfl
    · rw [if_neg (show ¬ (4 : Int32) ≤ nI i from nI_ge (a := i) (b := 4) (by omega) (by decide))]
      unfold vlet
      dsimp only
      rw [show (16 : Int32) * nI s = nI (16 * s) from pk_mul 16 s, show (4 : Int32) * nI a = nI (4 * a) from pk_mul 4 a, nI_add, nI_add, if_pos (bIn_nI (by omega) (by decide)), nI_clamp (by omega), hS s a i hs ha (by omega)]
      unfold f_M_reach_36
      cases h : S s a i
      · have e : cB (S s a) (i + 1) = cB (S s a) i + 0 := by
          show cB (S s a) i + (if S s a i = true then 1 else 0) = _
          rw [h, if_neg (by decide)]
        rw [if_pos (show b01 false = 0 from rfl), show nI (cB (S s a) i) + (0 : Int32) = nI (cB (S s a) i + 0) from nI_add _ 0, nI_1, ← e]
        exact ih (i + 1) (by omega) (by omega)
      · have e : cB (S s a) (i + 1) = cB (S s a) i + 1 := by
          show cB (S s a) i + (if S s a i = true then 1 else 0) = _
          rw [h, if_pos rfl]
        rw [if_neg (by decide), nI_1, nI_1, ← e]
        exact ih (i + 1) (by omega) (by omega)
def rkd (g : vA) (S : vL) (s m i a : Nat) : Prop := hgt (S s) a < m ∨ (hgt (S s) a = m ∧ a < i)
/-- the greatest rank so far -/
def gtP (g : vA) (S : vL) (s m i : Nat) : Nat := mx (rkS g S s) (fun a => decide (a < gna g s ∧ (hgt (S s) a < m ∨ (hgt (S s) a = m ∧ a < i)))) 4
def RI (g : vA) (S : vL) (s m i : Nat) (σ τ : vS) : Prop := E1 11 σ τ ∧ (∀ a, a < gna g s → (hgt (S s) a < m ∨ (hgt (S s) a = m ∧ a < i)) → τ.2 11 (4 * s + a) = nI (rkS g S s a)) ∧ ∀ j, j < 4 * s → τ.2 11 j = σ.2 11 j
theorem gtP_5 {g : vA} {S : vL} (hR : SAC g S) {s m i : Nat} (hs : s < gns g) : 1 ≤ gtP g S s m i ∧ gtP g S s m i ≤ 5 := ⟨mx_1 4, mx_le (by decide) 4 (fun a _ h1 => (rk_5 (hR s hs) (of_decide_eq_true h1).1).2)⟩
theorem gtP_no {g : vA} {S : vL} {s m i : Nat} (h : hgt (S s) i ≠ m) : gtP g S s m (i + 1) = gtP g S s m i := mx_eq 4 (fun a _ => decide_eq_decide.mpr (by
  by_cases e : a = i
  · subst e; omega
  · omega)) (fun _ _ _ => rfl)
theorem gtP_yes {g : vA} {S : vL} {s m i : Nat} (h : hgt (S s) i = m) (hi : i < gna g s) (h4 : i < 4) : gtP g S s m (i + 1) = max (gtP g S s m i) (rkS g S s i) := mx_ins h4 (fun a _ => by
  by_cases e : a = i
  · subst e
    rw [decide_eq_true (rfl : a = a), Bool.or_true]
    exact decide_eq_true ⟨hi, Or.inr ⟨h, by omega⟩⟩
  · rw [decide_eq_false e, Bool.or_false]
    exact decide_eq_decide.mpr (by omega))
theorem m_rankAll_43 {N : Nat} {g : vA} {σ : vS} (hg : MG g σ) (hw : wfA g) {S : vL} (hS : MS S σ) (hR : SAC g S) {s m i : Nat} (hs : s < gns g) (hi : i < gna g s) (hm : hgt (S s) i = m) {Q : Int32 × vS → Prop} {k4 : vS → Int32 → Int32 → Int32 → Option (Int32 × vS)} {k12 : vS → Int32 → Int32 → Int32 → Int32 → Option (Int32 × vS)} {τ : vS} (hI : RI g S s m i σ τ) (hk : ∀ τ', RI g S s m (i + 1) σ τ' → Ok (k12 τ' (nI s) (nI (gtP g S s m (i + 1))) (nI m) (nI (i + 1))) Q) : ∀ n b, b ≤ 4 → 4 < b + n → Ok (f_M_rankAll_43 N k4 k12 n τ (nI s) (nI (gtP g S s m i)) (nI m) (nI i) (nI (mx (rkS g S s) (S s i) b)) (nI b)) Q := by
  have h6 := hw.1
  have h4 := hw.2.1 s hs
  have hRT := hR s hs
  obtain ⟨hE, hI1, hI2⟩ := hI
  have hg1 := hg.e1 hE (by decide)
  have g5 := gtP_5 (m := m) (i := i) hR hs
  intro n
  induction n with
  | zero => intro b h1 h2; omega
  | succ n ih =>
    intro b h1 h2
    have m5 : ∀ j, j ≤ 4 → mx (rkS g S s) (S s i) j ≤ 5 := fun j hj => mx_le (by decide) j (fun k hk h9 => (rk_5 hRT (hRT.2.1 i k (by omega) (by omega) h9).2).2)
    rw [f_M_rankAll_43]
    dsimp only
    by_cases hb : b = 4
    · subst hb
      refine ok_then (show (4 : Int32) ≤ nI 4 from nI_le (a := 4) (b := 4) (by decide) (by decide)) ?_
      have l5 := m5 4 (by decide)
      have e0 : rkS g S s i = prt (gih g s i) (mx (rkS g S s) (S s i) 4) := rk_eq hRT (by omega)
      have r5 : rkS g S s i ≤ 5 := (rk_5 hRT hi).2
      have fin : ∀ z, z = rkS g S s i → Ok (f_M_rankAll_167 N k4 k12 τ (nI s) (nI (gtP g S s m i)) (nI m) (nI i) (nI z) (nI (4 * s + i))) Q := by
        intro z hz
        unfold f_M_rankAll_167
        refine ok_bd (bIn_nI (by omega) (by decide)) (ok_lets (fun σ14 e14 => ?_))
        rw [nI_clamp (by omega)] at e14
        rw [show (4 : Int32) * nI s = nI (4 * s) from pk_mul 4 s, nI_add]
        have v16 : σ14.2 11 (4 * s + i) = nI (rkS g S s i) := by rw [e14, sa_2, hz]
        have nxt : RI g S s m (i + 1) σ σ14 := by
          refine ⟨by rw [e14]; exact hE.sa, fun a ha hc => ?_, fun j hj => by rw [e14, sa_2n (by omega)]; exact hI2 j hj⟩
          by_cases e : a = i
          · rw [e]; exact v16
          · rw [e14, sa_2n (by omega)]
            exact hI1 a ha (by omega)
        have gy := gtP_yes hm hi (by omega)
        refine ok_bd (bIn_nI (by omega) (by decide)) (ok_lets (fun i16 e16 => ?_))
        rw [nI_clamp (by omega), v16] at e16
        rw [e16]
        unfold f_M_rankAll_198 f_M_rankAll_199
        rw [nI_1]
        by_cases hc : rkS g S s i ≤ gtP g S s m i
        · refine ok_then (nI_le hc (by omega)) ?_
          have := hk σ14 nxt
          rw [gy, show max (gtP g S s m i) (rkS g S s i) = gtP g S s m i by omega] at this
          exact this
        · refine ok_else (nI_ge (by omega) (by omega)) (ok_bd (bIn_nI (by omega) (by decide)) (ok_lets (fun i19 e19 => ?_)))
          rw [nI_clamp (by omega), v16] at e19
          rw [e19]
          have := hk σ14 nxt
          rw [gy, show max (gtP g S s m i) (rkS g S s i) = rkS g S s i by omega] at this
          exact this
      rw [show (4 : Int32) * nI s = nI (4 * s) from pk_mul 4 s, nI_add]
      refine ok_bd (bIn_nI (by omega) (by decide)) (ok_lets (fun i12 e12 => ?_))
      rw [nI_clamp (by omega), hg1.2.2.2.1 s i hs (by omega)] at e12
      rw [e12]
      have epar : nI (mx (rkS g S s) (S s i) 4) - nI (mx (rkS g S s) (S s i) 4) / (2 : Int32) * 2 = nI (mx (rkS g S s) (S s i) 4 % 2) := pk_rem (a := mx (rkS g S s) (S s i) 4) (d := 2) (by omega) (by decide) (by decide)
      unfold f_M_rankAll_128 f_M_rankAll_153
      rw [epar, show (4 : Int32) * nI s = nI (4 * s) from pk_mul 4 s, nI_add]
      unfold prt at e0
      have hp2 : mx (rkS g S s) (S s i) 4 % 2 = 0 ∨ mx (rkS g S s) (S s i) 4 % 2 = 1 := by omega
      cases hh : gih g s i
      · rw [if_pos (show b01 false = 0 from rfl)]
        rw [hh, if_neg (by decide)] at e0
        rcases hp2 with hp2 | hp2
        · rw [hp2, if_neg (show ¬ nI 0 = (1 : Int32) by decide), if_neg (by decide), nI_1]
          exact fin _ (by omega)
        · rw [hp2, if_pos (show nI 1 = (1 : Int32) from rfl), if_pos rfl]
          exact fin _ (by omega)
      · rw [if_neg (by decide)]
        rw [hh, if_pos rfl] at e0
        rcases hp2 with hp2 | hp2
        · rw [hp2, if_neg (show ¬ nI 0 = (1 : Int32) by decide), if_pos rfl]
          exact fin _ (by omega)
        · rw [hp2, if_pos (show nI 1 = (1 : Int32) from rfl), if_neg (by decide), nI_1]
          exact fin _ (by omega)
    · refine ok_else (show ¬ (4 : Int32) ≤ nI b from nI_ge (a := b) (b := 4) (by omega) (by decide)) (ok_lets (fun i23 e23 => ?_))
      rw [show (16 : Int32) * nI s = nI (16 * s) from pk_mul 16 s, show (4 : Int32) * nI i = nI (4 * i) from pk_mul 4 i, nI_add] at e23
      rw [e23, nI_add, show (4 : Int32) * nI s = nI (4 * s) from pk_mul 4 s, nI_add]
      refine ok_bd (bIn_nI (by omega) (by decide)) (ok_lets (fun i25 e25 => ?_))
      rw [nI_clamp (by omega), hE.2 9 (by decide), hS s i b (by omega) (by omega) (by omega)] at e25
      rw [e25]
      have b5 := m5 b (by omega)
      unfold f_M_rankAll_99 f_M_rankAll_101
      rw [nI_1]
      cases hh : S s i b
      · rw [if_pos (show b01 false = 0 from rfl)]
        have e : mx (rkS g S s) (S s i) (b + 1) = mx (rkS g S s) (S s i) b := if_neg (by rw [hh]; decide)
        rw [← e]
        exact ih (b + 1) (by omega) (by omega)
      · rw [if_neg (by decide)]
        have e : mx (rkS g S s) (S s i) (b + 1) = max (mx (rkS g S s) (S s i) b) (rkS g S s b) := if_pos hh
        have hbn := (hRT.2.1 i b (by omega) (by omega) hh).2
        have hbm := hgt_lt hRT (by omega) (by omega) hh
        have rb := hI1 b hbn (Or.inl (by omega))
        have rb5 : rkS g S s b ≤ 5 := (rk_5 hRT hbn).2
        refine ok_bd (bIn_nI (by omega) (by decide)) (ok_lets (fun i28 e28 => ?_))
        rw [nI_clamp (by omega), rb] at e28
        rw [e28]
        by_cases hc : rkS g S s b ≤ mx (rkS g S s) (S s i) b
        · refine ok_then (nI_le hc (by omega)) ?_
          have := ih (b + 1) (by omega) (by omega)
          rw [e, show max (mx (rkS g S s) (S s i) b) (rkS g S s b) = mx (rkS g S s) (S s i) b by omega] at this
          exact this
        · refine ok_else (nI_ge (by omega) (by omega)) (ok_bd (bIn_nI (by omega) (by decide)) (ok_lets (fun i31 e31 => ?_)))
          rw [nI_clamp (by omega), rb] at e31
          rw [e31]
          have := ih (b + 1) (by omega) (by omega)
          rw [e, show max (mx (rkS g S s) (S s i) b) (rkS g S s b) = rkS g S s b by omega] at this
          exact this
theorem m_rankAll_12 {N : Nat} (hN : 3000 ≤ N) {g : vA} {σ : vS} (hg : MG g σ) (hw : wfA g) {S : vL} (hS : MS S σ) (hR : SAC g S) {s m : Nat} (hs : s < gns g) (hm : m < 4) {Q : Int32 × vS → Prop} {k4 : vS → Int32 → Int32 → Int32 → Option (Int32 × vS)} (hk : ∀ τ', RI g S s (m + 1) 0 σ τ' → Ok (k4 τ' (nI s) (nI (gtP g S s (m + 1) 0)) (nI (m + 1))) Q) : ∀ n i τ, i ≤ gna g s → gna g s < i + n → RI g S s m i σ τ → Ok (f_M_rankAll_12 N k4 n τ (nI s) (nI (gtP g S s m i)) (nI m) (nI i)) Q := by
  have h6 := hw.1
  have h4 := hw.2.1 s hs
  have hRT := hR s hs
  intro n
  induction n with
  | zero => intro i τ h1 h2; omega
  | succ n ih =>
    intro i τ h1 h2 hI
    have hE := hI.1
    have hg1 := hg.e1 hE (by decide)
    rw [f_M_rankAll_12]
    dsimp only
    refine ok_bd (bIn_nI (by omega) (by decide)) (ok_lets (fun i5 e5 => ?_))
    rw [nI_clamp (by omega), hg1.2.2.1 s hs] at e5
    rw [e5]
    by_cases hi : i = gna g s
    · subst hi
      refine ok_then (nI_le (Nat.le_refl _) (by omega)) ?_
      rw [nI_1]
      have e : gtP g S s m (gna g s) = gtP g S s (m + 1) 0 := mx_eq 4 (fun a _ => decide_eq_decide.mpr (by omega)) (fun _ _ _ => rfl)
      rw [e]
      exact hk τ ⟨hE, fun a ha hc => hI.2.1 a ha (by omega), hI.2.2⟩
    · refine ok_else (nI_ge (by omega) (by omega)) ?_
      have hS1 : MS S τ := hS.eq (hE.2 9 (by decide)) (fun _ _ _ _ _ _ => rfl)
      have hre := m_reach_5 (N := N) hS1 (s := s) (a := i) (by omega) (by omega) N 0 (by omega) (by omega)
      have hre : f_M_reach N τ (nI s) (nI i) = some (nI (hgt (S s) i), τ) := hre
      have hgl := hgt_n hRT (a := i) (by omega)
      rw [hre, Option.bind_some]
      dsimp only
      by_cases hc : hgt (S s) i = m
      · refine ok_then (by rw [hc]) ?_
        exact m_rankAll_43 hg hw hS hR hs (by omega) hc hI (fun τ' hI' => ih (i + 1) τ' (by omega) (by omega) hI') N 0 (by omega) (by omega)
      · refine ok_else (fun h9 => hc ((nI_eq (by omega) (by omega)).mp h9)) ?_
        unfold f_M_rankAll_199
        rw [nI_1]
        have := ih (i + 1) τ (by omega) (by omega) ⟨hE, fun a ha hd => hI.2.1 a ha (by
          by_cases e : a = i
          · subst e; omega
          · omega), hI.2.2⟩
        rw [gtP_no hc] at this
        exact this
/-- what rankAll leaves -/
def RKP (g : vA) (S : vL) (s : Nat) (σ : vS) (v : Int32 × vS) : Prop := v.2.1 = σ.1 ∧ (∀ a, a ≠ 11 → a ≠ 12 → v.2.2 a = σ.2 a) ∧ (∀ a, a < gna g s → v.2.2 11 (4 * s + a) = nI (rkS g S s a)) ∧ (∀ j, j < 4 * s → v.2.2 11 j = σ.2 11 j) ∧ v.2.2 12 s = nI (vsS g S s) ∧ ∀ t, t ≠ s → v.2.2 12 t = σ.2 12 t
theorem m_rankAll_4 {N : Nat} (hN : 3000 ≤ N) {g : vA} {σ : vS} (hg : MG g σ) (hw : wfA g) {S : vL} (hS : MS S σ) (hR : SAC g S) {s : Nat} (hs : s < gns g) : ∀ n m τ, m ≤ 4 → 4 < m + n → RI g S s m 0 σ τ → Ok (f_M_rankAll_4 N n τ (nI s) (nI (gtP g S s m 0)) (nI m)) (RKP g S s σ) := by
  have h6 := hw.1
  have h4 := hw.2.1 s hs
  have hRT := hR s hs
  intro n
  induction n with
  | zero => intro m τ h1 h2; omega
  | succ n ih =>
    intro m τ h1 h2 hI
    rw [f_M_rankAll_4]
    dsimp only
    by_cases hm : m = 4
    · subst hm
      have e : gtP g S s 4 0 = gtS g S s := mx_eq 4 (fun a _ => decide_eq_decide.mpr ⟨fun h => h.1, fun h => ⟨h, Or.inl (by have := hgt_n hRT h; omega)⟩⟩) (fun _ _ _ => rfl)
      have g5 := gt_5 hR hs
      refine ok_then (show (4 : Int32) ≤ nI 4 from nI_le (a := 4) (b := 4) (by decide) (by decide)) (ok_bd (bIn_nI (by omega) (by decide)) (ok_lets (fun σ3 e3 => ok_some ?_)))
      rw [nI_clamp (by omega), e, nI_1, show nI (gtS g S s + 1) / (2 : Int32) = nI ((gtS g S s + 1) / 2) from pk_div (d := 2) (by omega) (by decide) (by decide)] at e3
      obtain ⟨hE, hI1, hI2⟩ := hI
      unfold RKP
      dsimp only
      rw [e3]
      refine ⟨hE.1, fun a a11 a12 => by rw [sa_2a a12]; exact hE.2 a a11, fun a ha => ?_, fun j hj => ?_, by rw [sa_2]; rfl, fun t ht => by rw [sa_2n ht, hE.2 12 (by decide)]⟩
      · rw [sa_2a (by decide)]
        exact hI1 a ha (Or.inl (by have := hgt_n hRT ha; omega))
      · rw [sa_2a (by decide)]
        exact hI2 j hj
    · refine ok_else (show ¬ (4 : Int32) ≤ nI m from nI_ge (a := m) (b := 4) (by omega) (by decide)) ?_
      exact m_rankAll_12 hN hg hw hS hR hs (by omega) (fun τ' hI' => ih (m + 1) τ' (by omega) (by omega) hI') N 0 τ (by omega) (by omega) hI
theorem m_rankAll {N : Nat} (hN : 3000 ≤ N) {g : vA} {σ : vS} (hg : MG g σ) (hw : wfA g) {S : vL} (hS : MS S σ) (hR : SAC g S) {s : Nat} (hs : s < gns g) : Ok (f_M_rankAll N σ (nI s)) (RKP g S s σ) := by
  unfold f_M_rankAll
  have e : gtP g S s 0 0 = 1 := by
    have h1 : gtP g S s 0 0 ≤ 1 := mx_le (by decide) 4 (fun a _ h9 => absurd (of_decide_eq_true h9).2 (by omega))
    have h2 : 1 ≤ gtP g S s 0 0 := mx_1 4
    omega
  have := m_rankAll_4 hN hg hw hS hR hs N 0 σ (by omega) (by omega) ⟨E1.rf, fun a _ hc => absurd hc (by omega), fun _ _ => rfl⟩
  rw [e] at this
  exact this
/-- the reference's ranks and visits of the first n symbols -/
def MR (g : vA) (S : vL) (n : Nat) (τ : vS) : Prop := ∀ s, s < n → (∀ a, a < gna g s → τ.2 11 (4 * s + a) = nI (rkS g S s a)) ∧ τ.2 12 s = nI (vsS g S s)
theorem MR.step {g : vA} (hw : wfA g) {S : vL} {s : Nat} (hs : s < gns g) {σ : vS} {v : Int32 × vS} (h : MR g S s σ) (hv : RKP g S s σ v) : MR g S (s + 1) v.2 := by
  obtain ⟨v1, v2, v3, v4, v5, v6⟩ := hv
  intro t ht
  by_cases e : t = s
  · rw [e]; exact ⟨v3, v5⟩
  · have h4 := hw.2.1 t (by omega)
    obtain ⟨a1, a2⟩ := h t (by omega)
    exact ⟨fun a ha => by rw [v4 _ (by omega)]; exact a1 a ha, by rw [v6 t e]; exact a2⟩
