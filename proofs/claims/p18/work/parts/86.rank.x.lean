/-! The class: ranks. -/
theorem nI_max {a b : Nat} (ha : a < 2 ^ 31) (hb : b < 2 ^ 31) : (if nI a < nI b then nI b else nI a) = nI (max a b) := by
  by_cases h : a < b
  · rw [if_pos (nI_lt h hb), show max a b = b by omega]
  · rw [if_neg (nI_nlt (by omega) ha), show max a b = a by omega]
theorem and1 : ∀ k, k < 16 → nI k &&& 1 = nI (k % 2) := by decide
theorem x_leastRank {N : Nat} {g : vA} {σ : vS} (hg : XG g σ) (hw : wfA g) {s a : Nat} (hs : s < gns g) (ha : a < 4) : f_K_leastRank N σ (nI s) (nI a) = some (nI (prt (gih g s a) 1), σ) := by
  have h6 := hw.1
  unfold f_K_leastRank vlet
  dsimp only
  rw [if_pos (bIn_nI (by omega) (by decide)), nI_clamp (by omega), f_holds (by omega), Option.bind_some, hg.2.2.2.1 s a hs (by omega)]
  cases gih g s a
  · rfl
  · rfl
def flr (c : Nat → Nat) (P : Nat → Bool) (b : Nat) : Nat → Nat
  | 0 => b
  | i + 1 => if P i = true then max (flr c P b i) (c i) else flr c P b i
theorem flr_le {c : Nat → Nat} {P : Nat → Bool} {b B : Nat} (hb : b ≤ B) : ∀ n, (∀ i, i < n → P i = true → c i ≤ B) → flr c P b n ≤ B := by
  intro n
  induction n with
  | zero => intro _; exact hb
  | succ n ih =>
    intro h
    have h1 := ih (fun i hi => h i (by omega))
    show (if P n = true then max (flr c P b n) (c n) else flr c P b n) ≤ B
    by_cases e : P n = true
    · have := h n (by omega) e
      rw [if_pos e]; omega
    · rw [if_neg e]; exact h1
theorem flr_b {c : Nat → Nat} {P : Nat → Bool} {b : Nat} : ∀ n, b ≤ flr c P b n := by
  intro n
  induction n with
  | zero => exact Nat.le_refl _
  | succ n ih =>
    show b ≤ (if P n = true then max (flr c P b n) (c n) else flr c P b n)
    by_cases e : P n = true
    · rw [if_pos e]; omega
    · rw [if_neg e]; exact ih
theorem flr_in {c : Nat → Nat} {P : Nat → Bool} {b k : Nat} (hP : P k = true) : ∀ n, k < n → c k ≤ flr c P b n := by
  intro n
  induction n with
  | zero => intro h; exact absurd h (Nat.not_lt_zero _)
  | succ n ih =>
    intro hk
    show c k ≤ (if P n = true then max (flr c P b n) (c n) else flr c P b n)
    by_cases e : k = n
    · subst e
      rw [if_pos hP]; omega
    · have h1 := ih (by omega)
      by_cases h : P n = true
      · rw [if_pos h]; omega
      · rw [if_neg h]; exact h1
theorem x_above_21 {N : Nat} {g : vA} {σ : vS} (hg : XG g σ) (hw : wfA g) {S : vL} (hS : XS S σ) {s a b : Nat} (hs : s < gns g) (ha : a < gna g s) {c : Nat → Nat} (hc : ∀ i, i < gna g s → c i ≤ 5 ∧ σ.2 13 (4 * s + i) = nI (c i)) (hb : b ≤ 5) : ∀ n i, i ≤ gna g s → gna g s < i + n → f_K_rankAboveLed_21 N n σ (nI s) (nI a) (nI (s * 4)) (nI b) (nI (flr c (S s a) b i)) (nI i) = some (nI (flr c (S s a) b (gna g s) + (flr c (S s a) b (gna g s) - b) % 2), σ) := by
  have h6 := hw.1
  have h4 := hw.2.1 s hs
  intro n
  induction n with
  | zero => intro i h1 h2; omega
  | succ n ih =>
    intro i h1 h2
    have hF : ∀ j, j ≤ gna g s → flr c (S s a) b j ≤ 5 := fun j hj => flr_le hb j (fun k hk _ => (hc k (by omega)).1)
    have hF0 := flr_b (c := c) (P := S s a) (b := b) (gna g s)
    have hF1 := hF (gna g s) (Nat.le_refl _)
    rw [f_K_rankAboveLed_21]
    dsimp only
    unfold vlet
    dsimp only
    rw [if_pos (bIn_nI (by omega) (by decide)), nI_clamp (by omega), hg.2.2.1 s hs]
    by_cases hi : i = gna g s
    · subst hi
      rw [if_pos (nI_le (Nat.le_refl _) (by omega)), show nI (flr c (S s a) b (gna g s)) - nI b = nI (flr c (S s a) b (gna g s) - b) from pk_sub hF0, and1 _ (by omega), nI_add]
    · rw [if_neg (nI_ge (by omega) (by omega)), nI_add, if_pos (bIn_nI (by omega) (by decide)), nI_clamp (by omega), f_holds (by omega), Option.bind_some, show s * 4 + a = 4 * s + a by omega, hS s a i (by omega) (by omega) (by omega), decide_eq_true (show i < 4 by omega), Bool.true_and]
      have hi5 := hF i (by omega)
      cases hR : S s a i
      · rw [if_pos (by decide)]
        unfold f_K_rankAboveLed_70
        have e : flr c (S s a) b (i + 1) = flr c (S s a) b i := if_neg (by rw [hR]; decide)
        rw [nI_1, ← e]
        exact ih (i + 1) (by omega) (by omega)
      · rw [if_neg (by decide), nI_add, if_pos (bIn_nI (by omega) (by decide)), nI_clamp (by omega), show s * 4 + i = 4 * s + i by omega, (hc i (by omega)).2, nI_max (by omega) (by have := (hc i (by omega)).1; omega)]
        unfold f_K_rankAboveLed_70
        have e : flr c (S s a) b (i + 1) = max (flr c (S s a) b i) (c i) := if_pos hR
        rw [nI_1, ← e]
        exact ih (i + 1) (by omega) (by omega)
/-- how far the ranks of symbol s are, in round r at attribute i -/
def cI (g : vA) (S : vL) (s r i : Nat) (c : Nat → Nat) : Prop := ∀ a, a < gna g s → c a % 2 = (if gih g s a = true then 0 else 1) ∧ 1 ≤ c a ∧ c a ≤ rkS g S s a ∧ (hgt (S s) a < r ∨ (a < i ∧ hgt (S s) a ≤ r) → c a = rkS g S s a)
theorem cI_step {g : vA} {S : vL} (hR : SAC g S) {s r i : Nat} (hs : s < gns g) (hi : i < gna g s) {c : Nat → Nat} (h : cI g S s r i c) : cI g S s r (i + 1) (fun a => if a = i then flr c (S s i) (c i) (gna g s) + (flr c (S s i) (c i) (gna g s) - c i) % 2 else c a) := by
  have hRT := hR s hs
  have h4 := hRT.1
  obtain ⟨p1, p0, p2, p3⟩ := h i hi
  obtain ⟨F, hF⟩ : ∃ F, F = flr c (S s i) (c i) (gna g s) := ⟨_, rfl⟩
  rw [← hF]
  have f1 : c i ≤ F := by rw [hF]; exact flr_b _
  have f2 : F ≤ rkS g S s i := by
    rw [hF]
    exact flr_le p2 _ (fun b hb hb2 => Nat.le_trans (h b hb).2.2.1 (rk_ge hRT (by omega) (by omega) hb2))
  have ep : F + (F - c i) % 2 = prt (gih g s i) F := by
    unfold prt
    by_cases e : gih g s i = true
    · rw [if_pos e] at p1 ⊢; omega
    · rw [if_neg e] at p1 ⊢; omega
  have e1 : F + (F - c i) % 2 ≤ rkS g S s i := by
    rw [ep]
    have := prt_mono (i := gih g s i) f2
    rw [prt_id (m := rkS g S s i) (rk_par (R := S s) (ih := gih g s) (a := i))] at this
    exact this
  intro a ha
  dsimp only
  by_cases e : a = i
  · subst e
    rw [if_pos rfl]
    refine ⟨by rw [ep]; exact prt_par, by omega, e1, fun hh => ?_⟩
    refine Nat.le_antisymm e1 ?_
    rw [ep]
    show rk4 (S s) (gih g s) a ≤ _
    rw [rk_eq hRT (by omega)]
    refine prt_mono (mx_le (by omega) 4 (fun b hb hb2 => ?_))
    have hba := hgt_lt hRT (by omega) hb hb2
    have hbn := (hRT.2.1 a b (by omega) hb hb2).2
    have := (h b hbn).2.2.2 (Or.inl (by omega))
    show rkS g S s b ≤ F
    rw [← this, hF]
    exact flr_in hb2 _ hbn
  · rw [if_neg e]
    obtain ⟨q1, q0, q2, q3⟩ := h a ha
    exact ⟨q1, q0, q2, fun hh => q3 (by omega)⟩
/-- the ranks of symbol s as they stand; those of lesser symbols as before -/
def KR (g : vA) (s : Nat) (c : Nat → Nat) (σ τ : vS) : Prop := E1 13 σ τ ∧ (∀ a, a < gna g s → τ.2 13 (4 * s + a) = nI (c a)) ∧ ∀ j, j < 4 * s → τ.2 13 j = σ.2 13 j
theorem x_rank_57 {N : Nat} (hN : 161 ≤ N) {g : vA} {σ : vS} (hg : XG g σ) (hw : wfA g) {S : vL} (hS : XS S σ) (hR : SAC g S) {s r : Nat} (hs : s < gns g) {Q : Int32 × vS → Prop} {k48 : vS → Int32 → Int32 → Int32 → Int32 → Option (Int32 × vS)} (hk : ∀ τ c, KR g s c σ τ → cI g S s (r + 1) 0 c → Ok (k48 τ (nI s) (nI (gna g s)) (nI (s * 4)) (nI (r + 1))) Q) : ∀ n i τ c, i ≤ gna g s → gna g s < i + n → KR g s c σ τ → cI g S s r i c → Ok (f_K_rankAttributes_57 N k48 n τ (nI s) (nI (gna g s)) (nI (s * 4)) (nI r) (nI i)) Q := by
  have h6 := hw.1
  have h4 := hw.2.1 s hs
  intro n
  induction n with
  | zero => intro i τ c h1 h2; omega
  | succ n ih =>
    intro i τ c h1 h2 hK hC
    rw [f_K_rankAttributes_57]
    dsimp only
    by_cases hi : i = gna g s
    · subst hi
      refine ok_then (nI_le (Nat.le_refl _) (by omega)) ?_
      rw [nI_1]
      exact hk τ c hK (fun a ha => ⟨(hC a ha).1, (hC a ha).2.1, (hC a ha).2.2.1, fun hh => (hC a ha).2.2.2 (by omega)⟩)
    · refine ok_else (nI_ge (by omega) (by omega)) ?_
      obtain ⟨hE, hK1, hK2⟩ := hK
      have hg1 := hg.e1 hE (by decide)
      have hS1 : XS S τ := hS.eq (hE.2 12 (by decide)) (fun _ _ _ _ _ _ => rfl)
      have hc5 : ∀ a, a < gna g s → c a ≤ 5 := fun a ha => Nat.le_trans (hC a ha).2.2.1 (rk_5 (hR s hs) ha).2
      unfold f_K_rankAboveLed
      rw [show nI s * (4 : Int32) = nI (s * 4) from pk_mul s 4, nI_add, if_pos (bIn_nI (by omega) (by decide))]
      unfold vlet
      dsimp only
      rw [nI_clamp (by omega), show s * 4 + i = 4 * s + i by omega, hK1 i (by omega)]
      have hx := x_above_21 (N := N) hg1 hw hS1 (s := s) (a := i) (b := c i) hs (by omega) (c := c) (fun a ha => ⟨hc5 a ha, hK1 a ha⟩) (hc5 i (by omega)) N 0 (by omega) (by omega)
      have hx : f_K_rankAboveLed_21 N N τ (nI s) (nI i) (nI (s * 4)) (nI (c i)) (nI (c i)) 0 = _ := hx
      rw [hx, Option.bind_some, if_pos (bIn_nI (by omega) (by decide))]
      dsimp only
      rw [nI_1]
      refine ih (i + 1) _ (fun a => if a = i then flr c (S s i) (c i) (gna g s) + (flr c (S s i) (c i) (gna g s) - c i) % 2 else c a) (by omega) (by omega) ⟨hE.sa, fun a ha => ?_, fun j hj => ?_⟩ (cI_step hR hs (by omega) hC)
      · dsimp only
        by_cases e : a = i
        · rw [e, if_pos rfl, sa_2]
        · rw [if_neg e, sa_2n (by omega)]; exact hK1 a ha
      · rw [sa_2n (by omega)]; exact hK2 j hj
theorem x_rank_48 {N : Nat} (hN : 161 ≤ N) {g : vA} {σ : vS} (hg : XG g σ) (hw : wfA g) {S : vL} (hS : XS S σ) (hR : SAC g S) {s : Nat} (hs : s < gns g) : ∀ n r τ c, 1 ≤ r → (r ≤ gna g s ∨ (gna g s = 0 ∧ r = 1)) → 5 < r + n → KR g s c σ τ → cI g S s r 0 c → Ok (f_K_rankAttributes_48 N n τ (nI s) (nI (gna g s)) (nI (s * 4)) (nI r)) (fun v => KR g s (rkS g S s) σ v.2) := by
  have h4 := hw.2.1 s hs
  intro n
  induction n with
  | zero => intro r τ c h1 h2; omega
  | succ n ih =>
    intro r τ c h0 h1 h2 hK hC
    rw [f_K_rankAttributes_48]
    dsimp only
    by_cases hi : gna g s ≤ r
    · refine ok_then (nI_le hi (by omega)) (ok_some ⟨hK.1, fun a ha => ?_, hK.2.2⟩)
      have := hgt_n (hR s hs) ha
      rw [hK.2.1 a ha, (hC a ha).2.2.2 (by omega)]
    · refine ok_else (nI_ge (by omega) (by omega)) ?_
      exact x_rank_57 hN hg hw hS hR hs (fun τ' c' hK' hC' => ih (r + 1) τ' c' (by omega) (by omega) (by omega) hK' hC') N 0 τ c (by omega) (by omega) hK (fun a ha => ⟨(hC a ha).1, (hC a ha).2.1, (hC a ha).2.2.1, fun hh => (hC a ha).2.2.2 (by omega)⟩)
theorem x_rank_17 {N : Nat} (hN : 161 ≤ N) {g : vA} {σ : vS} (hg : XG g σ) (hw : wfA g) {S : vL} (hS : XS S σ) (hR : SAC g S) {s : Nat} (hs : s < gns g) : ∀ n i τ, i ≤ gna g s → gna g s < i + n → E1 13 σ τ → (∀ a, a < i → τ.2 13 (4 * s + a) = nI (prt (gih g s a) 1)) → (∀ j, j < 4 * s → τ.2 13 j = σ.2 13 j) → Ok (f_K_rankAttributes_17 N n τ (nI s) (nI (gna g s)) (nI (s * 4)) (nI i)) (fun v => KR g s (rkS g S s) σ v.2) := by
  have h6 := hw.1
  have h4 := hw.2.1 s hs
  intro n
  induction n with
  | zero => intro i τ h1 h2; omega
  | succ n ih =>
    intro i τ h1 h2 hE hI hJ
    rw [f_K_rankAttributes_17]
    dsimp only
    by_cases hi : i = gna g s
    · subst hi
      refine ok_then (nI_le (Nat.le_refl _) (by omega)) ?_
      refine x_rank_48 hN hg hw hS hR hs N 1 τ (fun a => prt (gih g s a) 1) (by omega) (by omega) (by omega) ⟨hE, hI, hJ⟩ (fun a ha => ⟨prt_par, prt_ge.1, ?_, fun hh => ?_⟩)
      · show prt (gih g s a) 1 ≤ rk4 (S s) (gih g s) a
        rw [rk_eq (hR s hs) (by omega)]
        exact prt_mono (mx_1 4)
      · show prt (gih g s a) 1 = rk4 (S s) (gih g s) a
        rw [rk_eq (hR s hs) (by omega)]
        have : mx (rk4 (S s) (gih g s)) (S s a) 4 ≤ 1 := mx_le (by omega) 4 (fun b hb hb2 => by
          have := hgt_lt (hR s hs) (by omega) hb hb2
          omega)
        have h1 := mx_1 (f := rk4 (S s) (gih g s)) (P := S s a) 4
        rw [show mx (rk4 (S s) (gih g s)) (S s a) 4 = 1 by omega]
    · refine ok_else (nI_ge (by omega) (by omega)) ?_
      rw [x_leastRank (hg.e1 hE (by decide)) hw hs (by omega), Option.bind_some, nI_add]
      refine ok_bd (bIn_nI (by omega) (by decide)) (ok_lets (fun σ13 e13 => ?_))
      rw [nI_clamp (by omega), show s * 4 + i = 4 * s + i by omega] at e13
      dsimp only at e13
      rw [nI_1]
      refine ih (i + 1) σ13 (by omega) (by omega) (by rw [e13]; exact hE.sa) (fun a ha => ?_) (fun j hj => ?_)
      · rw [e13]
        by_cases e : a = i
        · rw [e, sa_2]
        · rw [sa_2n (by omega)]; exact hI a (by omega)
      · rw [e13, sa_2n (by omega)]; exact hJ j hj
theorem x_rankAttributes {N : Nat} (hN : 161 ≤ N) {g : vA} {σ : vS} (hg : XG g σ) (hw : wfA g) {S : vL} (hS : XS S σ) (hR : SAC g S) {s : Nat} (hs : s < gns g) : Ok (f_K_rankAttributes N σ (nI s)) (fun v => KR g s (rkS g S s) σ v.2) := by
  have h6 := hw.1
  have h4 := hw.2.1 s hs
  unfold f_K_rankAttributes
  refine ok_bd (bIn_nI (by omega) (by decide)) (ok_lets (fun i2 e2 => ?_))
  rw [nI_clamp (by omega), hg.2.2.1 s hs] at e2
  rw [e2, show nI s * (4 : Int32) = nI (s * 4) from pk_mul s 4]
  exact x_rank_17 hN hg hw hS hR hs N 0 σ (by omega) (by omega) E1.rf (fun a h9 => absurd h9 (Nat.not_lt_zero _)) (fun _ _ => rfl)
/-! visits, and what belongs to them -/
theorem mx_top {f : Nat → Nat} {n : Nat} : ∀ m, n ≤ m → mx f (fun a => decide (a < n)) m = mx f (fun a => decide (a < n)) n := by
  intro m
  induction m with
  | zero => intro h; rw [Nat.le_zero.mp h]
  | succ m ih =>
    intro h
    by_cases e : n = m + 1
    · rw [e]
    · rw [← ih (by omega)]
      show (if decide (m < n) = true then _ else _) = _
      rw [if_neg (by rw [decide_eq_false (show ¬ m < n by omega)]; decide)]
theorem x_count_4 {N : Nat} {g : vA} {σ : vS} (hg : XG g σ) (hw : wfA g) {S : vL} (hR : SAC g S) {s : Nat} (hs : s < gns g) (hr : ∀ a, a < gna g s → σ.2 13 (4 * s + a) = nI (rkS g S s a)) : ∀ n i, i ≤ gna g s → gna g s < i + n → f_K_countVisits_4 N n σ (nI s) (nI (mx (rkS g S s) (fun a => decide (a < gna g s)) i)) (nI i) = some (0, sa σ 14 s (nI (vsS g S s))) := by
  have h6 := hw.1
  have h4 := hw.2.1 s hs
  intro n
  induction n with
  | zero => intro i h1 h2; omega
  | succ n ih =>
    intro i h1 h2
    rw [f_K_countVisits_4]
    dsimp only
    unfold vlet
    dsimp only
    rw [if_pos (bIn_nI (by omega) (by decide)), if_pos (bIn_nI (by omega) (by decide)), nI_clamp (by omega), hg.2.2.1 s hs]
    by_cases hi : i = gna g s
    · have h5 := gt_5 hR hs
      have e : mx (rkS g S s) (fun a => decide (a < gna g s)) i = gtS g S s := by
        rw [hi]
        exact (mx_top 4 h4).symm
      rw [e, hi, if_pos (nI_le (Nat.le_refl _) (by omega)), nI_1, show nI (gtS g S s + 1) / (2 : Int32) = nI ((gtS g S s + 1) / 2) from pk_div (d := 2) (by omega) (by decide) (by decide)]
      rfl
    · have h5 := rk_5 (ih := gih g s) (hR s hs) (a := i) (by omega)
      have h5' : rkS g S s i ≤ 5 := h5.2
      have h7 : mx (rkS g S s) (fun a => decide (a < gna g s)) i ≤ 5 := mx_le (by omega) i (fun k hk _ => (rk_5 (ih := gih g s) (hR s hs) (a := k) (by omega)).2)
      have e : mx (rkS g S s) (fun a => decide (a < gna g s)) (i + 1) = max (mx (rkS g S s) (fun a => decide (a < gna g s)) i) (rkS g S s i) := if_pos (decide_eq_true (show i < gna g s by omega))
      rw [if_neg (nI_ge (by omega) (by omega)), show nI s * (4 : Int32) = nI (s * 4) from pk_mul s 4, nI_add, if_pos (bIn_nI (by omega) (by decide)), nI_clamp (by omega), show s * 4 + i = 4 * s + i by omega, hr i (by omega), nI_max (by omega) (by omega), nI_1, ← e]
      exact ih (i + 1) (by omega) (by omega)
theorem x_share_2 {N : Nat} {g : vA} {σ : vS} (hg : XG g σ) (hw : wfA g) {S : vL} (hR : SAC g S) {s : Nat} (hs : s < gns g) (hr : ∀ a, a < gna g s → σ.2 13 (4 * s + a) = nI (rkS g S s a)) (hv : σ.2 14 s = nI (vsS g S s)) : ∀ n i τ, i ≤ gna g s → gna g s < i + n → E1 15 σ τ → (∀ v b, v < 4 → b < 32 → bt (τ.2 15 (4 * s + v)) b = (decide (b < i) && decide (voS g S s b = v))) → (∀ j, ¬ (4 * s ≤ j ∧ j < 4 * s + 4) → τ.2 15 j = σ.2 15 j) → Ok (f_K_shareOut_2 N n τ (nI s) (nI i)) (fun v => E1 15 σ v.2 ∧ (∀ w b, w < 4 → b < 32 → bt (v.2.2 15 (4 * s + w)) b = (decide (b < gna g s) && decide (voS g S s b = w))) ∧ ∀ j, ¬ (4 * s ≤ j ∧ j < 4 * s + 4) → v.2.2 15 j = σ.2 15 j) := by
  have h6 := hw.1
  have h4 := hw.2.1 s hs
  intro n
  induction n with
  | zero => intro i τ h1 h2; omega
  | succ n ih =>
    intro i τ h1 h2 hE hI hJ
    rw [f_K_shareOut_2]
    dsimp only
    have hg1 := hg.e1 hE (by decide)
    refine ok_bd (bIn_nI (by omega) (by decide)) (ok_lets (fun i2 e2 => ?_))
    rw [nI_clamp (by omega), hg1.2.2.1 s hs] at e2
    rw [e2]
    by_cases hi : i = gna g s
    · subst hi
      exact ok_then (nI_le (Nat.le_refl _) (by omega)) (ok_some ⟨hE, hI, hJ⟩)
    · refine ok_else (nI_ge (by omega) (by omega)) ?_
      have h5 := rk_5 (ih := gih g s) (hR s hs) (a := i) (by omega)
      have h51 : 1 ≤ rkS g S s i := h5.1
      have h55 : rkS g S s i ≤ 5 := h5.2
      have hv3 := vs_3 hR hs
      have ho3 := vo_3 (a := i) hR hs (by omega)
      have hvo : voS g S s i = vsS g S s - (rkS g S s i - 1) / 2 := rfl
      rw [show nI s * (4 : Int32) = nI (s * 4) from pk_mul s 4, nI_add]
      refine ok_bd (bIn_nI (by omega) (by decide)) (ok_lets (fun i5 e5 => ok_bd (bIn_nI (by omega) (by decide)) (ok_lets (fun i7 e7 => ok_lets (fun i8 e8 => ?_)))))
      rw [nI_clamp (by omega), hE.2 13 (by decide), show s * 4 + i = 4 * s + i by omega, hr i (by omega)] at e5
      rw [nI_clamp (by omega), hE.2 14 (by decide), hv] at e7
      rw [e5, e7, show nI (rkS g S s i) - (1 : Int32) = nI (rkS g S s i - 1) from pk_sub (b := 1) h51, show nI (rkS g S s i - 1) / (2 : Int32) = nI ((rkS g S s i - 1) / 2) from pk_div (d := 2) (by omega) (by decide) (by decide), show nI (vsS g S s) - nI ((rkS g S s i - 1) / 2) = nI (vsS g S s - (rkS g S s i - 1) / 2) from pk_sub (by omega), ← hvo, nI_add] at e8
      rw [e8]
      refine ok_bd (bIn_nI (by omega) (by decide)) (ok_lets (fun i10 e10 => ok_lets (fun i11 e11 => ok_bd (bIn_nI (by omega) (by decide)) (ok_lets (fun σ13 e13 => ?_)))))
      rw [nI_clamp (by omega)] at e10 e13
      rw [nI_1]
      refine ih (i + 1) σ13 (by omega) (by omega) (by rw [e13]; exact hE.sa) (fun v b hv4 hb => ?_) (fun j hj => ?_)
      · rw [e13]
        by_cases e : v = voS g S s i
        · rw [e, show 4 * s + voS g S s i = s * 4 + voS g S s i by omega, sa_2, e11, bt_or, e10, show s * 4 + voS g S s i = 4 * s + voS g S s i by omega, hI _ b (by omega) hb, bt_one (by omega) hb]
          by_cases e2 : b = i
          · rw [e2, decide_eq_true (rfl : i = i), decide_eq_true (Nat.lt_succ_self i), decide_eq_true (rfl : voS g S s i = voS g S s i), Bool.or_true]; rfl
          · rw [decide_eq_false e2, Bool.or_false, decide_eq_decide.mpr (show b < i ↔ b < i + 1 by omega)]
        · rw [sa_2n (by omega), hI v b hv4 hb]
          by_cases e2 : b = i
          · rw [e2, decide_eq_false (show ¬ voS g S s i = v from fun h9 => e h9.symm), Bool.and_false, Bool.and_false]
          · rw [decide_eq_decide.mpr (show b < i ↔ b < i + 1 by omega)]
      · rw [e13, sa_2n (by omega)]; exact hJ j hj
/-- the class's ranks, visits and what belongs to them, of the first n symbols -/
def XR (g : vA) (S : vL) (n : Nat) (τ : vS) : Prop := ∀ s, s < n → (∀ a, a < gna g s → τ.2 13 (4 * s + a) = nI (rkS g S s a)) ∧ τ.2 14 s = nI (vsS g S s) ∧ ∀ w b, w < 4 → b < 32 → bt (τ.2 15 (4 * s + w)) b = (decide (b < gna g s) && decide (voS g S s b = w))
def E5 (σ τ : vS) : Prop := τ.1 = σ.1 ∧ ∀ a, a ≠ 13 → a ≠ 14 → a ≠ 15 → τ.2 a = σ.2 a
theorem x_rmake_10 {N : Nat} (hN : 161 ≤ N) {g : vA} {σ : vS} (hg : XG g σ) (hw : wfA g) {S : vL} (hS : XS S σ) (hR : SAC g S) : ∀ n s τ, s ≤ gns g → gns g < s + n → E5 σ τ → XR g S s τ → (∀ j, 4 * s ≤ j → τ.2 15 j = 0) → Ok (f_K_make_10 N n τ (nI s)) (fun v => E5 σ v.2 ∧ XR g S (gns g) v.2) := by
  have h6 := hw.1
  intro n
  induction n with
  | zero => intro s τ h1 h2; omega
  | succ n ih =>
    intro s τ h1 h2 hE hX hZ
    have hg1 : XG g τ := hg.stay (by rw [hE.1]) (by rw [hE.1]) (fun a ha => hE.2 a (by omega) (by omega) (by omega))
    have hS1 : XS S τ := hS.eq (hE.2 12 (by decide) (by decide) (by decide)) (fun _ _ _ _ _ _ => rfl)
    rw [f_K_make_10]
    dsimp only
    rw [hg1.1]
    by_cases hs : s = gns g
    · subst hs
      exact ok_then (nI_le (Nat.le_refl _) (by omega)) (ok_some ⟨hE, hX⟩)
    · refine ok_else (nI_ge (by omega) (by omega)) (ok_bi (x_rankAttributes hN hg1 hw hS1 hR (by omega)) (fun q3 hq3 => ?_))
      have h4 := hw.2.1 s (by omega)
      obtain ⟨k1, k2, k3⟩ := hq3
      have hg3 := hg1.e1 k1 (by decide)
      have hcv := x_count_4 (N := N) hg3 hw hR (by omega) k2 N 0 (by omega) (by omega)
      have hcv : f_K_countVisits N q3.2 (nI s) = some (0, sa q3.2 14 s (nI (vsS g S s))) := hcv
      rw [hcv, Option.bind_some]
      dsimp only
      obtain ⟨υ, eυ⟩ : ∃ υ, υ = sa q3.2 14 s (nI (vsS g S s)) := ⟨_, rfl⟩
      rw [← eυ]
      have hE14 : E1 14 q3.2 υ := by rw [eυ]; exact E1.rf.sa
      have z15 : υ.2 15 = τ.2 15 := by rw [hE14.2 15 (by decide), k1.2 15 (by decide)]
      unfold f_K_shareOut
      refine ok_bi (x_share_2 (hg3.e1 hE14 (by decide)) hw hR (by omega) (fun a ha => by rw [hE14.2 13 (by decide)]; exact k2 a ha) (by rw [eυ, sa_2]) N 0 υ (by omega) (by omega) E1.rf (fun v b hv hb => by rw [z15, hZ _ (by omega), bt_0]; rfl) (fun _ _ => rfl)) (fun q7 hq7 => ?_)
      obtain ⟨m1, m2, m3⟩ := hq7
      rw [nI_1]
      have hE' : E5 σ q7.2 := ⟨by rw [m1.1, hE14.1, k1.1]; exact hE.1, fun a a13 a14 a15 => by rw [m1.2 a a15, hE14.2 a a14, k1.2 a a13]; exact hE.2 a a13 a14 a15⟩
      refine ih (s + 1) q7.2 (by omega) (by omega) hE' (fun t ht => ?_) (fun j hj => ?_)
      · by_cases e : t = s
        · rw [e]
          refine ⟨fun a ha => by rw [m1.2 13 (by decide), hE14.2 13 (by decide)]; exact k2 a ha, by rw [m1.2 14 (by decide), eυ, sa_2], m2⟩
        · obtain ⟨x1, x2, x3⟩ := hX t (by omega)
          have h4t := hw.2.1 t (by omega)
          refine ⟨fun a ha => by rw [m1.2 13 (by decide), hE14.2 13 (by decide), k3 _ (by omega)]; exact x1 a ha, by rw [m1.2 14 (by decide), eυ, sa_2n e, k1.2 14 (by decide)]; exact x2, fun w b hw4 hb => by rw [m3 _ (by omega), z15]; exact x3 w b hw4 hb⟩
      · rw [m3 _ (by omega), z15]; exact hZ j (by omega)
theorem x_rmake {N : Nat} (hN : 161 ≤ N) {g : vA} {σ : vS} (hg : XG g σ) (hw : wfA g) {S : vL} (hS : XS S σ) (hR : SAC g S) : Ok (f_K_make N σ) (fun v => E5 σ v.2 ∧ XR g S (gns g) v.2) := by
  have h6 := hw.1
  unfold f_K_make
  refine ok_lets (fun σ1 e1 => ?_)
  exact x_rmake_10 hN hg hw hS hR N 0 σ1 (by omega) (by omega) ⟨by rw [e1]; rfl, fun a _ _ a15 => by rw [e1, sfill_2a a15]⟩ (fun s h9 => absurd h9 (Nat.not_lt_zero _)) (fun j _ => by rw [e1, sfill_2])
