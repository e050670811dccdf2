/-! The order that ORDERED asks for; the class's side. -/
def apS (g : vA) (S : vL) (P A : Nat) : vL := fun s a b => S s a b || (decide (s < P ∨ (s = P ∧ a < A)) && (decide (a < gna g s) && (decide (b < gna g s) && decide (rkS g S s b < rkS g S s a))))
theorem apS_eq {g : vA} {S : vL} {P A P' A' s a b : Nat} (h : a < gna g s → ((s < P ∨ (s = P ∧ a < A)) ↔ (s < P' ∨ (s = P' ∧ a < A')))) : apS g S P A s a b = apS g S P' A' s a b := by
  unfold apS
  by_cases e : a < gna g s
  · rw [decide_eq_decide.mpr (h e)]
  · rw [decide_eq_false e, Bool.false_and, Bool.and_false, Bool.and_false]
def S2 (g : vA) (S : vL) : vL := apS g S (gns g) 0
def ordL (g : vA) (S : vL) : vL := fun p x b => wcl (fun x b => usd g p x b || tkc g (S2 g S) p x b) 16 x b
theorem wcl_cong {R R' : Nat → Nat → Bool} (h : ∀ a b, a < 16 → b < 16 → R a b = R' a b) : ∀ n, n ≤ 16 → ∀ a b, a < 16 → b < 16 → wcl R n a b = wcl R' n a b := by
  intro n
  induction n with
  | zero => intro _ a b ha hb; exact h a b ha hb
  | succ n ih =>
    intro hn a b ha hb
    show (wcl R n a b || (wcl R n a n && wcl R n n b)) = (wcl R' n a b || (wcl R' n a n && wcl R' n n b))
    rw [ih (by omega) a b ha hb, ih (by omega) a n ha (by omega), ih (by omega) n b (by omega) hb]
theorem tkc_cong {g : vA} (hw : wfA g) {S S' : vL} (h : ∀ s a b, s < gns g → a < 4 → b < 4 → S s a b = S' s a b) {p x b : Nat} (hp : p < gnp g) : tkc g S p x b = tkc g S' p x b := by
  unfold tkc
  by_cases e : x / 4 < gpo g p
  · rw [h _ _ _ (hw.2.2.2.2.2.1 p (x / 4) hp e) (Nat.mod_lt _ (by decide)) (Nat.mod_lt _ (by decide))]
  · rw [decide_eq_false e, Bool.false_and, Bool.false_and]
theorem S2_cong {g : vA} {S S' : vL} (h : ∀ s a b, s < gns g → a < 4 → b < 4 → S s a b = S' s a b) {s a b : Nat} (hs : s < gns g) (ha : a < 4) (hb : b < 4) : S2 g S s a b = S2 g S' s a b := by
  unfold S2 apS
  rw [h s a b hs ha hb, rkS_cong h hs ha, rkS_cong h hs hb]
theorem ordL_cong {g : vA} (hw : wfA g) {S S' : vL} (h : ∀ s a b, s < gns g → a < 4 → b < 4 → S s a b = S' s a b) {p x b : Nat} (hp : p < gnp g) (hx : x < 16) (hb : b < 16) : ordL g S p x b = ordL g S' p x b := wcl_cong (fun x b _ _ => by rw [tkc_cong hw (fun s a b hs ha hb => S2_cong h hs ha hb) hp]) 16 (Nat.le_refl _) x b hx hb
/-- the class's way to the order gives the same -/
theorem ord_x {d : Bool} {g : vA} (hw : wfA g) {L S : vL} (h : FX d g L S) {p x b : Nat} (hp : p < gnp g) (hx : x < 16) (hb : b < 16) : wcl (fun x b => L p x b || tkc g (S2 g S) p x b) 16 x b = ordL g S p x b := by
  have up : ∀ x b, tkc g S p x b = true → tkc g (S2 g S) p x b = true := fun x b h9 => by
    obtain ⟨t1, t2, t3⟩ := tkc_iff.mp h9
    refine tkc_iff.mpr ⟨t1, t2, ?_⟩
    unfold S2 apS
    rw [t3, Bool.true_or]
  refine Bool.eq_iff_iff.mpr ⟨fun h9 => ?_, fun h9 => ?_⟩
  · refine wcl_least (T := ordL g S p) (fun a m b _ hm _ h1 h2 => wcl_tr 16 a m b hm h1 h2) (fun a b ha hb h8 => ?_) 16 (Nat.le_refl _) x b hx hb h9
    rcases (Bool.or_eq_true _ _).mp h8 with h7 | h7
    · have h6 := fx_only h hp ha hb h7
      exact wcl_least (T := ordL g S p) (fun a m b _ hm _ h1 h2 => wcl_tr 16 a m b hm h1 h2) (fun a b ha hb h5 => by
        rcases (Bool.or_eq_true _ _).mp h5 with h4 | h4
        · exact wcl_in ((Bool.or_eq_true _ _).mpr (Or.inl h4)) 16
        · exact wcl_in ((Bool.or_eq_true _ _).mpr (Or.inr (up a b h4))) 16) 16 (Nat.le_refl _) a b ha hb h6
    · exact wcl_in ((Bool.or_eq_true _ _).mpr (Or.inr h7)) 16
  · refine wcl_least (T := fun x b => wcl (fun x b => L p x b || tkc g (S2 g S) p x b) 16 x b) (fun a m b _ hm _ h1 h2 => wcl_tr 16 a m b hm h1 h2) (fun a b ha hb h8 => ?_) 16 (Nat.le_refl _) x b hx hb h9
    rcases (Bool.or_eq_true _ _).mp h8 with h7 | h7
    · exact wcl_in ((Bool.or_eq_true _ _).mpr (Or.inl (h.1 p a b hp ha hb h7))) 16
    · exact wcl_in ((Bool.or_eq_true _ _).mpr (Or.inr h7)) 16
/-! ofLessRank, addToLeads, takeOrder -/
theorem x_less_5 {N : Nat} {g : vA} {σ : vS} (hg : XG g σ) (hw : wfA g) {S : vL} (hR : SAC g S) {s r : Nat} (hs : s < gns g) (hr5 : r ≤ 5) (hr : ∀ a, a < gna g s → σ.2 13 (4 * s + a) = nI (rkS g S s a)) : ∀ n i z, i ≤ gna g s → gna g s < i + n → (∀ b, b < 32 → bt z b = (decide (b < i) && decide (rkS g S s b < r))) → ∃ z', f_K_ofLessRank_5 N n σ (nI s) (nI r) z (nI i) = some (z', σ) ∧ ∀ b, b < 32 → bt z' b = (decide (b < gna g s) && decide (rkS g S s b < r)) := by
  have h6 := hw.1
  have h4 := hw.2.1 s hs
  intro n
  induction n with
  | zero => intro i z h1 h2; omega
  | succ n ih =>
    intro i z h1 h2 hz
    rw [f_K_ofLessRank_5]
    dsimp only
    unfold vlet
    dsimp only
    rw [if_pos (bIn_nI (by omega) (by decide)), nI_clamp (by omega), hg.2.2.1 s hs]
    by_cases hi : i = gna g s
    · subst hi
      rw [if_pos (nI_le (Nat.le_refl _) (by omega))]
      exact ⟨z, rfl, hz⟩
    · have h5 := rk_5 (ih := gih g s) (hR s hs) (a := i) (by omega)
      have h55 : rkS g S s i ≤ 5 := h5.2
      rw [if_neg (nI_ge (by omega) (by omega)), show nI s * (4 : Int32) = nI (s * 4) from pk_mul s 4, nI_add, if_pos (bIn_nI (by omega) (by decide)), nI_clamp (by omega), show s * 4 + i = 4 * s + i by omega, hr i (by omega)]
      unfold f_K_ofLessRank_41
      rw [nI_1]
      by_cases hc : r ≤ rkS g S s i
      · rw [if_pos (nI_le hc (by omega))]
        refine ih (i + 1) z (by omega) (by omega) (fun b hb => ?_)
        rw [hz b hb]
        by_cases e : b = i
        · rw [e, decide_eq_false (show ¬ rkS g S s i < r by omega), Bool.and_false, Bool.and_false]
        · rw [decide_eq_decide.mpr (show b < i ↔ b < i + 1 by omega)]
      · rw [if_neg (nI_ge (by omega) (by omega))]
        refine ih (i + 1) _ (by omega) (by omega) (fun b hb => ?_)
        rw [bt_or, hz b hb, bt_one (by omega) hb]
        by_cases e : b = i
        · rw [e, decide_eq_true (rfl : i = i), decide_eq_true (Nat.lt_succ_self i), decide_eq_true (show rkS g S s i < r by omega), Bool.or_true]; rfl
        · rw [decide_eq_false e, Bool.or_false, decide_eq_decide.mpr (show b < i ↔ b < i + 1 by omega)]
theorem x_add_19 {N : Nat} (hN : 161 ≤ N) {g : vA} {σ : vS} (hg : XG g σ) (hw : wfA g) {S : vL} (hR : SAC g S) (hX : XR g S (gns g) σ) {s : Nat} (hs : s < gns g) {Q : Int32 × vS → Prop} {k2 : vS → Int32 → Option (Int32 × vS)} (hk : ∀ τ, E1 12 σ τ → XS (apS g S (s + 1) 0) τ → Ok (k2 τ (nI (s + 1))) Q) : ∀ n i τ, i ≤ gna g s → gna g s < i + n → E1 12 σ τ → XS (apS g S s i) τ → Ok (f_K_addToLeads_19 N k2 n τ (nI s) (nI (s * 4)) (nI i)) Q := by
  have h6 := hw.1
  have h4 := hw.2.1 s hs
  intro n
  induction n with
  | zero => intro i τ h1 h2; omega
  | succ n ih =>
    intro i τ h1 h2 hE hS
    have hg1 := hg.e1 hE (by decide)
    rw [f_K_addToLeads_19]
    dsimp only
    refine ok_bd (bIn_nI (by omega) (by decide)) (ok_lets (fun i3 e3 => ?_))
    rw [nI_clamp (by omega), hg1.2.2.1 s hs] at e3
    rw [e3]
    by_cases hi : i = gna g s
    · subst hi
      refine ok_then (nI_le (Nat.le_refl _) (by omega)) ?_
      rw [nI_1]
      exact hk τ hE (hS.eq rfl (fun t a b _ _ _ => apS_eq (fun h9 => by
        by_cases e : t = s
        · rw [e] at h9; omega
        · omega)))
    · have h5 := rk_5 (ih := gih g s) (hR s hs) (a := i) (by omega)
      have h55 : rkS g S s i ≤ 5 := h5.2
      have hr1 : ∀ a, a < gna g s → τ.2 13 (4 * s + a) = nI (rkS g S s a) := fun a ha => by rw [hE.2 13 (by decide)]; exact (hX s hs).1 a ha
      refine ok_else (nI_ge (by omega) (by omega)) ?_
      rw [nI_add]
      refine ok_bd (bIn_nI (by omega) (by decide)) (ok_lets (fun i6 e6 => ok_bd (bIn_nI (by omega) (by decide)) (ok_lets (fun i8 e8 => ?_))))
      rw [nI_clamp (by omega), show s * 4 + i = 4 * s + i by omega] at e6
      rw [nI_clamp (by omega), show s * 4 + i = 4 * s + i by omega, hr1 i (by omega)] at e8
      obtain ⟨z, hz, hzb⟩ := x_less_5 (N := N) (S := S) hg1 hw hR hs h55 hr1 N 0 0 (by omega) (by omega) (fun b _ => by rw [bt_0, decide_eq_false (Nat.not_lt_zero b)]; rfl)
      have hz : f_K_ofLessRank N τ (nI s) (nI (rkS g S s i)) = some (z, τ) := hz
      rw [e8, hz, Option.bind_some]
      refine ok_bd (bIn_nI (by omega) (by decide)) (ok_lets (fun σ12 e12 => ?_))
      rw [nI_clamp (by omega), show s * 4 + i = 4 * s + i by omega] at e12
      dsimp only at e12
      rw [nI_1]
      refine ih (i + 1) σ12 (by omega) (by omega) (by rw [e12]; exact hE.sa) ?_
      rw [e12]
      refine hS.sa (fun b hb => ?_) (fun t a b _ _ _ e => apS_eq (fun _ => ?_)) (by omega)
      · rw [bt_or, e6, hS s i b (by omega) (by omega) hb, hzb b hb]
        unfold apS
        rw [decide_eq_false (show ¬ (s < s ∨ (s = s ∧ i < i)) by omega), decide_eq_true (show s < s ∨ (s = s ∧ i < i + 1) by omega), decide_eq_true (show i < gna g s by omega), Bool.false_and, Bool.or_false, Bool.true_and, Bool.true_and]
        by_cases hb4 : b < 4
        · rw [decide_eq_true hb4, Bool.true_and, Bool.true_and]
        · rw [decide_eq_false hb4, decide_eq_false (show ¬ b < gna g s by omega)]; rfl
      · by_cases e2 : t = s
        · have : a ≠ i := fun h9 => e ⟨e2, h9⟩
          omega
        · omega
theorem x_add_2 {N : Nat} (hN : 161 ≤ N) {g : vA} {σ : vS} (hg : XG g σ) (hw : wfA g) {S : vL} (hR : SAC g S) (hX : XR g S (gns g) σ) : ∀ n s τ, s ≤ gns g → gns g < s + n → E1 12 σ τ → XS (apS g S s 0) τ → Ok (f_K_addToLeads_2 N n τ (nI s)) (fun v => E1 12 σ v.2 ∧ XS (S2 g S) v.2) := by
  have h6 := hw.1
  intro n
  induction n with
  | zero => intro s τ h1 h2; omega
  | succ n ih =>
    intro s τ h1 h2 hE hS
    have hg1 := hg.e1 hE (by decide)
    rw [f_K_addToLeads_2]
    dsimp only
    rw [hg1.1]
    by_cases hs : s = gns g
    · subst hs
      exact ok_then (nI_le (Nat.le_refl _) (by omega)) (ok_some ⟨hE, hS⟩)
    · have h4 := hw.2.1 s (by omega)
      refine ok_else (nI_ge (by omega) (by omega)) ?_
      rw [show nI s * (4 : Int32) = nI (s * 4) from pk_mul s 4]
      exact x_add_19 hN hg hw hR hX (by omega) (fun τ' hE' hS' => ih (s + 1) τ' (by omega) (by omega) hE' hS') N 0 τ (by omega) (by omega) hE hS
def toL (g : vA) (L S : vL) : Nat → vL
  | 0 => L
  | p + 1 => lnL g (toL g L S p) S p
theorem toL_o {g : vA} {L S : vL} {p x b : Nat} : ∀ n, n ≤ p → toL g L S n p x b = L p x b := by
  intro n
  induction n with
  | zero => intro _; rfl
  | succ n ih =>
    intro h
    show lnL g (toL g L S n) S n p x b = _
    rw [lnL_n (by omega)]
    exact ih (by omega)
theorem toL_p {g : vA} {L S : vL} {p x b : Nat} : ∀ n, p < n → toL g L S n p x b = wcl (fun x b => L p x b || tkc g S p x b) 16 x b := by
  intro n
  induction n with
  | zero => intro h; exact absurd h (Nat.not_lt_zero _)
  | succ n ih =>
    intro h
    show lnL g (toL g L S n) S n p x b = _
    by_cases e : p = n
    · subst e
      rw [lnL_p]
      have : (fun x b => toL g L S p p x b || tkc g S p x b) = (fun x b => L p x b || tkc g S p x b) := by
        funext x b
        rw [toL_o p (Nat.le_refl _)]
      rw [this]
    · rw [lnL_n e]
      exact ih (by omega)
theorem x_takeOrder_2 {N : Nat} (hN : 161 ≤ N) {g : vA} {σ : vS} (hg : XG g σ) (hw : wfA g) {L S : vL} (hS : XS S σ) : ∀ n p τ, p ≤ gnp g → gnp g < p + n → E1 11 σ τ → XL (toL g L S p) τ → Ok (f_E_takeOrder_2 N n τ (nI p)) (fun v => E1 11 σ v.2 ∧ XL (toL g L S (gnp g)) v.2) := by
  have h10 := hw.2.2.2.1
  intro n
  induction n with
  | zero => intro p τ h1 h2; omega
  | succ n ih =>
    intro p τ h1 h2 hE hL
    have hg1 := hg.e1 hE (by decide)
    rw [f_E_takeOrder_2]
    dsimp only
    rw [hg1.2.1]
    by_cases hp : p = gnp g
    · subst hp
      exact ok_then (nI_le (Nat.le_refl _) (by omega)) (ok_some ⟨hE, hL⟩)
    · refine ok_else (nI_ge (by omega) (by omega)) ?_
      refine x_tc hN hg1 hw (by omega) hL (hS.eq (hE.2 12 (by decide)) (fun _ _ _ _ _ _ => rfl)) (fun q2 hE2 hL2 => ?_)
      rw [nI_1]
      exact ih (p + 1) q2.2 (by omega) (by omega) (hE.tr hE2) hL2
/-- what isOrdered leaves -/
def ORD (g : vA) (S : vL) (σ : vS) (v : Int32 × vS) : Prop := (∀ a, a ≠ 11 → a ≠ 12 → a ≠ 13 → a ≠ 14 → a ≠ 15 → v.2.2 a = σ.2 a) ∧ XR g S (gns g) v.2 ∧ ((v.1 = 1 ∧ acy g (ordL g S) ∧ v.2.1 = σ.1) ∨ (v.1 = 0 ∧ ¬ acy g (ordL g S) ∧ v.2.1 3 = 3 ∧ ∀ k, k ≠ 3 → k ≠ 4 → k ≠ 5 → v.2.1 k = σ.1 k))
theorem XR.eq {g : vA} {S : vL} {n : Nat} {τ υ : vS} (h : XR g S n τ) (h13 : υ.2 13 = τ.2 13) (h14 : υ.2 14 = τ.2 14) (h15 : υ.2 15 = τ.2 15) : XR g S n υ := by
  unfold XR
  rw [h13, h14, h15]
  exact h
theorem x_isOrdered {N : Nat} (hN : 161 ≤ N) {g : vA} {σ : vS} (hg : XG g σ) (hw : wfA g) {L S : vL} (hF : FX false g L S) (hy : acy g L) (hL : XL L σ) (hS : XS S σ) : Ok (f_A_isOrdered N σ) (ORD g S σ) := by
  have h10 := hw.2.2.2.1
  have h6 := hw.1
  have hR := fx_sac hw hF hy
  unfold f_A_isOrdered
  refine ok_bi (x_rmake hN hg hw hS hR) (fun q1 h1 => ?_)
  obtain ⟨hE1, hX1⟩ := h1
  have hg1 : XG g q1.2 := hg.stay (by rw [hE1.1]) (by rw [hE1.1]) (fun a ha => hE1.2 a (by omega) (by omega) (by omega))
  have hS1 : XS (apS g S 0 0) q1.2 := hS.eq (hE1.2 12 (by decide) (by decide) (by decide)) (fun s a b _ _ _ => by
    unfold apS
    rw [decide_eq_false (show ¬ (s < 0 ∨ (s = 0 ∧ a < 0)) by omega), Bool.false_and, Bool.or_false])
  unfold f_K_addToLeads
  refine ok_bi (x_add_2 hN hg1 hw hR hX1 N 0 q1.2 (by omega) (by omega) E1.rf hS1) (fun q3 h3 => ?_)
  obtain ⟨hE3, hS3⟩ := h3
  have hg3 := hg1.e1 hE3 (by decide)
  have hL3 : XL L q3.2 := hL.eq ((hE3.2 11 (by decide)).trans (hE1.2 11 (by decide) (by decide) (by decide))) (fun _ _ _ _ _ _ => rfl)
  unfold f_E_takeOrder
  refine ok_bi (x_takeOrder_2 (L := L) hN hg3 hw hS3 N 0 q3.2 (by omega) (by omega) E1.rf hL3) (fun q5 h5 => ?_)
  obtain ⟨hE5, hL5⟩ := h5
  have hg5 := hg3.e1 hE5 (by decide)
  have ea : acy g (toL g L (S2 g S) (gnp g)) ↔ acy g (ordL g S) := by
    have e : ∀ p o, p < gnp g → o < 16 → toL g L (S2 g S) (gnp g) p o o = ordL g S p o o := fun p o hp ho => by rw [toL_p (gnp g) hp, ord_x hw hF hp ho ho]
    exact ⟨fun h p o hp ho => by rw [← e p o hp ho]; exact h p o hp ho, fun h p o hp ho => by rw [e p o hp ho]; exact h p o hp ho⟩
  refine ok_bi (x_none hN hw hg5 hL5) (fun q7 h7 => ok_some ?_)
  have k5 : ∀ a, a ≠ 11 → a ≠ 12 → a ≠ 13 → a ≠ 14 → a ≠ 15 → q5.2.2 a = σ.2 a := fun a a11 a12 a13 a14 a15 => by rw [hE5.2 a a11, hE3.2 a a12, hE1.2 a a13 a14 a15]
  have i5 : q5.2.1 = σ.1 := by rw [hE5.1, hE3.1, hE1.1]
  have hX5 : XR g S (gns g) q5.2 := hX1.eq (by rw [hE5.2 13 (by decide), hE3.2 13 (by decide)]) (by rw [hE5.2 14 (by decide), hE3.2 14 (by decide)]) (by rw [hE5.2 15 (by decide), hE3.2 15 (by decide)])
  unfold ORD
  dsimp only
  rcases h7 with ⟨a1, a2, a3⟩ | ⟨a1, a2, a3, a4, a5⟩
  · rw [a1, a3]
    exact ⟨k5, hX5, Or.inl ⟨by decide, ea.mp a2, i5⟩⟩
  · rw [a1, a3]
    exact ⟨k5, hX5.eq (by rw [a3]) (by rw [a3]) (by rw [a3]), Or.inr ⟨by decide, fun h9 => a2 (ea.mpr h9), a4, fun k k3 k4 k5 => by rw [a5 k k3 k4 k5, i5]⟩⟩
