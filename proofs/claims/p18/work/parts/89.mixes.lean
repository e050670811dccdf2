/-! The reference: mixes. -/
theorem m_dem {N : Nat} {g : vA} {σ : vS} (hg : MG g σ) (hw : wfA g) {S : vL} (hU : MU g σ) (hS : MS S σ) (hR : SAC g S) (hM : MR g S (gns g) σ) {p x b : Nat} (hp : p < gnp g) (hx : x < 16) (hb : b < 16) : f_M_isDemanded N σ (nI p) (nI x) (nI b) = some (b01 (usd g p x b || tkc g (S2 g S) p x b), σ) := by
  have h10 := hw.2.2.2.1
  have h6 := hw.1
  have h5 := hw.2.2.2.2.1 p hp
  have e1 : nI x - nI x / (4 : Int32) * 4 = nI (x % 4) := pk_rem (a := x) (d := 4) (by omega) (by decide) (by decide)
  have e2 : nI x / (4 : Int32) = nI (x / 4) := pk_div (d := 4) (by omega) (by decide) (by decide)
  have e3 : nI b - nI b / (4 : Int32) * 4 = nI (b % 4) := pk_rem (a := b) (d := 4) (by omega) (by decide) (by decide)
  have e4 : nI b / (4 : Int32) = nI (b / 4) := pk_div (d := 4) (by omega) (by decide) (by decide)
  unfold f_M_isDemanded f_M_isDemanded_113 vlet
  dsimp only
  rw [e1, e2, e3, e4, show (256 : Int32) * nI p = nI (256 * p) from pk_mul 256 p, show (16 : Int32) * nI x = nI (16 * x) from pk_mul 16 x, nI_add, nI_add, if_pos (bIn_nI (by omega) (by decide)), nI_clamp (by omega), hU p x b hp hx hb]
  cases hu : usd g p x b
  · rw [if_pos (show b01 false = 0 from rfl), Bool.false_or]
    by_cases hq : x / 4 = b / 4
    · rw [if_pos (by rw [hq]), m_occ hg hw hp (by omega), Option.bind_some]
      dsimp only
      cases hox : occ g p x
      · rw [if_pos (show b01 false = 0 from rfl)]
        have : tkc g (S2 g S) p x b = false := by
          cases ht : tkc g (S2 g S) p x b
          · rfl
          · obtain ⟨t1, t2, t3⟩ := tkc_iff.mp ht
            have hs := hw.2.2.2.2.2.1 p (x / 4) hp t2
            unfold S2 apS at t3
            rw [Bool.or_eq_true, Bool.and_eq_true, Bool.and_eq_true, decide_eq_true_iff, decide_eq_true_iff] at t3
            have : x % 4 < gna g (gsy g p (x / 4)) := by
              rcases t3 with t3 | t3
              · exact ((hR _ hs).2.1 _ _ (Nat.mod_lt _ (by decide)) (Nat.mod_lt _ (by decide)) t3).1
              · exact t3.2.1
            rw [occ_iff.mpr ⟨by omega, this⟩] at hox
            cases hox
        rw [this]; rfl
      · have ox := occ_iff.mp hox
        rw [if_neg (by decide), m_occ hg hw hp (by omega), Option.bind_some]
        dsimp only
        have hs := hw.2.2.2.2.2.1 p (x / 4) hp (by omega)
        cases hob : occ g p b
        · rw [if_pos (show b01 false = 0 from rfl)]
          have : tkc g (S2 g S) p x b = false := by
            cases ht : tkc g (S2 g S) p x b
            · rfl
            · obtain ⟨t1, t2, t3⟩ := tkc_iff.mp ht
              unfold S2 apS at t3
              rw [Bool.or_eq_true, Bool.and_eq_true, Bool.and_eq_true, Bool.and_eq_true, decide_eq_true_iff, decide_eq_true_iff, decide_eq_true_iff] at t3
              have : b % 4 < gna g (gsy g p (b / 4)) := by
                rw [← hq]
                rcases t3 with t3 | t3
                · exact ((hR _ hs).2.1 _ _ (Nat.mod_lt _ (by decide)) (Nat.mod_lt _ (by decide)) t3).2
                · exact t3.2.2.1
              rw [occ_iff.mpr ⟨by omega, this⟩] at hob
              cases hob
          rw [this]; rfl
        · have ob := occ_iff.mp hob
          rw [if_neg (by decide), show (4 : Int32) * nI p = nI (4 * p) from pk_mul 4 p, nI_add, if_pos (bIn_nI (by omega) (by decide)), nI_clamp (by omega), hg.2.2.2.2.2.1 p (x / 4) hp (by omega), show (16 : Int32) * nI (gsy g p (x / 4)) = nI (16 * gsy g p (x / 4)) from pk_mul 16 _, show (4 : Int32) * nI (x % 4) = nI (4 * (x % 4)) from pk_mul 4 _, nI_add, nI_add, if_pos (bIn_nI (by omega) (by decide)), nI_clamp (by omega), hS _ _ _ (by omega) (Nat.mod_lt _ (by decide)) (Nat.mod_lt _ (by decide))]
          have et : tkc g (S2 g S) p x b = (S (gsy g p (x / 4)) (x % 4) (b % 4) || decide (rkS g S (gsy g p (x / 4)) (b % 4) < rkS g S (gsy g p (x / 4)) (x % 4))) := by
            unfold tkc S2 apS
            rw [decide_eq_true hq, decide_eq_true (show x / 4 < gpo g p by omega), decide_eq_true (show gsy g p (x / 4) < gns g ∨ (gsy g p (x / 4) = gns g ∧ x % 4 < 0) from Or.inl hs), decide_eq_true ox.2, decide_eq_true (show b % 4 < gna g (gsy g p (x / 4)) by rw [hq]; exact ob.2), Bool.true_and, Bool.true_and, Bool.true_and, Bool.true_and, Bool.true_and]
          rw [et]
          cases hss : S (gsy g p (x / 4)) (x % 4) (b % 4)
          · rw [if_pos (show b01 false = 0 from rfl), Bool.false_or, m_attributeOf hg hw hp ox.1, Option.bind_some]
            dsimp only
            rw [if_pos (bIn_nI (by omega) (by decide)), nI_clamp (by omega), (hM _ hs).1 _ ox.2, m_attributeOf hg hw hp ob.1, Option.bind_some]
            dsimp only
            have hs' := hw.2.2.2.2.2.1 p (b / 4) hp (by omega)
            rw [if_pos (bIn_nI (by omega) (by decide)), nI_clamp (by omega), (hM _ hs').1 _ ob.2, ← hq]
            have r1 : rkS g S (gsy g p (x / 4)) (x % 4) ≤ 5 := (rk_5 (hR _ hs) ox.2).2
            have r2 : rkS g S (gsy g p (x / 4)) (b % 4) ≤ 5 := (rk_5 (hR _ hs) (by rw [hq]; exact ob.2)).2
            by_cases hc : rkS g S (gsy g p (x / 4)) (x % 4) ≤ rkS g S (gsy g p (x / 4)) (b % 4)
            · rw [if_pos (nI_le hc (by omega)), decide_eq_false (show ¬ rkS g S (gsy g p (x / 4)) (b % 4) < rkS g S (gsy g p (x / 4)) (x % 4) by omega)]; rfl
            · rw [if_neg (nI_ge (by omega) (by omega)), decide_eq_true (show rkS g S (gsy g p (x / 4)) (b % 4) < rkS g S (gsy g p (x / 4)) (x % 4) by omega)]; rfl
          · rw [if_neg (by decide), Bool.true_or]; rfl
    · rw [if_neg (fun h9 => hq ((nI_eq (by omega) (by omega)).mp h9))]
      have : tkc g (S2 g S) p x b = false := by
        unfold tkc
        rw [decide_eq_false hq, Bool.false_and]
      rw [this]; rfl
  · rw [if_neg (by decide), Bool.true_or]; rfl
def MO (R : Nat → Nat → Bool) (τ : vS) : Prop := ∀ a b, a < 16 → b < 16 → τ.2 10 (16 * a + b) = b01 (R a b)
theorem MO.sa {R R' : Nat → Nat → Bool} {τ : vS} {a b : Nat} {z : Int32} (h : MO R τ) (hz : z = b01 (R' a b)) (ho : ∀ a' b', a' < 16 → b' < 16 → ¬ (a' = a ∧ b' = b) → R' a' b' = R a' b') (hb : b < 16) : MO R' (sa τ 10 (16 * a + b) z) := by
  intro a' b' ha' hb'
  by_cases e : a' = a ∧ b' = b
  · rw [e.1, e.2, sa_2]; exact hz
  · rw [sa_2n (fun h9 => e ⟨by omega, by omega⟩), h a' b' ha' hb', ho a' b' ha' hb' e]
def clR (R : Nat → Nat → Bool) (m k : Nat) : Nat → Nat → Bool := fun x b => wcl R m x b || (decide (16 * x + b < k) && (wcl R m x m && wcl R m m b))
theorem clR_0 {R : Nat → Nat → Bool} {m x b : Nat} : clR R m 0 x b = wcl R m x b := by
  unfold clR
  rw [decide_eq_false (Nat.not_lt_zero _), Bool.false_and, Bool.or_false]
theorem clR_256 {R : Nat → Nat → Bool} {m x b : Nat} (hx : x < 16) (hb : b < 16) : clR R m 256 x b = wcl R (m + 1) x b := by
  unfold clR
  rw [decide_eq_true (show 16 * x + b < 256 by omega), Bool.true_and]
  rfl
theorem clR_o {R : Nat → Nat → Bool} {m k x b : Nat} (h : ¬ (x = k / 16 ∧ b = k % 16)) (hb : b < 16) : clR R m (k + 1) x b = clR R m k x b := by
  unfold clR
  rw [decide_eq_decide.mpr (show 16 * x + b < k + 1 ↔ 16 * x + b < k from ⟨fun h2 => Nat.lt_of_le_of_ne (by omega) (fun h3 => h ⟨by omega, by omega⟩), fun h2 => by omega⟩)]
theorem clR_row {R : Nat → Nat → Bool} {m k b : Nat} : clR R m k m b = wcl R m m b := by
  unfold clR
  cases wcl R m m b
  · rw [Bool.and_false, Bool.and_false]; rfl
  · rfl
theorem clR_col {R : Nat → Nat → Bool} {m k x : Nat} : clR R m k x m = wcl R m x m := by
  unfold clR
  cases wcl R m x m
  · rw [Bool.false_and, Bool.and_false]; rfl
  · rfl
theorem MO.eq {R R' : Nat → Nat → Bool} {τ : vS} (h : MO R τ) (hR : ∀ a b, a < 16 → b < 16 → R' a b = R a b) : MO R' τ := fun a b ha hb => by rw [h a b ha hb, hR a b ha hb]
theorem m_mixes_54 {N : Nat} {σ : vS} {p : Int32} {m : Nat} (hm : m < 16) {R : Nat → Nat → Bool} {Q : Int32 × vS → Prop} {k2 : vS → Int32 → Option (Int32 × vS)} {k46 : vS → Int32 → Int32 → Option (Int32 × vS)} (hk : ∀ τ, E1 10 σ τ → MO (wcl R (m + 1)) τ → Ok (k46 τ p (nI (m + 1))) Q) : ∀ n k τ, k ≤ 256 → 256 < k + n → E1 10 σ τ → MO (clR R m k) τ → Ok (f_M_mixes_54 N k2 k46 n τ p (nI m) (nI k)) Q := by
  intro n
  induction n with
  | zero => intro k τ h1 h2; omega
  | succ n ih =>
    intro k τ h1 h2 hE hL
    rw [f_M_mixes_54]
    dsimp only
    by_cases hi : k = 256
    · subst hi
      refine ok_then (show (256 : Int32) ≤ nI 256 from nI_le (a := 256) (b := 256) (by decide) (by decide)) ?_
      rw [nI_1]
      exact hk τ hE (hL.eq (fun a b ha hb => (clR_256 ha hb).symm))
    · refine ok_else (show ¬ (256 : Int32) ≤ nI k from nI_ge (a := k) (b := 256) (by omega) (by decide)) ?_
      have e1 : nI k - nI k / (16 : Int32) * 16 = nI (k % 16) := pk_rem (a := k) (d := 16) (by omega) (by decide) (by decide)
      have e2 : nI k / (16 : Int32) = nI (k / 16) := pk_div (d := 16) (by omega) (by decide) (by decide)
      have ek : k = 16 * (k / 16) + k % 16 := by omega
      rw [e1, e2, show nI (k / 16) * (16 : Int32) = nI (k / 16 * 16) from pk_mul _ 16, show (16 : Int32) * nI m = nI (16 * m) from pk_mul 16 m, nI_add, nI_add]
      have key : ∀ y : Bool, y = (wcl R m (k / 16) (k % 16) || (wcl R m (k / 16) m && wcl R m m (k % 16))) → Ok (f_M_mixes_114 N k2 k46 (f_M_mixes_54 N k2 k46 n) τ p (nI m) (nI k) (b01 y) (nI k)) Q := by
        intro y hy
        unfold f_M_mixes_114
        refine ok_bd (bIn_nI (by omega) (by decide)) (ok_lets (fun σ14 e14 => ?_))
        rw [nI_clamp (by omega), nar_b01] at e14
        rw [nI_1]
        refine ih (k + 1) σ14 (by omega) (by omega) (by rw [e14]; exact hE.sa) ?_
        have e14 : σ14 = sa τ 10 (16 * (k / 16) + k % 16) (b01 y) := by rw [← ek]; exact e14
        rw [e14]
        refine hL.sa (congrArg b01 ?_) (fun a' b' _ hb' e => clR_o e hb') (by omega)
        rw [hy]
        unfold clR
        rw [decide_eq_true (show 16 * (k / 16) + k % 16 < k + 1 by omega), Bool.true_and]
      have now : τ.2 10 k = b01 (wcl R m (k / 16) (k % 16)) := by
        have h9 := hL (k / 16) (k % 16) (by omega) (by omega)
        rw [← ek] at h9
        rw [h9]
        unfold clR
        rw [decide_eq_false (show ¬ 16 * (k / 16) + k % 16 < k by omega), Bool.false_and, Bool.or_false]
      refine ok_bd (bIn_nI (by omega) (by decide)) (ok_lets (fun i12 e12 => ?_))
      rw [nI_clamp (by omega), now] at e12
      rw [e12]
      cases h0 : wcl R m (k / 16) (k % 16)
      · rw [if_pos (show b01 false = 0 from rfl)]
        refine ok_bd (bIn_nI (by omega) (by decide)) (ok_lets (fun i17 e17 => ?_))
        rw [nI_clamp (by omega), show k / 16 * 16 + m = 16 * (k / 16) + m by omega, hL _ _ (by omega) (by omega), clR_col] at e17
        rw [e17]
        cases h3 : wcl R m (k / 16) m
        · rw [if_pos (show b01 false = 0 from rfl)]
          exact key false (by rw [h0, h3]; rfl)
        · rw [if_neg (by decide)]
          refine ok_lets (fun i19 e19 => ?_)
          rw [e19]
          refine ok_bd (bIn_nI (by omega) (by decide)) (ok_lets (fun i21 e21 => ?_))
          rw [nI_clamp (by omega), hL _ _ (by omega) (by omega), clR_row] at e21
          rw [e21]
          cases h4 : wcl R m m (k % 16)
          · rw [if_pos (show b01 false = 0 from rfl)]
            exact key false (by rw [h0, h3, h4]; rfl)
          · rw [if_neg (by decide)]
            exact key true (by rw [h0, h3, h4]; rfl)
      · rw [if_neg (by decide)]
        exact key true (by rw [h0, Bool.true_or])
/-- what mixes leaves -/
def MIX (g : vA) (S : vL) (σ : vS) (v : Int32 × vS) : Prop := (∀ a, a ≠ 10 → v.2.2 a = σ.2 a) ∧ ((v.1 = 0 ∧ acy g (ordL g S) ∧ v.2.1 = σ.1) ∨ (v.1 = 1 ∧ ¬ acy g (ordL g S) ∧ ∀ k, k ≠ 4 → k ≠ 5 → k ≠ 6 → v.2.1 k = σ.1 k))
theorem m_mixes_129 {N : Nat} {g : vA} {S : vL} {σ τ : vS} {p : Nat} (hp : p < gnp g) (hE : E1 10 σ τ) (hL : MO (ordL g S p) τ) {k2 : vS → Int32 → Option (Int32 × vS)} (hk : (∀ o, o < 16 → ordL g S p o o = false) → Ok (k2 τ (nI (p + 1))) (MIX g S σ)) : ∀ n o, o ≤ 16 → 16 < o + n → (∀ o', o' < o → ordL g S p o' o' = false) → Ok (f_M_mixes_129 N k2 n τ (nI p) (nI o)) (MIX g S σ) := by
  intro n
  induction n with
  | zero => intro o h1 h2; omega
  | succ n ih =>
    intro o h1 h2 h3
    rw [f_M_mixes_129]
    dsimp only
    by_cases ho : o = 16
    · subst ho
      refine ok_then (show (16 : Int32) ≤ nI 16 from nI_le (a := 16) (b := 16) (by decide) (by decide)) ?_
      rw [nI_1]
      exact hk h3
    · refine ok_else (show ¬ (16 : Int32) ≤ nI o from nI_ge (a := o) (b := 16) (by omega) (by decide)) ?_
      rw [show (17 : Int32) * nI o = nI (17 * o) from pk_mul 17 o]
      refine ok_bd (bIn_nI (by omega) (by decide)) (ok_lets (fun i6 e6 => ?_))
      rw [nI_clamp (by omega), show 17 * o = 16 * o + o by omega, hL o o (by omega) (by omega)] at e6
      rw [e6]
      cases h9 : ordL g S p o o
      · rw [if_pos (show b01 false = 0 from rfl), nI_1]
        refine ih (o + 1) (by omega) (by omega) (fun o' ho' => ?_)
        by_cases e : o' = o
        · rw [e]; exact h9
        · exact h3 o' (by omega)
      · rw [if_neg (by decide)]
        refine ok_some ⟨fun a a10 => hE.2 a a10, Or.inr ⟨(by show vp_nar .boolean (1 : Int32) = 1; decide), fun h8 => ?_, fun k k4 k5 k6 => ?_⟩⟩
        · rw [h8 p o hp (by omega)] at h9; cases h9
        · show (sf (sf (sf τ 4 3) 5 (nI p)) 6 (nI o)).1 k = σ.1 k
          rw [sf_1n k6, sf_1n k5, sf_1n k4, hE.1]
theorem m_mixes_46 {N : Nat} (hN : 3000 ≤ N) {g : vA} {S : vL} {σ : vS} {p : Nat} (hp : p < gnp g) {k2 : vS → Int32 → Option (Int32 × vS)} (hk : ∀ τ, E1 10 σ τ → (∀ o, o < 16 → ordL g S p o o = false) → Ok (k2 τ (nI (p + 1))) (MIX g S σ)) : ∀ n m τ, m ≤ 16 → 16 < m + n → E1 10 σ τ → MO (wcl (fun x b => usd g p x b || tkc g (S2 g S) p x b) m) τ → Ok (f_M_mixes_46 N k2 n τ (nI p) (nI m)) (MIX g S σ) := by
  intro n
  induction n with
  | zero => intro m τ h1 h2; omega
  | succ n ih =>
    intro m τ h1 h2 hE hL
    rw [f_M_mixes_46]
    dsimp only
    by_cases hm : m = 16
    · subst hm
      refine ok_then (show (16 : Int32) ≤ nI 16 from nI_le (a := 16) (b := 16) (by decide) (by decide)) ?_
      exact m_mixes_129 hp hE hL (fun h9 => hk τ hE h9) N 0 (by omega) (by omega) (fun o' h9 => absurd h9 (Nat.not_lt_zero _))
    · refine ok_else (show ¬ (16 : Int32) ≤ nI m from nI_ge (a := m) (b := 16) (by omega) (by decide)) ?_
      exact m_mixes_54 (σ := σ) (by omega) (fun τ' hE' hL' => ih (m + 1) τ' (by omega) (by omega) hE' hL') N 0 τ (by omega) (by omega) hE (hL.eq (fun a b _ _ => clR_0))
theorem m_mixes_12 {N : Nat} (hN : 3000 ≤ N) {g : vA} {σ : vS} (hg : MG g σ) (hw : wfA g) {S : vL} (hU : MU g σ) (hS : MS S σ) (hR : SAC g S) (hM : MR g S (gns g) σ) {p : Nat} (hp : p < gnp g) {k2 : vS → Int32 → Option (Int32 × vS)} (hk : ∀ τ, E1 10 σ τ → (∀ o, o < 16 → ordL g S p o o = false) → Ok (k2 τ (nI (p + 1))) (MIX g S σ)) : ∀ n k τ, k ≤ 256 → 256 < k + n → E1 10 σ τ → (∀ a b, a < 16 → b < 16 → 16 * a + b < k → τ.2 10 (16 * a + b) = b01 (usd g p a b || tkc g (S2 g S) p a b)) → Ok (f_M_mixes_12 N k2 n τ (nI p) (nI k)) (MIX g S σ) := by
  intro n
  induction n with
  | zero => intro k τ h1 h2; omega
  | succ n ih =>
    intro k τ h1 h2 hE hI
    rw [f_M_mixes_12]
    dsimp only
    by_cases hi : k = 256
    · subst hi
      refine ok_then (show (256 : Int32) ≤ nI 256 from nI_le (a := 256) (b := 256) (by decide) (by decide)) ?_
      exact m_mixes_46 hN hp hk N 0 τ (by omega) (by omega) hE (fun a b ha hb => hI a b ha hb (by omega))
    · refine ok_else (show ¬ (256 : Int32) ≤ nI k from nI_ge (a := k) (b := 256) (by omega) (by decide)) ?_
      have e1 : nI k - nI k / (16 : Int32) * 16 = nI (k % 16) := pk_rem (a := k) (d := 16) (by omega) (by decide) (by decide)
      have e2 : nI k / (16 : Int32) = nI (k / 16) := pk_div (d := 16) (by omega) (by decide) (by decide)
      have hU1 : MU g τ := fun p a b hp ha hb => by rw [hE.2 7 (by decide)]; exact hU p a b hp ha hb
      have hM1 : MR g S (gns g) τ := fun s hs => by rw [hE.2 11 (by decide), hE.2 12 (by decide)]; exact hM s hs
      rw [e1, e2, m_dem (hg.e1 hE (by decide)) hw hU1 (hS.eq (hE.2 9 (by decide)) (fun _ _ _ _ _ _ => rfl)) hR hM1 hp (by omega) (by omega), Option.bind_some]
      refine ok_bd (bIn_nI (by omega) (by decide)) (ok_lets (fun σ26 e26 => ?_))
      rw [nI_clamp (by omega)] at e26
      dsimp only at e26
      rw [nar_b01] at e26
      rw [nI_1]
      refine ih (k + 1) σ26 (by omega) (by omega) (by rw [e26]; exact hE.sa) (fun a b ha hb hlt => ?_)
      rw [e26]
      by_cases e : 16 * a + b = k
      · rw [e, sa_2, show k / 16 = a by omega, show k % 16 = b by omega]
      · rw [sa_2n e]
        exact hI a b ha hb (by omega)
theorem m_mixes_2 {N : Nat} (hN : 3000 ≤ N) {g : vA} {σ : vS} (hg : MG g σ) (hw : wfA g) {S : vL} (hU : MU g σ) (hS : MS S σ) (hR : SAC g S) (hM : MR g S (gns g) σ) : ∀ n p τ, p ≤ gnp g → gnp g < p + n → E1 10 σ τ → (∀ p' o, p' < p → o < 16 → ordL g S p' o o = false) → Ok (f_M_mixes_2 N n τ (nI p)) (MIX g S σ) := by
  have h10 := hw.2.2.2.1
  intro n
  induction n with
  | zero => intro p τ h1 h2; omega
  | succ n ih =>
    intro p τ h1 h2 hE h3
    have hg1 := hg.e1 hE (by decide)
    rw [f_M_mixes_2]
    dsimp only
    rw [hg1.2.1]
    by_cases hp : p = gnp g
    · subst hp
      exact ok_then (nI_le (Nat.le_refl _) (by omega)) (ok_some ⟨fun a a10 => hE.2 a a10, Or.inl ⟨rfl, h3, hE.1⟩⟩)
    · refine ok_else (nI_ge (by omega) (by omega)) ?_
      refine m_mixes_12 hN hg hw hU hS hR hM (by omega) (fun τ' hE' h9 => ih (p + 1) τ' (by omega) (by omega) hE' (fun p' o hp' ho => ?_)) N 0 τ (by omega) (by omega) hE (fun a b _ _ h9 => absurd h9 (Nat.not_lt_zero _))
      by_cases e : p' = p
      · rw [e]; exact h9 o ho
      · exact h3 p' o (by omega) ho
theorem m_mixes {N : Nat} (hN : 3000 ≤ N) {g : vA} {σ : vS} (hg : MG g σ) (hw : wfA g) {S : vL} (hU : MU g σ) (hS : MS S σ) (hR : SAC g S) (hM : MR g S (gns g) σ) : Ok (f_M_mixes N σ) (MIX g S σ) := by
  have h10 := hw.2.2.2.1
  unfold f_M_mixes
  exact m_mixes_2 hN hg hw hU hS hR hM N 0 σ (by omega) (by omega) E1.rf (fun p' o h9 => absurd h9 (Nat.not_lt_zero _))
