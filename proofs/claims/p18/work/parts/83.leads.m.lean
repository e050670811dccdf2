/-! The reference: what leads to what. -/
theorem m_isUsed {N : Nat} {g : vA} {σ : vS} (hg : MG g σ) (hw : wfA g) {p a b : Nat} (hp : p < gnp g) (hb : b < 16) : f_M_isUsed N σ (nI p) (nI a) (nI b) = some (b01 (usd g p a b), σ) := by
  have h10 := hw.2.2.2.1
  have h7 := hg.2.2.2.2.2.2.1 p b hp hb
  unfold f_M_isUsed f_M_isUsed_32 f_M_isUsed_57 vlet usd
  dsimp only
  rw [show (16 : Int32) * nI p = nI (16 * p) from pk_mul 16 p, nI_add, if_pos (bIn_nI (by omega) (by decide)), if_pos (bIn_nI (by omega) (by decide)), if_pos (bIn_nI (by omega) (by decide)), nI_clamp (by omega)]
  cases e : grl g p b with
  | none =>
    rw [e] at h7
    have h7 : σ.2 4 (16 * p + b) = -1 := h7
    rw [h7, show f_M_needs N (-1) = some 0 from rfl, Option.bind_some, Option.bind_some, if_pos (by decide), if_pos (by decide)]
    rfl
  | some r =>
    rw [e] at h7
    obtain ⟨a1, a2, a3⟩ : σ.2 4 (16 * p + b) = nI r.1 ∧ σ.2 5 (16 * p + b) = r.2.1 ∧ σ.2 6 (16 * p + b) = r.2.2 := h7
    obtain ⟨r1, r2, r3, r4⟩ := hw.2.2.2.2.2.2 p b r hp hb e
    have hl := nds_le r.1
    dsimp only
    rw [a1, a2, a3, nds_m r.1 r2, Option.bind_some, Option.bind_some]
    have two : (if nI (nds r.1) ≤ (1 : Int32) then some ((0 : Int32), σ) else (if r.2.2 = nI a then some ((1 : Int32), σ) else some ((0 : Int32), σ))) = some (b01 (decide (2 ≤ nds r.1) && decide (r.2.2 = nI a)), σ) := by
      by_cases h2 : 2 ≤ nds r.1
      · rw [if_neg (show ¬ nI (nds r.1) ≤ (1 : Int32) from nI_ge (a := 1) (b := nds r.1) (by omega) (by omega)), decide_eq_true h2, Bool.true_and]
        by_cases h3 : r.2.2 = nI a
        · rw [if_pos h3, decide_eq_true h3]; rfl
        · rw [if_neg h3, decide_eq_false h3]; rfl
      · rw [if_pos (show nI (nds r.1) ≤ (1 : Int32) from nI_le (a := nds r.1) (b := 1) (by omega) (by decide)), decide_eq_false h2]; rfl
    by_cases h1 : 1 ≤ nds r.1
    · rw [if_neg (show ¬ nI (nds r.1) ≤ (0 : Int32) from nI_ge (a := 0) (b := nds r.1) (by omega) (by omega)), if_pos (bIn_nI (by omega) (by decide)), decide_eq_true h1, Bool.true_and]
      by_cases h3 : r.2.1 = nI a
      · rw [if_pos h3, decide_eq_true h3, Bool.true_or]; rfl
      · rw [if_neg h3, decide_eq_false h3, Bool.false_or]
        exact two
    · rw [if_pos (show nI (nds r.1) ≤ (0 : Int32) from nI_le (a := nds r.1) (b := 0) (by omega) (by decide)), decide_eq_false h1, Bool.false_and, Bool.false_or]
      exact two
def MU (g : vA) (τ : vS) : Prop := ∀ p a b, p < gnp g → a < 16 → b < 16 → τ.2 7 (256 * p + 16 * a + b) = b01 (usd g p a b)
def ML (g : vA) (L : vL) (τ : vS) : Prop := ∀ p a b, p < gnp g → a < 16 → b < 16 → τ.2 8 (256 * p + 16 * a + b) = b01 (L p a b)
def MS (S : vL) (τ : vS) : Prop := ∀ s a b, s < 6 → a < 4 → b < 4 → τ.2 9 (16 * s + 4 * a + b) = b01 (S s a b)
theorem ML.sa {g : vA} {L L' : vL} {τ : vS} {p a b : Nat} {z : Int32} (h : ML g L τ) (hz : z = b01 (L' p a b)) (ho : ∀ p' a' b', p' < gnp g → a' < 16 → b' < 16 → ¬ (p' = p ∧ a' = a ∧ b' = b) → L' p' a' b' = L p' a' b') (ha : a < 16) (hb : b < 16) : ML g L' (sa τ 8 (256 * p + 16 * a + b) z) := by
  intro p' a' b' hp' ha' hb'
  by_cases e : p' = p ∧ a' = a ∧ b' = b
  · rw [e.1, e.2.1, e.2.2, sa_2]; exact hz
  · rw [sa_2n (fun h9 => e ⟨by omega, by omega, by omega⟩), h p' a' b' hp' ha' hb', ho p' a' b' hp' ha' hb' e]
theorem MS.sa {S S' : vL} {τ : vS} {s a b : Nat} {z : Int32} (h : MS S τ) (hz : z = b01 (S' s a b)) (ho : ∀ s' a' b', s' < 6 → a' < 4 → b' < 4 → ¬ (s' = s ∧ a' = a ∧ b' = b) → S' s' a' b' = S s' a' b') (ha : a < 4) (hb : b < 4) : MS S' (sa τ 9 (16 * s + 4 * a + b) z) := by
  intro s' a' b' hs' ha' hb'
  by_cases e : s' = s ∧ a' = a ∧ b' = b
  · rw [e.1, e.2.1, e.2.2, sa_2]; exact hz
  · rw [sa_2n (fun h9 => e ⟨by omega, by omega, by omega⟩), h s' a' b' hs' ha' hb', ho s' a' b' hs' ha' hb' e]
theorem ML.eq {g : vA} {L L' : vL} {τ υ : vS} (h : ML g L τ) (e : υ.2 8 = τ.2 8) (hL : ∀ p a b, p < gnp g → a < 16 → b < 16 → L' p a b = L p a b) : ML g L' υ := fun p a b hp ha hb => by rw [e, h p a b hp ha hb, hL p a b hp ha hb]
theorem MS.eq {S S' : vL} {τ υ : vS} (h : MS S τ) (e : υ.2 9 = τ.2 9) (hS : ∀ s a b, s < 6 → a < 4 → b < 4 → S' s a b = S s a b) : MS S' υ := fun s a b hs ha hb => by rw [e, h s a b hs ha hb, hS s a b hs ha hb]
theorem MG.e1 {g : vA} {σ τ : vS} {k : Nat} (hg : MG g σ) (h : E1 k σ τ) (hk : 7 ≤ k) : MG g τ := hg.stay (by rw [h.1]) (by rw [h.1]) (fun a ha => h.2 a (by omega))
theorem b01_0 {y : Bool} : b01 y = 0 ↔ y = false := by cases y <;> decide
/-! begin -/
def E78 (σ τ : vS) : Prop := τ.1 = σ.1 ∧ ∀ a, a ≠ 7 → a ≠ 8 → τ.2 a = σ.2 a
theorem m_begin_23 {N : Nat} {g : vA} {σ : vS} (hg : MG g σ) (hw : wfA g) : ∀ n k τ, k ≤ 256 * gnp g → 256 * gnp g < k + n → E78 σ τ → (∀ p a b, p < gnp g → a < 16 → b < 16 → 256 * p + 16 * a + b < k → τ.2 7 (256 * p + 16 * a + b) = b01 (usd g p a b) ∧ τ.2 8 (256 * p + 16 * a + b) = b01 (usd g p a b)) → Ok (f_M_begin_23 N n τ (nI k)) (fun v => E78 σ v.2 ∧ MU g v.2 ∧ ML g (usd g) v.2) := by
  have h10 := hw.2.2.2.1
  intro n
  induction n with
  | zero => intro k τ h1 h2; omega
  | succ n ih =>
    intro k τ h1 h2 hE hI
    have hg1 : MG g τ := hg.stay (by rw [hE.1]) (by rw [hE.1]) (fun a ha => hE.2 a (by omega) (by omega))
    rw [f_M_begin_23]
    dsimp only
    rw [hg1.2.1, show (256 : Int32) * nI (gnp g) = nI (256 * gnp g) from pk_mul 256 _]
    by_cases hk : k = 256 * gnp g
    · subst hk
      exact ok_then (nI_le (Nat.le_refl _) (by omega)) (ok_some ⟨hE, fun p a b hp ha hb => (hI p a b hp ha hb (by omega)).1, fun p a b hp ha hb => (hI p a b hp ha hb (by omega)).2⟩)
    · refine ok_else (nI_ge (by omega) (by omega)) ?_
      have e1 : nI k - nI k / (16 : Int32) * 16 = nI (k % 16) := pk_rem (a := k) (d := 16) (by omega) (by decide) (by decide)
      have e2 : nI k / (16 : Int32) = nI (k / 16) := pk_div (d := 16) (by omega) (by decide) (by decide)
      have e3 : nI (k / 16) - nI (k / 16) / (16 : Int32) * 16 = nI (k / 16 % 16) := pk_rem (a := k / 16) (d := 16) (by omega) (by decide) (by decide)
      have e4 : nI k / (256 : Int32) = nI (k / 256) := pk_div (d := 256) (by omega) (by decide) (by decide)
      rw [e1, e2, e3, e4]
      refine ok_lets (fun i3 ei3 => ?_)
      rw [ei3]
      obtain ⟨p, hpe⟩ : ∃ p, p = k / 256 := ⟨_, rfl⟩
      obtain ⟨a, hae⟩ : ∃ a, a = k / 16 % 16 := ⟨_, rfl⟩
      obtain ⟨b, hbe⟩ : ∃ b, b = k % 16 := ⟨_, rfl⟩
      rw [← hpe, ← hae, ← hbe]
      have hp : p < gnp g := by omega
      have ha : a < 16 := by omega
      have hb : b < 16 := by omega
      have hk3 : k = 256 * p + 16 * a + b := by omega
      have key : ∀ y : Bool, y = usd g p a b → Ok (f_M_begin_86 N (f_M_begin_23 N n) τ (nI k) (b01 y) (nI k)) (fun v => E78 σ v.2 ∧ MU g v.2 ∧ ML g (usd g) v.2) := by
        intro y hy
        unfold f_M_begin_86
        refine ok_bd (bIn_nI (by omega) (by decide)) (ok_lets (fun σ7 e7 => ok_bd (bIn_nI (by omega) (by decide)) (ok_lets (fun i9 e9 => ok_bd (bIn_nI (by omega) (by decide)) (ok_lets (fun σ11 e11 => ?_))))))
        rw [nI_clamp (by omega), nar_b01] at e7
        rw [nI_clamp (by omega), e7, sa_2] at e9
        rw [nI_clamp (by omega), e9, nar_b01] at e11
        rw [nI_1]
        refine ih (k + 1) σ11 (by omega) (by omega) ⟨by rw [e11, e7]; exact hE.1, fun a h7 h8 => by rw [e11, sa_2a h8, e7, sa_2a h7]; exact hE.2 a h7 h8⟩ (fun p' a' b' hp' ha' hb' hlt => ?_)
        by_cases e : 256 * p' + 16 * a' + b' = k
        · have ep : p' = p := by omega
          have ea : a' = a := by omega
          have eb : b' = b := by omega
          rw [e, ep, ea, eb, ← hy]
          exact ⟨by rw [e11, sa_2a (by decide), e7, sa_2], by rw [e11, sa_2]⟩
        · obtain ⟨o1, o2⟩ := hI p' a' b' hp' ha' hb' (by omega)
          exact ⟨by rw [e11, sa_2a (by decide), e7, sa_2n e]; exact o1, by rw [e11, sa_2n e, e7, sa_2a (by decide)]; exact o2⟩
      rw [m_dfn hg1 hw hp (by omega), Option.bind_some]
      dsimp only
      cases hd : dfn g p b
      · rw [if_pos (show b01 false = 0 from rfl)]
        refine key false ?_
        cases hu : usd g p a b
        · rfl
        · rw [(usd_occ hw hp ha hb hu).2] at hd; cases hd
      · rw [if_neg (by decide), m_isUsed hg1 hw hp hb, Option.bind_some]
        dsimp only
        cases hu : usd g p a b
        · rw [if_pos (show b01 false = 0 from rfl)]
          exact key false hu.symm
        · rw [if_neg (by decide)]
          exact key true hu.symm
theorem m_begin_2 {N : Nat} (hN : 3000 ≤ N) {g : vA} {σ : vS} (hg : MG g σ) (hw : wfA g) : ∀ n k τ, k ≤ 96 → 96 < k + n → E1 9 σ τ → (∀ j, j < k → τ.2 9 j = 0) → Ok (f_M_begin_2 N n τ (nI k)) (fun v => v.2.1 = σ.1 ∧ (∀ a, a ≠ 7 → a ≠ 8 → a ≠ 9 → v.2.2 a = σ.2 a) ∧ MU g v.2 ∧ ML g (usd g) v.2 ∧ MS (fun _ _ _ => false) v.2) := by
  have h10 := hw.2.2.2.1
  intro n
  induction n with
  | zero => intro k τ h1 h2; omega
  | succ n ih =>
    intro k τ h1 h2 hE hI
    rw [f_M_begin_2]
    dsimp only
    by_cases hk : k = 96
    · subst hk
      refine ok_then (show (96 : Int32) ≤ nI 96 from nI_le (a := 96) (b := 96) (by decide) (by decide)) ?_
      refine ok_mono (m_begin_23 (hg.e1 hE (by decide)) hw N 0 τ (by omega) (by omega) ⟨rfl, fun _ _ _ => rfl⟩ (fun p a b _ _ _ h9 => absurd h9 (Nat.not_lt_zero _))) (fun v hv => ?_)
      obtain ⟨a1, a2, a3⟩ := hv
      refine ⟨a1.1.trans hE.1, fun a h7 h8 h9 => (a1.2 a h7 h8).trans (hE.2 a h9), a2, a3, fun s a b hs ha hb => ?_⟩
      rw [a1.2 9 (by decide) (by decide), hI _ (by omega)]; rfl
    · refine ok_else (show ¬ (96 : Int32) ≤ nI k from nI_ge (a := k) (b := 96) (by omega) (by decide)) (ok_bd (bIn_nI (by omega) (by decide)) (ok_lets (fun σ5 e5 => ?_)))
      rw [nI_clamp (by omega), show vp_nar .boolean 0 = 0 from by decide] at e5
      rw [nI_1]
      refine ih (k + 1) σ5 (by omega) (by omega) (by rw [e5]; exact hE.sa) (fun j hj => ?_)
      rw [e5]
      by_cases hji : j = k
      · rw [hji, sa_2]
      · rw [sa_2n hji]; exact hI j (by omega)
/-! learn: taking from the symbols -/
def tkM (g : vA) (L S : vL) (p m : Nat) : vL := fun p' x b => L p' x b || (decide (p' = p) && (decide (16 * (x / 4) + 4 * (x % 4) + b % 4 < m) && tkc g S p x b))
theorem tkM_o {g : vA} {L S : vL} {p q k p' x b : Nat} (h : ¬ (p' = p ∧ x = 4 * q + k / 4 ∧ b = 4 * q + k % 4)) (hk : k < 16) : tkM g L S p (16 * q + (k + 1)) p' x b = tkM g L S p (16 * q + k) p' x b := by
  unfold tkM
  by_cases e : p' = p ∧ x / 4 = b / 4
  · have h1 : decide (16 * (x / 4) + 4 * (x % 4) + b % 4 < 16 * q + (k + 1)) = decide (16 * (x / 4) + 4 * (x % 4) + b % 4 < 16 * q + k) := decide_eq_decide.mpr ⟨fun h2 => Nat.lt_of_le_of_ne (by omega) (fun h3 => h ⟨e.1, by omega, by omega⟩), fun h2 => by omega⟩
    rw [h1]
  · by_cases e1 : p' = p
    · have e2 : tkc g S p x b = false := by
        unfold tkc
        rw [decide_eq_false (fun h9 => e ⟨e1, h9⟩), Bool.false_and]
      simp only [e2, Bool.and_false]
    · rw [decide_eq_false e1, Bool.false_and, Bool.false_and]
theorem m_learn_21 {N : Nat} {g : vA} {σ : vS} (hg : MG g σ) (hw : wfA g) {p : Nat} (hp : p < gnp g) {L S : vL} (hS : MS S σ) {q : Nat} (hq : q < gpo g p) {Q : Int32 × vS → Prop} {k8 : vS → Int32 → Int32 → Int32 → Option (Int32 × vS)} (hk : ∀ τ, E1 8 σ τ → ML g (tkM g L S p (16 * (q + 1))) τ → Ok (k8 τ (nI p) (nI (256 * p)) (nI (q + 1))) Q) : ∀ n k τ, k ≤ 16 → 16 < k + n → E1 8 σ τ → ML g (tkM g L S p (16 * q + k)) τ → Ok (f_M_learn_21 N k8 n τ (nI p) (nI (256 * p)) (nI q) (nI k)) Q := by
  have h10 := hw.2.2.2.1
  have h5 := hw.2.2.2.2.1 p hp
  have h6 := hw.1
  have hs := hw.2.2.2.2.2.1 p q hp hq
  intro n
  induction n with
  | zero => intro k τ h1 h2; omega
  | succ n ih =>
    intro k τ h1 h2 hE hL
    have hg1 := hg.e1 hE (by decide)
    rw [f_M_learn_21]
    dsimp only
    by_cases hi : k = 16
    · subst hi
      refine ok_then (show (16 : Int32) ≤ nI 16 from nI_le (a := 16) (b := 16) (by decide) (by decide)) ?_
      rw [nI_1]
      exact hk τ hE hL
    · refine ok_else (show ¬ (16 : Int32) ≤ nI k from nI_ge (a := k) (b := 16) (by omega) (by decide)) ?_
      have e1 : nI k - nI k / (4 : Int32) * 4 = nI (k % 4) := pk_rem (a := k) (d := 4) (by omega) (by decide) (by decide)
      have e2 : nI k / (4 : Int32) = nI (k / 4) := pk_div (d := 4) (by omega) (by decide) (by decide)
      rw [e1, e2, show (4 : Int32) * nI q = nI (4 * q) from pk_mul 4 q, show (4 : Int32) * nI p = nI (4 * p) from pk_mul 4 p]
      refine ok_lets (fun i40 e40 => ok_lets (fun i41 e41 => ?_))
      rw [nI_add, show (16 : Int32) * nI (4 * q + k / 4) = nI (16 * (4 * q + k / 4)) from pk_mul 16 _] at e40
      rw [e40, nI_add, nI_add] at e41
      rw [e41, nI_add, nI_add]
      have ei : 256 * p + 16 * (4 * q + k / 4) + 4 * q + k % 4 = 256 * p + 16 * (4 * q + k / 4) + (4 * q + k % 4) := by omega
      have key : ∀ y : Bool, y = (L p (4 * q + k / 4) (4 * q + k % 4) || S (gsy g p q) (k / 4) (k % 4)) → Ok (f_M_learn_97 N k8 (f_M_learn_21 N k8 n) τ (nI p) (nI (256 * p)) (nI q) (nI k) (b01 y) (nI (256 * p + 16 * (4 * q + k / 4) + 4 * q + k % 4))) Q := by
        intro y hy
        unfold f_M_learn_97
        refine ok_bd (bIn_nI (by omega) (by decide)) (ok_lets (fun σ45 e45 => ?_))
        rw [nI_clamp (by omega), nar_b01, ei] at e45
        rw [nI_1]
        refine ih (k + 1) σ45 (by omega) (by omega) (by rw [e45]; exact hE.sa) ?_
        rw [e45]
        refine hL.sa (congrArg b01 ?_) (fun p' a' b' _ _ _ e => tkM_o e (by omega)) (by omega) (by omega)
        rw [hy]
        unfold tkM tkc
        rw [decide_eq_true (rfl : p = p), show (4 * q + k / 4) / 4 = q by omega, show (4 * q + k % 4) / 4 = q by omega, show (4 * q + k / 4) % 4 = k / 4 by omega, show (4 * q + k % 4) % 4 = k % 4 by omega, decide_eq_true (rfl : q = q), decide_eq_true hq, decide_eq_true (show 16 * q + 4 * (k / 4) + k % 4 < 16 * q + (k + 1) by omega), Bool.true_and, Bool.true_and, Bool.true_and, Bool.true_and]
      have now : tkM g L S p (16 * q + k) p (4 * q + k / 4) (4 * q + k % 4) = L p (4 * q + k / 4) (4 * q + k % 4) := by
        unfold tkM
        rw [decide_eq_false (show ¬ 16 * ((4 * q + k / 4) / 4) + 4 * ((4 * q + k / 4) % 4) + (4 * q + k % 4) % 4 < 16 * q + k by omega), Bool.false_and, Bool.and_false, Bool.or_false]
      refine ok_bd (bIn_nI (by omega) (by decide)) (ok_lets (fun i43 e43 => ?_))
      rw [nI_clamp (by omega), ei, hL p _ _ hp (by omega) (by omega), now] at e43
      rw [e43]
      cases hL0 : L p (4 * q + k / 4) (4 * q + k % 4)
      · rw [if_pos (show b01 false = 0 from rfl)]
        refine ok_bd (bIn_nI (by omega) (by decide)) (ok_lets (fun i48 e48 => ?_))
        rw [nI_clamp (by omega), hg1.2.2.2.2.2.1 p q hp hq] at e48
        rw [e48, show (16 : Int32) * nI (gsy g p q) = nI (16 * gsy g p q) from pk_mul 16 _, nI_add]
        refine ok_bd (bIn_nI (by omega) (by decide)) (ok_lets (fun i50 e50 => ?_))
        rw [nI_clamp (by omega), hE.2 9 (by decide), show 16 * gsy g p q + k = 16 * gsy g p q + 4 * (k / 4) + k % 4 by omega, hS _ _ _ (by omega) (by omega) (by omega)] at e50
        rw [e50]
        cases hS0 : S (gsy g p q) (k / 4) (k % 4)
        · rw [if_pos (show b01 false = 0 from rfl)]
          exact key false (by rw [hL0, hS0]; rfl)
        · rw [if_neg (by decide)]
          exact key true (by rw [hL0, hS0]; rfl)
      · rw [if_neg (by decide)]
        exact key true (by rw [hL0, Bool.true_or])
/-! learn: closing -/
def clM (L : vL) (p m k : Nat) : vL := fun p' x b => if p' = p then (wcl (L p) m x b || (decide (16 * x + b < k) && (wcl (L p) m x m && wcl (L p) m m b))) else L p' x b
theorem clM_0 {L : vL} {p m p' x b : Nat} : clM L p m 0 p' x b = if p' = p then wcl (L p) m x b else L p' x b := by
  unfold clM
  rw [decide_eq_false (Nat.not_lt_zero _), Bool.false_and, Bool.or_false]
theorem clM_256 {L : vL} {p m p' x b : Nat} (hx : x < 16) (hb : b < 16) : clM L p m 256 p' x b = clM L p (m + 1) 0 p' x b := by
  rw [clM_0]
  unfold clM
  rw [decide_eq_true (show 16 * x + b < 256 by omega), Bool.true_and]
  rfl
theorem clM_o {L : vL} {p m k p' x b : Nat} (h : ¬ (p' = p ∧ x = k / 16 ∧ b = k % 16)) (hb : b < 16) : clM L p m (k + 1) p' x b = clM L p m k p' x b := by
  unfold clM
  by_cases e : p' = p
  · rw [if_pos e, if_pos e, decide_eq_decide.mpr (show 16 * x + b < k + 1 ↔ 16 * x + b < k from ⟨fun h2 => Nat.lt_of_le_of_ne (by omega) (fun h3 => h ⟨e, by omega, by omega⟩), fun h2 => by omega⟩)]
  · rw [if_neg e, if_neg e]
theorem clM_row {L : vL} {p m k b : Nat} : clM L p m k p m b = wcl (L p) m m b := by
  unfold clM
  rw [if_pos rfl]
  cases wcl (L p) m m b
  · rw [Bool.and_false, Bool.and_false]; rfl
  · rfl
theorem clM_col {L : vL} {p m k x : Nat} : clM L p m k p x m = wcl (L p) m x m := by
  unfold clM
  rw [if_pos rfl]
  cases wcl (L p) m x m
  · rw [Bool.false_and, Bool.and_false]; rfl
  · rfl
theorem m_learn_121 {N : Nat} {g : vA} {σ : vS} (hw : wfA g) {p m : Nat} (hp : p < gnp g) (hm : m < 16) {L : vL} {Q : Int32 × vS → Prop} {k112 : vS → Int32 → Int32 → Int32 → Option (Int32 × vS)} (hk : ∀ τ, E1 8 σ τ → ML g (clM L p (m + 1) 0) τ → Ok (k112 τ (nI p) (nI (256 * p)) (nI (m + 1))) Q) : ∀ n k τ, k ≤ 256 → 256 < k + n → E1 8 σ τ → ML g (clM L p m k) τ → Ok (f_M_learn_121 N k112 n τ (nI p) (nI (256 * p)) (nI m) (nI k)) Q := by
  have h10 := hw.2.2.2.1
  intro n
  induction n with
  | zero => intro k τ h1 h2; omega
  | succ n ih =>
    intro k τ h1 h2 hE hL
    rw [f_M_learn_121]
    dsimp only
    by_cases hi : k = 256
    · subst hi
      refine ok_then (show (256 : Int32) ≤ nI 256 from nI_le (a := 256) (b := 256) (by decide) (by decide)) ?_
      rw [nI_1]
      exact hk τ hE (hL.eq rfl (fun p' a b _ ha hb => (clM_256 ha hb).symm))
    · refine ok_else (show ¬ (256 : Int32) ≤ nI k from nI_ge (a := k) (b := 256) (by omega) (by decide)) ?_
      have e1 : nI k - nI k / (16 : Int32) * 16 = nI (k % 16) := pk_rem (a := k) (d := 16) (by omega) (by decide) (by decide)
      have e2 : nI k / (16 : Int32) = nI (k / 16) := pk_div (d := 16) (by omega) (by decide) (by decide)
      have ek : 256 * p + k = 256 * p + 16 * (k / 16) + k % 16 := by omega
      rw [e1, e2, nI_add, show nI (k / 16) * (16 : Int32) = nI (k / 16 * 16) from pk_mul _ 16, show (16 : Int32) * nI m = nI (16 * m) from pk_mul 16 m, nI_add, nI_add]
      have key : ∀ y : Bool, y = (wcl (L p) m (k / 16) (k % 16) || (wcl (L p) m (k / 16) m && wcl (L p) m m (k % 16))) → Ok (f_M_learn_194 N k112 (f_M_learn_121 N k112 n) τ (nI p) (nI (256 * p)) (nI m) (nI k) (b01 y) (nI (256 * p + k))) Q := by
        intro y hy
        unfold f_M_learn_194
        refine ok_bd (bIn_nI (by omega) (by decide)) (ok_lets (fun σ30 e30 => ?_))
        rw [nI_clamp (by omega), nar_b01, ek] at e30
        rw [nI_1]
        refine ih (k + 1) σ30 (by omega) (by omega) (by rw [e30]; exact hE.sa) ?_
        rw [e30]
        refine hL.sa (congrArg b01 ?_) (fun p' a' b' _ _ hb' e => clM_o e hb') (by omega) (by omega)
        rw [hy]
        unfold clM
        rw [if_pos rfl, decide_eq_true (show 16 * (k / 16) + k % 16 < k + 1 by omega), Bool.true_and]
      have now : clM L p m k p (k / 16) (k % 16) = wcl (L p) m (k / 16) (k % 16) := by
        unfold clM
        rw [if_pos rfl, decide_eq_false (show ¬ 16 * (k / 16) + k % 16 < k by omega), Bool.false_and, Bool.or_false]
      refine ok_bd (bIn_nI (by omega) (by decide)) (ok_lets (fun i28 e28 => ?_))
      rw [nI_clamp (by omega), ek, hL p _ _ hp (by omega) (by omega), now] at e28
      rw [e28]
      cases h0 : wcl (L p) m (k / 16) (k % 16)
      · rw [if_pos (show b01 false = 0 from rfl), nI_add]
        refine ok_bd (bIn_nI (by omega) (by decide)) (ok_lets (fun i33 e33 => ?_))
        rw [nI_clamp (by omega), show 256 * p + k / 16 * 16 + m = 256 * p + 16 * (k / 16) + m by omega, hL p _ _ hp (by omega) (by omega), clM_col] at e33
        rw [e33]
        cases h3 : wcl (L p) m (k / 16) m
        · rw [if_pos (show b01 false = 0 from rfl)]
          exact key false (by rw [h0, h3]; rfl)
        · rw [if_neg (by decide), nI_add]
          refine ok_lets (fun i35 e35 => ?_)
          rw [e35]
          refine ok_bd (bIn_nI (by omega) (by decide)) (ok_lets (fun i37 e37 => ?_))
          rw [nI_clamp (by omega), hL p _ _ hp (by omega) (by omega), clM_row] at e37
          rw [e37]
          cases h4 : wcl (L p) m m (k % 16)
          · rw [if_pos (show b01 false = 0 from rfl)]
            exact key false (by rw [h0, h3, h4]; rfl)
          · rw [if_neg (by decide)]
            exact key true (by rw [h0, h3, h4]; rfl)
      · rw [if_neg (by decide)]
        exact key true (by rw [h0, Bool.true_or])
/-! learn: handing on -/
def gvQ (g : vA) (p : Nat) (R : Nat → Nat → Bool) (S : vL) (q k : Nat) : vL := fun s a b => gvS true g p R S q s a b || (decide (4 * a + b < k) && gvc true (gsy g p q) q R s a b)
theorem gvQ_0 {g : vA} {p : Nat} {R : Nat → Nat → Bool} {S : vL} {q s a b : Nat} : gvQ g p R S q 0 s a b = gvS true g p R S q s a b := by
  unfold gvQ
  rw [decide_eq_false (Nat.not_lt_zero _), Bool.false_and, Bool.or_false]
theorem gvQ_16 {g : vA} {p : Nat} {R : Nat → Nat → Bool} {S : vL} {q s a b : Nat} (ha : a < 4) (hb : b < 4) : gvQ g p R S q 16 s a b = gvS true g p R S (q + 1) s a b := by
  unfold gvQ
  rw [decide_eq_true (show 4 * a + b < 16 by omega), Bool.true_and]; rfl
theorem gvQ_o {g : vA} {p : Nat} {R : Nat → Nat → Bool} {S : vL} {q k s a b : Nat} (h : ¬ (s = gsy g p q ∧ a = k / 4 ∧ b = k % 4)) (hb : b < 4) : gvQ g p R S q (k + 1) s a b = gvQ g p R S q k s a b := by
  unfold gvQ
  by_cases e : s = gsy g p q
  · rw [decide_eq_decide.mpr (show 4 * a + b < k + 1 ↔ 4 * a + b < k from ⟨fun h2 => Nat.lt_of_le_of_ne (by omega) (fun h3 => h ⟨e, by omega, by omega⟩), fun h2 => by omega⟩)]
  · have h1 : gvc true (gsy g p q) q R s a b = false := by
      unfold gvc
      rw [decide_eq_false e, Bool.false_and]
    rw [h1, Bool.and_false, Bool.and_false]
theorem m_learn_226 {N : Nat} {g : vA} {σ : vS} (hg : MG g σ) (hw : wfA g) {p : Nat} (hp : p < gnp g) {L S : vL} (hL : ML g L σ) {q : Nat} (hq : q < gpo g p) {Q : Int32 × vS → Prop} {k212 : vS → Int32 → Int32 → Int32 → Int32 → Option (Int32 × vS)} (hk : ∀ τ y, E1 9 σ τ → MS (gvS true g p (L p) S (q + 1)) τ → FLG y S (gvS true g p (L p) S (q + 1)) → Ok (k212 τ (nI p) (nI (256 * p)) (b01 y) (nI (q + 1))) Q) : ∀ n k τ y, k ≤ 16 → 16 < k + n → E1 9 σ τ → MS (gvQ g p (L p) S q k) τ → FLG y S (gvQ g p (L p) S q k) → Ok (f_M_learn_226 N k212 n τ (nI p) (nI (256 * p)) (b01 y) (nI q) (nI k)) Q := by
  have h10 := hw.2.2.2.1
  have h5 := hw.2.2.2.2.1 p hp
  have h6 := hw.1
  have hs := hw.2.2.2.2.2.1 p q hp hq
  intro n
  induction n with
  | zero => intro k τ y h1 h2; omega
  | succ n ih =>
    intro k τ y h1 h2 hE hS hF
    have hg1 := hg.e1 hE (by decide)
    rw [f_M_learn_226]
    dsimp only
    by_cases hi : k = 16
    · subst hi
      refine ok_then (show (16 : Int32) ≤ nI 16 from nI_le (a := 16) (b := 16) (by decide) (by decide)) ?_
      rw [nI_1]
      exact hk τ y hE (hS.eq rfl (fun s a b _ ha hb => (gvQ_16 ha hb).symm)) (hF.eq (fun s a b _ ha hb => (gvQ_16 ha hb).symm))
    · refine ok_else (show ¬ (16 : Int32) ≤ nI k from nI_ge (a := k) (b := 16) (by omega) (by decide)) ?_
      have e1 : nI k - nI k / (4 : Int32) * 4 = nI (k % 4) := pk_rem (a := k) (d := 4) (by omega) (by decide) (by decide)
      have e2 : nI k / (4 : Int32) = nI (k / 4) := pk_div (d := 4) (by omega) (by decide) (by decide)
      rw [e1, e2, show (4 : Int32) * nI q = nI (4 * q) from pk_mul 4 q, show (4 : Int32) * nI p = nI (4 * p) from pk_mul 4 p, nI_add]
      refine ok_bd (bIn_nI (by omega) (by decide)) (ok_lets (fun i10 e10 => ok_lets (fun i11 e11 => ok_lets (fun i12 e12 => ?_))))
      rw [nI_clamp (by omega), hg1.2.2.2.2.2.1 p q hp hq] at e10
      rw [nI_add, show (16 : Int32) * nI (4 * q + k / 4) = nI (16 * (4 * q + k / 4)) from pk_mul 16 _] at e11
      rw [e11, nI_add, nI_add] at e12
      rw [e12, e10, nI_add, show (16 : Int32) * nI (gsy g p q) = nI (16 * gsy g p q) from pk_mul 16 _, nI_add]
      have ei : 256 * p + 16 * (4 * q + k / 4) + 4 * q + k % 4 = 256 * p + 16 * (4 * q + k / 4) + (4 * q + k % 4) := by omega
      have es : 16 * gsy g p q + k = 16 * gsy g p q + 4 * (k / 4) + k % 4 := by omega
      have now : gvQ g p (L p) S q k (gsy g p q) (k / 4) (k % 4) = gvS true g p (L p) S q (gsy g p q) (k / 4) (k % 4) := by
        unfold gvQ
        rw [decide_eq_false (show ¬ 4 * (k / 4) + k % 4 < k by omega), Bool.false_and, Bool.or_false]
      have new : gvQ g p (L p) S q (k + 1) (gsy g p q) (k / 4) (k % 4) = (gvS true g p (L p) S q (gsy g p q) (k / 4) (k % 4) || L p (4 * q + k / 4) (4 * q + k % 4)) := by
        unfold gvQ gvc
        rw [decide_eq_true (show 4 * (k / 4) + k % 4 < k + 1 by omega), decide_eq_true rfl, Bool.true_and, Bool.true_and, Bool.true_or, Bool.and_true]
      have sv : τ.2 9 (16 * gsy g p q + k) = b01 (gvS true g p (L p) S q (gsy g p q) (k / 4) (k % 4)) := by
        rw [es, hS _ _ _ (by omega) (by omega) (by omega), now]
      have set : ∀ y' : Bool, FLG y' S (gvQ g p (L p) S q (k + 1)) → Ok (f_M_learn_307 N k212 (f_M_learn_226 N k212 n) τ (nI p) (nI (256 * p)) (nI q) (nI k) (nI (16 * gsy g p q + k)) (b01 (L p (4 * q + k / 4) (4 * q + k % 4))) (b01 y')) Q := by
        intro y' hF'
        have key : ∀ z : Bool, z = gvQ g p (L p) S q (k + 1) (gsy g p q) (k / 4) (k % 4) → Ok (f_M_learn_334 N k212 (f_M_learn_226 N k212 n) τ (nI p) (nI (256 * p)) (b01 y') (nI q) (nI k) (b01 z) (nI (16 * gsy g p q + k))) Q := by
          intro z hz
          unfold f_M_learn_334
          refine ok_bd (bIn_nI (by omega) (by decide)) (ok_lets (fun σ18 e18 => ?_))
          rw [nI_clamp (by omega), nar_b01, es] at e18
          rw [nI_1]
          refine ih (k + 1) σ18 y' (by omega) (by omega) (by rw [e18]; exact hE.sa) ?_ hF'
          rw [e18]
          exact hS.sa (congrArg b01 hz) (fun s' a' b' _ _ hb' e => gvQ_o e hb') (by omega) (by omega)
        unfold f_M_learn_307
        refine ok_bd (bIn_nI (by omega) (by decide)) (ok_lets (fun i16 e16 => ?_))
        rw [nI_clamp (by omega), sv] at e16
        rw [e16]
        cases hv : gvS true g p (L p) S q (gsy g p q) (k / 4) (k % 4)
        · rw [if_pos (show b01 false = 0 from rfl)]
          cases hl : L p (4 * q + k / 4) (4 * q + k % 4)
          · rw [if_pos (show b01 false = 0 from rfl)]
            exact key false (by rw [new, hv, hl]; rfl)
          · rw [if_neg (by decide)]
            exact key true (by rw [new, hv, hl]; rfl)
        · rw [if_neg (by decide)]
          exact key true (by rw [new, hv]; rfl)
      refine ok_bd (bIn_nI (by omega) (by decide)) (ok_lets (fun i14 e14 => ?_))
      rw [nI_clamp (by omega), hE.2 8 (by decide), ei, hL p _ _ hp (by omega) (by omega)] at e14
      rw [e14]
      have same : (L p (4 * q + k / 4) (4 * q + k % 4) = true → gvS true g p (L p) S q (gsy g p q) (k / 4) (k % 4) = true) → ∀ s a b, s < 6 → a < 4 → b < 4 → gvQ g p (L p) S q (k + 1) s a b = gvQ g p (L p) S q k s a b := fun hc s a b _ ha hb => by
        by_cases e : s = gsy g p q ∧ a = k / 4 ∧ b = k % 4
        · rw [e.1, e.2.1, e.2.2, new, now]
          cases hl : L p (4 * q + k / 4) (4 * q + k % 4)
          · rw [Bool.or_false]
          · rw [hc hl, Bool.or_true]
        · exact gvQ_o e hb
      cases y with
      | false =>
        rw [if_pos (show b01 false = 0 from rfl)]
        cases hl : L p (4 * q + k / 4) (4 * q + k % 4)
        · rw [if_pos (show b01 false = 0 from rfl)]
          unfold f_M_learn_306
          have := set false (hF.eq (same (fun h9 => by rw [hl] at h9; cases h9)))
          rw [hl] at this
          exact this
        · rw [if_neg (by decide)]
          refine ok_bd (bIn_nI (by omega) (by decide)) (ok_lets (fun i24 e24 => ?_))
          rw [nI_clamp (by omega), sv] at e24
          rw [e24]
          cases hv : gvS true g p (L p) S q (gsy g p q) (k / 4) (k % 4)
          · rw [if_pos (show b01 false = 0 from rfl)]
            unfold f_M_learn_302
            have hS0 : S (gsy g p q) (k / 4) (k % 4) = false := by
              cases h9 : S (gsy g p q) (k / 4) (k % 4)
              · rfl
              · rw [gvS_mono h9 q] at hv; cases hv
            have := set true (Or.inr ⟨rfl, gsy g p q, k / 4, k % 4, by omega, by omega, by omega, hS0, by rw [new, hl, Bool.or_true]⟩)
            rw [hl] at this
            exact this
          · rw [if_neg (by decide)]
            unfold f_M_learn_306
            have := set false (hF.eq (same (fun _ => hv)))
            rw [hl] at this
            exact this
      | true =>
        rw [if_neg (by decide)]
        unfold f_M_learn_302
        refine set true (hF.up (fun s a b h9 => ?_) rfl)
        unfold gvQ at h9 ⊢
        rw [Bool.or_eq_true, Bool.and_eq_true, decide_eq_true_iff] at h9 ⊢
        rcases h9 with h9 | ⟨h8, h9⟩
        · exact Or.inl h9
        · exact Or.inr ⟨by omega, h9⟩
