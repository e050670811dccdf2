/-! The class: what leads to what. -/
/-- array k alone may be another -/
def E1 (k : Nat) (σ τ : vS) : Prop := τ.1 = σ.1 ∧ ∀ a, a ≠ k → τ.2 a = σ.2 a
theorem E1.rf {k : Nat} {σ : vS} : E1 k σ σ := ⟨rfl, fun _ _ => rfl⟩
theorem E1.sa {k : Nat} {σ τ : vS} {i : Nat} {x : Int32} (h : E1 k σ τ) : E1 k σ (sa τ k i x) := ⟨h.1, fun a ha => by rw [sa_2a ha]; exact h.2 a ha⟩
theorem E1.tr {k : Nat} {σ τ υ : vS} (h : E1 k σ τ) (h' : E1 k τ υ) : E1 k σ υ := ⟨h'.1.trans h.1, fun a ha => (h'.2 a ha).trans (h.2 a ha)⟩
theorem XG.e1 {g : vA} {σ τ : vS} {k : Nat} (hg : XG g σ) (h : E1 k σ τ) (hk : 11 ≤ k) : XG g τ := hg.stay (by rw [h.1]) (by rw [h.1]) (fun a ha => h.2 a (by omega))
def XL (L : vL) (τ : vS) : Prop := ∀ p a b, p < 10 → a < 16 → b < 32 → bt (τ.2 11 (16 * p + a)) b = (decide (b < 16) && L p a b)
def XS (S : vL) (τ : vS) : Prop := ∀ s a b, s < 6 → a < 4 → b < 32 → bt (τ.2 12 (4 * s + a)) b = (decide (b < 4) && S s a b)
theorem XL.sa {L L' : vL} {τ : vS} {p a : Nat} {z : Int32} (h : XL L τ) (hz : ∀ b, b < 32 → bt z b = (decide (b < 16) && L' p a b)) (ho : ∀ p' a' b, p' < 10 → a' < 16 → b < 16 → ¬ (p' = p ∧ a' = a) → L' p' a' b = L p' a' b) (ha : a < 16) : XL L' (sa τ 11 (16 * p + a) z) := by
  intro p' a' b hp' ha' hb
  by_cases e : p' = p ∧ a' = a
  · rw [e.1, e.2, sa_2]; exact hz b hb
  · rw [sa_2n (fun h9 => e ⟨by omega, by omega⟩), h p' a' b hp' ha' hb]
    by_cases h16 : b < 16
    · rw [ho p' a' b hp' ha' h16 e]
    · rw [decide_eq_false h16, Bool.false_and, Bool.false_and]
theorem XS.sa {S S' : vL} {τ : vS} {s a : Nat} {z : Int32} (h : XS S τ) (hz : ∀ b, b < 32 → bt z b = (decide (b < 4) && S' s a b)) (ho : ∀ s' a' b, s' < 6 → a' < 4 → b < 4 → ¬ (s' = s ∧ a' = a) → S' s' a' b = S s' a' b) (ha : a < 4) : XS S' (sa τ 12 (4 * s + a) z) := by
  intro s' a' b hs' ha' hb
  by_cases e : s' = s ∧ a' = a
  · rw [e.1, e.2, sa_2]; exact hz b hb
  · rw [sa_2n (fun h9 => e ⟨by omega, by omega⟩), h s' a' b hs' ha' hb]
    by_cases h4 : b < 4
    · rw [ho s' a' b hs' ha' h4 e]
    · rw [decide_eq_false h4, Bool.false_and, Bool.false_and]
theorem XL.eq {L L' : vL} {τ υ : vS} (h : XL L τ) (e : υ.2 11 = τ.2 11) (hL : ∀ p a b, p < 10 → a < 16 → b < 16 → L' p a b = L p a b) : XL L' υ := by
  intro p a b hp ha hb
  rw [e, h p a b hp ha hb]
  by_cases h16 : b < 16
  · rw [hL p a b hp ha h16]
  · rw [decide_eq_false h16, Bool.false_and, Bool.false_and]
theorem XS.eq {S S' : vL} {τ υ : vS} (h : XS S τ) (e : υ.2 12 = τ.2 12) (hS : ∀ s a b, s < 6 → a < 4 → b < 4 → S' s a b = S s a b) : XS S' υ := by
  intro s a b hs ha hb
  rw [e, h s a b hs ha hb]
  by_cases h4 : b < 4
  · rw [hS s a b hs ha h4]
  · rw [decide_eq_false h4, Bool.false_and, Bool.false_and]
theorem x_symbolAt {N : Nat} {g : vA} {σ : vS} (hg : XG g σ) (hw : wfA g) {p q : Nat} (hp : p < gnp g) (hq : q < gpo g p) : f_G_symbolAt N σ (nI p) (nI q) = some (nI (gsy g p q), σ) := by
  have h10 := hw.2.2.2.1
  have h5 := hw.2.2.2.2.1 p hp
  unfold f_G_symbolAt vlet
  rw [show nI p * (4 : Int32) = nI (p * 4) from pk_mul p 4, nI_add, if_pos (bIn_nI (by omega) (by decide)), nI_clamp (by omega), show p * 4 + q = 4 * p + q by omega, hg.2.2.2.2.2.1 p q hp hq]
/-! takeFromSymbols -/
def tkL (g : vA) (L S : vL) (p n : Nat) : vL := fun p' x b => L p' x b || (decide (p' = p) && (decide (x < n) && tkc g S p x b))
theorem tkL_o {g : vA} {L S : vL} {p n p' x b : Nat} (h : ¬ (p' = p ∧ x = n)) : tkL g L S p (n + 1) p' x b = tkL g L S p n p' x b := by
  unfold tkL
  by_cases e : p' = p
  · have h1 : decide (x < n + 1) = decide (x < n) := by
      by_cases h2 : x < n
      · rw [decide_eq_true h2, decide_eq_true (show x < n + 1 by omega)]
      · rw [decide_eq_false h2, decide_eq_false (show ¬ x < n + 1 from fun h3 => h ⟨e, by omega⟩)]
    rw [h1]
  · rw [decide_eq_false e, Bool.false_and, Bool.false_and]
theorem x_take_44 {N : Nat} {g : vA} {σ : vS} (hg : XG g σ) (hw : wfA g) {p : Nat} (hp : p < gnp g) {L S : vL} (hS : XS S σ) {q : Nat} (hq : q < gpo g p) {Q : Int32 × vS → Prop} {k2 : vS → Int32 → Int32 → Option (Int32 × vS)} (hk : ∀ τ, E1 11 σ τ → XL (tkL g L S p (4 * (q + 1))) τ → Ok (k2 τ (nI p) (nI (q + 1))) Q) : ∀ n i τ, i ≤ 4 → 4 < i + n → E1 11 σ τ → XL (tkL g L S p (4 * q + i)) τ → Ok (f_E_takeFromSymbols_44 N k2 n τ (nI p) (nI q) (nI (gsy g p q * 4)) (nI (q * 4)) (nI (16 * p + 4 * q)) (nI i)) Q := by
  have h10 := hw.2.2.2.1
  have h5 := hw.2.2.2.2.1 p hp
  have h6 := hw.1
  have hs := hw.2.2.2.2.2.1 p q hp hq
  intro n
  induction n with
  | zero => intro i τ h1 h2; omega
  | succ n ih =>
    intro i τ h1 h2 hE hL
    rw [f_E_takeFromSymbols_44]
    dsimp only
    by_cases hi : i = 4
    · subst hi
      refine ok_then (show (4 : Int32) ≤ nI 4 from nI_le (a := 4) (b := 4) (by decide) (by decide)) ?_
      rw [nI_1]
      exact hk τ hE hL
    · refine ok_else (show ¬ (4 : Int32) ≤ nI i from nI_ge (a := i) (b := 4) (by omega) (by decide)) ?_
      rw [nI_add, nI_add]
      refine ok_bd (bIn_nI (by omega) (by decide)) (ok_lets (fun i8 e8 => ok_bd (bIn_nI (by omega) (by decide)) (ok_lets (fun i10 e10 => ok_bd (bIn_nI (by omega) (by decide)) (ok_lets (fun σ12 e12 => ?_))))))
      rw [nI_clamp (by omega)] at e8 e10 e12
      rw [nI_1]
      refine ih (i + 1) σ12 (by omega) (by omega) (by rw [e12]; exact hE.sa) ?_
      rw [e12, show 16 * p + 4 * q + i = 16 * p + (4 * q + i) by omega]
      refine hL.sa (L' := tkL g L S p (4 * q + (i + 1))) (fun b hb => ?_) (fun p' a' b hp' ha' hb e => tkL_o e) (by omega)
      rw [bt_or, e8, e10, show 16 * p + 4 * q + i = 16 * p + (4 * q + i) by omega, hL p (4 * q + i) b (by omega) (by omega) hb, hE.2 12 (by decide), show gsy g p q * 4 + i = 4 * gsy g p q + i by omega, bt_shl (by omega)]
      have t1 : tkL g L S p (4 * q + i) p (4 * q + i) b = L p (4 * q + i) b := by
        unfold tkL
        rw [decide_eq_false (show ¬ 4 * q + i < 4 * q + i by omega), Bool.false_and, Bool.and_false, Bool.or_false]
      have t2 : tkL g L S p (4 * q + (i + 1)) p (4 * q + i) b = (L p (4 * q + i) b || (decide (q = b / 4) && S (gsy g p q) i (b % 4))) := by
        unfold tkL tkc
        rw [decide_eq_true (rfl : p = p), decide_eq_true (show 4 * q + i < 4 * q + (i + 1) by omega), show (4 * q + i) / 4 = q by omega, show (4 * q + i) % 4 = i by omega, decide_eq_true hq, Bool.true_and, Bool.true_and, Bool.true_and]
      rw [t1, t2]
      by_cases hbq : 4 * q ≤ b ∧ b < 4 * q + 4
      · rw [hS _ i (b - q * 4) (by omega) (by omega) (by omega), decide_eq_true hb, decide_eq_false (show ¬ b < q * 4 by omega), decide_eq_true (show b - q * 4 < 4 by omega), decide_eq_true (show q = b / 4 by omega), decide_eq_true (show b < 16 by omega), show b - q * 4 = b % 4 by omega]
        rfl
      · have e9 : (decide (b < 32) && !decide (b < q * 4) && bt (σ.2 12 (4 * gsy g p q + i)) (b - q * 4)) = false := by
          by_cases h9 : b < q * 4
          · rw [decide_eq_true h9, Bool.not_true, Bool.and_false, Bool.false_and]
          · rw [hS _ i (b - q * 4) (by omega) (by omega) (by omega), decide_eq_false (show ¬ b - q * 4 < 4 by omega), Bool.false_and, Bool.and_false]
        rw [e9, decide_eq_false (show ¬ q = b / 4 by omega), Bool.false_and, Bool.or_false, Bool.or_false]
theorem x_take_2 {N : Nat} (hN : 161 ≤ N) {g : vA} {σ : vS} (hg : XG g σ) (hw : wfA g) {p : Nat} (hp : p < gnp g) {L S : vL} (hS : XS S σ) : ∀ n q τ, q ≤ gpo g p → gpo g p < q + n → E1 11 σ τ → XL (tkL g L S p (4 * q)) τ → Ok (f_E_takeFromSymbols_2 N n τ (nI p) (nI q)) (fun v => E1 11 σ v.2 ∧ XL (tkL g L S p (4 * gpo g p)) v.2) := by
  have h10 := hw.2.2.2.1
  have h5 := hw.2.2.2.2.1 p hp
  intro n
  induction n with
  | zero => intro q τ h1 h2; omega
  | succ n ih =>
    intro q τ h1 h2 hE hL
    have hg1 := hg.e1 hE (by decide)
    rw [f_E_takeFromSymbols_2]
    dsimp only
    refine ok_bd (bIn_nI (by omega) (by decide)) (ok_lets (fun i2 e2 => ?_))
    rw [nI_clamp (by omega), hg1.2.2.2.2.1 p hp] at e2
    rw [e2]
    by_cases hq : q = gpo g p
    · subst hq
      exact ok_then (nI_lt (by omega) (by omega)) (ok_some ⟨hE, hL⟩)
    · refine ok_else (nI_nlt (by omega) (by omega)) ?_
      rw [x_symbolAt hg1 hw hp (by omega), Option.bind_some]
      dsimp only
      rw [show nI (gsy g p q) * (4 : Int32) = nI (gsy g p q * 4) from pk_mul _ 4, show nI q * (4 : Int32) = nI (q * 4) from pk_mul _ 4, show nI p * (16 : Int32) = nI (p * 16) from pk_mul _ 16, nI_add, show p * 16 + q * 4 = 16 * p + 4 * q by omega]
      exact x_take_44 hg hw hp hS (by omega) (fun τ' hE' hL' => ih (q + 1) τ' (by omega) (by omega) hE' hL') N 0 τ (by omega) (by omega) hE hL
theorem x_take {N : Nat} (hN : 161 ≤ N) {g : vA} {σ : vS} (hg : XG g σ) (hw : wfA g) {p : Nat} (hp : p < gnp g) {L S : vL} (hS : XS S σ) (hL : XL L σ) : Ok (f_E_takeFromSymbols N σ (nI p)) (fun v => E1 11 σ v.2 ∧ XL (fun p' x b => L p' x b || (decide (p' = p) && tkc g S p x b)) v.2) := by
  have h5 := hw.2.2.2.2.1 p hp
  unfold f_E_takeFromSymbols
  refine ok_mono (x_take_2 (L := L) hN hg hw hp hS N 0 σ (by omega) (by omega) E1.rf (hL.eq rfl (fun p' a b _ _ _ => ?_))) (fun v hv => ⟨hv.1, hv.2.eq rfl (fun p' a b _ _ _ => ?_)⟩)
  · unfold tkL
    rw [decide_eq_false (show ¬ a < 4 * 0 by omega), Bool.false_and, Bool.and_false, Bool.or_false]
  · unfold tkL
    by_cases h9 : a < 4 * gpo g p
    · rw [decide_eq_true h9, Bool.true_and]
    · have e : tkc g S p a b = false := by
        unfold tkc
        rw [decide_eq_false (show ¬ a / 4 < gpo g p by omega), Bool.false_and, Bool.and_false]
      simp only [e, Bool.and_false]
/-! close -/
def clL (L : vL) (p m f : Nat) : vL := fun p' x b => if p' = p then (wcl (L p) m x b || (decide (x < f) && (wcl (L p) m x m && wcl (L p) m m b))) else L p' x b
theorem clL_o {L : vL} {p m f p' x b : Nat} (h : ¬ (p' = p ∧ x = f)) : clL L p m (f + 1) p' x b = clL L p m f p' x b := by
  unfold clL
  by_cases e : p' = p
  · have h1 : decide (x < f + 1) = decide (x < f) := by
      by_cases h2 : x < f
      · rw [decide_eq_true h2, decide_eq_true (show x < f + 1 by omega)]
      · rw [decide_eq_false h2, decide_eq_false (show ¬ x < f + 1 from fun h3 => h ⟨e, by omega⟩)]
    rw [h1]
  · rw [if_neg e, if_neg e]
theorem clL_0 {L : vL} {p m p' x b : Nat} : clL L p m 0 p' x b = if p' = p then wcl (L p) m x b else L p' x b := by
  unfold clL
  rw [decide_eq_false (Nat.not_lt_zero x), Bool.false_and, Bool.or_false]
theorem clL_16 {L : vL} {p m p' x b : Nat} (hx : x < 16) : clL L p m 16 p' x b = clL L p (m + 1) 0 p' x b := by
  rw [clL_0]
  unfold clL
  rw [decide_eq_true hx, Bool.true_and]
  rfl
theorem clL_r {L : vL} {p m f b : Nat} : clL L p m f p m b = wcl (L p) m m b := by
  unfold clL
  rw [if_pos rfl]
  cases wcl (L p) m m b
  · rw [Bool.and_false, Bool.and_false]; rfl
  · rfl
theorem x_close_26 {N : Nat} {p m : Nat} (hp : p < 10) (hm : m < 16) {L : vL} {σ : vS} {z : Int32} (hz : ∀ b, b < 32 → bt z b = (decide (b < 16) && wcl (L p) m m b)) {Q : Int32 × vS → Prop} {k7 : vS → Int32 → Int32 → Option (Int32 × vS)} (hk : ∀ τ, E1 11 σ τ → XL (clL L p (m + 1) 0) τ → Ok (k7 τ (nI (16 * p)) (nI (m + 1))) Q) : ∀ n f τ, f ≤ 16 → 16 < f + n → E1 11 σ τ → XL (clL L p m f) τ → Ok (f_E_close_26 N k7 n τ (nI (16 * p)) (nI m) z (nI f)) Q := by
  have done : ∀ f τ, E1 11 σ τ → XL (clL L p m f) τ → (z = 0 ∨ f = 16) → Ok (f_E_close_74 N k7 τ (nI (16 * p)) (nI m)) Q := by
    intro f τ hE hL h
    unfold f_E_close_74
    rw [nI_1]
    refine hk τ hE (hL.eq rfl (fun p' a b _ ha hb => ?_))
    rcases h with h | h
    · have h0 : wcl (L p) m m b = false := by
        have := hz b (by omega)
        rw [h, bt_0, decide_eq_true hb, Bool.true_and] at this
        exact this.symm
      rw [← clL_16 ha]
      unfold clL
      rw [h0, Bool.and_false, Bool.and_false, Bool.and_false]
    · rw [h, clL_16 ha]
  intro n
  induction n with
  | zero => intro f τ h1 h2; omega
  | succ n ih =>
    intro f τ h1 h2 hE hL
    rw [f_E_close_26]
    dsimp only
    refine ok_if (fun hz0 => done f τ hE hL (Or.inl hz0)) (fun hz0 => ?_)
    by_cases hf : f = 16
    · subst hf
      exact ok_then (show (16 : Int32) ≤ nI 16 from nI_le (a := 16) (b := 16) (by decide) (by decide)) (done 16 τ hE hL (Or.inr rfl))
    · refine ok_else (show ¬ (16 : Int32) ≤ nI f from nI_ge (a := f) (b := 16) (by omega) (by decide)) ?_
      rw [nI_add]
      refine ok_bd (bIn_nI (by omega) (by decide)) (ok_lets (fun i7 e7 => ?_))
      rw [nI_clamp (by omega)] at e7 ⊢
      rw [e7, f_holds (by omega), Option.bind_some, hL p f m (by omega) (by omega) (by omega), decide_eq_true hm, Bool.true_and]
      have eL : ∀ b, clL L p m f p f b = wcl (L p) m f b := fun b => by
        unfold clL
        rw [if_pos rfl, decide_eq_false (Nat.lt_irrefl f), Bool.false_and, Bool.or_false]
      rw [eL]
      cases hh : wcl (L p) m f m
      · rw [if_pos (by decide)]
        unfold f_E_close_68
        rw [nI_1]
        refine ih (f + 1) τ (by omega) (by omega) hE (hL.eq rfl (fun p' a b _ _ _ => ?_))
        by_cases e : p' = p ∧ a = f
        · rw [e.1, e.2, eL]
          unfold clL
          rw [if_pos rfl, hh, Bool.false_and, Bool.and_false, Bool.or_false]
        · exact clL_o e
      · rw [if_neg (by decide)]
        refine ok_bd (bIn_nI (by omega) (by decide)) (ok_lets (fun i12 e12 => ok_bd (bIn_nI (by omega) (by decide)) (ok_lets (fun σ14 e14 => ?_))))
        unfold f_E_close_68
        rw [nI_1]
        refine ih (f + 1) σ14 (by omega) (by omega) (by rw [e14]; exact hE.sa) ?_
        rw [e14]
        refine hL.sa (fun b hb => ?_) (fun p' a' b _ _ _ e => clL_o e) (by omega)
        rw [bt_or, e12, hL p f b (by omega) (by omega) hb, hz b hb, eL]
        unfold clL
        rw [if_pos rfl, hh, decide_eq_true (Nat.lt_succ_self f), Bool.true_and, Bool.true_and]
        cases decide (b < 16) <;> rfl
theorem x_close_7 {N : Nat} (hN : 161 ≤ N) {p : Nat} (hp : p < 10) {L : vL} {σ : vS} : ∀ n m τ, m ≤ 16 → 16 < m + n → E1 11 σ τ → XL (clL L p m 0) τ → Ok (f_E_close_7 N n τ (nI (16 * p)) (nI m)) (fun v => E1 11 σ v.2 ∧ XL (clL L p 16 0) v.2) := by
  intro n
  induction n with
  | zero => intro m τ h1 h2; omega
  | succ n ih =>
    intro m τ h1 h2 hE hL
    rw [f_E_close_7]
    dsimp only
    by_cases hm : m = 16
    · subst hm
      exact ok_then (show (16 : Int32) ≤ nI 16 from nI_le (a := 16) (b := 16) (by decide) (by decide)) (ok_some ⟨hE, hL⟩)
    · refine ok_else (show ¬ (16 : Int32) ≤ nI m from nI_ge (a := m) (b := 16) (by omega) (by decide)) ?_
      rw [nI_add]
      refine ok_bd (bIn_nI (by omega) (by decide)) (ok_lets (fun i3 e3 => ?_))
      rw [nI_clamp (by omega)] at e3
      exact x_close_26 (σ := σ) hp (by omega) (fun b hb => by rw [e3, hL p m b hp (by omega) hb, clL_0, if_pos rfl]) (fun τ' hE' hL' => ih (m + 1) τ' (by omega) (by omega) hE' hL') N 0 τ (by omega) (by omega) hE hL
theorem x_close {N : Nat} (hN : 161 ≤ N) {p : Nat} (hp : p < 10) {L : vL} {σ : vS} (hL : XL L σ) : Ok (f_E_close N σ (nI p)) (fun v => E1 11 σ v.2 ∧ XL (fun p' x b => if p' = p then wcl (L p) 16 x b else L p' x b) v.2) := by
  unfold f_E_close
  rw [show nI p * (16 : Int32) = nI (p * 16) from pk_mul _ 16, show p * 16 = 16 * p by omega]
  refine ok_mono (x_close_7 (L := L) hN hp N 0 σ (by omega) (by omega) E1.rf (hL.eq rfl (fun p' a b _ _ _ => ?_))) (fun v hv => ⟨hv.1, hv.2.eq rfl (fun p' a b _ _ _ => clL_0.symm)⟩)
  rw [clL_0]
  by_cases e : p' = p
  · rw [if_pos e, e]; rfl
  · rw [if_neg e]
