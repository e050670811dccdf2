/-! The sequences of instructions, by themselves. -/
def allB (f : Nat → Bool) : Nat → Bool
  | 0 => true
  | n + 1 => allB f n && f n
theorem allB_iff {f : Nat → Bool} : ∀ n, allB f n = true ↔ ∀ i, i < n → f i = true := by
  intro n
  induction n with
  | zero => exact ⟨fun _ i h => absurd h (Nat.not_lt_zero _), fun _ => rfl⟩
  | succ n ih =>
    show (allB f n && f n) = true ↔ _
    rw [Bool.and_eq_true, ih]
    refine ⟨fun h i hi => ?_, fun h => ⟨fun i hi => h i (by omega), h n (by omega)⟩⟩
    by_cases e : i = n
    · rw [e]; exact h.2
    · exact h.1 i (by omega)
theorem allB_no {f : Nat → Bool} {n : Nat} (h : allB f n = false) : ∃ i, i < n ∧ f i = false := Classical.byContradiction (fun hc => by
  have : allB f n = true := (allB_iff n).mpr (fun i hi => by
    cases e : f i
    · exact absurd ⟨i, hi, e⟩ hc
    · rfl)
  rw [h] at this
  cases this)
/-- the least i of n from i on with f -/
def lst (f : Nat → Bool) : Nat → Nat → Option Nat
  | 0 => fun _ => none
  | n + 1 => fun i => if f i = true then some i else lst f n (i + 1)
theorem lst_some {f : Nat → Bool} : ∀ n i j, lst f n i = some j → i ≤ j ∧ j < i + n ∧ f j = true ∧ ∀ k, i ≤ k → k < j → f k = false := by
  intro n
  induction n with
  | zero => intro i j h; cases h
  | succ n ih =>
    intro i j h
    have h : (if f i = true then some i else lst f n (i + 1)) = some j := h
    by_cases e : f i = true
    · rw [if_pos e] at h
      cases h
      exact ⟨Nat.le_refl _, by omega, e, fun k h1 h2 => by omega⟩
    · rw [if_neg e] at h
      obtain ⟨a1, a2, a3, a4⟩ := ih (i + 1) j h
      refine ⟨by omega, by omega, a3, fun k h1 h2 => ?_⟩
      by_cases e2 : k = i
      · rw [e2]
        cases e3 : f i
        · rfl
        · exact absurd e3 e
      · exact a4 k (by omega) h2
theorem lst_none {f : Nat → Bool} : ∀ n i, lst f n i = none → ∀ k, i ≤ k → k < i + n → f k = false := by
  intro n
  induction n with
  | zero => intro i _ k h1 h2; omega
  | succ n ih =>
    intro i h k h1 h2
    have h : (if f i = true then some i else lst f n (i + 1)) = none := h
    by_cases e : f i = true
    · rw [if_pos e] at h; cases h
    · rw [if_neg e] at h
      by_cases e2 : k = i
      · rw [e2]
        cases e3 : f i
        · rfl
        · exact absurd e3 e
      · exact ih (i + 1) h k (by omega) (by omega)
theorem lst_is {f : Nat → Bool} : ∀ n i j, i ≤ j → j < i + n → f j = true → (∀ k, i ≤ k → k < j → f k = false) → lst f n i = some j := by
  intro n
  induction n with
  | zero => intro i j h1 h2; omega
  | succ n ih =>
    intro i j h1 h2 h3 h4
    show (if f i = true then some i else lst f n (i + 1)) = some j
    by_cases e : i = j
    · rw [e, if_pos h3]
    · rw [if_neg (by rw [h4 i (by omega) (by omega)]; decide)]
      exact ih (i + 1) j (by omega) (by omega) h3 (fun k k1 k2 => h4 k (by omega) k2)
theorem lst_not {f : Nat → Bool} : ∀ n i, (∀ k, i ≤ k → k < i + n → f k = false) → lst f n i = none := by
  intro n
  induction n with
  | zero => intro i _; rfl
  | succ n ih =>
    intro i h
    show (if f i = true then some i else lst f n (i + 1)) = none
    rw [if_neg (by rw [h i (by omega) (by omega)]; decide)]
    exact ih (i + 1) (fun k k1 k2 => h k (by omega) (by omega))
/-- what is set, and how many visits are made at each position -/
abbrev pS : Type := (Nat → Bool) × (Nat → Nat)
/-- the visits of each symbol, and the visit of each attribute -/
abbrev vV : Type := (Nat → Nat) × (Nat → Nat → Nat)
def vP (g : vA) (V : vV) (p q : Nat) : Nat := V.1 (gsy g p q)
def wP (g : vA) (V : vV) (p o : Nat) : Nat := V.2 (gsy g p (o / 4)) (o % 4)
def knA (g : vA) (V : vV) (p : Nat) (x : pS) (o : Nat) : Bool := x.1 o || (!dfn g p o && decide (wP g V p o ≤ (if o < 4 then x.2 0 + 1 else x.2 (o / 4))))
def canS (g : vA) (V : vV) (p : Nat) (x : pS) (o : Nat) : Bool := dfn g p o && (!x.1 o && allB (fun u => !usd g p u o || knA g V p x u) 16)
def prepA (g : vA) (V : vV) (p : Nat) (x : pS) (q v : Nat) : Bool := allB (fun j => !dfn g p (4 * q + j) || (x.1 (4 * q + j) || decide (wP g V p (4 * q + j) ≠ v))) 4
def canG (g : vA) (V : vV) (p : Nat) (x : pS) (q : Nat) : Bool := decide (x.2 q + 1 ≤ vP g V p q) && prepA g V p x q (x.2 q + 1)
def nxF (g : vA) (V : vV) (p : Nat) (x : pS) : Option Nat := match lst (canS g V p x) 16 0 with
  | some o => some o
  | none => match lst (canG g V p x) (gpo g p - 1) 1 with
    | some q => some (100 * q + x.2 q + 1)
    | none => if canG g V p x 0 = true then some (1000 + x.2 0 + 1) else none
def apx (x : pS) (i : Nat) : pS := if i < 100 then (fun o => x.1 o || decide (o = i), x.2) else if i < 1000 then (x.1, fun q => if q = i / 100 then x.2 q + 1 else x.2 q) else (x.1, fun q => if q = 0 then x.2 q + 1 else x.2 q)
def smQ (f : Nat → Nat) : Nat → Nat
  | 0 => 0
  | n + 1 => smQ f n + f n
theorem smQ_eq {f h : Nat → Nat} : ∀ n, (∀ k, k < n → f k = h k) → smQ f n = smQ h n := by
  intro n
  induction n with
  | zero => intro _; rfl
  | succ n ih =>
    intro hk
    show smQ f n + f n = smQ h n + h n
    rw [ih (fun k hkn => hk k (by omega)), hk n (by omega)]
theorem smQ_dec {f h : Nat → Nat} {k : Nat} : ∀ n, k < n → f k = h k + 1 → (∀ j, j < n → j ≠ k → f j = h j) → smQ f n = smQ h n + 1 := by
  intro n
  induction n with
  | zero => intro hk; exact absurd hk (Nat.not_lt_zero _)
  | succ n ih =>
    intro hk e ho
    show smQ f n + f n = smQ h n + h n + 1
    by_cases e2 : k = n
    · subst e2
      rw [smQ_eq k (fun j hj => ho j (by omega) (by omega)), e]; omega
    · rw [ih (by omega) e (fun j hj hne => ho j (by omega) hne), ho n (by omega) (fun h9 => e2 h9.symm)]; omega
theorem smQ_0 {f : Nat → Nat} : ∀ n, smQ f n = 0 ↔ ∀ k, k < n → f k = 0 := by
  intro n
  induction n with
  | zero => exact ⟨fun _ k h => absurd h (Nat.not_lt_zero _), fun _ => rfl⟩
  | succ n ih =>
    show smQ f n + f n = 0 ↔ _
    refine ⟨fun h k hk => ?_, fun h => ?_⟩
    · by_cases e : k = n
      · rw [e]; omega
      · exact ih.mp (by omega) k (by omega)
    · have h1 := ih.mpr (fun k hk => h k (by omega))
      have h2 := h n (by omega)
      omega
theorem smQ_le {f : Nat → Nat} {B : Nat} : ∀ n, (∀ k, k < n → f k ≤ B) → smQ f n ≤ B * n := by
  intro n
  induction n with
  | zero => intro _; exact Nat.zero_le _
  | succ n ih =>
    intro h
    have h1 := ih (fun k hk => h k (by omega))
    have h2 := h n (by omega)
    show smQ f n + f n ≤ B * (n + 1)
    rw [Nat.mul_succ]
    omega
theorem cB_0 {f : Nat → Bool} : ∀ n, cB f n = 0 ↔ ∀ k, k < n → f k = false := by
  intro n
  induction n with
  | zero => exact ⟨fun _ k h => absurd h (Nat.not_lt_zero _), fun _ => rfl⟩
  | succ n ih =>
    show cB f n + (if f n = true then 1 else 0) = 0 ↔ _
    refine ⟨fun h k hk => ?_, fun h => ?_⟩
    · cases e : f k
      · rfl
      · by_cases e2 : k = n
        · rw [e2] at e
          rw [e, if_pos rfl] at h
          omega
        · have := ih.mp (by omega) k (by omega)
          rw [e] at this
          cases this
    · rw [ih.mpr (fun k hk => h k (by omega)), h n (by omega), if_neg (by decide)]
theorem cB_dec {f h : Nat → Bool} {k : Nat} : ∀ n, k < n → f k = true → h k = false → (∀ j, j < n → j ≠ k → f j = h j) → cB f n = cB h n + 1 := by
  intro n
  induction n with
  | zero => intro hk; exact absurd hk (Nat.not_lt_zero _)
  | succ n ih =>
    intro hk e1 e2 ho
    show cB f n + (if f n = true then 1 else 0) = cB h n + (if h n = true then 1 else 0) + 1
    by_cases e3 : k = n
    · subst e3
      rw [cB_eq k (fun j hj => ho j (by omega) (by omega)), e1, e2, if_pos rfl, if_neg (by decide)]
    · rw [ih (by omega) e1 e2 (fun j hj hne => ho j (by omega) hne), ho n (by omega) (fun h9 => e3 h9.symm)]; omega
/-- how many instructions are left -/
def rmn (g : vA) (V : vV) (p : Nat) (x : pS) : Nat := cB (fun o => dfn g p o && !x.1 o) 16 + smQ (fun q => vP g V p q - x.2 q) (gpo g p)
/-- visits as ranks give them -/
def HV (g : vA) (V : vV) : Prop := ∀ s, s < gns g → 1 ≤ V.1 s ∧ V.1 s ≤ 3 ∧ ∀ a, a < gna g s → 1 ≤ V.2 s a ∧ V.2 s a ≤ V.1 s
/-- an order of the occurrences in which they may be set -/
def HO (g : vA) (V : vV) (O : vL) : Prop := ∀ p, p < gnp g → (∀ a m b, a < 16 → m < 16 → b < 16 → O p a m = true → O p m b = true → O p a b = true) ∧ (∀ o, o < 16 → O p o o = false) ∧ (∀ u o, u < 16 → o < 16 → usd g p u o = true → O p u o = true) ∧ ∀ o u, o < 16 → u < 16 → o / 4 = u / 4 → dfn g p o = true → occ g p u = true → dfn g p u = false → (if u < 4 then wP g V p o < wP g V p u else wP g V p o ≤ wP g V p u) → O p o u = true
def INVP (g : vA) (V : vV) (p : Nat) (x : pS) : Prop := (∀ o, x.1 o = true → o < 16 ∧ dfn g p o = true) ∧ (∀ q, q < gpo g p → x.2 q ≤ vP g V p q) ∧ (x.2 0 = vP g V p 0 → rmn g V p x = 0)
theorem minex {T : Nat → Nat → Bool} {U : Nat → Bool} (ht : ∀ a m b, a < 16 → m < 16 → b < 16 → T a m = true → T m b = true → T a b = true) (hi : ∀ o, o < 16 → T o o = false) : ∀ n o, o < 16 → U o = true → cB (fun o' => T o' o && U o') 16 ≤ n → ∃ m, m < 16 ∧ U m = true ∧ ∀ o', o' < 16 → U o' = true → T o' m = false := by
  intro n
  induction n with
  | zero =>
    intro o ho hu hc
    refine ⟨o, ho, hu, fun o' ho' hu' => ?_⟩
    have h1 := (cB_0 16).mp (Nat.le_zero.mp hc) o' ho'
    rw [hu', Bool.and_true] at h1
    exact h1
  | succ n ih =>
    intro o ho hu hc
    by_cases h : ∃ o', o' < 16 ∧ U o' = true ∧ T o' o = true
    · obtain ⟨o', ho', hu', ht'⟩ := h
      refine ih o' ho' hu' ?_
      have : cB (fun k => T k o' && U k) 16 < cB (fun k => T k o && U k) 16 := cB_lt 16 (fun k hk h9 => by
        rw [Bool.and_eq_true] at h9 ⊢
        exact ⟨ht k o' o hk ho' ho h9.1 ht', h9.2⟩) ⟨o', ho', by rw [hi o' ho', Bool.false_and], by rw [ht', hu', Bool.true_and]⟩
      omega
    · refine ⟨o, ho, hu, fun o' ho' hu' => ?_⟩
      cases e : T o' o
      · rfl
      · exact absurd ⟨o', ho', hu', e⟩ h
theorem occ_q {g : vA} {p u : Nat} (h : occ g p u = true) : u / 4 < gpo g p := by
  have := (occ_iff.mp h).1
  omega
/-- something is unset, but nothing can be set and no child can be visited: the node can be left, and not for the last time -/
theorem plan_c1 {g : vA} (hw : wfA g) {V : vV} {O : vL} (hV : HV g V) (hO : HO g V O) {p : Nat} (hp : p < gnp g) {x : pS} (h1 : ∀ o, o < 16 → canS g V p x o = false) (h2 : ∀ q, 1 ≤ q → q < gpo g p → canG g V p x q = false) {o0 : Nat} (ho0 : o0 < 16) (hd0 : dfn g p o0 = true) (hs0 : x.1 o0 = false) : canG g V p x 0 = true ∧ x.2 0 + 1 < vP g V p 0 := by
  obtain ⟨t1, t2, t3, t4⟩ := hO p hp
  have h5 := hw.2.2.2.2.1 p hp
  obtain ⟨m, hm, hum, hmin⟩ := minex (U := fun o => dfn g p o && !x.1 o) t1 t2 16 o0 ho0 (by rw [hd0, hs0]; rfl) (cB_le _ 16)
  rw [Bool.and_eq_true] at hum
  have hms : x.1 m = false := by
    cases e : x.1 m
    · rfl
    · have := hum.2
      rw [e] at this; cases this
  have hc := h1 m hm
  unfold canS at hc
  rw [hum.1, hms, Bool.true_and, Bool.not_false, Bool.true_and] at hc
  obtain ⟨u, hu, hnk⟩ := allB_no hc
  rw [Bool.or_eq_false_iff] at hnk
  obtain ⟨hus, hkn⟩ := hnk
  have hus : usd g p u m = true := by
    cases e : usd g p u m
    · rw [e] at hus; cases hus
    · rfl
  have huo := (usd_occ hw hp hu hm hus).1
  have hum2 := t3 u m hu hm hus
  unfold knA at hkn
  rw [Bool.or_eq_false_iff] at hkn
  obtain ⟨hus2, hkn⟩ := hkn
  have hud : dfn g p u = false := by
    cases e : dfn g p u
    · rfl
    · have := hmin u hu (by rw [e, hus2]; rfl)
      rw [hum2] at this; cases this
  rw [hud, Bool.not_false, Bool.true_and] at hkn
  have hw1 := of_decide_eq_false hkn
  have hq := occ_q huo
  have hs := hw.2.2.2.2.2.1 p (u / 4) hp hq
  have hwu := (hV _ hs).2.2 (u % 4) (occ_iff.mp huo).2
  have no : ∀ o', o' < 16 → o' / 4 = u / 4 → dfn g p o' = true → x.1 o' = false → ¬ (if u < 4 then wP g V p o' < wP g V p u else wP g V p o' ≤ wP g V p u) := fun o' ho' hq' hd' hs' hc' => by
    have := t1 o' u m ho' hu hm (t4 o' u ho' hu hq' hd' huo hud hc') hum2
    rw [hmin o' ho' (by rw [hd', hs']; rfl)] at this
    cases this
  by_cases hu4 : u < 4
  · rw [if_pos hu4] at hw1
    have hq0 : u / 4 = 0 := by omega
    have hvw : wP g V p u ≤ vP g V p 0 := by
      have := hwu.2
      unfold wP vP
      rw [hq0] at this ⊢
      exact this
    refine ⟨?_, by omega⟩
    unfold canG
    rw [decide_eq_true (show x.2 0 + 1 ≤ vP g V p 0 by omega), Bool.true_and]
    unfold prepA
    refine (allB_iff 4).mpr (fun j hj => ?_)
    cases e1 : dfn g p (4 * 0 + j)
    · rfl
    · cases e2 : x.1 (4 * 0 + j)
      · have := no (4 * 0 + j) (by omega) (by omega) e1 e2
        rw [if_pos hu4] at this
        rw [decide_eq_true (show wP g V p (4 * 0 + j) ≠ x.2 0 + 1 by omega)]; rfl
      · rfl
  · rw [if_neg hu4] at hw1
    exfalso
    have hvw : wP g V p u ≤ vP g V p (u / 4) := hwu.2
    have hcg := h2 (u / 4) (by omega) hq
    unfold canG at hcg
    rw [decide_eq_true (show x.2 (u / 4) + 1 ≤ vP g V p (u / 4) by omega), Bool.true_and] at hcg
    unfold prepA at hcg
    obtain ⟨j, hj, hjf⟩ := allB_no hcg
    rw [Bool.or_eq_false_iff, Bool.or_eq_false_iff] at hjf
    obtain ⟨j1, j2, j3⟩ := hjf
    have hd' : dfn g p (4 * (u / 4) + j) = true := by
      cases e : dfn g p (4 * (u / 4) + j)
      · rw [e] at j1; cases j1
      · rfl
    have j4 : wP g V p (4 * (u / 4) + j) = x.2 (u / 4) + 1 := Classical.byContradiction (fun hc => of_decide_eq_false j3 hc)
    have := no (4 * (u / 4) + j) (by omega) (by omega) hd' j2
    rw [if_neg hu4] at this
    omega
theorem plan_c2 {g : vA} {V : vV} {p : Nat} {x : pS} (h : ∀ o, o < 16 → dfn g p o = true → x.1 o = true) {q : Nat} (hq : q < 4) : canG g V p x q = decide (x.2 q + 1 ≤ vP g V p q) := by
  unfold canG
  have : prepA g V p x q (x.2 q + 1) = true := (allB_iff 4).mpr (fun j hj => by
    cases e : dfn g p (4 * q + j)
    · rfl
    · rw [h _ (by omega) e]; rfl)
  rw [this, Bool.and_true]
theorem canS_d {g : vA} {V : vV} {p : Nat} {x : pS} {o : Nat} (h : canS g V p x o = true) : dfn g p o = true ∧ x.1 o = false := by
  unfold canS at h
  rw [Bool.and_eq_true, Bool.and_eq_true] at h
  refine ⟨h.1, ?_⟩
  cases e : x.1 o
  · rfl
  · have := h.2.1
    rw [e] at this; cases this
/-- what kind of instruction i is, at x -/
def KIN (g : vA) (V : vV) (p : Nat) (x : pS) (i : Nat) : Prop := (i < 16 ∧ canS g V p x i = true) ∨ (∃ q, 1 ≤ q ∧ q < gpo g p ∧ x.2 q + 1 ≤ vP g V p q ∧ i = 100 * q + x.2 q + 1) ∨ (x.2 0 + 1 ≤ vP g V p 0 ∧ i = 1000 + x.2 0 + 1)
theorem plan_step {g : vA} (hw : wfA g) {V : vV} {O : vL} (hV : HV g V) (hO : HO g V O) {p : Nat} (hp : p < gnp g) {x : pS} (hx : INVP g V p x) : (∃ i, nxF g V p x = some i ∧ KIN g V p x i ∧ INVP g V p (apx x i) ∧ rmn g V p x = rmn g V p (apx x i) + 1) ∨ (nxF g V p x = none ∧ rmn g V p x = 0) := by
  obtain ⟨x1, x2, x3⟩ := hx
  have h5 := hw.2.2.2.2.1 p hp
  have unset : (∃ o, o < 16 ∧ dfn g p o = true ∧ x.1 o = false) → rmn g V p x ≠ 0 := fun ⟨o, ho, hd, hs⟩ h0 => by
    have h1 : cB (fun o => dfn g p o && !x.1 o) 16 = 0 := by
      unfold rmn at h0
      omega
    have := (cB_0 16).mp h1 o ho
    rw [hd, hs] at this
    cases this
  have unvis : (∃ q, q < gpo g p ∧ x.2 q + 1 ≤ vP g V p q) → rmn g V p x ≠ 0 := fun ⟨q, hq, hl⟩ h0 => by
    have h1 : smQ (fun q => vP g V p q - x.2 q) (gpo g p) = 0 := by
      unfold rmn at h0
      omega
    have := (smQ_0 _).mp h1 q hq
    omega
  unfold nxF
  cases e1 : lst (canS g V p x) 16 0 with
  | some o =>
    obtain ⟨a1, a2, a3, a4⟩ := lst_some 16 0 o e1
    obtain ⟨hd, hs⟩ := canS_d a3
    have ea : apx x o = (fun k => x.1 k || decide (k = o), x.2) := if_pos (by omega)
    refine Or.inl ⟨o, rfl, Or.inl ⟨by omega, a3⟩, ?_, ?_⟩
    · rw [ea]
      refine ⟨fun k hk => ?_, x2, fun h9 => absurd (x3 h9) (unset ⟨o, by omega, hd, hs⟩)⟩
      rcases (Bool.or_eq_true _ _).mp hk with hk | hk
      · exact x1 k hk
      · rw [of_decide_eq_true hk]; exact ⟨by omega, hd⟩
    · rw [ea]
      unfold rmn
      dsimp only
      have := cB_dec (f := fun k => dfn g p k && !x.1 k) (h := fun k => dfn g p k && !(x.1 k || decide (k = o))) (k := o) 16 (by omega) (by rw [hd, hs]; rfl) (by rw [decide_eq_true rfl, Bool.or_true, Bool.not_true, Bool.and_false]) (fun j _ hj => by rw [decide_eq_false hj, Bool.or_false])
      omega
  | none =>
    have n1 : ∀ o, o < 16 → canS g V p x o = false := fun o ho => lst_none 16 0 e1 o (by omega) (by omega)
    dsimp only
    cases e2 : lst (canG g V p x) (gpo g p - 1) 1 with
    | some q =>
      obtain ⟨a1, a2, a3, a4⟩ := lst_some _ 1 q e2
      have hq : q < gpo g p := by omega
      have hl : x.2 q + 1 ≤ vP g V p q := by
        unfold canG at a3
        rw [Bool.and_eq_true] at a3
        exact of_decide_eq_true a3.1
      have hv3 := (hV _ (hw.2.2.2.2.2.1 p q hp hq)).2.1
      have hv3 : vP g V p q ≤ 3 := hv3
      have ea : apx x (100 * q + x.2 q + 1) = (x.1, fun k => if k = q then x.2 k + 1 else x.2 k) := by
        unfold apx
        rw [if_neg (by omega), if_pos (by omega), show (100 * q + x.2 q + 1) / 100 = q by omega]
      refine Or.inl ⟨_, rfl, Or.inr (Or.inl ⟨q, by omega, hq, hl, rfl⟩), ?_, ?_⟩
      · rw [ea]
        refine ⟨x1, fun k hk => ?_, fun h9 => ?_⟩
        · show (if k = q then x.2 k + 1 else x.2 k) ≤ _
          by_cases e : k = q
          · rw [if_pos e, e]; exact hl
          · rw [if_neg e]; exact x2 k hk
        · have h9 : (if 0 = q then x.2 0 + 1 else x.2 0) = vP g V p 0 := h9
          rw [if_neg (by omega)] at h9
          exact absurd (x3 h9) (unvis ⟨q, hq, hl⟩)
      · rw [ea]
        unfold rmn
        dsimp only
        have := smQ_dec (f := fun k => vP g V p k - x.2 k) (h := fun k => vP g V p k - (if k = q then x.2 k + 1 else x.2 k)) (k := q) (gpo g p) hq (by
          show vP g V p q - x.2 q = vP g V p q - (if q = q then x.2 q + 1 else x.2 q) + 1
          rw [if_pos rfl]; omega) (fun j _ hj => by
          show vP g V p j - x.2 j = vP g V p j - (if j = q then x.2 j + 1 else x.2 j)
          rw [if_neg hj])
        omega
    | none =>
      have n2 : ∀ q, 1 ≤ q → q < gpo g p → canG g V p x q = false := fun q h1 hq => lst_none _ 1 e2 q h1 (by omega)
      have allset : ¬ (canG g V p x 0 = true ∧ x.2 0 + 1 < vP g V p 0) → ∀ o, o < 16 → dfn g p o = true → x.1 o = true := fun hn o ho hd => by
        cases e : x.1 o
        · exact absurd (plan_c1 hw hV hO hp n1 n2 ho hd e) hn
        · rfl
      have zero : (∀ o, o < 16 → dfn g p o = true → x.1 o = true) → ∀ q, 1 ≤ q → q < gpo g p → x.2 q = vP g V p q := fun hall q h1 hq => by
        have h9 := n2 q h1 hq
        rw [plan_c2 hall (by omega)] at h9
        have := of_decide_eq_false h9
        have := x2 q hq
        omega
      have cb0 : (∀ o, o < 16 → dfn g p o = true → x.1 o = true) → cB (fun o => dfn g p o && !x.1 o) 16 = 0 := fun hall => (cB_0 16).mpr (fun o ho => by
        cases e : dfn g p o
        · rfl
        · rw [hall o ho e]; rfl)
      dsimp only
      cases e3 : canG g V p x 0
      · rw [if_neg (by decide)]
        refine Or.inr ⟨rfl, ?_⟩
        have hall := allset (fun h9 => by rw [e3] at h9; cases h9.1)
        rw [plan_c2 hall (by omega)] at e3
        have e4 := of_decide_eq_false e3
        unfold rmn
        rw [cb0 hall, (smQ_0 _).mpr (fun q hq => by
          by_cases h0 : q = 0
          · subst h0; omega
          · have := zero hall q (by omega) hq
            omega)]
      · rw [if_pos rfl]
        have hl : x.2 0 + 1 ≤ vP g V p 0 := by
          unfold canG at e3
          rw [Bool.and_eq_true] at e3
          exact of_decide_eq_true e3.1
        have ea : apx x (1000 + x.2 0 + 1) = (x.1, fun k => if k = 0 then x.2 k + 1 else x.2 k) := by
          unfold apx
          rw [if_neg (by omega), if_neg (by omega)]
        have hr : rmn g V p x = rmn g V p (apx x (1000 + x.2 0 + 1)) + 1 := by
          rw [ea]
          unfold rmn
          dsimp only
          have := smQ_dec (f := fun k => vP g V p k - x.2 k) (h := fun k => vP g V p k - (if k = 0 then x.2 k + 1 else x.2 k)) (k := 0) (gpo g p) (by omega) (by
            show vP g V p 0 - x.2 0 = vP g V p 0 - (if 0 = 0 then x.2 0 + 1 else x.2 0) + 1
            rw [if_pos rfl]; omega) (fun j _ hj => by
            show vP g V p j - x.2 j = vP g V p j - (if j = 0 then x.2 j + 1 else x.2 j)
            rw [if_neg hj])
          omega
        refine Or.inl ⟨_, rfl, Or.inr (Or.inr ⟨hl, rfl⟩), ?_, hr⟩
        refine ⟨fun k hk => by rw [ea] at hk; exact x1 k hk, fun k hk => ?_, fun h9 => ?_⟩
        · rw [ea]
          show (if k = 0 then x.2 k + 1 else x.2 k) ≤ _
          by_cases e : k = 0
          · rw [if_pos e, e]; exact hl
          · rw [if_neg e]; exact x2 k hk
        · have h8 : x.2 0 + 1 = vP g V p 0 := by
            rw [ea] at h9
            have h9 : (if (0 : Nat) = 0 then x.2 0 + 1 else x.2 0) = vP g V p 0 := h9
            rw [if_pos rfl] at h9
            exact h9
          have hall := allset (fun h9 => by omega)
          rw [ea]
          unfold rmn
          have c0 := cb0 hall
          have : smQ (fun q => vP g V p q - (if q = 0 then x.2 q + 1 else x.2 q)) (gpo g p) = 0 := (smQ_0 _).mpr (fun q hq => by
            show vP g V p q - (if q = 0 then x.2 q + 1 else x.2 q) = 0
            by_cases h0 : q = 0
            · rw [if_pos h0, h0]; omega
            · rw [if_neg h0, zero hall q (by omega) hq]; omega)
          show cB (fun o => dfn g p o && !x.1 o) 16 + smQ (fun q => vP g V p q - (if q = 0 then x.2 q + 1 else x.2 q)) (gpo g p) = 0
          omega
/-! The states on the way, and the sequence. -/
def px0 : pS := (fun _ => false, fun _ => 0)
def pst (g : vA) (V : vV) (p : Nat) : Nat → pS
  | 0 => px0
  | k + 1 => match nxF g V p (pst g V p k) with
    | some i => apx (pst g V p k) i
    | none => pst g V p k
def lnP (g : vA) (V : vV) (p : Nat) : Nat := rmn g V p px0
def sqN (g : vA) (V : vV) (p k : Nat) : Nat := (nxF g V p (pst g V p k)).getD 0
theorem inv_px0 {g : vA} (hw : wfA g) {V : vV} (hV : HV g V) {p : Nat} (hp : p < gnp g) : INVP g V p px0 := by
  have h5 := hw.2.2.2.2.1 p hp
  refine ⟨fun o h => absurd (show false = true from h) (by decide), fun q _ => Nat.zero_le _, fun h => ?_⟩
  have := (hV _ (hw.2.2.2.2.2.1 p 0 hp (by omega))).1
  have h : 0 = vP g V p 0 := h
  unfold vP at h
  omega
theorem plan_k {g : vA} (hw : wfA g) {V : vV} {O : vL} (hV : HV g V) (hO : HO g V O) {p : Nat} (hp : p < gnp g) : ∀ k, k ≤ lnP g V p → INVP g V p (pst g V p k) ∧ rmn g V p (pst g V p k) + k = lnP g V p := by
  intro k
  induction k with
  | zero => intro _; exact ⟨inv_px0 hw hV hp, rfl⟩
  | succ k ih =>
    intro hk
    obtain ⟨i1, i2⟩ := ih (by omega)
    rcases plan_step hw hV hO hp i1 with ⟨i, e, _, i3, i4⟩ | ⟨e, i3⟩
    · have : pst g V p (k + 1) = apx (pst g V p k) i := by
        show (match nxF g V p (pst g V p k) with | some i => apx (pst g V p k) i | none => pst g V p k) = _
        rw [e]
      rw [this]
      exact ⟨i3, by omega⟩
    · omega
theorem plan_at {g : vA} (hw : wfA g) {V : vV} {O : vL} (hV : HV g V) (hO : HO g V O) {p : Nat} (hp : p < gnp g) {k : Nat} (hk : k < lnP g V p) : nxF g V p (pst g V p k) = some (sqN g V p k) ∧ KIN g V p (pst g V p k) (sqN g V p k) ∧ pst g V p (k + 1) = apx (pst g V p k) (sqN g V p k) := by
  obtain ⟨i1, i2⟩ := plan_k hw hV hO hp k (by omega)
  rcases plan_step hw hV hO hp i1 with ⟨i, e, i5, i3, i4⟩ | ⟨e, i3⟩
  · have es : sqN g V p k = i := by
      unfold sqN
      rw [e]; rfl
    rw [es]
    refine ⟨e, i5, ?_⟩
    show (match nxF g V p (pst g V p k) with | some i => apx (pst g V p k) i | none => pst g V p k) = _
    rw [e]
  · omega
theorem plan_end {g : vA} (hw : wfA g) {V : vV} {O : vL} (hV : HV g V) (hO : HO g V O) {p : Nat} (hp : p < gnp g) : nxF g V p (pst g V p (lnP g V p)) = none := by
  obtain ⟨i1, i2⟩ := plan_k hw hV hO hp (lnP g V p) (Nat.le_refl _)
  rcases plan_step hw hV hO hp i1 with ⟨i, e, i5, i3, i4⟩ | ⟨e, i3⟩
  · omega
  · exact e
theorem len_28 {g : vA} (hw : wfA g) {V : vV} (hV : HV g V) {p : Nat} (hp : p < gnp g) : lnP g V p ≤ 28 ∧ 1 ≤ lnP g V p := by
  have h5 := hw.2.2.2.2.1 p hp
  have h1 := cB_le (fun o => dfn g p o && !px0.1 o) 16
  have h2 := smQ_le (f := fun q => vP g V p q - px0.2 q) (B := 3) (gpo g p) (fun q hq => by
    have := (hV _ (hw.2.2.2.2.2.1 p q hp hq)).2.1
    have : vP g V p q ≤ 3 := this
    omega)
  have h3 : smQ (fun q => vP g V p q - px0.2 q) (gpo g p) ≠ 0 := fun h9 => by
    have h8 := (smQ_0 _).mp h9 0 (by omega)
    have h8 : vP g V p 0 - 0 = 0 := h8
    have := (hV _ (hw.2.2.2.2.2.1 p 0 hp (by omega))).1
    unfold vP at h8
    omega
  unfold lnP rmn
  omega
