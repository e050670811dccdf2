/-! What leads to what, by itself: both sides compute these. -/
abbrev vL : Type := Nat → Nat → Nat → Bool
/-- one stage of closing -/
def wst (R : Nat → Nat → Bool) (m : Nat) : Nat → Nat → Bool := fun a b => R a b || (R a m && R m b)
def wcl (R : Nat → Nat → Bool) : Nat → Nat → Nat → Bool
  | 0 => R
  | n + 1 => wst (wcl R n) n
theorem wst_iff {R : Nat → Nat → Bool} {m a b : Nat} : wst R m a b = true ↔ R a b = true ∨ (R a m = true ∧ R m b = true) := by
  unfold wst
  rw [Bool.or_eq_true, Bool.and_eq_true]
theorem wcl_in {R : Nat → Nat → Bool} {a b : Nat} (h : R a b = true) : ∀ n, wcl R n a b = true := by
  intro n
  induction n with
  | zero => exact h
  | succ n ih => exact wst_iff.mpr (Or.inl ih)
theorem wcl_least {R T : Nat → Nat → Bool} (hT : ∀ a m b, a < 16 → m < 16 → b < 16 → T a m = true → T m b = true → T a b = true) (h : ∀ a b, a < 16 → b < 16 → R a b = true → T a b = true) : ∀ n, n ≤ 16 → ∀ a b, a < 16 → b < 16 → wcl R n a b = true → T a b = true := by
  intro n
  induction n with
  | zero => intro _ a b ha hb h1; exact h a b ha hb h1
  | succ n ih =>
    intro hn a b ha hb h1
    rcases wst_iff.mp h1 with h2 | ⟨h2, h3⟩
    · exact ih (by omega) a b ha hb h2
    · exact hT a n b ha (by omega) hb (ih (by omega) a n ha (by omega) h2) (ih (by omega) n b (by omega) hb h3)
theorem wcl_tr {R : Nat → Nat → Bool} : ∀ n a m b, m < n → wcl R n a m = true → wcl R n m b = true → wcl R n a b = true := by
  intro n
  induction n with
  | zero => intro a m b h; exact absurd h (Nat.not_lt_zero _)
  | succ n ih =>
    intro a m b hm h1 h2
    refine wst_iff.mpr ?_
    rcases wst_iff.mp h1 with h3 | ⟨h3, h4⟩
    · rcases wst_iff.mp h2 with h5 | ⟨h5, h6⟩
      · by_cases e : m = n
        · subst e; exact Or.inr ⟨h3, h5⟩
        · exact Or.inl (ih a m b (by omega) h3 h5)
      · by_cases e : m = n
        · subst e; exact Or.inr ⟨h3, h6⟩
        · exact Or.inr ⟨ih a m n (by omega) h3 h5, h6⟩
    · rcases wst_iff.mp h2 with h5 | ⟨h5, h6⟩
      · by_cases e : m = n
        · subst e; exact Or.inr ⟨h3, h5⟩
        · exact Or.inr ⟨h3, ih n m b (by omega) h4 h5⟩
      · exact Or.inr ⟨h3, h6⟩
/-- what production p takes from the symbols -/
def tkc (g : vA) (S : vL) (p x b : Nat) : Bool := decide (x / 4 = b / 4) && (decide (x / 4 < gpo g p) && S (gsy g p (x / 4)) (x % 4) (b % 4))
theorem tkc_iff {g : vA} {S : vL} {p x b : Nat} : tkc g S p x b = true ↔ x / 4 = b / 4 ∧ x / 4 < gpo g p ∧ S (gsy g p (x / 4)) (x % 4) (b % 4) = true := by
  unfold tkc
  rw [Bool.and_eq_true, Bool.and_eq_true, decide_eq_true_iff, decide_eq_true_iff]
/-- what position q gives to its symbol s; d: also what leads to itself -/
def gvc (d : Bool) (s q : Nat) (R : Nat → Nat → Bool) : vL := fun s' a b => decide (s' = s) && (R (4 * q + a) (4 * q + b) && (d || decide (a ≠ b)))
theorem gvc_iff {d : Bool} {s q : Nat} {R : Nat → Nat → Bool} {s' a b : Nat} : gvc d s q R s' a b = true ↔ s' = s ∧ R (4 * q + a) (4 * q + b) = true ∧ (d || decide (a ≠ b)) = true := by
  unfold gvc
  rw [Bool.and_eq_true, Bool.and_eq_true, decide_eq_true_iff]
def gvS (d : Bool) (g : vA) (p : Nat) (R : Nat → Nat → Bool) (S : vL) : Nat → vL
  | 0 => S
  | q + 1 => fun s a b => gvS d g p R S q s a b || gvc d (gsy g p q) q R s a b
theorem gvS_mono {d : Bool} {g : vA} {p : Nat} {R : Nat → Nat → Bool} {S : vL} {s a b : Nat} (h : S s a b = true) : ∀ n, gvS d g p R S n s a b = true := by
  intro n
  induction n with
  | zero => exact h
  | succ n ih => exact (Bool.or_eq_true _ _).mpr (Or.inl ih)
theorem gvS_in {d : Bool} {g : vA} {p : Nat} {R : Nat → Nat → Bool} {S : vL} {s a b q : Nat} (h : gvc d (gsy g p q) q R s a b = true) : ∀ n, q < n → gvS d g p R S n s a b = true := by
  intro n
  induction n with
  | zero => intro h9; exact absurd h9 (Nat.not_lt_zero _)
  | succ n ih =>
    intro hq
    by_cases e : q = n
    · subst e; exact (Bool.or_eq_true _ _).mpr (Or.inr h)
    · exact (Bool.or_eq_true _ _).mpr (Or.inl (ih (by omega)))
/-- what one production learns, and what it hands on -/
def lnL (g : vA) (L S : vL) (p : Nat) : vL := fun p' x b => if p' = p then wcl (fun x b => L p x b || tkc g S p x b) 16 x b else L p' x b
def lnS (d : Bool) (g : vA) (L S : vL) (p : Nat) : vL := gvS d g p (lnL g L S p p) S (gpo g p)
theorem lnL_p {g : vA} {L S : vL} {p x b : Nat} : lnL g L S p p x b = wcl (fun x b => L p x b || tkc g S p x b) 16 x b := if_pos rfl
theorem lnL_n {g : vA} {L S : vL} {p p' x b : Nat} (h : p' ≠ p) : lnL g L S p p' x b = L p' x b := if_neg h
def rsL (g : vA) (L : vL) : Prop := ∀ p a b, p < gnp g → a < 16 → b < 16 → usd g p a b = true → L p a b = true
def clo (d : Bool) (g : vA) (L S : vL) (p : Nat) : Prop := (∀ x b, x < 16 → b < 16 → tkc g S p x b = true → L p x b = true) ∧ (∀ x m b, x < 16 → m < 16 → b < 16 → L p x m = true → L p m b = true → L p x b = true) ∧ ∀ q a b, q < gpo g p → a < 4 → b < 4 → L p (4 * q + a) (4 * q + b) = true → (d || decide (a ≠ b)) = true → S (gsy g p q) a b = true
def lea (d : Bool) (g : vA) (L S : vL) : Prop := ∀ L' S' : vL, rsL g L' → (∀ p, p < gnp g → clo d g L' S' p) → (∀ p x b, p < gnp g → x < 16 → b < 16 → L p x b = true → L' p x b = true) ∧ ∀ s a b, s < gns g → a < 4 → b < 4 → S s a b = true → S' s a b = true
/-- the least relations that the rules, productions and symbols share -/
def FX (d : Bool) (g : vA) (L S : vL) : Prop := rsL g L ∧ (∀ p, p < gnp g → clo d g L S p) ∧ lea d g L S
def PRE (d : Bool) (g : vA) (L S : vL) : Prop := rsL g L ∧ lea d g L S
theorem PRE.step {d : Bool} {g : vA} (hw : wfA g) {L S : vL} (h : PRE d g L S) {p : Nat} (hp : p < gnp g) : PRE d g (lnL g L S p) (lnS d g L S p) := by
  obtain ⟨h1, h2⟩ := h
  obtain ⟨hq1, hq4⟩ := hw.2.2.2.2.1 p hp
  refine ⟨fun p' a b hp' ha hb hu => ?_, fun L' S' r1 r2 => ?_⟩
  · by_cases e : p' = p
    · subst e
      rw [lnL_p]
      exact wcl_in ((Bool.or_eq_true _ _).mpr (Or.inl (h1 p' a b hp ha hb hu))) 16
    · rw [lnL_n e]; exact h1 p' a b hp' ha hb hu
  · obtain ⟨b1, b2⟩ := h2 L' S' r1 r2
    obtain ⟨c1, c2, c3⟩ := r2 p hp
    have key : ∀ x b, x < 16 → b < 16 → lnL g L S p p x b = true → L' p x b = true := fun x b hx hb h9 => by
      rw [lnL_p] at h9
      refine wcl_least (T := L' p) c2 (fun a b ha hb h8 => ?_) 16 (Nat.le_refl _) x b hx hb h9
      rcases (Bool.or_eq_true _ _).mp h8 with h7 | h7
      · exact b1 p a b hp ha hb h7
      · obtain ⟨t1, t2, t3⟩ := tkc_iff.mp h7
        exact c1 a b ha hb (tkc_iff.mpr ⟨t1, t2, b2 _ _ _ (hw.2.2.2.2.2.1 p (a / 4) hp t2) (Nat.mod_lt _ (by decide)) (Nat.mod_lt _ (by decide)) t3⟩)
    refine ⟨fun p' x b hp' hx hb h9 => ?_, ?_⟩
    · by_cases e : p' = p
      · subst e; exact key x b hx hb h9
      · rw [lnL_n e] at h9; exact b1 p' x b hp' hx hb h9
    · have : ∀ n, n ≤ gpo g p → ∀ s a b, s < gns g → a < 4 → b < 4 → gvS d g p (lnL g L S p p) S n s a b = true → S' s a b = true := by
        intro n
        induction n with
        | zero => intro _ s a b hs ha hb h9; exact b2 s a b hs ha hb h9
        | succ n ih =>
          intro hn s a b hs ha hb h9
          rcases (Bool.or_eq_true _ _).mp h9 with h8 | h8
          · exact ih (by omega) s a b hs ha hb h8
          · obtain ⟨g1, g2, g3⟩ := gvc_iff.mp h8
            rw [g1]
            exact c3 n a b (by omega) ha hb (key _ _ (by omega) (by omega) g2) g3
      exact this (gpo g p) (Nat.le_refl _)
/-- nothing new: closed -/
theorem ln_clo {d : Bool} {g : vA} (hw : wfA g) {L S : vL} {p : Nat} (hp : p < gnp g) (h : ∀ s a b, s < 6 → a < 4 → b < 4 → lnS d g L S p s a b = S s a b) : clo d g (lnL g L S p) S p := by
  have h6 := hw.1
  refine ⟨fun x b hx hb h9 => ?_, fun x m b hx hm hb h1 h2 => ?_, fun q a b hq ha hb h1 h2 => ?_⟩
  · rw [lnL_p]
    exact wcl_in ((Bool.or_eq_true _ _).mpr (Or.inr h9)) 16
  · rw [lnL_p] at h1 h2 ⊢
    exact wcl_tr 16 x m b hm h1 h2
  · have hs := hw.2.2.2.2.2.1 p q hp hq
    rw [← h (gsy g p q) a b (by omega) ha hb]
    exact gvS_in (q := q) (gvc_iff.mpr ⟨rfl, h1, h2⟩) _ hq
theorem clo.eqS {d : Bool} {g : vA} (hw : wfA g) {L S L' S' : vL} {p : Nat} (hp : p < gnp g) (h : clo d g L S p) (hL : ∀ x b, L' p x b = L p x b) (hS : ∀ s a b, s < 6 → a < 4 → b < 4 → S' s a b = S s a b) : clo d g L' S' p := by
  have h6 := hw.1
  obtain ⟨h1, h2, h3⟩ := h
  refine ⟨fun x b hx hb h9 => ?_, fun x m b hx hm hb a1 a2 => ?_, fun q a b hq ha hb a1 a2 => ?_⟩
  · obtain ⟨t1, t2, t3⟩ := tkc_iff.mp h9
    have hs := hw.2.2.2.2.2.1 p (x / 4) hp t2
    rw [hS _ _ _ (by omega) (Nat.mod_lt _ (by decide)) (Nat.mod_lt _ (by decide))] at t3
    rw [hL]
    exact h1 x b hx hb (tkc_iff.mpr ⟨t1, t2, t3⟩)
  · rw [hL] at a1 a2 ⊢
    exact h2 x m b hx hm hb a1 a2
  · have hs := hw.2.2.2.2.2.1 p q hp hq
    rw [hL] at a1
    rw [hS _ _ _ (by omega) ha hb]
    exact h3 q a b hq ha hb a1 a2
/-- a round over the productions -/
def rd (d : Bool) (g : vA) (LS : vL × vL) : Nat → vL × vL
  | 0 => LS
  | p + 1 => (lnL g (rd d g LS p).1 (rd d g LS p).2 p, lnS d g (rd d g LS p).1 (rd d g LS p).2 p)
theorem rd_pre {d : Bool} {g : vA} (hw : wfA g) {LS : vL × vL} (h : PRE d g LS.1 LS.2) : ∀ n, n ≤ gnp g → PRE d g (rd d g LS n).1 (rd d g LS n).2 := by
  intro n
  induction n with
  | zero => intro _; exact h
  | succ n ih => intro hn; exact (ih (by omega)).step hw (by omega)
theorem rd_mono {d : Bool} {g : vA} {LS : vL × vL} {s a b : Nat} : ∀ n m, n ≤ m → (rd d g LS n).2 s a b = true → (rd d g LS m).2 s a b = true := by
  intro n m
  induction m with
  | zero => intro h h1; rw [Nat.le_zero.mp h] at h1; exact h1
  | succ m ih =>
    intro h h1
    by_cases e : n = m + 1
    · rw [e] at h1; exact h1
    · exact gvS_mono (ih (by omega) h1) _
theorem rd_L {d : Bool} {g : vA} {LS : vL × vL} {p x b : Nat} : ∀ n, p + 1 ≤ n → (rd d g LS n).1 p x b = (rd d g LS (p + 1)).1 p x b := by
  intro n
  induction n with
  | zero => intro h; omega
  | succ n ih =>
    intro h
    by_cases e : p = n
    · rw [e]
    · rw [← ih (by omega)]
      exact lnL_n e
theorem fx_round {d : Bool} {g : vA} (hw : wfA g) {LS : vL × vL} (h : PRE d g LS.1 LS.2) (hs : ∀ s a b, s < 6 → a < 4 → b < 4 → (rd d g LS (gnp g)).2 s a b = LS.2 s a b) : FX d g (rd d g LS (gnp g)).1 (rd d g LS (gnp g)).2 := by
  have same : ∀ n, n ≤ gnp g → ∀ s a b, s < 6 → a < 4 → b < 4 → (rd d g LS n).2 s a b = LS.2 s a b := fun n hn s a b h1 h2 h3 => by
    cases e : LS.2 s a b
    · cases e2 : (rd d g LS n).2 s a b
      · rfl
      · have := rd_mono n (gnp g) hn e2
        rw [hs s a b h1 h2 h3, e] at this
        cases this
    · exact rd_mono 0 n (Nat.zero_le _) e
  have hpre := rd_pre hw h (gnp g) (Nat.le_refl _)
  refine ⟨hpre.1, fun p hp => ?_, hpre.2⟩
  have h1 : clo d g (rd d g LS (p + 1)).1 (rd d g LS p).2 p := ln_clo hw hp (fun s a b c1 c2 c3 => (same (p + 1) hp s a b c1 c2 c3).trans (same p (by omega) s a b c1 c2 c3).symm)
  exact h1.eqS hw hp (fun x b => rd_L (gnp g) hp) (fun s a b c1 c2 c3 => (same (gnp g) (Nat.le_refl _) s a b c1 c2 c3).trans (same p (by omega) s a b c1 c2 c3).symm)
/-! Both kinds agree where nothing leads to itself. -/
def acy (g : vA) (L : vL) : Prop := ∀ p o, p < gnp g → o < 16 → L p o o = false
theorem fx_up {g : vA} (hw : wfA g) {L S : vL} (h : FX false g L S) (ha : acy g L) : ∀ p, p < gnp g → clo true g L S p := fun p hp => by
  obtain ⟨c1, c2, c3⟩ := h.2.1 p hp
  obtain ⟨hq1, hq4⟩ := hw.2.2.2.2.1 p hp
  refine ⟨c1, c2, fun q a b hq h1 h2 h3 _ => c3 q a b hq h1 h2 h3 ?_⟩
  by_cases e : a = b
  · subst e
    rw [ha p (4 * q + a) hp (by omega)] at h3
    cases h3
  · rw [decide_eq_true e]; rfl
theorem fx_down {g : vA} {L S : vL} (h : FX true g L S) : ∀ p, p < gnp g → clo false g L S p := fun p hp => by
  obtain ⟨c1, c2, c3⟩ := h.2.1 p hp
  exact ⟨c1, c2, fun q a b hq h1 h2 h3 _ => c3 q a b hq h1 h2 h3 rfl⟩
theorem fx_same {g : vA} (hw : wfA g) {L S L' S' : vL} (h : FX false g L S) (h' : FX true g L' S') (ha : acy g L) : (∀ p x b, p < gnp g → x < 16 → b < 16 → L p x b = L' p x b) ∧ ∀ s a b, s < gns g → a < 4 → b < 4 → S s a b = S' s a b := by
  obtain ⟨a1, a2⟩ := h.2.2 L' S' h'.1 (fx_down h')
  obtain ⟨b1, b2⟩ := h'.2.2 L S h.1 (fx_up hw h ha)
  exact ⟨fun p x b h1 h2 h3 => Bool.eq_iff_iff.mpr ⟨a1 p x b h1 h2 h3, b1 p x b h1 h2 h3⟩, fun s a b h1 h2 h3 => Bool.eq_iff_iff.mpr ⟨a2 s a b h1 h2 h3, b2 s a b h1 h2 h3⟩⟩
theorem fx_acy {g : vA} (hw : wfA g) {L S L' S' : vL} (h : FX false g L S) (h' : FX true g L' S') : acy g L ↔ acy g L' := by
  refine ⟨fun ha p o hp ho => ?_, fun ha p o hp ho => ?_⟩
  · rw [← (fx_same hw h h' ha).1 p o o hp ho ho]; exact ha p o hp ho
  · cases e : L p o o
    · rfl
    · have := (h.2.2 L' S' h'.1 (fx_down h')).1 p o o hp ho ho e
      rw [ha p o hp ho] at this
      cases this
/-! What is known of the symbols' relation. -/
theorem fx_occurs {d : Bool} {g : vA} {L S : vL} (h : FX d g L S) {s a b : Nat} (hs : s < gns g) (ha : a < 4) (hb : b < 4) (h1 : S s a b = true) : ∃ p q, p < gnp g ∧ q < gpo g p ∧ gsy g p q = s := by
  by_cases e : ∃ p q, p < gnp g ∧ q < gpo g p ∧ gsy g p q = s
  · exact e
  · obtain ⟨_, a2⟩ := h.2.2 L (fun s' a b => S s' a b && decide (s' ≠ s)) h.1 (fun p hp => by
      obtain ⟨c1, c2, c3⟩ := h.2.1 p hp
      refine ⟨fun x b hx hb h9 => ?_, c2, fun q a b hq h1 h2 h3 h4 => ?_⟩
      · obtain ⟨t1, t2, t3⟩ := tkc_iff.mp h9
        rw [Bool.and_eq_true] at t3
        exact c1 x b hx hb (tkc_iff.mpr ⟨t1, t2, t3.1⟩)
      · rw [Bool.and_eq_true]
        exact ⟨c3 q a b hq h1 h2 h3 h4, decide_eq_true (fun e9 => e ⟨p, q, hp, hq, e9⟩)⟩)
    have := a2 s a b hs ha hb h1
    rw [Bool.and_eq_true] at this
    exact absurd rfl (of_decide_eq_true this.2)
theorem fx_blk {d : Bool} {g : vA} (hw : wfA g) {L S : vL} (h : FX d g L S) {p q a b : Nat} (hp : p < gnp g) (hq : q < gpo g p) (ha : a < 4) (hb : b < 4) (h1 : S (gsy g p q) a b = true) : L p (4 * q + a) (4 * q + b) = true := by
  obtain ⟨hq1, hq4⟩ := hw.2.2.2.2.1 p hp
  refine (h.2.1 p hp).1 _ _ (by omega) (by omega) (tkc_iff.mpr ⟨by omega, by omega, ?_⟩)
  rw [show (4 * q + a) / 4 = q by omega, show (4 * q + a) % 4 = a by omega, show (4 * q + b) % 4 = b by omega]
  exact h1
theorem fx_irr {d : Bool} {g : vA} (hw : wfA g) {L S : vL} (h : FX d g L S) (hy : acy g L) {s a : Nat} (hs : s < gns g) (ha : a < 4) : S s a a = false := by
  cases e : S s a a
  · rfl
  · obtain ⟨p, q, hp, hq, e2⟩ := fx_occurs h hs ha ha e
    obtain ⟨hq1, hq4⟩ := hw.2.2.2.2.1 p hp
    rw [← e2] at e
    have := fx_blk hw h hp hq ha ha e
    rw [hy p _ hp (by omega)] at this
    cases this
theorem fx_tr {d : Bool} {g : vA} (hw : wfA g) {L S : vL} (h : FX d g L S) (hy : acy g L) {s a b c : Nat} (hs : s < gns g) (ha : a < 4) (hb : b < 4) (hc : c < 4) (h1 : S s a b = true) (h2 : S s b c = true) : S s a c = true := by
  obtain ⟨p, q, hp, hq, e2⟩ := fx_occurs h hs ha hb h1
  obtain ⟨hq1, hq4⟩ := hw.2.2.2.2.1 p hp
  obtain ⟨c1, c2, c3⟩ := h.2.1 p hp
  rw [← e2] at h1 h2 ⊢
  have h3 := c2 _ _ _ (by omega) (by omega) (by omega) (fx_blk hw h hp hq ha hb h1) (fx_blk hw h hp hq hb hc h2)
  refine c3 q a c hq ha hc h3 ?_
  by_cases e : a = c
  · subst e
    rw [hy p _ hp (by omega)] at h3
    cases h3
  · rw [decide_eq_true e, Bool.or_true]
theorem usd_occ {g : vA} (hw : wfA g) {p a b : Nat} (hp : p < gnp g) (ha : a < 16) (hb : b < 16) (h : usd g p a b = true) : occ g p a = true ∧ dfn g p b = true := by
  unfold usd at h
  cases e : grl g p b with
  | none => rw [e] at h; cases h
  | some r =>
    rw [e] at h
    obtain ⟨r1, r2, r3, r4⟩ := hw.2.2.2.2.2.2 p b r hp hb e
    refine ⟨?_, r1⟩
    rw [Bool.or_eq_true, Bool.and_eq_true, Bool.and_eq_true] at h
    rcases h with ⟨h1, h2⟩ | ⟨h1, h2⟩
    · obtain ⟨u, hu, e2, e3⟩ := r3 (of_decide_eq_true h1)
      have h3 := of_decide_eq_true h2
      rw [e2] at h3
      rw [← (nI_eq (by omega) (by omega)).mp h3]
      exact e3
    · obtain ⟨u, hu, e2, e3⟩ := r4 (of_decide_eq_true h1)
      have h3 := of_decide_eq_true h2
      rw [e2] at h3
      rw [← (nI_eq (by omega) (by omega)).mp h3]
      exact e3
theorem occ_iff {g : vA} {p o : Nat} : occ g p o = true ↔ o < 4 * gpo g p ∧ o % 4 < gna g (gsy g p (o / 4)) := by
  unfold occ
  rw [Bool.and_eq_true, decide_eq_true_iff, decide_eq_true_iff]
/-- only attributes that are there -/
theorem fx_na {d : Bool} {g : vA} (hw : wfA g) {L S : vL} (h : FX d g L S) {s a b : Nat} (hs : s < gns g) (ha : a < 4) (hb : b < 4) (h1 : S s a b = true) : a < gna g s ∧ b < gna g s := by
  obtain ⟨_, a2⟩ := h.2.2 (fun p x b => L p x b && (occ g p x && occ g p b)) (fun s a b => S s a b && (decide (a < gna g s) && decide (b < gna g s))) (fun p a b hp ha hb hu => by
    have h2 := usd_occ hw hp ha hb hu
    rw [Bool.and_eq_true, Bool.and_eq_true]
    exact ⟨h.1 p a b hp ha hb hu, h2.1, dfn_occ h2.2⟩) (fun p hp => by
      obtain ⟨c1, c2, c3⟩ := h.2.1 p hp
      refine ⟨fun x b hx hb h9 => ?_, fun x m b hx hm hb a1 a2 => ?_, fun q a b hq h1 h2 h3 h4 => ?_⟩
      · obtain ⟨t1, t2, t3⟩ := tkc_iff.mp h9
        rw [Bool.and_eq_true, Bool.and_eq_true, decide_eq_true_iff, decide_eq_true_iff] at t3
        rw [Bool.and_eq_true, Bool.and_eq_true]
        refine ⟨c1 x b hx hb (tkc_iff.mpr ⟨t1, t2, t3.1⟩), occ_iff.mpr ⟨by omega, t3.2.1⟩, occ_iff.mpr ⟨by omega, ?_⟩⟩
        rw [← t1]; exact t3.2.2
      · rw [Bool.and_eq_true, Bool.and_eq_true] at a1 a2 ⊢
        exact ⟨c2 x m b hx hm hb a1.1 a2.1, a1.2.1, a2.2.2⟩
      · rw [Bool.and_eq_true, Bool.and_eq_true] at h3
        have o1 := (occ_iff.mp h3.2.1).2
        have o2 := (occ_iff.mp h3.2.2).2
        rw [show (4 * q + a) / 4 = q by omega, show (4 * q + a) % 4 = a by omega] at o1
        rw [show (4 * q + b) / 4 = q by omega, show (4 * q + b) % 4 = b by omega] at o2
        rw [Bool.and_eq_true, Bool.and_eq_true, decide_eq_true_iff, decide_eq_true_iff]
        exact ⟨c3 q a b hq h1 h2 h3.1 h4, o1, o2⟩)
  have := a2 s a b hs ha hb h1
  rw [Bool.and_eq_true, Bool.and_eq_true, decide_eq_true_iff, decide_eq_true_iff] at this
  exact this.2
/-- nothing but rules and symbols, closed -/
theorem fx_only {d : Bool} {g : vA} {L S : vL} (h : FX d g L S) {p x b : Nat} (hp : p < gnp g) (hx : x < 16) (hb : b < 16) (h1 : L p x b = true) : wcl (fun x b => usd g p x b || tkc g S p x b) 16 x b = true := by
  obtain ⟨a1, _⟩ := h.2.2 (fun p x b => L p x b && wcl (fun x b => usd g p x b || tkc g S p x b) 16 x b) S (fun p a b hp ha hb hu => by
    rw [Bool.and_eq_true]
    exact ⟨h.1 p a b hp ha hb hu, wcl_in ((Bool.or_eq_true _ _).mpr (Or.inl hu)) 16⟩) (fun p hp => by
      obtain ⟨c1, c2, c3⟩ := h.2.1 p hp
      refine ⟨fun x b hx hb h9 => ?_, fun x m b hx hm hb a1 a2 => ?_, fun q a b hq h1 h2 h3 h4 => ?_⟩
      · rw [Bool.and_eq_true]
        exact ⟨c1 x b hx hb h9, wcl_in ((Bool.or_eq_true _ _).mpr (Or.inr h9)) 16⟩
      · rw [Bool.and_eq_true] at a1 a2 ⊢
        exact ⟨c2 x m b hx hm hb a1.1 a2.1, wcl_tr 16 x m b hm a1.2 a2.2⟩
      · rw [Bool.and_eq_true] at h3
        exact c3 q a b hq h1 h2 h3.1 h4)
  have := a1 p x b hp hx hb h1
  rw [Bool.and_eq_true] at this
  exact this.2
/-! Counting. -/
def cB (f : Nat → Bool) : Nat → Nat
  | 0 => 0
  | n + 1 => cB f n + (if f n = true then 1 else 0)
theorem cB_le (f : Nat → Bool) : ∀ n, cB f n ≤ n := by
  intro n
  induction n with
  | zero => exact Nat.le_refl _
  | succ n ih =>
    show cB f n + (if f n = true then 1 else 0) ≤ n + 1
    by_cases h : f n = true
    · rw [if_pos h]; omega
    · rw [if_neg h]; omega
theorem cB_mono {f h : Nat → Bool} : ∀ n, (∀ k, k < n → f k = true → h k = true) → cB f n ≤ cB h n := by
  intro n
  induction n with
  | zero => intro _; exact Nat.le_refl _
  | succ n ih =>
    intro hk
    have h1 := ih (fun k hkn => hk k (by omega))
    show cB f n + (if f n = true then 1 else 0) ≤ cB h n + (if h n = true then 1 else 0)
    by_cases h2 : f n = true
    · rw [if_pos h2, if_pos (hk n (by omega) h2)]; omega
    · rw [if_neg h2]; omega
theorem cB_lt {f h : Nat → Bool} : ∀ n, (∀ k, k < n → f k = true → h k = true) → (∃ k, k < n ∧ f k = false ∧ h k = true) → cB f n < cB h n := by
  intro n
  induction n with
  | zero => intro _ ⟨k, hk, _⟩; exact absurd hk (Nat.not_lt_zero _)
  | succ n ih =>
    intro hk ⟨k, hkn, e1, e2⟩
    have hm := cB_mono n (fun k hkn => hk k (by omega))
    show cB f n + (if f n = true then 1 else 0) < cB h n + (if h n = true then 1 else 0)
    by_cases e : k = n
    · subst e
      rw [e1, e2, if_neg (by decide), if_pos rfl]; omega
    · have h1 := ih (fun k hkn => hk k (by omega)) ⟨k, by omega, e1, e2⟩
      by_cases h2 : f n = true
      · rw [if_pos h2, if_pos (hk n (by omega) h2)]; omega
      · rw [if_neg h2]; omega
theorem cB_eq {f h : Nat → Bool} : ∀ n, (∀ k, k < n → f k = h k) → cB f n = cB h n := by
  intro n
  induction n with
  | zero => intro _; rfl
  | succ n ih =>
    intro hk
    show cB f n + (if f n = true then 1 else 0) = cB h n + (if h n = true then 1 else 0)
    rw [ih (fun k hkn => hk k (by omega)), hk n (by omega)]
def cS (S : vL) : Nat := cB (fun k => S (k / 16) (k / 4 % 4) (k % 4)) 96
theorem cS_le (S : vL) : cS S ≤ 96 := cB_le _ 96
theorem cS_lt {S S' : vL} (hm : ∀ s a b, S s a b = true → S' s a b = true) (h : ∃ s a b, s < 6 ∧ a < 4 ∧ b < 4 ∧ S s a b = false ∧ S' s a b = true) : cS S < cS S' := by
  obtain ⟨s, a, b, hs, ha, hb, e1, e2⟩ := h
  refine cB_lt 96 (fun k _ h1 => hm _ _ _ h1) ⟨16 * s + 4 * a + b, by omega, ?_, ?_⟩
  · show S ((16 * s + 4 * a + b) / 16) ((16 * s + 4 * a + b) / 4 % 4) ((16 * s + 4 * a + b) % 4) = false
    rw [show (16 * s + 4 * a + b) / 16 = s by omega, show (16 * s + 4 * a + b) / 4 % 4 = a by omega, show (16 * s + 4 * a + b) % 4 = b by omega]
    exact e1
  · show S' ((16 * s + 4 * a + b) / 16) ((16 * s + 4 * a + b) / 4 % 4) ((16 * s + 4 * a + b) % 4) = true
    rw [show (16 * s + 4 * a + b) / 16 = s by omega, show (16 * s + 4 * a + b) / 4 % 4 = a by omega, show (16 * s + 4 * a + b) % 4 = b by omega]
    exact e2
