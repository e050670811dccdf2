/-! Ranks, by themselves. -/
def prt (i : Bool) (m : Nat) : Nat := m + (m + (if i = true then 0 else 1)) % 2
theorem prt_ge {i : Bool} {m : Nat} : m ≤ prt i m ∧ prt i m ≤ m + 1 := by
  unfold prt
  omega
theorem prt_par {i : Bool} {m : Nat} : prt i m % 2 = (if i = true then 0 else 1) := by
  unfold prt
  cases i
  · rw [if_neg (by decide)]; omega
  · rw [if_pos rfl]; omega
theorem prt_mono {i : Bool} {m n : Nat} (h : m ≤ n) : prt i m ≤ prt i n := by
  unfold prt
  cases i
  · rw [if_neg (by decide)]; omega
  · rw [if_pos rfl]; omega
theorem prt_id {i : Bool} {m : Nat} (h : m % 2 = (if i = true then 0 else 1)) : prt i m = m := by
  unfold prt
  cases i
  · rw [if_neg (by decide)] at h ⊢; omega
  · rw [if_pos rfl] at h ⊢; omega
theorem prt_1 {i : Bool} : prt i 1 = (if i = true then 2 else 1) := by
  cases i <;> rfl
/-- the greatest of f over P, 1 at least -/
def mx (f : Nat → Nat) (P : Nat → Bool) : Nat → Nat
  | 0 => 1
  | n + 1 => if P n = true then max (mx f P n) (f n) else mx f P n
theorem mx_1 {f : Nat → Nat} {P : Nat → Bool} : ∀ n, 1 ≤ mx f P n := by
  intro n
  induction n with
  | zero => exact Nat.le_refl _
  | succ n ih =>
    show 1 ≤ (if P n = true then max (mx f P n) (f n) else mx f P n)
    by_cases h : P n = true
    · rw [if_pos h]; omega
    · rw [if_neg h]; exact ih
theorem mx_in {f : Nat → Nat} {P : Nat → Bool} {k : Nat} (hP : P k = true) : ∀ n, k < n → f k ≤ mx f P n := by
  intro n
  induction n with
  | zero => intro h; exact absurd h (Nat.not_lt_zero _)
  | succ n ih =>
    intro hk
    show f k ≤ (if P n = true then max (mx f P n) (f n) else mx f P n)
    by_cases e : k = n
    · subst e
      rw [if_pos hP]; omega
    · have h1 := ih (by omega)
      by_cases h : P n = true
      · rw [if_pos h]; omega
      · rw [if_neg h]; exact h1
theorem mx_le {f : Nat → Nat} {P : Nat → Bool} {B : Nat} (hB : 1 ≤ B) : ∀ n, (∀ k, k < n → P k = true → f k ≤ B) → mx f P n ≤ B := by
  intro n
  induction n with
  | zero => intro _; exact hB
  | succ n ih =>
    intro hk
    have h1 := ih (fun k hkn => hk k (by omega))
    show (if P n = true then max (mx f P n) (f n) else mx f P n) ≤ B
    by_cases h : P n = true
    · have := hk n (by omega) h
      rw [if_pos h]; omega
    · rw [if_neg h]; exact h1
theorem mx_eq {f f' : Nat → Nat} {P P' : Nat → Bool} : ∀ n, (∀ k, k < n → P k = P' k) → (∀ k, k < n → P k = true → f k = f' k) → mx f P n = mx f' P' n := by
  intro n
  induction n with
  | zero => intro _ _; rfl
  | succ n ih =>
    intro h1 h2
    show (if P n = true then max (mx f P n) (f n) else mx f P n) = (if P' n = true then max (mx f' P' n) (f' n) else mx f' P' n)
    rw [ih (fun k hk => h1 k (by omega)) (fun k hk => h2 k (by omega)), ← h1 n (by omega)]
    by_cases h : P n = true
    · rw [if_pos h, if_pos h, h2 n (by omega) h]
    · rw [if_neg h, if_neg h]
theorem mx_ins {f : Nat → Nat} {P P' : Nat → Bool} {n a : Nat} (ha : a < n) (h : ∀ k, k < n → P' k = (P k || decide (k = a))) : mx f P' n = max (mx f P n) (f a) := by
  have h1 : mx f P' n ≤ max (mx f P n) (f a) := mx_le (by have := mx_1 (f := f) (P := P) n; omega) n (fun k hk hp => by
    rw [h k hk, Bool.or_eq_true, decide_eq_true_iff] at hp
    rcases hp with hp | hp
    · have := mx_in (f := f) hp n hk; omega
    · rw [hp]; omega)
  have h2 : f a ≤ mx f P' n := mx_in (by rw [h a ha, decide_eq_true rfl, Bool.or_true]) n ha
  have h3 : mx f P n ≤ mx f P' n := mx_le (mx_1 n) n (fun k hk hp => mx_in (by rw [h k hk, hp, Bool.true_or]) n hk)
  omega
/-- a relation of at most 4 attributes, without circles -/
def RT (R : Nat → Nat → Bool) (n : Nat) : Prop := n ≤ 4 ∧ (∀ a b, a < 4 → b < 4 → R a b = true → a < n ∧ b < n) ∧ (∀ a, a < 4 → R a a = false) ∧ ∀ a b c, a < 4 → b < 4 → c < 4 → R a b = true → R b c = true → R a c = true
def hgt (R : Nat → Nat → Bool) (a : Nat) : Nat := cB (R a) 4
theorem hgt_lt {R : Nat → Nat → Bool} {n : Nat} (h : RT R n) {a b : Nat} (ha : a < 4) (hb : b < 4) (h1 : R a b = true) : hgt R b < hgt R a := cB_lt 4 (fun k hk h2 => h.2.2.2 a b k ha hb hk h1 h2) ⟨b, hb, h.2.2.1 b hb, h1⟩
theorem cB_n : ∀ n, n < 5 → cB (fun b => decide (b < n)) 4 = n := by decide
theorem hgt_n {R : Nat → Nat → Bool} {n : Nat} (h : RT R n) {a : Nat} (ha : a < n) : hgt R a < n := by
  have h4 := h.1
  have h1 : hgt R a < cB (fun b => decide (b < n)) 4 := cB_lt 4 (fun k hk h2 => decide_eq_true (h.2.1 a k (by omega) hk h2).2) ⟨a, by omega, h.2.2.1 a (by omega), decide_eq_true ha⟩
  rw [cB_n n (by omega)] at h1
  exact h1
def rkf (R : Nat → Nat → Bool) (ih : Nat → Bool) : Nat → Nat → Nat
  | 0 => fun a => prt (ih a) 1
  | k + 1 => fun a => prt (ih a) (mx (rkf R ih k) (R a) 4)
theorem rkf_st {R : Nat → Nat → Bool} {ih : Nat → Bool} {n : Nat} (h : RT R n) : ∀ k a, a < 4 → hgt R a ≤ k → rkf R ih (k + 1) a = rkf R ih k a := by
  intro k
  induction k with
  | zero =>
    intro a ha h0
    show prt (ih a) (mx (rkf R ih 0) (R a) 4) = prt (ih a) 1
    have : mx (rkf R ih 0) (R a) 4 ≤ 1 := mx_le (Nat.le_refl _) 4 (fun b hb h1 => by
      have := hgt_lt h ha hb h1
      omega)
    have h2 := mx_1 (f := rkf R ih 0) (P := R a) 4
    rw [show mx (rkf R ih 0) (R a) 4 = 1 by omega]
  | succ k hk =>
    intro a ha h0
    show prt (ih a) (mx (rkf R ih (k + 1)) (R a) 4) = prt (ih a) (mx (rkf R ih k) (R a) 4)
    rw [mx_eq 4 (fun _ _ => rfl) (fun b hb h1 => hk b hb (by have := hgt_lt h ha hb h1; omega))]
def rk4 (R : Nat → Nat → Bool) (ih : Nat → Bool) (a : Nat) : Nat := rkf R ih 4 a
theorem rk_eq {R : Nat → Nat → Bool} {ih : Nat → Bool} {n : Nat} (h : RT R n) {a : Nat} (ha : a < 4) : rk4 R ih a = prt (ih a) (mx (rk4 R ih) (R a) 4) := (rkf_st h 4 a ha (cB_le _ 4)).symm
theorem rk_par {R : Nat → Nat → Bool} {ih : Nat → Bool} {a : Nat} : rk4 R ih a % 2 = (if ih a = true then 0 else 1) := prt_par
theorem rk_ge {R : Nat → Nat → Bool} {ih : Nat → Bool} {n : Nat} (h : RT R n) {a b : Nat} (ha : a < 4) (hb : b < 4) (h1 : R a b = true) : rk4 R ih b ≤ rk4 R ih a := by
  rw [rk_eq h ha]
  exact Nat.le_trans (mx_in (f := rk4 R ih) h1 4 hb) prt_ge.1
theorem rkf_le {R : Nat → Nat → Bool} {ih : Nat → Bool} {n : Nat} (h : RT R n) : ∀ k a, a < 4 → rkf R ih k a ≤ 2 + hgt R a := by
  intro k
  induction k with
  | zero =>
    intro a ha
    have := (prt_ge (i := ih a) (m := 1)).2
    show prt (ih a) 1 ≤ _
    omega
  | succ k hk =>
    intro a ha
    have h1 : mx (rkf R ih k) (R a) 4 ≤ 1 + hgt R a := mx_le (by omega) 4 (fun b hb h2 => by
      have := hgt_lt h ha hb h2
      have := hk b hb
      omega)
    have := (prt_ge (i := ih a) (m := mx (rkf R ih k) (R a) 4)).2
    show prt (ih a) (mx (rkf R ih k) (R a) 4) ≤ _
    omega
theorem rk_5 {R : Nat → Nat → Bool} {ih : Nat → Bool} {n : Nat} (h : RT R n) {a : Nat} (ha : a < n) : 1 ≤ rk4 R ih a ∧ rk4 R ih a ≤ 5 := by
  have h4 := h.1
  have h1 := rkf_le (ih := ih) h 4 a (by omega)
  have h2 := hgt_n h ha
  have h3 := mx_1 (f := rkf R ih 3) (P := R a) 4
  have h5 := (prt_ge (i := ih a) (m := mx (rkf R ih 3) (R a) 4)).1
  refine ⟨?_, ?_⟩
  · show 1 ≤ prt (ih a) (mx (rkf R ih 3) (R a) 4)
    omega
  · show rkf R ih 4 a ≤ 5
    omega
theorem rkf_cong {R R' : Nat → Nat → Bool} {ih : Nat → Bool} (h : ∀ a b, a < 4 → b < 4 → R a b = R' a b) : ∀ k a, a < 4 → rkf R ih k a = rkf R' ih k a := by
  intro k
  induction k with
  | zero => intro a _; rfl
  | succ k hk =>
    intro a ha
    show prt (ih a) (mx (rkf R ih k) (R a) 4) = prt (ih a) (mx (rkf R' ih k) (R' a) 4)
    rw [mx_eq 4 (fun b hb => h a b ha hb) (fun b hb _ => hk b hb)]
/-! Of the symbols of a grammar. -/
def rkS (g : vA) (S : vL) (s a : Nat) : Nat := rk4 (S s) (gih g s) a
def gtS (g : vA) (S : vL) (s : Nat) : Nat := mx (rkS g S s) (fun a => decide (a < gna g s)) 4
def vsS (g : vA) (S : vL) (s : Nat) : Nat := (gtS g S s + 1) / 2
def voS (g : vA) (S : vL) (s a : Nat) : Nat := vsS g S s - (rkS g S s a - 1) / 2
/-- the symbols' relation is without circles -/
def SAC (g : vA) (S : vL) : Prop := ∀ s, s < gns g → RT (S s) (gna g s)
theorem fx_sac {d : Bool} {g : vA} (hw : wfA g) {L S : vL} (h : FX d g L S) (hy : acy g L) : SAC g S := fun s hs => ⟨hw.2.1 s hs, fun a b ha hb h1 => fx_na hw h hs ha hb h1, fun a ha => fx_irr hw h hy hs ha, fun a b c ha hb hc h1 h2 => fx_tr hw h hy hs ha hb hc h1 h2⟩
theorem rkS_cong {g : vA} {S S' : vL} (h : ∀ s a b, s < gns g → a < 4 → b < 4 → S s a b = S' s a b) {s a : Nat} (hs : s < gns g) (ha : a < 4) : rkS g S s a = rkS g S' s a := rkf_cong (fun a b ha hb => h s a b hs ha hb) 4 a ha
theorem gtS_cong {g : vA} {S S' : vL} (h : ∀ s a b, s < gns g → a < 4 → b < 4 → S s a b = S' s a b) {s : Nat} (hs : s < gns g) : gtS g S s = gtS g S' s := mx_eq 4 (fun _ _ => rfl) (fun a ha _ => rkS_cong h hs ha)
theorem vsS_cong {g : vA} {S S' : vL} (h : ∀ s a b, s < gns g → a < 4 → b < 4 → S s a b = S' s a b) {s : Nat} (hs : s < gns g) : vsS g S s = vsS g S' s := by
  unfold vsS
  rw [gtS_cong h hs]
theorem voS_cong {g : vA} {S S' : vL} (h : ∀ s a b, s < gns g → a < 4 → b < 4 → S s a b = S' s a b) {s a : Nat} (hs : s < gns g) (ha : a < 4) : voS g S s a = voS g S' s a := by
  unfold voS
  rw [vsS_cong h hs, rkS_cong h hs ha]
theorem gt_5 {g : vA} {S : vL} (h : SAC g S) {s : Nat} (hs : s < gns g) : 1 ≤ gtS g S s ∧ gtS g S s ≤ 5 := ⟨mx_1 4, mx_le (by decide) 4 (fun a _ h1 => (rk_5 (h s hs) (of_decide_eq_true h1)).2)⟩
theorem vs_3 {g : vA} {S : vL} (h : SAC g S) {s : Nat} (hs : s < gns g) : 1 ≤ vsS g S s ∧ vsS g S s ≤ 3 := by
  have := gt_5 h hs
  unfold vsS
  omega
theorem vo_3 {g : vA} {S : vL} (h : SAC g S) {s a : Nat} (hs : s < gns g) (ha : a < gna g s) : 1 ≤ voS g S s a ∧ voS g S s a ≤ vsS g S s := by
  have h1 := gt_5 h hs
  have h2 := rk_5 (ih := gih g s) (h s hs) ha
  have h4 := (h s hs).1
  have h3 : rkS g S s a ≤ gtS g S s := mx_in (f := rkS g S s) (P := fun a => decide (a < gna g s)) (decide_eq_true ha) 4 (by omega)
  unfold voS vsS
  have h5 : 1 ≤ rkS g S s a := h2.1
  omega
