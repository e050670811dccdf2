/-! The pure part: a function of the program comes to its end, with what is said of it. -/
def Ok {α : Type} (o : Option α) (P : α → Prop) : Prop := ∃ v, o = some v ∧ P v
theorem ok_some {α : Type} {v : α} {P : α → Prop} (h : P v) : Ok (some v) P := ⟨v, rfl, h⟩
theorem ok_bd {α : Type} {b : Bool} {k : Option α} {P : α → Prop} (hb : b = true) (hk : Ok k P) : Ok (if b = true then k else none) P := by rw [if_pos hb]; exact hk
theorem ok_let {α β : Type} {x : α} {k : α → Option β} {P : β → Prop} (h : Ok (k x) P) : Ok (vlet x k) P := h
theorem ok_lets {α β : Type} {x : α} {k : α → Option β} {P : β → Prop} (h : ∀ y, y = x → Ok (k y) P) : Ok (vlet x k) P := h x rfl
theorem ok_bi {α β : Type} {o : Option α} {k : α → Option β} {P : β → Prop} {Q : α → Prop} (h : Ok o Q) (hk : ∀ q, Q q → Ok (k q) P) : Ok (o.bind k) P := by
  obtain ⟨q, hq, hQ⟩ := h
  rw [hq]
  exact hk q hQ
theorem ok_if {α : Type} {c : Prop} [Decidable c] {a b : Option α} {P : α → Prop} (ha : c → Ok a P) (hb : ¬ c → Ok b P) : Ok (if c then a else b) P := by
  by_cases h : c
  · rw [if_pos h]; exact ha h
  · rw [if_neg h]; exact hb h
theorem ok_then {α : Type} {c : Prop} [Decidable c] {a b : Option α} {P : α → Prop} (h : c) (ha : Ok a P) : Ok (if c then a else b) P := by rw [if_pos h]; exact ha
theorem ok_else {α : Type} {c : Prop} [Decidable c] {a b : Option α} {P : α → Prop} (h : ¬ c) (hb : Ok b P) : Ok (if c then a else b) P := by rw [if_neg h]; exact hb
theorem ok_mono {α : Type} {o : Option α} {P Q : α → Prop} (h : Ok o P) (hpq : ∀ v, P v → Q v) : Ok o Q := by
  obtain ⟨v, hv, hP⟩ := h
  exact ⟨v, hv, hpq v hP⟩
theorem ok_eq {α : Type} {o : Option α} {v : α} {P : α → Prop} (h : o = some v) (hP : P v) : Ok o P := ⟨v, h, hP⟩
/-! Where an index lies. -/
theorem bIn_nI {n m : Nat} (h : n < m) (hm : m < 2 ^ 31) : bIn (nI n) m = true := by
  refine decide_eq_true ?_
  rw [nI_toInt (by omega)]
  omega
theorem bIn_of {x : Int32} {m : Nat} (h0 : 0 ≤ x.toInt) (h : x.toInt < m) : bIn x m = true := decide_eq_true ⟨h0, h⟩
/-! Reading after writing. -/
theorem sf_1 {σ : vS} {k : Nat} {x : Int32} : (sf σ k x).1 k = x := pk_us
theorem sf_1n {σ : vS} {k j : Nat} {x : Int32} (h : j ≠ k) : (sf σ k x).1 j = σ.1 j := pk_un h
theorem sf_2 {σ : vS} {k : Nat} {x : Int32} : (sf σ k x).2 = σ.2 := rfl
theorem sa_1 {σ : vS} {a i : Nat} {x : Int32} : (sa σ a i x).1 = σ.1 := rfl
theorem sa_2 {σ : vS} {a i : Nat} {x : Int32} : (sa σ a i x).2 a i = x := by
  show (if a = a then upd (σ.2 a) i x else σ.2 a) i = x
  rw [if_pos rfl]; exact pk_us
theorem sa_2n {σ : vS} {a i j : Nat} {x : Int32} (h : j ≠ i) : (sa σ a i x).2 a j = σ.2 a j := by
  show (if a = a then upd (σ.2 a) i x else σ.2 a) j = σ.2 a j
  rw [if_pos rfl]; exact pk_un h
theorem sa_2a {σ : vS} {a b i : Nat} {x : Int32} (h : b ≠ a) : (sa σ a i x).2 b = σ.2 b := if_neg h
theorem sa_all {σ : vS} {a i j : Nat} {x : Int32} {P : Int32 → Prop} (hx : P x) (h : P (σ.2 a j)) : P ((sa σ a i x).2 a j) := by
  by_cases hj : j = i
  · rw [hj, sa_2]; exact hx
  · rw [sa_2n hj]; exact h
theorem sfill_1 {σ : vS} {a : Nat} {x : Int32} : (sfill σ a x).1 = σ.1 := rfl
theorem sfill_2 {σ : vS} {a : Nat} {x : Int32} : (sfill σ a x).2 a = fun _ => x := if_pos rfl
theorem sfill_2a {σ : vS} {a b : Nat} {x : Int32} (h : b ≠ a) : (sfill σ a x).2 b = σ.2 b := if_neg h
theorem scpy_1 {σ : vS} {a b dp n : Nat} : (scpy σ a b dp n).1 = σ.1 := rfl
theorem scpy_2a {σ : vS} {a b c dp n : Nat} (h : c ≠ b) : (scpy σ a b dp n).2 c = σ.2 c := if_neg h
/-- a number from 0 to n -/
def Nn (x : Int32) (n : Nat) : Prop := ∃ j : Nat, j ≤ n ∧ x = nI j
theorem Nn.of {j n : Nat} (h : j ≤ n) : Nn (nI j) n := ⟨j, h, rfl⟩
theorem Nn.mono {x : Int32} {n m : Nat} (h : Nn x n) (hm : n ≤ m) : Nn x m := by
  obtain ⟨j, hj, e⟩ := h
  exact ⟨j, Nat.le_trans hj hm, e⟩
theorem Nn.le {x : Int32} {n : Nat} (h0 : ¬ x < 0) (M : Int32) (hM : M.toInt = n) (h5 : x ≤ M) : Nn x n := nI_of2 hM h0 h5
theorem Nn.lt {x : Int32} {n k : Nat} (h0 : ¬ x < 0) (hk : k < 2 ^ 31) (hn : k ≤ n + 1) (h : ¬ nI k ≤ x) : Nn x n := by
  rcases pk_ix x hk with h1 | h1 | ⟨j, hj, e⟩
  · exact absurd h1 h0
  · exact absurd h1 h
  · exact ⟨j, by omega, e⟩
/-- the numbers that a boolean may be -/
theorem nar_bool (x : Int32) : vp_nar .boolean x = 0 ∨ vp_nar .boolean x = 1 := by
  obtain ⟨j, hj, e⟩ := pk_andE x (m := 1) 1 (by decide)
  have h : vp_nar .boolean x = x &&& 1 := by simp [vp_nar, narrow]
  rw [h, e]
  have : j = 0 ∨ j = 1 := by omega
  rcases this with rfl | rfl
  · exact Or.inl rfl
  · exact Or.inr rfl
