/-! The class: giveToSymbols. -/
theorem bt_15 : ∀ i, i < 32 → bt 15 i = decide (i < 4) := by decide
theorem x_others {N : Nat} {q a : Nat} (hq : q < 4) (ha : a < 4) (x : Int32) : ∃ z, f_E_othersAt N (nI (q * 4)) (nI a) x = some z ∧ ∀ b, b < 32 → bt z b = (decide (b < 4) && (bt x (4 * q + b) && decide (a ≠ b))) := by
  refine ⟨((x >>> (nI (q * 4) &&& 31)) &&& 15) &&& (((1 : Int32) <<< (nI a &&& 31)) ^^^ (-1)), rfl, fun b hb => ?_⟩
  rw [bt_and, bt_and, bt_not hb, bt_one (by omega) hb, bt_15 b hb]
  by_cases h4 : b < 4
  · rw [bt_shr (by omega) (by omega), show q * 4 + b = 4 * q + b by omega, decide_eq_true h4, Bool.and_true, Bool.true_and]
    by_cases e : b = a
    · rw [decide_eq_true e, decide_eq_false (show ¬ a ≠ b from fun h => h e.symm)]; rfl
    · rw [decide_eq_false e, decide_eq_true (show a ≠ b from fun h => e h.symm)]; rfl
  · rw [decide_eq_false h4, Bool.and_false, Bool.false_and, Bool.false_and]
/-- what a flag of growth says -/
def FLG (y : Bool) (S S' : vL) : Prop := (y = false ∧ ∀ s a b, s < 6 → a < 4 → b < 4 → S' s a b = S s a b) ∨ (y = true ∧ ∃ s a b, s < 6 ∧ a < 4 ∧ b < 4 ∧ S s a b = false ∧ S' s a b = true)
theorem FLG.rf {S : vL} : FLG false S S := Or.inl ⟨rfl, fun _ _ _ _ _ _ => rfl⟩
theorem FLG.eq {y : Bool} {S S' S'' : vL} (h : FLG y S S') (e : ∀ s a b, s < 6 → a < 4 → b < 4 → S'' s a b = S' s a b) : FLG y S S'' := by
  rcases h with ⟨h1, h2⟩ | ⟨h1, s, a, b, hs, ha, hb, e1, e2⟩
  · exact Or.inl ⟨h1, fun s a b hs ha hb => (e s a b hs ha hb).trans (h2 s a b hs ha hb)⟩
  · exact Or.inr ⟨h1, s, a, b, hs, ha, hb, e1, (e s a b hs ha hb).trans e2⟩
theorem FLG.up {y : Bool} {S S' S'' : vL} (h : FLG y S S') (hm : ∀ s a b, S' s a b = true → S'' s a b = true) (hy : y = true) : FLG y S S'' := by
  rcases h with ⟨h1, _⟩ | ⟨h1, s, a, b, hs, ha, hb, e1, e2⟩
  · rw [hy] at h1; cases h1
  · exact Or.inr ⟨h1, s, a, b, hs, ha, hb, e1, hm s a b e2⟩
def gvP (d : Bool) (g : vA) (p : Nat) (R : Nat → Nat → Bool) (S : vL) (q i : Nat) : vL := fun s a b => gvS d g p R S q s a b || (decide (a < i) && gvc d (gsy g p q) q R s a b)
theorem gvP_0 {d : Bool} {g : vA} {p : Nat} {R : Nat → Nat → Bool} {S : vL} {q s a b : Nat} : gvP d g p R S q 0 s a b = gvS d g p R S q s a b := by
  unfold gvP
  rw [decide_eq_false (Nat.not_lt_zero a), Bool.false_and, Bool.or_false]
theorem gvP_4 {d : Bool} {g : vA} {p : Nat} {R : Nat → Nat → Bool} {S : vL} {q s a b : Nat} (ha : a < 4) : gvP d g p R S q 4 s a b = gvS d g p R S (q + 1) s a b := by
  unfold gvP
  rw [decide_eq_true ha, Bool.true_and]; rfl
theorem gvP_o {d : Bool} {g : vA} {p : Nat} {R : Nat → Nat → Bool} {S : vL} {q i s a b : Nat} (h : ¬ (s = gsy g p q ∧ a = i)) : gvP d g p R S q (i + 1) s a b = gvP d g p R S q i s a b := by
  unfold gvP
  by_cases e : s = gsy g p q
  · have h1 : decide (a < i + 1) = decide (a < i) := decide_eq_decide.mpr ⟨fun h2 => Nat.lt_of_le_of_ne (by omega) (fun h3 => h ⟨e, h3⟩), fun h2 => by omega⟩
    rw [h1]
  · have h1 : gvc d (gsy g p q) q R s a b = false := by
      unfold gvc
      rw [decide_eq_false e, Bool.false_and]
    rw [h1, Bool.and_false, Bool.and_false]
theorem gvP_m {d : Bool} {g : vA} {p : Nat} {R : Nat → Nat → Bool} {S : vL} {q i s a b : Nat} (h : S s a b = true) : gvP d g p R S q i s a b = true := (Bool.or_eq_true _ _).mpr (Or.inl (gvS_mono h q))
theorem x_give_47 {N : Nat} {g : vA} {σ : vS} (hw : wfA g) {p : Nat} (hp : p < gnp g) {L S : vL} (hL : XL L σ) {q : Nat} (hq : q < gpo g p) {Q : Int32 × vS → Prop} {k4 : vS → Int32 → Int32 → Int32 → Option (Int32 × vS)} (hk : ∀ τ y, E1 12 σ τ → XS (gvS false g p (L p) S (q + 1)) τ → FLG y S (gvS false g p (L p) S (q + 1)) → Ok (k4 τ (nI p) (b01 y) (nI (q + 1))) Q) : ∀ n i τ y, i ≤ 4 → 4 < i + n → E1 12 σ τ → XS (gvP false g p (L p) S q i) τ → FLG y S (gvP false g p (L p) S q i) → Ok (f_E_giveToSymbols_47 N k4 n τ (nI p) (b01 y) (nI q) (nI (gsy g p q * 4)) (nI (q * 4)) (nI (16 * p + 4 * q)) (nI i)) Q := by
  have h10 := hw.2.2.2.1
  have h5 := hw.2.2.2.2.1 p hp
  have h6 := hw.1
  have hs := hw.2.2.2.2.2.1 p q hp hq
  intro n
  induction n with
  | zero => intro i τ y h1 h2; omega
  | succ n ih =>
    intro i τ y h1 h2 hE hS hF
    rw [f_E_giveToSymbols_47]
    dsimp only
    by_cases hi : i = 4
    · subst hi
      refine ok_then (show (4 : Int32) ≤ nI 4 from nI_le (a := 4) (b := 4) (by decide) (by decide)) ?_
      rw [nI_1]
      exact hk τ y hE (hS.eq rfl (fun s a b _ ha _ => (gvP_4 ha).symm)) (hF.eq (fun s a b _ ha _ => (gvP_4 ha).symm))
    · refine ok_else (show ¬ (4 : Int32) ≤ nI i from nI_ge (a := i) (b := 4) (by omega) (by decide)) ?_
      rw [nI_add, nI_add]
      refine ok_bd (bIn_nI (by omega) (by decide)) (ok_lets (fun i8 e8 => ?_))
      rw [nI_clamp (by omega)] at e8
      obtain ⟨z, hz, hzb⟩ := x_others (N := N) (q := q) (a := i) (by omega) (by omega) i8
      rw [hz, Option.bind_some]
      refine ok_bd (bIn_nI (by omega) (by decide)) (ok_lets (fun i12 e12 => ?_))
      rw [nI_clamp (by omega)] at e12 ⊢
      rw [show gsy g p q * 4 + i = 4 * gsy g p q + i by omega] at e12 ⊢
      have row : ∀ b, b < 32 → bt i12 b = (decide (b < 4) && gvS false g p (L p) S q (gsy g p q) i b) := fun b hb => by
        rw [e12, hS _ i b (by omega) (by omega) hb]
        unfold gvP
        rw [decide_eq_false (Nat.lt_irrefl i), Bool.false_and, Bool.or_false]
      have zb : ∀ b, b < 4 → bt z b = gvc false (gsy g p q) q (L p) (gsy g p q) i b := fun b hb => by
        rw [hzb b (by omega), e8, hE.2 11 (by decide), show 16 * p + 4 * q + i = 16 * p + (4 * q + i) by omega, hL p (4 * q + i) (4 * q + b) (by omega) (by omega) (by omega), decide_eq_true hb, decide_eq_true (show 4 * q + b < 16 by omega), Bool.true_and, Bool.true_and]
        unfold gvc
        rw [decide_eq_true rfl, Bool.true_and, Bool.false_or]
      have new : ∀ b, gvP false g p (L p) S q (i + 1) (gsy g p q) i b = (gvS false g p (L p) S q (gsy g p q) i b || gvc false (gsy g p q) q (L p) (gsy g p q) i b) := fun b => by
        unfold gvP
        rw [decide_eq_true (Nat.lt_succ_self i), Bool.true_and]
      have old : ∀ b, gvP false g p (L p) S q i (gsy g p q) i b = gvS false g p (L p) S q (gsy g p q) i b := fun b => by
        unfold gvP
        rw [decide_eq_false (Nat.lt_irrefl i), Bool.false_and, Bool.or_false]
      rcases f_holdsAll (N := N) (x := i12) (y := z) with ⟨e1, e2⟩ | ⟨e1, e2⟩
      · rw [e1, Option.bind_some, if_neg (by decide)]
        unfold f_E_giveToSymbols_107
        rw [nI_1]
        have same : ∀ s a b, s < 6 → a < 4 → b < 4 → gvP false g p (L p) S q (i + 1) s a b = gvP false g p (L p) S q i s a b := fun s a b _ ha hb => by
          by_cases e : s = gsy g p q ∧ a = i
          · rw [e.1, e.2, new, old]
            cases h9 : gvc false (gsy g p q) q (L p) (gsy g p q) i b
            · rw [Bool.or_false]
            · have := e2 b (by omega) ((zb b hb).trans h9)
              rw [row b (by omega), decide_eq_true hb, Bool.true_and] at this
              rw [this]; rfl
          · exact gvP_o e
        exact ih (i + 1) τ y (by omega) (by omega) hE (hS.eq rfl same) (hF.eq same)
      · rw [e1, Option.bind_some, if_pos rfl]
        refine ok_bd (bIn_nI (by omega) (by decide)) (ok_lets (fun i17 e17 => ok_bd (bIn_nI (by omega) (by decide)) (ok_lets (fun σ19 e19 => ?_))))
        unfold f_E_giveToSymbols_107
        rw [nI_1]
        have hx : ∃ b, b < 4 ∧ bt z b = true ∧ bt i12 b = false := Classical.byContradiction (fun hc => e2 (fun b hb hzt => by
          have h4 : b < 4 := by
            rw [hzb b hb, Bool.and_eq_true] at hzt
            exact of_decide_eq_true hzt.1
          cases h9 : bt i12 b
          · exact absurd ⟨b, h4, hzt, h9⟩ hc
          · rfl))
        obtain ⟨b, hb, hb1, hb2⟩ := hx
        rw [row b (by omega), decide_eq_true hb, Bool.true_and] at hb2
        have hS0 : S (gsy g p q) i b = false := by
          cases h9 : S (gsy g p q) i b
          · rfl
          · rw [gvS_mono h9 q] at hb2; cases hb2
        refine ih (i + 1) σ19 true (by omega) (by omega) (by rw [e19]; exact hE.sa) ?_ (Or.inr ⟨rfl, gsy g p q, i, b, by omega, by omega, hb, hS0, by rw [new, ← zb b hb, hb1, Bool.or_true]⟩)
        rw [e19]
        refine hS.sa (fun b hb => ?_) (fun s' a' b _ _ _ e => gvP_o e) (by omega)
        rw [bt_or, e17, ← e12, row b hb, new]
        by_cases h4 : b < 4
        · rw [decide_eq_true h4, Bool.true_and, Bool.true_and, zb b h4]
        · rw [hzb b hb, decide_eq_false h4]; rfl
theorem x_give_4 {N : Nat} (hN : 161 ≤ N) {g : vA} {σ : vS} (hg : XG g σ) (hw : wfA g) {p : Nat} (hp : p < gnp g) {L S : vL} (hL : XL L σ) : ∀ n q τ y, q ≤ gpo g p → gpo g p < q + n → E1 12 σ τ → XS (gvS false g p (L p) S q) τ → FLG y S (gvS false g p (L p) S q) → Ok (f_E_giveToSymbols_4 N n τ (nI p) (b01 y) (nI q)) (fun v => E1 12 σ v.2 ∧ XS (gvS false g p (L p) S (gpo g p)) v.2 ∧ ∃ y, v.1 = b01 y ∧ FLG y S (gvS false g p (L p) S (gpo g p))) := by
  have h10 := hw.2.2.2.1
  have h5 := hw.2.2.2.2.1 p hp
  intro n
  induction n with
  | zero => intro q τ y h1 h2; omega
  | succ n ih =>
    intro q τ y h1 h2 hE hS hF
    have hg1 := hg.e1 hE (by decide)
    rw [f_E_giveToSymbols_4]
    dsimp only
    refine ok_bd (bIn_nI (by omega) (by decide)) (ok_lets (fun i2 e2 => ?_))
    rw [nI_clamp (by omega), hg1.2.2.2.2.1 p hp] at e2
    rw [e2]
    by_cases hq : q = gpo g p
    · subst hq
      exact ok_then (nI_lt (by omega) (by omega)) (ok_some ⟨hE, hS, y, nar_b01 y, hF⟩)
    · refine ok_else (nI_nlt (by omega) (by omega)) ?_
      rw [x_symbolAt hg1 hw hp (by omega), Option.bind_some]
      dsimp only
      rw [show nI (gsy g p q) * (4 : Int32) = nI (gsy g p q * 4) from pk_mul _ 4, show nI q * (4 : Int32) = nI (q * 4) from pk_mul _ 4, show nI p * (16 : Int32) = nI (p * 16) from pk_mul _ 16, nI_add, show p * 16 + q * 4 = 16 * p + 4 * q by omega]
      exact x_give_47 hw hp hL (by omega) (fun τ' y' hE' hS' hF' => ih (q + 1) τ' y' (by omega) (by omega) hE' hS' hF') N 0 τ y (by omega) (by omega) hE (hS.eq rfl (fun s a b _ _ _ => gvP_0)) (hF.eq (fun s a b _ _ _ => gvP_0))
/-- arrays 11 and 12 alone may be others -/
def E2 (σ τ : vS) : Prop := τ.1 = σ.1 ∧ ∀ a, a ≠ 11 → a ≠ 12 → τ.2 a = σ.2 a
theorem E2.rf {σ : vS} : E2 σ σ := ⟨rfl, fun _ _ _ => rfl⟩
theorem E2.e11 {σ τ υ : vS} (h : E2 σ τ) (h' : E1 11 τ υ) : E2 σ υ := ⟨h'.1.trans h.1, fun a h1 h2 => (h'.2 a h1).trans (h.2 a h1 h2)⟩
theorem E2.e12 {σ τ υ : vS} (h : E2 σ τ) (h' : E1 12 τ υ) : E2 σ υ := ⟨h'.1.trans h.1, fun a h1 h2 => (h'.2 a h2).trans (h.2 a h1 h2)⟩
theorem XG.e2 {g : vA} {σ τ : vS} (hg : XG g σ) (h : E2 σ τ) : XG g τ := hg.stay (by rw [h.1]) (by rw [h.1]) (fun a ha => h.2 a (by omega) (by omega))
theorem x_tc {N : Nat} (hN : 161 ≤ N) {g : vA} {σ : vS} (hg : XG g σ) (hw : wfA g) {p : Nat} (hp : p < gnp g) {L S : vL} (hL : XL L σ) (hS : XS S σ) {Q : Int32 × vS → Prop} {k : Int32 × vS → Option (Int32 × vS)} (hk : ∀ q, E1 11 σ q.2 → XL (lnL g L S p) q.2 → Ok (k q) Q) : Ok ((f_E_takeFromSymbols N σ (nI p)).bind (fun q2 => (f_E_close N q2.2 (nI p)).bind k)) Q := by
  have h10 := hw.2.2.2.1
  refine ok_bi (x_take hN hg hw hp hS hL) (fun q1 h1 => ok_bi (x_close hN (by omega) h1.2) (fun q2 h2 => hk q2 (h1.1.tr h2.1) (h2.2.eq rfl (fun p' a b _ _ _ => ?_))))
  have e0 : (fun x b => L p x b || (decide (p = p) && tkc g S p x b)) = (fun x b => L p x b || tkc g S p x b) := by
    funext x b
    rw [decide_eq_true rfl, Bool.true_and]
  unfold lnL
  rw [e0]
  by_cases e : p' = p
  · rw [if_pos e, if_pos e]
  · rw [if_neg e, if_neg e, decide_eq_false e, Bool.false_and, Bool.or_false]
theorem x_spread_30 {N : Nat} (hN : 161 ≤ N) {g : vA} {σ : vS} (hg : XG g σ) (hw : wfA g) {LS : vL × vL} {r : Nat} {Q : Int32 × vS → Prop} {k16 : vS → Int32 → Int32 → Option (Int32 × vS)} (hk : ∀ τ y, E2 σ τ → XL (rd false g LS (gnp g)).1 τ → XS (rd false g LS (gnp g)).2 τ → FLG y LS.2 (rd false g LS (gnp g)).2 → Ok (k16 τ (b01 y) (nI (r + 1))) Q) : ∀ n p τ y, p ≤ gnp g → gnp g < p + n → E2 σ τ → XL (rd false g LS p).1 τ → XS (rd false g LS p).2 τ → FLG y LS.2 (rd false g LS p).2 → Ok (f_E_spread_30 N k16 n τ (b01 y) (nI r) (nI p)) Q := by
  have h10 := hw.2.2.2.1
  intro n
  induction n with
  | zero => intro p τ y h1 h2; omega
  | succ n ih =>
    intro p τ y h1 h2 hE hL hS hF
    have hg1 := hg.e2 hE
    rw [f_E_spread_30]
    dsimp only
    rw [hg1.2.1]
    by_cases hp : p = gnp g
    · subst hp
      refine ok_then (nI_le (Nat.le_refl _) (by omega)) ?_
      rw [nI_1]
      exact hk τ y hE hL hS hF
    · refine ok_else (nI_ge (by omega) (by omega)) ?_
      refine x_tc hN hg1 hw (by omega) hL hS (fun q2 hE2 hL2 => ?_)
      have hS2 : XS (rd false g LS p).2 q2.2 := hS.eq (hE2.2 12 (by decide)) (fun _ _ _ _ _ _ => rfl)
      have hg2 := hg1.e1 hE2 (by decide)
      have h5 := hw.2.2.2.2.1 p (by omega)
      unfold f_E_giveToSymbols
      refine ok_bi (x_give_4 (S := (rd false g LS p).2) hN hg2 hw (by omega) hL2 N 0 q2.2 false (by omega) (by omega) E1.rf hS2 FLG.rf) (fun q3 h3 => ?_)
      obtain ⟨hE3, hS3, y3, e3, hF3⟩ := h3
      have hE' : E2 σ q3.2 := (hE.e11 hE2).e12 hE3
      have hL3 : XL (rd false g LS (p + 1)).1 q3.2 := hL2.eq (hE3.2 11 (by decide)) (fun _ _ _ _ _ _ => rfl)
      rw [e3]
      unfold f_E_spread_61
      rcases hF3 with ⟨h4, h5'⟩ | ⟨h4, s, a, b, hs, ha, hb, e4, e5⟩
      · rw [h4, if_pos (show b01 false = 0 from rfl), nI_1]
        exact ih (p + 1) q3.2 y (by omega) (by omega) hE' hL3 hS3 (hF.eq h5')
      · rw [h4, if_neg (by decide), nI_1]
        refine ih (p + 1) q3.2 true (by omega) (by omega) hE' hL3 hS3 (Or.inr ⟨rfl, s, a, b, hs, ha, hb, ?_, e5⟩)
        cases h9 : LS.2 s a b
        · rfl
        · rw [rd_mono (d := false) (g := g) 0 p (Nat.zero_le _) h9] at e4; cases e4
theorem x_spread_16 {N : Nat} (hN : 161 ≤ N) {g : vA} {σ : vS} (hg : XG g σ) (hw : wfA g) : ∀ n r τ y (L S : vL), (y = true → r ≤ cS S) → r ≤ 97 → 97 < r + n → E2 σ τ → XL L τ → XS S τ → PRE false g L S → (y = false → FX false g L S) → Ok (f_E_spread_16 N n τ (b01 y) (nI r)) (fun v => E2 σ v.2 ∧ ∃ L S, FX false g L S ∧ XL L v.2 ∧ XS S v.2) := by
  intro n
  induction n with
  | zero => intro r τ y L S _ h1 h2; omega
  | succ n ih =>
    intro r τ y L S h0 h1 h2 hE hL hS hP hy
    have h10 := hw.2.2.2.1
    have h96 := cS_le S
    rw [f_E_spread_16]
    dsimp only
    cases y with
    | false => exact ok_then (show b01 false = 0 from rfl) (ok_some ⟨hE, L, S, hy rfl, hL, hS⟩)
    | true =>
      have hr := h0 rfl
      refine ok_else (by decide) (ok_else (show ¬ (97 : Int32) ≤ nI r from nI_ge (a := r) (b := 97) (by omega) (by decide)) ?_)
      refine x_spread_30 (LS := (L, S)) hN hg hw (fun τ' y' hE' hL' hS' hF' => ?_) N 0 τ false (by omega) (by omega) hE hL hS FLG.rf
      rcases hF' with ⟨e, hs⟩ | ⟨e, hs⟩
      · have hfx := fx_round (d := false) (LS := (L, S)) hw hP hs
        exact ih (r + 1) τ' y' _ _ (fun h9 => by rw [e] at h9; cases h9) (by omega) (by omega) hE' hL' hS' ⟨hfx.1, hfx.2.2⟩ (fun _ => hfx)
      · exact ih (r + 1) τ' y' _ _ (fun _ => Nat.lt_of_le_of_lt hr (cS_lt (fun s a b h9 => rd_mono (d := false) (g := g) (LS := (L, S)) 0 (gnp g) (Nat.zero_le _) h9) hs)) (by omega) (by omega) hE' hL' hS' (rd_pre hw hP _ (Nat.le_refl _)) (fun h9 => by rw [h9] at e; cases e)
/-! takeRules -/
abbrev trP (P D O p x b : Nat) : Prop := p < P ∨ (p = P ∧ (b < D ∨ (b = D ∧ x < O)))
def tr (g : vA) (P D O : Nat) : vL := fun p x b => usd g p x b && decide (trP P D O p x b)
theorem tr_eq {g : vA} {P D O P' D' O' p x b : Nat} (h : trP P D O p x b ↔ trP P' D' O' p x b) : tr g P D O p x b = tr g P' D' O' p x b := by
  unfold tr
  rw [decide_eq_decide.mpr h]
theorem x_takeRule_3 {N : Nat} {g : vA} {p d : Nat} (hp : p < 10) (hd : d < 16) {z : Int32} (hz : ∀ b, b < 32 → bt z b = (decide (b < 16) && usd g p b d)) {σ : vS} : ∀ n o τ, o ≤ 16 → 16 < o + n → E1 11 σ τ → XL (tr g p d o) τ → Ok (f_E_takeRule_3 N n τ (nI (16 * p)) (nI d) z (nI o)) (fun v => E1 11 σ v.2 ∧ XL (tr g p (d + 1) 0) v.2) := by
  intro n
  induction n with
  | zero => intro o τ h1 h2; omega
  | succ n ih =>
    intro o τ h1 h2 hE hL
    rw [f_E_takeRule_3]
    dsimp only
    refine ok_if (fun hz0 => ok_some ⟨hE, hL.eq rfl (fun p' a b _ ha hb => ?_)⟩) (fun hz0 => ?_)
    · by_cases e : p' = p ∧ b = d
      · have h0 : usd g p a d = false := by
          have := hz a (by omega)
          rw [hz0, bt_0, decide_eq_true ha, Bool.true_and] at this
          exact this.symm
        unfold tr
        rw [e.1, e.2, h0, Bool.false_and, Bool.false_and]
      · refine tr_eq ?_
        unfold trP
        omega
    · by_cases ho : o = 16
      · subst ho
        refine ok_then (show (16 : Int32) ≤ nI 16 from nI_le (a := 16) (b := 16) (by decide) (by decide)) (ok_some ⟨hE, hL.eq rfl (fun p' a b _ ha hb => tr_eq ?_)⟩)
        unfold trP
        omega
      · refine ok_else (show ¬ (16 : Int32) ≤ nI o from nI_ge (a := o) (b := 16) (by omega) (by decide)) ?_
        rw [f_holds (by omega), Option.bind_some, hz o (by omega), decide_eq_true (show o < 16 by omega), Bool.true_and]
        cases hu : usd g p o d
        · rw [if_pos (by decide)]
          unfold f_E_takeRule_38
          rw [nI_1]
          refine ih (o + 1) τ (by omega) (by omega) hE (hL.eq rfl (fun p' a b _ _ _ => ?_))
          by_cases e : p' = p ∧ a = o ∧ b = d
          · unfold tr
            rw [e.1, e.2.1, e.2.2, hu, Bool.false_and, Bool.false_and]
          · refine tr_eq ?_
            unfold trP
            omega
        · rw [if_neg (by decide), nI_add]
          refine ok_bd (bIn_nI (by omega) (by decide)) (ok_lets (fun i7 e7 => ok_lets (fun i8 e8 => ok_bd (bIn_nI (by omega) (by decide)) (ok_lets (fun σ10 e10 => ?_)))))
          rw [nI_clamp (by omega)] at e7 e10
          unfold f_E_takeRule_38
          rw [nI_1]
          refine ih (o + 1) σ10 (by omega) (by omega) (by rw [e10]; exact hE.sa) ?_
          rw [e10]
          refine hL.sa (fun b hb => ?_) (fun p' a' b _ _ _ e => tr_eq ?_) (by omega)
          · rw [e8, bt_or, e7, hL p o b hp (by omega) hb, bt_one (by omega) hb]
            by_cases e : b = d
            · subst e
              unfold tr
              rw [decide_eq_true rfl, hu, decide_eq_true hd, decide_eq_true (show trP p b (o + 1) p o b from Or.inr ⟨rfl, Or.inr ⟨rfl, by omega⟩⟩), Bool.or_true]; rfl
            · rw [decide_eq_false e, Bool.or_false]
              have := tr_eq (g := g) (P := p) (D := d) (O := o) (P' := p) (D' := d) (O' := o + 1) (p := p) (x := o) (b := b) (by unfold trP; omega)
              rw [this]
          · unfold trP
            omega
theorem x_takeRules_28 {N : Nat} (hN : 161 ≤ N) {g : vA} {σ : vS} (hg : XG g σ) (hw : wfA g) {p : Nat} (hp : p < gnp g) {Q : Int32 × vS → Prop} {k10 : vS → Int32 → Option (Int32 × vS)} (hk : ∀ τ, E1 11 σ τ → XL (tr g (p + 1) 0 0) τ → Ok (k10 τ (nI (p + 1))) Q) : ∀ n d τ, d ≤ 16 → 16 < d + n → E1 11 σ τ → XL (tr g p d 0) τ → Ok (f_E_takeRules_28 N k10 n τ (nI p) (nI (16 * p)) (nI d)) Q := by
  have h10 := hw.2.2.2.1
  intro n
  induction n with
  | zero => intro d τ h1 h2; omega
  | succ n ih =>
    intro d τ h1 h2 hE hL
    rw [f_E_takeRules_28]
    dsimp only
    by_cases hd : d = 16
    · subst hd
      refine ok_then (show (16 : Int32) ≤ nI 16 from nI_le (a := 16) (b := 16) (by decide) (by decide)) ?_
      rw [nI_1]
      refine hk τ hE (hL.eq rfl (fun p' a b _ ha hb => tr_eq ?_))
      unfold trP
      omega
    · refine ok_else (show ¬ (16 : Int32) ≤ nI d from nI_ge (a := d) (b := 16) (by omega) (by decide)) ?_
      rw [nI_add]
      refine ok_bd (bIn_nI (by omega) (by decide)) (ok_lets (fun i5 e5 => ?_))
      rw [nI_clamp (by omega), hE.2 10 (by decide)] at e5
      unfold f_E_takeRule
      refine ok_bi (x_takeRule_3 (σ := τ) (by omega) (by omega) (fun b hb => by rw [e5, hg.2.2.2.2.2.2.2.2.2.2.1 p d b hp (by omega) hb]) N 0 τ (by omega) (by omega) E1.rf hL) (fun q hq => ?_)
      rw [nI_1]
      exact ih (d + 1) q.2 (by omega) (by omega) (hE.tr hq.1) hq.2
theorem x_takeRules_10 {N : Nat} (hN : 161 ≤ N) {g : vA} {σ : vS} (hg : XG g σ) (hw : wfA g) : ∀ n p τ, p ≤ gnp g → gnp g < p + n → E1 11 σ τ → XL (tr g p 0 0) τ → Ok (f_E_takeRules_10 N n τ (nI p)) (fun v => E1 11 σ v.2 ∧ XL (tr g (gnp g) 0 0) v.2) := by
  have h10 := hw.2.2.2.1
  intro n
  induction n with
  | zero => intro p τ h1 h2; omega
  | succ n ih =>
    intro p τ h1 h2 hE hL
    rw [f_E_takeRules_10]
    dsimp only
    rw [hE.1, hg.2.1]
    by_cases hp : p = gnp g
    · subst hp
      exact ok_then (nI_le (Nat.le_refl _) (by omega)) (ok_some ⟨hE, hL⟩)
    · refine ok_else (nI_ge (by omega) (by omega)) ?_
      rw [show nI p * (16 : Int32) = nI (p * 16) from pk_mul _ 16, show p * 16 = 16 * p by omega]
      exact x_takeRules_28 hN hg hw (by omega) (fun τ' hE' hL' => ih (p + 1) τ' (by omega) (by omega) hE' hL') N 0 τ (by omega) (by omega) hE hL
theorem x_spread {N : Nat} (hN : 161 ≤ N) {g : vA} {σ : vS} (hg : XG g σ) (hw : wfA g) : Ok (f_E_spread N σ) (fun v => E2 σ v.2 ∧ ∃ L S, FX false g L S ∧ XL L v.2 ∧ XS S v.2) := by
  unfold f_E_spread f_E_takeRules
  refine ok_lets (fun σ1 e1 => ?_)
  have hE1 : E2 σ σ1 := ⟨by rw [e1]; rfl, fun a _ h12 => by rw [e1, sfill_2a h12]⟩
  have hb : ∀ (τ : vS) , Ok (vlet (sfill σ1 11 0) (fun σ1 => f_E_takeRules_10 N N σ1 0)) (fun v => E2 σ v.2 ∧ XL (tr g (gnp g) 0 0) v.2 ∧ XS (fun _ _ _ => false) v.2) := fun _ => by
    refine ok_lets (fun σ2 e2 => ?_)
    have hE2 : E2 σ σ2 := ⟨by rw [e2]; exact hE1.1, fun a h11 h12 => by rw [e2, sfill_2a h11]; exact hE1.2 a h11 h12⟩
    refine ok_mono (x_takeRules_10 hN (hg.e2 hE2) hw N 0 σ2 (by omega) (by have := hw.2.2.2.1; omega) E1.rf (fun p a b _ _ _ => ?_)) (fun v hv => ⟨hE2.e11 hv.1, hv.2, fun s a b _ _ _ => ?_⟩)
    · rw [e2, sfill_2, bt_0]
      unfold tr
      rw [decide_eq_false (show ¬ trP 0 0 0 p a b by unfold trP; omega), Bool.and_false, Bool.and_false]
    · rw [hv.1.2 12 (by decide), e2, sfill_2a (by decide), e1, sfill_2, bt_0, Bool.and_false]
  refine ok_bi (hb σ) (fun q hq => ?_)
  obtain ⟨hE, hL, hS⟩ := hq
  refine ok_mono (x_spread_16 hN (hg.e2 hE) hw N 0 q.2 true (tr g (gnp g) 0 0) (fun _ _ _ => false) (fun _ => Nat.zero_le _) (by omega) (by omega) E2.rf hL hS ⟨fun p a b hp ha hb hu => ?_, fun L' S' r1 _ => ⟨fun p x b hp hx hb h9 => ?_, fun s a b _ _ _ h9 => by cases h9⟩⟩ (fun h9 => by cases h9)) (fun v hv => ⟨⟨hv.1.1.trans hE.1, fun a h1 h2 => (hv.1.2 a h1 h2).trans (hE.2 a h1 h2)⟩, hv.2⟩)
  · unfold tr
    rw [hu, decide_eq_true (show trP (gnp g) 0 0 p a b from Or.inl hp)]; rfl
  · unfold tr at h9
    rw [Bool.and_eq_true] at h9
    exact r1 p x b hp hx hb h9.1
