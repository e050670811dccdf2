theorem x_bitCount {N : Nat} {x : Int32} (h : ∀ i, 16 ≤ i → i < 32 → bt x i = false) : f_I_bitCount N x = some (nI (cB (bt x) 16)) := by
  have hlt : x.toBitVec.toNat < 2 ^ 16 := Nat.lt_pow_two_of_testBit _ (fun i hi => by
    rw [BitVec.testBit_toNat]
    by_cases h32 : i < 32
    · exact h i hi h32
    · exact BitVec.getLsbD_of_ge _ _ (by omega))
  have hx : x = nI x.toBitVec.toNat := bt_ext (fun i hi => by
    rw [bt_nI hi, BitVec.testBit_toNat]
    rfl)
  have hb := bcN_eq (N := N) (n := x.toBitVec.toNat) hlt
  rw [← hx, bcR_eq, bcR_cB 16 (by decide) _ hlt] at hb
  rw [hb, cB_eq (h := bt x) 16 (fun i hi => by
    rw [BitVec.testBit_toNat]
    rfl)]
/-! The class: fullLength and write. -/
theorem x_fullLength_15 {N : Nat} {g : vA} {σ : vS} (hg : XG g σ) (hw : wfA g) {V : vV} (hV : HV g V) (hX : XV g V σ) {p c : Nat} (hp : p < gnp g) (hc : c ≤ 16) : ∀ n q, q ≤ gpo g p → gpo g p < q + n → f_Q_fullLength_15 N n σ (nI p) (nI (c + smQ (vP g V p) q)) (nI q) = some (nI (c + smQ (vP g V p) (gpo g p)), σ) := by
  have h10 := hw.2.2.2.1
  have h5 := hw.2.2.2.2.1 p hp
  intro n
  induction n with
  | zero => intro q h1 h2; omega
  | succ n ih =>
    intro q h1 h2
    rw [f_Q_fullLength_15]
    dsimp only
    unfold vlet
    dsimp only
    rw [if_pos (bIn_nI (by omega) (by decide)), nI_clamp (by omega), hg.2.2.2.2.1 p hp]
    by_cases hq : q = gpo g p
    · subst hq
      rw [if_pos (nI_lt (by omega) (by omega))]
    · rw [if_neg (nI_nlt (by omega) (by omega)), x_visitsAt hg hw hX hp (by omega), Option.bind_some]
      dsimp only
      rw [nI_add, nI_1, Nat.add_assoc]
      exact ih (q + 1) (by omega) (by omega)
theorem dfn_16 {g : vA} (hw : wfA g) {p i : Nat} (hp : p < gnp g) (hi : 16 ≤ i) : dfn g p i = false := by
  cases h : dfn g p i
  · rfl
  · have := (occ_lt hw hp (dfn_occ h)).1
    omega
theorem x_fullLength {N : Nat} (hN : 161 ≤ N) {g : vA} {σ : vS} (hg : XG g σ) (hw : wfA g) {V : vV} (hV : HV g V) (hX : XV g V σ) {p : Nat} (hp : p < gnp g) : f_Q_fullLength N σ (nI p) = some (nI (lnP g V p), σ) := by
  have h10 := hw.2.2.2.1
  have h5 := hw.2.2.2.2.1 p hp
  have ht := hg.2.2.2.2.2.2.2.1 p
  unfold f_Q_fullLength
  rw [if_pos (bIn_nI (by omega) (by decide))]
  unfold vlet
  dsimp only
  rw [nI_clamp (by omega), x_bitCount (fun i h1 h2 => by rw [ht i hp h2]; exact dfn_16 hw hp h1), Option.bind_some, cB_eq (h := fun o => dfn g p o && !px0.1 o) 16 (fun i hi => by
    rw [ht i hp (by omega)]
    show dfn g p i = (dfn g p i && true)
    rw [Bool.and_true])]
  have := x_fullLength_15 (N := N) hg hw hV hX hp (cB_le (fun o => dfn g p o && !px0.1 o) 16) N 0 (by omega) (by omega)
  have e : smQ (vP g V p) (gpo g p) = smQ (fun q => vP g V p q - px0.2 q) (gpo g p) := smQ_eq _ (fun q _ => rfl)
  rw [e] at this
  exact this
/-- the class's sequences of the first n productions -/
def XQ (g : vA) (V : vV) (n : Nat) (τ : vS) : Prop := ∀ p, p < n → τ.2 17 p = nI (lnP g V p) ∧ ∀ k, k < lnP g V p → τ.2 16 (32 * p + k) = nI (sqN g V p k)
def FW (σ τ : vS) : Prop := (∀ k, k ≠ 6 → k ≠ 7 → τ.1 k = σ.1 k) ∧ ∀ a, a ≠ 16 → a ≠ 17 → a ≠ 18 → τ.2 a = σ.2 a
theorem XG.fw {g : vA} {σ τ : vS} (hg : XG g σ) (h : FW σ τ) : XG g τ := hg.stay (h.1 0 (by decide) (by decide)) (h.1 1 (by decide) (by decide)) (fun a ha => h.2 a (by omega) (by omega) (by omega))
theorem XV.fw {g : vA} {V : vV} {σ τ : vS} (hX : XV g V σ) (h : FW σ τ) : XV g V τ := fun s hs => by rw [h.2 14 (by decide) (by decide) (by decide), h.2 15 (by decide) (by decide) (by decide)]; exact hX s hs
theorem FW.fq {σ τ υ : vS} (h : FW σ τ) (h' : FQ τ υ) : FW σ υ := ⟨fun k k6 k7 => (h'.1 k k6 k7).trans (h.1 k k6 k7), fun a a16 a17 a18 => (h'.2 a a18).trans (h.2 a a16 a17 a18)⟩
theorem x_write_26 {N : Nat} (hN : 161 ≤ N) {g : vA} {σ : vS} (hg : XG g σ) (hw : wfA g) {V : vV} {O : vL} (hV : HV g V) (hO : HO g V O) (hX : XV g V σ) {p : Nat} (hp : p < gnp g) {Q : Int32 × vS → Prop} {k2 : vS → Int32 → Option (Int32 × vS)} (hk : ∀ τ, FW σ τ → XQ g V (p + 1) τ → Ok (k2 τ (nI (p + 1))) Q) : ∀ n k τ, k ≤ lnP g V p → lnP g V p < k + n → FW σ τ → XQ g V p τ → XP g V p (pst g V p k) τ → (∀ j, j < k → τ.2 16 (32 * p + j) = nI (sqN g V p j)) → Ok (f_Q_write_26 N k2 n τ (nI p) (nI (lnP g V p)) (nI k)) Q := by
  have h10 := hw.2.2.2.1
  have hl := len_28 hw hV hp
  intro n
  induction n with
  | zero => intro k τ h1 h2; omega
  | succ n ih =>
    intro k τ h1 h2 hF hQ hP hS
    rw [f_Q_write_26]
    dsimp only
    by_cases hkl : k = lnP g V p
    · subst hkl
      refine ok_then (nI_le (Nat.le_refl _) (by omega)) (ok_bd (bIn_nI (by omega) (by decide)) (ok_lets (fun σ8 e8 => ?_)))
      rw [nI_clamp (by omega)] at e8
      rw [nI_1]
      refine hk σ8 ⟨fun k k6 k7 => by rw [e8]; exact hF.1 k k6 k7, fun a a16 a17 a18 => by rw [e8, sa_2a a17]; exact hF.2 a a16 a17 a18⟩ (fun t ht => ?_)
      by_cases e : t = p
      · rw [e]
        exact ⟨by rw [e8, sa_2], fun j hj => by rw [e8, sa_2a (by decide)]; exact hS j hj⟩
      · obtain ⟨q1, q2⟩ := hQ t (by omega)
        exact ⟨by rw [e8, sa_2n e]; exact q1, fun j hj => by rw [e8, sa_2a (by decide)]; exact q2 j hj⟩
    · obtain ⟨n1, n2, n3⟩ := plan_at hw hV hO hp (show k < lnP g V p by omega)
      obtain ⟨i1, i2⟩ := plan_k hw hV hO hp k (by omega)
      refine ok_else (nI_ge (by omega) (by omega)) ?_
      rw [show nI (lnP g V p) - (1 : Int32) = nI (lnP g V p - 1) from pk_sub (b := 1) hl.2, show nI p * (32 : Int32) = nI (p * 32) from pk_mul _ 32, nI_add]
      have key : ∀ y : Bool, (lnP g V p = k + 1 → y = true) → Ok (f_Q_write_55 N k2 (f_Q_write_26 N k2 n) τ (nI p) (nI (lnP g V p)) (nI k) (b01 y) (nI p) (nI (p * 32 + k))) Q := by
        intro y hy
        unfold f_Q_write_55
        refine ok_bi (x_writeNext hN (hg.fw hF) hw hV (hX.fw hF) i1 hP hp n1 (y := y) (fun h8 h9 => hy ?_)) (fun q9 h9 => ?_)
        · have h6 := plan_step hw hV hO hp i1
          rcases h6 with ⟨i, e, _, i3, i4⟩ | ⟨e, i3⟩
          · rw [n1] at e
            cases e
            have h7 := i3.2.2
            rw [h9] at h7 i4
            have ea : apx (pst g V p k) (1000 + (pst g V p k).2 0 + 1) = ((pst g V p k).1, fun q => if q = 0 then (pst g V p k).2 q + 1 else (pst g V p k).2 q) := by
              unfold apx
              rw [if_neg (by omega), if_neg (by omega)]
            rw [ea] at h7 i4
            have h7 := h7 h8
            omega
          · rw [n1] at e; cases e
        · obtain ⟨v1, v2, v3⟩ := h9
          refine ok_bd (bIn_nI (by omega) (by decide)) (ok_lets (fun σ12 e12 => ?_))
          rw [nI_clamp (by omega), v1, show p * 32 + k = 32 * p + k by omega] at e12
          rw [nI_1]
          have hF1 := hF.fq v2
          refine ih (k + 1) σ12 (by omega) (by omega) ⟨fun k k6 k7 => by rw [e12]; exact hF1.1 k k6 k7, fun a a16 a17 a18 => by rw [e12, sa_2a a16]; exact hF1.2 a a16 a17 a18⟩ (fun t ht => ?_) ?_ (fun j hj => ?_)
          · obtain ⟨q1, q2⟩ := hQ t ht
            have hlt := len_28 hw hV (show t < gnp g by omega)
            exact ⟨by rw [e12, sa_2a (by decide), v2.2 17 (by decide)]; exact q1, fun j hj => by rw [e12, sa_2n (by omega), v2.2 16 (by decide)]; exact q2 j hj⟩
          · rw [n3, e12]
            exact ⟨v3.1, v3.2.1, fun q hq => by rw [sa_2a (by decide)]; exact v3.2.2 q hq⟩
          · rw [e12]
            by_cases e : j = k
            · rw [e, sa_2]
            · rw [sa_2n (by omega), v2.2 16 (by decide)]; exact hS j (by omega)
      by_cases hlast : k = lnP g V p - 1
      · rw [if_pos (by rw [hlast])]
        exact key true (fun _ => rfl)
      · rw [if_neg (fun h9 => hlast ((nI_eq (by omega) (by omega)).mp h9))]
        exact key false (fun h9 => by omega)
theorem x_write_2 {N : Nat} (hN : 161 ≤ N) {g : vA} {σ : vS} (hg : XG g σ) (hw : wfA g) {V : vV} {O : vL} (hV : HV g V) (hO : HO g V O) (hX : XV g V σ) : ∀ n p τ, p ≤ gnp g → gnp g < p + n → FW σ τ → XQ g V p τ → Ok (f_Q_write_2 N n τ (nI p)) (fun v => FW σ v.2 ∧ XQ g V (gnp g) v.2) := by
  have h10 := hw.2.2.2.1
  intro n
  induction n with
  | zero => intro p τ h1 h2; omega
  | succ n ih =>
    intro p τ h1 h2 hF hQ
    have hg1 := hg.fw hF
    rw [f_Q_write_2]
    dsimp only
    rw [hg1.2.1]
    by_cases hp : p = gnp g
    · subst hp
      exact ok_then (nI_le (Nat.le_refl _) (by omega)) (ok_some ⟨hF, hQ⟩)
    · have hl := len_28 hw hV (show p < gnp g by omega)
      refine ok_else (nI_ge (by omega) (by omega)) (ok_bi (x_beginWriting hg1 hw hV (hX.fw hF) (by omega)) (fun q2 h2' => ?_))
      have hF2 := hF.fq h2'.1
      rw [x_fullLength hN (hg.fw hF2) hw hV (hX.fw hF2) (by omega), Option.bind_some]
      dsimp only
      exact x_write_26 hN hg hw hV hO hX (by omega) (fun τ' hF' hQ' => ih (p + 1) τ' (by omega) (by omega) hF' hQ') N 0 q2.2 (by omega) (by omega) hF2 (fun t ht => by rw [h2'.1.2 17 (by decide), h2'.1.2 16 (by decide)]; exact hQ t ht) h2'.2 (fun j hj => absurd hj (Nat.not_lt_zero _))
theorem x_write {N : Nat} (hN : 161 ≤ N) {g : vA} {σ : vS} (hg : XG g σ) (hw : wfA g) {V : vV} {O : vL} (hV : HV g V) (hO : HO g V O) (hX : XV g V σ) : Ok (f_Q_write N σ) (fun v => FW σ v.2 ∧ XQ g V (gnp g) v.2) := by
  have h10 := hw.2.2.2.1
  unfold f_Q_write
  exact x_write_2 hN hg hw hV hO hX N 0 σ (by omega) (by omega) ⟨fun _ _ _ => rfl, fun _ _ _ _ => rfl⟩ (fun p h9 => absurd h9 (Nat.not_lt_zero _))
