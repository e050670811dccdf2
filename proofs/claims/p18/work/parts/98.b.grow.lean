/-! The tree grows. -/
def gNode (t : vT) (p : Nat) (tk : Int32) (c : Nat → Option Nat) : vT := (tN t + 1, fun k => if k = tN t then p else tPr t k, fun k => if k = tN t then tk else tTo t k, fun k => if k = tN t then none else if c 1 = some k ∨ c 2 = some k ∨ c 3 = some k then some (tN t) else tPa t k, fun k q => if k = tN t then c q else tCh t k q)
/-- children that fit -/
def chO (g : vA) (t : vT) (p : Nat) (c : Nat → Option Nat) : Prop := (∀ q, 1 ≤ q → q < gpo g p → ∃ j, c q = some j ∧ j < tN t ∧ tPa t j = none ∧ gsy g (tPr t j) 0 = gsy g p q) ∧ (∀ q, 1 ≤ q → q < 4 → gpo g p ≤ q → c q = none) ∧ ∀ q q' j, 1 ≤ q → 1 ≤ q' → q < 4 → q' < 4 → c q = some j → c q' = some j → q = q'
theorem chO.lt {g : vA} (hw : wfA g) {t : vT} {p : Nat} (hp : p < gnp g) {c : Nat → Option Nat} (h : chO g t p c) {q j : Nat} (h1 : 1 ≤ q) (h4 : q < 4) (hc : c q = some j) : j < tN t ∧ tPa t j = none ∧ q < gpo g p := by
  by_cases e : q < gpo g p
  · obtain ⟨i, e1, e2, e3, _⟩ := h.1 q h1 e
    rw [hc] at e1
    cases e1
    exact ⟨e2, e3, e⟩
  · rw [h.2.1 q h1 h4 (by omega)] at hc
    cases hc
theorem nB_ex {g : vA} (hw : wfA g) {t : vT} (hT : wfT g t) {p : Nat} (hp : p < gnp g) {c1 c2 c3 : Int32} (h : nB g t p c1 c2 c3 = true) : ∃ c : Nat → Option Nat, chO g t p c ∧ c1 = oI (c 1) ∧ c2 = oI (c 2) ∧ c3 = oI (c 3) := by
  have h40 := hT.1
  have h5 := hw.2.2.2.2.1 p hp
  unfold nB at h
  rw [Bool.and_eq_true, Bool.and_eq_true, Bool.and_eq_true, Bool.and_eq_true] at h
  obtain ⟨h1, h2, h3, h4, h5⟩ := h
  obtain ⟨o1, e1, n1, s1⟩ := fit_ex hT h1
  obtain ⟨o2, e2, n2, s2⟩ := fit_ex hT h2
  obtain ⟨o3, e3, n3, s3⟩ := fit_ex hT h3
  have d12 : ∀ j, o1 = some j → o2 = some j → False := fun j a b => by
    rw [Bool.or_eq_true, Bool.and_eq_true] at h4
    rcases h4 with h4 | h4
    · have := of_decide_eq_true h4
      rw [e1, a] at this
      have hq : ¬ gpo g p ≤ 1 := fun h9 => by rw [n1 h9] at a; cases a
      obtain ⟨i, f1, f2, _⟩ := s1 (by omega)
      rw [a] at f1
      cases f1
      exact nI_nm1 (by omega) this
    · exact of_decide_eq_true h4.1 (by rw [e1, e2, a, b])
  have d13 : ∀ j, o1 = some j → o3 = some j → False := fun j a b => by
    rw [Bool.or_eq_true, Bool.and_eq_true] at h4
    rcases h4 with h4 | h4
    · have := of_decide_eq_true h4
      rw [e1, a] at this
      have hq : ¬ gpo g p ≤ 1 := fun h9 => by rw [n1 h9] at a; cases a
      obtain ⟨i, f1, f2, _⟩ := s1 (by omega)
      rw [a] at f1
      cases f1
      exact nI_nm1 (by omega) this
    · exact of_decide_eq_true h4.2 (by rw [e1, e3, a, b])
  have d23 : ∀ j, o2 = some j → o3 = some j → False := fun j a b => by
    rw [Bool.or_eq_true] at h5
    rcases h5 with h5 | h5
    · have := of_decide_eq_true h5
      rw [e2, a] at this
      have hq : ¬ gpo g p ≤ 2 := fun h9 => by rw [n2 h9] at a; cases a
      obtain ⟨i, f1, f2, _⟩ := s2 (by omega)
      rw [a] at f1
      cases f1
      exact nI_nm1 (by omega) this
    · exact of_decide_eq_true h5 (by rw [e2, e3, a, b])
  refine ⟨fun q => if q = 1 then o1 else if q = 2 then o2 else o3, ⟨fun q hq hg => ?_, fun q hq h4 hg => ?_, fun q q' j a1 a2 a3 a4 b1 b2 => ?_⟩, e1, e2, e3⟩
  · have : q = 1 ∨ q = 2 ∨ q = 3 := by omega
    rcases this with rfl | rfl | rfl
    · exact s1 hg
    · exact s2 hg
    · exact s3 hg
  · have : q = 1 ∨ q = 2 ∨ q = 3 := by omega
    rcases this with rfl | rfl | rfl
    · exact n1 hg
    · exact n2 hg
    · exact n3 hg
  · have c1 : q = 1 ∨ q = 2 ∨ q = 3 := by omega
    have c2 : q' = 1 ∨ q' = 2 ∨ q' = 3 := by omega
    rcases c1 with rfl | rfl | rfl
    · rcases c2 with rfl | rfl | rfl
      · rfl
      · exact absurd b2 (fun b2 => d12 j b1 b2)
      · exact absurd b2 (fun b2 => d13 j b1 b2)
    · rcases c2 with rfl | rfl | rfl
      · exact absurd b1 (fun b1 => d12 j b2 b1)
      · rfl
      · exact absurd b2 (fun b2 => d23 j b1 b2)
    · rcases c2 with rfl | rfl | rfl
      · exact absurd b1 (fun b1 => d13 j b2 b1)
      · exact absurd b1 (fun b1 => d23 j b2 b1)
      · rfl
theorem wfT_node {g : vA} (hw : wfA g) {t : vT} (hT : wfT g t) {p : Nat} (hp : p < gnp g) (tk : Int32) {c : Nat → Option Nat} (hc : chO g t p c) (h40 : tN t < 40) : wfT g (gNode t p tk c) := by
  obtain ⟨w1, w2, w3, w4, w5, w6⟩ := hT
  have h5 := hw.2.2.2.2.1 p hp
  have pr : ∀ k, k ≠ tN t → tPr (gNode t p tk c) k = tPr t k := fun k hk => if_neg hk
  have prn : tPr (gNode t p tk c) (tN t) = p := if_pos rfl
  have ch : ∀ k q, k ≠ tN t → tCh (gNode t p tk c) k q = tCh t k q := fun k q hk => if_neg hk
  have chn : ∀ q, tCh (gNode t p tk c) (tN t) q = c q := fun q => if_pos rfl
  have nn : tN (gNode t p tk c) = tN t + 1 := rfl
  have pan : tPa (gNode t p tk c) (tN t) = none := if_pos rfl
  have pa : ∀ k, k ≠ tN t → tPa (gNode t p tk c) k = if c 1 = some k ∨ c 2 = some k ∨ c 3 = some k then some (tN t) else tPa t k := fun k hk => if_neg hk
  -- a node with a parent is no new child
  have old : ∀ k m, tPa t k = some m → ¬ (c 1 = some k ∨ c 2 = some k ∨ c 3 = some k) := fun k m hk h9 => by
    rcases h9 with h9 | h9 | h9
    · rw [(hc.lt hw hp (by decide) (by decide) h9).2.1] at hk; cases hk
    · rw [(hc.lt hw hp (by decide) (by decide) h9).2.1] at hk; cases hk
    · rw [(hc.lt hw hp (by decide) (by decide) h9).2.1] at hk; cases hk
  refine ⟨by omega, fun k hk => ?_, fun k q hk h1 hq => ?_, fun k q hk hq h4 => ?_, fun k m hk hm => ?_, fun k q q' j hk a1 a2 a3 a4 b1 b2 => ?_⟩
  · by_cases e : k = tN t
    · rw [e, prn]; exact hp
    · rw [pr k e]; exact w2 k (by omega)
  · by_cases e : k = tN t
    · rw [e, prn] at hq ⊢
      obtain ⟨j, e1, e2, e3, e4⟩ := hc.1 q h1 hq
      refine ⟨j, by omega, by rw [chn]; exact e1, ?_, by rw [pr j (by omega)]; exact e4⟩
      rw [pa j (by omega), if_pos ?_]
      have : q = 1 ∨ q = 2 ∨ q = 3 := by omega
      rcases this with rfl | rfl | rfl
      · exact Or.inl e1
      · exact Or.inr (Or.inl e1)
      · exact Or.inr (Or.inr e1)
    · rw [pr k e] at hq ⊢
      obtain ⟨j, e1, e2, e3, e4⟩ := w3 k q (by omega) h1 hq
      exact ⟨j, e1, by rw [ch k q e]; exact e2, by rw [pa j (by omega), if_neg (old j k e3)]; exact e3, by rw [pr j (by omega)]; exact e4⟩
  · by_cases e : k = tN t
    · rw [e, prn] at hq
      rw [e, chn]
      exact hc.2.1 q (by omega) h4 hq
    · rw [pr k e] at hq
      rw [ch k q e]
      exact w4 k q (by omega) hq h4
  · by_cases e : k = tN t
    · rw [e, pan] at hm; cases hm
    · rw [pa k e] at hm
      by_cases h9 : c 1 = some k ∨ c 2 = some k ∨ c 3 = some k
      · rw [if_pos h9] at hm
        cases hm
        refine ⟨by omega, by omega, ?_⟩
        rw [prn]
        rcases h9 with h9 | h9 | h9
        · exact ⟨1, by decide, (hc.lt hw hp (by decide) (by decide) h9).2.2, by rw [chn]; exact h9⟩
        · exact ⟨2, by decide, (hc.lt hw hp (by decide) (by decide) h9).2.2, by rw [chn]; exact h9⟩
        · exact ⟨3, by decide, (hc.lt hw hp (by decide) (by decide) h9).2.2, by rw [chn]; exact h9⟩
      · rw [if_neg h9] at hm
        obtain ⟨m1, m2, q, q1, q2, q3⟩ := w5 k m (by omega) hm
        exact ⟨m1, by omega, q, q1, by rw [pr m (by omega)]; exact q2, by rw [ch m q (by omega)]; exact q3⟩
  · by_cases e : k = tN t
    · rw [e, chn] at b1 b2
      exact hc.2.2 q q' j a1 a2 a3 a4 b1 b2
    · rw [ch k q e] at b1
      rw [ch k q' e] at b2
      exact w6 k q q' j (by omega) a1 a2 a3 a4 b1 b2
/-! grow, in the class -/
theorem x_adopt {N : Nat} {σ : vS} {n q : Nat} (hn : n < 40) (hq : q < 4) {o : Option Nat} (ho : ∀ j, o = some j → j < 40) : Ok (f_Z_adopt N σ (nI n) (nI q) (oI o)) (fun v => v.2.1 = σ.1 ∧ (∀ a, a ≠ 21 → a ≠ 22 → v.2.2 a = σ.2 a) ∧ v.2.2 22 (4 * n + q) = oI o ∧ (∀ j, j ≠ 4 * n + q → v.2.2 22 j = σ.2 22 j) ∧ ∀ j, v.2.2 21 j = if o = some j then nI n else σ.2 21 j) := by
  unfold f_Z_adopt
  rw [show nI n * (4 : Int32) = nI (n * 4) from pk_mul n 4, nI_add]
  refine ok_bd (bIn_nI (by omega) (by decide)) (ok_lets (fun σ2 e2 => ?_))
  rw [nI_clamp (by omega), show n * 4 + q = 4 * n + q by omega] at e2
  cases o with
  | none =>
    refine ok_then rfl (ok_some ⟨by rw [e2]; rfl, fun a _ a22 => by rw [e2, sa_2a a22], by rw [e2, sa_2], fun j hj => by rw [e2, sa_2n hj], fun j => ?_⟩)
    rw [if_neg (fun h => by cases h), e2, sa_2a (by decide)]
  | some k =>
    have hk := ho k rfl
    refine ok_else (show ¬ oI (some k) = -1 from nI_nm1 (by omega)) (ok_bd (show bIn (nI k) 40 = true from bIn_nI hk (by decide)) (ok_lets (fun σ5 e5 => ok_some ?_)))
    have e5 : σ5 = sa σ2 21 (nI k).toNatClampNeg (nI n) := e5
    rw [nI_clamp (by omega)] at e5
    dsimp only
    refine ⟨by rw [e5, e2]; rfl, fun a a21 a22 => by rw [e5, sa_2a a21, e2, sa_2a a22], by rw [e5, sa_2a (by decide), e2, sa_2], fun j hj => by rw [e5, sa_2a (by decide), e2, sa_2n hj], fun j => ?_⟩
    by_cases e : j = k
    · rw [e, if_pos rfl, e5, sa_2]
    · rw [if_neg (fun h => e (by cases h; rfl)), e5, sa_2n e, e2, sa_2a (by decide)]
theorem x_grow {N : Nat} {g : vA} (hw : wfA g) {t : vT} {σ : vS} (hT : wfT g t) (hX : XT t σ) {p : Nat} (hp : p < gnp g) {tk : Int32} {c : Nat → Option Nat} (hc : chO g t p c) (h40 : tN t < 40) : Ok (f_Z_grow N σ (nI p) tk (oI (c 1)) (oI (c 2)) (oI (c 3))) (fun v => v.1 = nI (tN t) ∧ XT (gNode t p tk c) v.2 ∧ (∀ k, k ≠ 8 → v.2.1 k = σ.1 k) ∧ ∀ a, a < 19 ∨ 23 ≤ a → v.2.2 a = σ.2 a) := by
  have lt : ∀ q j, 1 ≤ q → q < 4 → c q = some j → j < tN t := fun q j h1 h4 h => (hc.lt hw hp h1 h4 h).1
  unfold f_Z_grow
  rw [hX.1]
  refine ok_lets (fun σ1 e1 => ok_bd (bIn_nI (by omega) (by decide)) (ok_lets (fun σ3 e3 => ok_bd (bIn_nI (by omega) (by decide)) (ok_lets (fun σ5 e5 => ok_bd (bIn_nI (by omega) (by decide)) (ok_lets (fun σ7 e7 => ?_)))))))
  rw [show nI (tN t) * (4 : Int32) = nI (tN t * 4) from pk_mul _ 4]
  refine ok_bd (bIn_nI (by omega) (by decide)) (ok_lets (fun σ9 e9 => ?_))
  rw [nI_clamp (by omega)] at e3 e5 e7 e9
  rw [nI_1] at e1
  have k9 : ∀ k, k ≠ 8 → σ9.1 k = σ.1 k := fun k k8 => by rw [e9, e7, e5, e3, e1]; exact sf_1n k8
  have n9 : σ9.1 8 = nI (tN t + 1) := by rw [e9, sa_1, e7, sa_1, e5, sa_1, e3, sa_1, e1, sf_1]
  have a9 : ∀ a, a ≠ 19 → a ≠ 20 → a ≠ 21 → a ≠ 22 → σ9.2 a = σ.2 a := fun a b1 b2 b3 b4 => by rw [e9, sa_2a b4, e7, sa_2a b3, e5, sa_2a b2, e3, sa_2a b1, e1, sf_2]
  have h19 : σ9.2 19 = (sa σ1 19 (tN t) (nI p)).2 19 := by rw [e9, sa_2a (by decide), e7, sa_2a (by decide), e5, sa_2a (by decide), e3]
  have h20 : σ9.2 20 = (sa σ3 20 (tN t) tk).2 20 := by rw [e9, sa_2a (by decide), e7, sa_2a (by decide), e5]
  have h21 : σ9.2 21 = (sa σ5 21 (tN t) (-1)).2 21 := by rw [e9, sa_2a (by decide), e7]
  have h22 : σ9.2 22 = (sa σ7 22 (tN t * 4) (nI (tN t))).2 22 := by rw [e9]
  have o19 : ∀ j, j ≠ tN t → σ9.2 19 j = σ.2 19 j := fun j hj => by rw [h19, sa_2n hj, e1, sf_2]
  have o20 : ∀ j, j ≠ tN t → σ9.2 20 j = σ.2 20 j := fun j hj => by rw [h20, sa_2n hj, e3, sa_2a (by decide), e1, sf_2]
  have o21 : ∀ j, j ≠ tN t → σ9.2 21 j = σ.2 21 j := fun j hj => by rw [h21, sa_2n hj, e5, sa_2a (by decide), e3, sa_2a (by decide), e1, sf_2]
  have o22 : ∀ j, j ≠ 4 * tN t → σ9.2 22 j = σ.2 22 j := fun j hj => by rw [h22, sa_2n (by omega), e7, sa_2a (by decide), e5, sa_2a (by decide), e3, sa_2a (by decide), e1, sf_2]
  have n22 : σ9.2 22 (4 * tN t) = nI (tN t) := by rw [h22, show 4 * tN t = tN t * 4 by omega, sa_2]
  refine ok_bi (x_adopt (q := 1) h40 (by decide) (fun j h => by have := lt 1 j (by decide) (by decide) h; omega)) (fun q1 r1 => ?_)
  refine ok_bi (x_adopt (q := 2) h40 (by decide) (fun j h => by have := lt 2 j (by decide) (by decide) h; omega)) (fun q2 r2 => ?_)
  refine ok_bi (x_adopt (q := 3) h40 (by decide) (fun j h => by have := lt 3 j (by decide) (by decide) h; omega)) (fun q3 r3 => ok_some ?_)
  obtain ⟨a1, a2, a3, a4, a5⟩ := r1
  obtain ⟨b1, b2, b3, b4, b5⟩ := r2
  obtain ⟨c1, c2, c3, c4, c5⟩ := r3
  have f1 : q3.2.1 = σ9.1 := by rw [c1, b1, a1]
  have fa : ∀ a, a ≠ 21 → a ≠ 22 → q3.2.2 a = σ9.2 a := fun a x21 x22 => by rw [c2 a x21 x22, b2 a x21 x22, a2 a x21 x22]
  have f22 : ∀ j, j ≠ 4 * tN t + 1 → j ≠ 4 * tN t + 2 → j ≠ 4 * tN t + 3 → q3.2.2 22 j = σ9.2 22 j := fun j j1 j2 j3 => by rw [c4 j j3, b4 j j2, a4 j j1]
  dsimp only
  refine ⟨rfl, ⟨by rw [f1]; exact n9, fun k hk => ?_⟩, fun k k8 => by rw [f1, k9 k k8], fun a ha => by rw [fa a (by omega) (by omega), a9 a (by omega) (by omega) (by omega) (by omega)]⟩
  have hk : k < tN t + 1 := hk
  have hpa : q3.2.2 21 k = oI (tPa (gNode t p tk c) k) := by
    rw [c5, b5, a5]
    by_cases e : k = tN t
    · have nx : ∀ q, 1 ≤ q → q < 4 → ¬ c q = some k := fun q x1 x4 h9 => by have := lt q k x1 x4 h9; omega
      rw [if_neg (nx 3 (by decide) (by decide)), if_neg (nx 2 (by decide) (by decide)), if_neg (nx 1 (by decide) (by decide)), e, h21, sa_2]
      show -1 = oI (if tN t = tN t then none else _)
      rw [if_pos rfl]; rfl
    · show _ = oI (if k = tN t then none else if c 1 = some k ∨ c 2 = some k ∨ c 3 = some k then some (tN t) else tPa t k)
      rw [if_neg e]
      by_cases h3 : c 3 = some k
      · rw [if_pos h3, if_pos (Or.inr (Or.inr h3))]; rfl
      · rw [if_neg h3]
        by_cases h2 : c 2 = some k
        · rw [if_pos h2, if_pos (Or.inr (Or.inl h2))]; rfl
        · rw [if_neg h2]
          by_cases h1 : c 1 = some k
          · rw [if_pos h1, if_pos (Or.inl h1)]; rfl
          · rw [if_neg h1, if_neg (fun h => h.elim h1 (fun h => h.elim h2 h3)), o21 k e]
            exact (hX.2 k (by omega)).2.2.1
  by_cases e : k = tN t
  · have e19 : q3.2.2 19 k = nI p := by rw [fa 19 (by decide) (by decide), e, h19, sa_2]
    have e20 : q3.2.2 20 k = tk := by rw [fa 20 (by decide) (by decide), e, h20, sa_2]
    refine ⟨by rw [e19]; exact congrArg nI (if_pos e).symm, by rw [e20]; exact (if_pos e).symm, hpa, by rw [f22 _ (by omega) (by omega) (by omega), e, n22], fun q h1 h4 => ?_⟩
    have ec : tCh (gNode t p tk c) k q = c q := if_pos e
    rw [ec, e]
    have : q = 1 ∨ q = 2 ∨ q = 3 := by omega
    rcases this with rfl | rfl | rfl
    · rw [c4 _ (by omega), b4 _ (by omega), a3]
    · rw [c4 _ (by omega), b3]
    · rw [c3]
  · obtain ⟨t1, t2, t3, t4, t5⟩ := hX.2 k (by omega)
    refine ⟨by rw [fa 19 (by decide) (by decide), o19 k e, t1]; exact congrArg nI (if_neg e).symm, by rw [fa 20 (by decide) (by decide), o20 k e, t2]; exact (if_neg e).symm, hpa, by rw [f22 _ (by omega) (by omega) (by omega), o22 _ (by omega), t4], fun q h1 h4 => ?_⟩
    have ec : tCh (gNode t p tk c) k q = tCh t k q := if_neg e
    rw [ec, f22 _ (by omega) (by omega) (by omega), o22 _ (by omega), t5 q h1 h4]
/-! node, in the reference -/
theorem m_node_ok {N : Nat} (hN : 3000 ≤ N) {g : vA} (hw : wfA g) {t : vT} {σ : vS} (hT : wfT g t) (hX : MT t σ) {p : Nat} (hp : p < gnp g) {tk : Int32} {c : Nat → Option Nat} (hc : chO g t p c) (h40 : tN t < 40) : Ok (f_M_node_117 N σ (nI p) tk (oI (c 1)) (oI (c 2)) (oI (c 3)) 0) (fun v => v.1 = nI (tN t) ∧ v.2.1 0 = 0 ∧ MT (gNode t p tk c) v.2 ∧ (∀ k, k ≠ 0 → k ≠ 7 → v.2.1 k = σ.1 k) ∧ (∀ a, a < 17 ∨ 21 ≤ a → a ≠ 22 → v.2.2 a = σ.2 a) ∧ (∀ j, j < 4 * tN t ∨ 4 * tN t + 4 ≤ j → v.2.2 22 j = σ.2 22 j) ∧ ∀ a, a < 4 → v.2.2 22 (4 * tN t + a) = 0) := by
  have lt : ∀ q j, 1 ≤ q → q < 4 → c q = some j → j < tN t := fun q j h1 h4 h => (hc.lt hw hp h1 h4 h).1
  unfold f_M_node_117
  refine ok_lets (fun σ1 e1 => ok_then (by rw [e1, sf_1]; decide) ?_)
  have n1 : σ1.1 7 = nI (tN t) := by rw [e1, sf_1n (by decide)]; exact hX.1
  rw [n1, show (3 : Int32) * nI (tN t) = nI (3 * tN t) from pk_mul 3 _, nI_1, show nI (3 * tN t) + (2 : Int32) = nI (3 * tN t + 2) from nI_add _ 2]
  refine ok_bd (bIn_nI (by omega) (by decide)) (ok_lets (fun σ4 e4 => ok_bd (bIn_nI (by omega) (by decide)) (ok_lets (fun σ6 e6 => ok_bd (bIn_nI (by omega) (by decide)) (ok_lets (fun σ8 e8 => ok_bd (bIn_nI (by omega) (by decide)) (ok_lets (fun σ10 e10 => ok_bd (bIn_nI (by omega) (by decide)) (ok_lets (fun σ12 e12 => ok_bd (bIn_nI (by omega) (by decide)) (ok_lets (fun σ14 e14 => ?_))))))))))))
  rw [nI_clamp (by omega)] at e4 e6 e8 e10 e12 e14
  have i14 : σ14.1 = σ1.1 := by rw [e14, e12, e10, e8, e6, e4]; rfl
  have a14 : ∀ a, a ≠ 17 → a ≠ 18 → a ≠ 19 → a ≠ 20 → σ14.2 a = σ.2 a := fun a x1 x2 x3 x4 => by rw [e14, sa_2a x3, e12, sa_2a x3, e10, sa_2a x3, e8, sa_2a x4, e6, sa_2a x2, e4, sa_2a x1, e1, sf_2]
  have h17 : σ14.2 17 = (sa σ1 17 (tN t) (nI p)).2 17 := by rw [e14, sa_2a (by decide), e12, sa_2a (by decide), e10, sa_2a (by decide), e8, sa_2a (by decide), e6, sa_2a (by decide), e4]
  have h18 : σ14.2 18 = (sa σ4 18 (tN t) tk).2 18 := by rw [e14, sa_2a (by decide), e12, sa_2a (by decide), e10, sa_2a (by decide), e8, sa_2a (by decide), e6]
  have h20 : σ14.2 20 = (sa σ6 20 (tN t) (-1)).2 20 := by rw [e14, sa_2a (by decide), e12, sa_2a (by decide), e10, sa_2a (by decide), e8]
  have o17 : ∀ j, j ≠ tN t → σ14.2 17 j = σ.2 17 j := fun j hj => by rw [h17, sa_2n hj, e1, sf_2]
  have o18 : ∀ j, j ≠ tN t → σ14.2 18 j = σ.2 18 j := fun j hj => by rw [h18, sa_2n hj, e4, sa_2a (by decide), e1, sf_2]
  have o20 : ∀ j, j ≠ tN t → σ14.2 20 j = σ.2 20 j := fun j hj => by rw [h20, sa_2n hj, e6, sa_2a (by decide), e4, sa_2a (by decide), e1, sf_2]
  have c19 : ∀ q, 1 ≤ q → q < 4 → σ14.2 19 (3 * tN t + q - 1) = oI (c q) := fun q h1 h4 => by
    have : q = 1 ∨ q = 2 ∨ q = 3 := by omega
    rcases this with rfl | rfl | rfl
    · rw [e14, sa_2n (by omega), e12, sa_2n (by omega), e10, show 3 * tN t + 1 - 1 = 3 * tN t by omega, sa_2]
    · rw [e14, sa_2n (by omega), e12, show 3 * tN t + 2 - 1 = 3 * tN t + 1 by omega, sa_2]
    · rw [e14, show 3 * tN t + 3 - 1 = 3 * tN t + 2 by omega, sa_2]
  have o19 : ∀ j, j < 3 * tN t → σ14.2 19 j = σ.2 19 j := fun j hj => by rw [e14, sa_2n (by omega), e12, sa_2n (by omega), e10, sa_2n (by omega), e8, sa_2a (by decide), e6, sa_2a (by decide), e4, sa_2a (by decide), e1, sf_2]
  -- the last loop
  have l248 : ∀ τ : vS, τ.1 = σ14.1 → (∀ a, a ≠ 20 → a ≠ 22 → τ.2 a = σ14.2 a) → (∀ k, τ.2 20 k = if c 1 = some k ∨ c 2 = some k ∨ c 3 = some k then nI (tN t) else σ14.2 20 k) → (∀ j, j < 4 * tN t ∨ 4 * tN t + 4 ≤ j → τ.2 22 j = σ.2 22 j) → ∀ n i, i ≤ 4 → 4 < i + n → ∀ τ', E1 22 τ τ' → (∀ j, j < 4 * tN t ∨ 4 * tN t + 4 ≤ j → τ'.2 22 j = σ.2 22 j) → (∀ a, a < i → τ'.2 22 (4 * tN t + a) = 0) → Ok (f_M_node_248 N n τ' (nI (tN t)) (nI i)) (fun v => v.1 = nI (tN t) ∧ v.2.1 0 = 0 ∧ MT (gNode t p tk c) v.2 ∧ (∀ k, k ≠ 0 → k ≠ 7 → v.2.1 k = σ.1 k) ∧ (∀ a, a < 17 ∨ 21 ≤ a → a ≠ 22 → v.2.2 a = σ.2 a) ∧ (∀ j, j < 4 * tN t ∨ 4 * tN t + 4 ≤ j → v.2.2 22 j = σ.2 22 j) ∧ ∀ a, a < 4 → v.2.2 22 (4 * tN t + a) = 0) := by
    intro τ u1 u2 u3 u4 n
    induction n with
    | zero => intro i h1 h2; omega
    | succ n ih =>
      intro i h1 h2 τ' hE hJ hI
      rw [f_M_node_248]
      dsimp only
      by_cases hi : i = 4
      · subst hi
        refine ok_then (show (4 : Int32) ≤ nI 4 from nI_le (a := 4) (b := 4) (by decide) (by decide)) (ok_lets (fun σ17 e17 => ok_some ?_))
        rw [hE.1, u1, i14, n1, nI_1] at e17
        have kk : ∀ k, k ≠ 7 → σ17.1 k = σ1.1 k := fun k k7 => by rw [e17, sf_1n k7, hE.1, u1, i14]
        have aa : ∀ a, a ≠ 20 → a ≠ 22 → σ17.2 a = σ14.2 a := fun a x20 x22 => by rw [e17, sf_2, hE.2 a x22, u2 a x20 x22]
        have a20 : ∀ k, σ17.2 20 k = if c 1 = some k ∨ c 2 = some k ∨ c 3 = some k then nI (tN t) else σ14.2 20 k := fun k => by rw [e17, sf_2, hE.2 20 (by decide), u3 k]
        dsimp only
        refine ⟨rfl, by rw [kk 0 (by decide), e1, sf_1], ⟨by rw [e17, sf_1]; rfl, fun k hk => ?_⟩, fun k k0 k7 => by rw [kk k k7, e1, sf_1n k0], fun a ha a22 => by rw [aa a (by omega) a22, a14 a (by omega) (by omega) (by omega) (by omega)], fun j hj => by rw [e17, sf_2]; exact hJ j hj, fun a ha => by rw [e17, sf_2]; exact hI a ha⟩
        have hk : k < tN t + 1 := hk
        have hpa : σ17.2 20 k = oI (tPa (gNode t p tk c) k) := by
          rw [a20]
          show _ = oI (if k = tN t then none else if c 1 = some k ∨ c 2 = some k ∨ c 3 = some k then some (tN t) else tPa t k)
          by_cases e : k = tN t
          · rw [if_pos e, if_neg (fun h => by
              rcases h with h | h | h
              · have := lt 1 k (by decide) (by decide) h; omega
              · have := lt 2 k (by decide) (by decide) h; omega
              · have := lt 3 k (by decide) (by decide) h; omega), e, h20, sa_2]
            rfl
          · rw [if_neg e]
            by_cases h : c 1 = some k ∨ c 2 = some k ∨ c 3 = some k
            · rw [if_pos h, if_pos h]; rfl
            · rw [if_neg h, if_neg h, o20 k e]
              exact (hX.2 k (by omega)).2.2.1
        by_cases e : k = tN t
        · refine ⟨by rw [aa 17 (by decide) (by decide), e, h17, sa_2]; exact congrArg nI (if_pos rfl).symm, by rw [aa 18 (by decide) (by decide), e, h18, sa_2]; exact (if_pos rfl).symm, hpa, fun q x1 x4 => ?_⟩
          have ec : tCh (gNode t p tk c) k q = c q := if_pos e
          rw [ec, aa 19 (by decide) (by decide), e]
          exact c19 q x1 x4
        · obtain ⟨t1, t2, t3, t4⟩ := hX.2 k (by omega)
          refine ⟨by rw [aa 17 (by decide) (by decide), o17 k e, t1]; exact congrArg nI (if_neg e).symm, by rw [aa 18 (by decide) (by decide), o18 k e, t2]; exact (if_neg e).symm, hpa, fun q x1 x4 => ?_⟩
          have ec : tCh (gNode t p tk c) k q = tCh t k q := if_neg e
          rw [ec, aa 19 (by decide) (by decide), o19 _ (by omega)]
          exact t4 q x1 x4
      · refine ok_else (show ¬ (4 : Int32) ≤ nI i from nI_ge (a := i) (b := 4) (by omega) (by decide)) ?_
        rw [show (4 : Int32) * nI (tN t) = nI (4 * tN t) from pk_mul 4 _, nI_add]
        refine ok_bd (bIn_nI (by omega) (by decide)) (ok_lets (fun σ19 e19 => ?_))
        rw [nI_clamp (by omega), show vp_nar .boolean 0 = 0 from by decide] at e19
        rw [nI_1]
        refine ih (i + 1) (by omega) (by omega) σ19 (by rw [e19]; exact hE.sa) (fun j hj => by rw [e19, sa_2n (by omega)]; exact hJ j hj) (fun a ha => ?_)
        rw [e19]
        by_cases e : a = i
        · rw [e, sa_2]
        · rw [sa_2n (by omega)]; exact hI a (by omega)
  have l198 : ∀ n i, i ≤ 3 → 3 < i + n → ∀ τ : vS, E1 20 σ14 τ → (∀ k q, 1 ≤ q → q ≤ i → c q = some k → τ.2 20 k = nI (tN t)) → (∀ k, (∀ q, 1 ≤ q → q ≤ i → c q ≠ some k) → τ.2 20 k = σ14.2 20 k) → Ok (f_M_node_198 N n τ (nI (tN t)) (nI i)) (fun v => v.1 = nI (tN t) ∧ v.2.1 0 = 0 ∧ MT (gNode t p tk c) v.2 ∧ (∀ k, k ≠ 0 → k ≠ 7 → v.2.1 k = σ.1 k) ∧ (∀ a, a < 17 ∨ 21 ≤ a → a ≠ 22 → v.2.2 a = σ.2 a) ∧ (∀ j, j < 4 * tN t ∨ 4 * tN t + 4 ≤ j → v.2.2 22 j = σ.2 22 j) ∧ ∀ a, a < 4 → v.2.2 22 (4 * tN t + a) = 0) := by
    intro n
    induction n with
    | zero => intro i h1 h2; omega
    | succ n ih =>
      intro i h1 h2 τ hE hP hO
      rw [f_M_node_198]
      dsimp only
      by_cases hi : i = 3
      · subst hi
        refine ok_then (show (3 : Int32) ≤ nI 3 from nI_le (a := 3) (b := 3) (by decide) (by decide)) ?_
        have z22 : ∀ j, j < 4 * tN t ∨ 4 * tN t + 4 ≤ j → τ.2 22 j = σ.2 22 j := fun j _ => by rw [hE.2 22 (by decide), a14 22 (by decide) (by decide) (by decide) (by decide)]
        refine l248 τ hE.1 (fun a x20 _ => hE.2 a x20) (fun k => ?_) z22 N 0 (by omega) (by omega) τ E1.rf z22 (fun a h9 => absurd h9 (Nat.not_lt_zero _))
        by_cases h : c 1 = some k ∨ c 2 = some k ∨ c 3 = some k
        · rw [if_pos h]
          rcases h with h | h | h
          · exact hP k 1 (by decide) (by decide) h
          · exact hP k 2 (by decide) (by decide) h
          · exact hP k 3 (by decide) (by decide) h
        · rw [if_neg h]
          refine hO k (fun q q1 q3 qc => ?_)
          have : q = 1 ∨ q = 2 ∨ q = 3 := by omega
          rcases this with rfl | rfl | rfl
          · exact h (Or.inl qc)
          · exact h (Or.inr (Or.inl qc))
          · exact h (Or.inr (Or.inr qc))
      · refine ok_else (show ¬ (3 : Int32) ≤ nI i from nI_ge (a := i) (b := 3) (by omega) (by decide)) ?_
        rw [show (3 : Int32) * nI (tN t) = nI (3 * tN t) from pk_mul 3 _, nI_add]
        have cv : τ.2 19 (3 * tN t + i) = oI (c (i + 1)) := by
          rw [hE.2 19 (by decide)]
          exact c19 (i + 1) (by omega) (by omega)
        refine ok_bd (bIn_nI (by omega) (by decide)) (ok_lets (fun i21 e21 => ?_))
        rw [nI_clamp (by omega), cv] at e21
        rw [e21]
        unfold f_M_node_239
        rw [nI_1]
        cases hcn : c (i + 1) with
        | none =>
          refine ok_then rfl (ih (i + 1) (by omega) (by omega) τ hE (fun k q q1 q2 q3 => ?_) (fun k h => hO k (fun q q1 q2 => h q q1 (by omega))))
          by_cases e : q = i + 1
          · rw [e, hcn] at q3; cases q3
          · exact hP k q q1 (by omega) q3
        | some j =>
          have hj := lt (i + 1) j (by omega) (by omega) hcn
          refine ok_else (show ¬ oI (some j) = -1 from nI_nm1 (by omega)) (ok_bd (bIn_nI (by omega) (by decide)) (ok_lets (fun i24 e24 => ?_)))
          rw [nI_clamp (by omega), cv, hcn] at e24
          have e24 : i24 = nI j := e24
          rw [e24]
          refine ok_bd (bIn_nI (by omega) (by decide)) (ok_lets (fun σ26 e26 => ?_))
          rw [nI_clamp (by omega)] at e26
          refine ih (i + 1) (by omega) (by omega) σ26 (by rw [e26]; exact hE.sa) (fun k q q1 q2 q3 => ?_) (fun k h => ?_)
          · rw [e26]
            by_cases e : k = j
            · rw [e, sa_2]
            · rw [sa_2n e]
              by_cases e2 : q = i + 1
              · rw [e2, hcn] at q3; cases q3; exact absurd rfl e
              · exact hP k q q1 (by omega) q3
          · rw [e26, sa_2n (fun h9 => h (i + 1) (by omega) (by omega) (by rw [hcn, h9]))]
            exact hO k (fun q q1 q2 => h q q1 (by omega))
  exact l198 N 0 (by omega) (by omega) σ14 E1.rf (fun k q q1 q2 _ => by omega) (fun _ _ => rfl)
