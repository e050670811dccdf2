theorem nI_nm1 {n : Nat} (h : n < 2 ^ 31) : nI n ≠ -1 := fun e => by
  have h1 := nI_toInt h
  rw [e, show (-1 : Int32).toInt = -1 from by decide] at h1
  omega
/-- the grammar with one production more, of m positions with the symbols f -/
def gProd (g : vA) (m : Nat) (f : Nat → Nat) : vA := ((gns g, gnp g + 1), gna g, gih g, (fun p => if p = gnp g then m else gpo g p), (fun p q => if p = gnp g then f q else gsy g p q), (fun p o => if p = gnp g then none else grl g p o))
def rg (m : Nat) (f : Nat → Nat) (a1 a2 a3 : Int32) : Prop := (m = 1 ∧ a1 = -1 ∧ a2 = -1 ∧ a3 = -1) ∨ (m = 2 ∧ a1 = nI (f 1) ∧ a2 = -1 ∧ a3 = -1) ∨ (m = 3 ∧ a1 = nI (f 1) ∧ a2 = nI (f 2) ∧ a3 = -1) ∨ (m = 4 ∧ a1 = nI (f 1) ∧ a2 = nI (f 2) ∧ a3 = nI (f 3))
theorem rgt_rg {g : vA} (hw : wfA g) {s0 : Nat} (h0 : s0 < gns g) {a1 a2 a3 : Int32} (h : rgt g a1 a2 a3 = true) : ∃ (m : Nat) (f : Nat → Nat), f 0 = s0 ∧ 1 ≤ m ∧ m ≤ 4 ∧ (∀ q, q < m → f q < gns g) ∧ rg m f a1 a2 a3 := by
  unfold rgt at h
  by_cases h1 : a1 = -1
  · rw [if_pos h1, Bool.and_eq_true] at h
    exact ⟨1, fun _ => s0, rfl, by decide, by decide, fun q _ => h0, Or.inl ⟨rfl, h1, of_decide_eq_true h.1, of_decide_eq_true h.2⟩⟩
  · rw [if_neg h1] at h
    by_cases h2 : a2 = -1
    · rw [if_pos h2, Bool.and_eq_true] at h
      obtain ⟨s1, l1, e1⟩ := iS_nI hw h.1
      exact ⟨2, fun q => if q = 0 then s0 else s1, rfl, by decide, by decide, fun q _ => by by_cases hq : q = 0 <;> simp [hq, h0, l1], Or.inr (Or.inl ⟨rfl, e1, h2, of_decide_eq_true h.2⟩)⟩
    · rw [if_neg h2, Bool.and_eq_true, Bool.and_eq_true] at h
      obtain ⟨s1, l1, e1⟩ := iS_nI hw h.1.1
      obtain ⟨s2, l2, e2⟩ := iS_nI hw h.1.2
      by_cases h3 : a3 = -1
      · exact ⟨3, fun q => if q = 0 then s0 else if q = 1 then s1 else s2, rfl, by decide, by decide, fun q _ => by by_cases hq : q = 0 <;> by_cases hq1 : q = 1 <;> simp [hq, hq1, h0, l1, l2], Or.inr (Or.inr (Or.inl ⟨rfl, e1, e2, h3⟩))⟩
      · rw [decide_eq_false h3, Bool.false_or] at h
        obtain ⟨s3, l3, e3⟩ := iS_nI hw h.2
        exact ⟨4, fun q => if q = 0 then s0 else if q = 1 then s1 else if q = 2 then s2 else s3, rfl, by decide, by decide, fun q _ => by by_cases hq : q = 0 <;> by_cases hq1 : q = 1 <;> by_cases hq2 : q = 2 <;> simp [hq, hq1, hq2, h0, l1, l2, l3], Or.inr (Or.inr (Or.inr ⟨rfl, e1, e2, e3⟩))⟩
theorem gProd_old {g : vA} {m : Nat} {f : Nat → Nat} {p : Nat} (h : p < gnp g) : gpo (gProd g m f) p = gpo g p ∧ (∀ q, gsy (gProd g m f) p q = gsy g p q) ∧ ∀ o, grl (gProd g m f) p o = grl g p o := ⟨if_neg (by omega), fun _ => if_neg (by omega), fun _ => if_neg (by omega)⟩
theorem gProd_new {g : vA} {m : Nat} {f : Nat → Nat} : gpo (gProd g m f) (gnp g) = m ∧ (∀ q, gsy (gProd g m f) (gnp g) q = f q) ∧ ∀ o, grl (gProd g m f) (gnp g) o = none := ⟨if_pos rfl, fun _ => if_pos rfl, fun _ => if_pos rfl⟩
theorem gProd_occ {g : vA} {m : Nat} {f : Nat → Nat} {p o : Nat} (h : p < gnp g) : occ (gProd g m f) p o = occ g p o := by
  unfold occ
  rw [(gProd_old h).1, (gProd_old h).2.1]; rfl
theorem gProd_dfn {g : vA} {m : Nat} {f : Nat → Nat} {p o : Nat} (h : p < gnp g) : dfn (gProd g m f) p o = dfn g p o := by
  unfold dfn
  rw [gProd_occ h, (gProd_old h).2.1]; rfl
theorem gProd_usd {g : vA} {m : Nat} {f : Nat → Nat} {p o d : Nat} (h : p < gnp g) : usd (gProd g m f) p o d = usd g p o d := by
  unfold usd
  rw [(gProd_old h).2.2]
theorem wfA_prod {g : vA} (hw : wfA g) {m : Nat} {f : Nat → Nat} (h1 : 1 ≤ m) (h4 : m ≤ 4) (hf : ∀ q, q < m → f q < gns g) (hp : gnp g ≠ 10) : wfA (gProd g m f) := by
  obtain ⟨w1, w2, w3, w4, w5, w6, w7⟩ := hw
  have lt1 : ∀ p, p < gnp (gProd g m f) → p ≠ gnp g → p < gnp g := fun p h e => by
    have : p < gnp g + 1 := h
    omega
  refine ⟨w1, w2, w3, show gnp g + 1 ≤ 10 by omega, fun p h => ?_, fun p q h hq => ?_, fun p o r h ho hr => ?_⟩
  · by_cases e : p = gnp g
    · rw [e, gProd_new.1]; exact ⟨h1, h4⟩
    · rw [(gProd_old (lt1 p h e)).1]; exact w5 p (lt1 p h e)
  · by_cases e : p = gnp g
    · rw [e, gProd_new.1] at hq
      rw [e, gProd_new.2.1]; exact hf q hq
    · rw [(gProd_old (lt1 p h e)).1] at hq
      rw [(gProd_old (lt1 p h e)).2.1]; exact w6 p q (lt1 p h e) hq
  · by_cases e : p = gnp g
    · rw [e, gProd_new.2.2] at hr; cases hr
    · have hl := lt1 p h e
      rw [(gProd_old hl).2.2] at hr
      obtain ⟨r1, r2, r3, r4⟩ := w7 p o r hl ho hr
      refine ⟨by rw [gProd_dfn hl]; exact r1, r2, fun h => ?_, fun h => ?_⟩
      · obtain ⟨u, u1, u2, u3⟩ := r3 h
        exact ⟨u, u1, u2, by rw [gProd_occ hl]; exact u3⟩
      · obtain ⟨u, u1, u2, u3⟩ := r4 h
        exact ⟨u, u1, u2, by rw [gProd_occ hl]; exact u3⟩
theorem m_production_bad {N : Nat} {σ : vS} {a0 a1 a2 a3 c : Int32} (hc : c = 1 ∨ c = 2) : f_M_production_121 N σ a0 a1 a2 a3 c = some (0, sf σ 0 c) := by
  unfold f_M_production_121 vlet
  dsimp only
  rw [sf_1]
  rcases hc with rfl | rfl
  · rw [if_neg (by decide)]
  · rw [if_neg (by decide)]
theorem m_production_ok {N : Nat} (hN : 161 ≤ N) {g : vA} {σ : vS} (hg : MG g σ) (hw : wfA g) {m : Nat} {f : Nat → Nat} {a1 a2 a3 : Int32} (hf : ∀ q, q < m → f q < gns g) (hp : gnp g ≠ 10) (hr : rg m f a1 a2 a3) : Ok (f_M_production_121 N σ (nI (f 0)) a1 a2 a3 0) (fun v => v.1 = nI (gnp g) ∧ v.2.1 0 = 0 ∧ MG (gProd g m f) v.2 ∧ v.2.1 3 = 0 ∧ v.2.1 8 = -1 ∧ v.2.1 9 = -1 ∧ (∀ k, k ≠ 0 → k ≠ 2 → k ≠ 3 → k ≠ 8 → k ≠ 9 → v.2.1 k = σ.1 k) ∧ (∀ j, j < 160 → v.2.2 22 j = 0) ∧ ∀ a, a ≠ 2 → a ≠ 3 → a ≠ 22 → v.2.2 a = σ.2 a) := by
  have hp10 : gnp g < 10 := by
    have := hw.2.2.2.1
    omega
  have h6 := hw.1
  obtain ⟨g1, g2, g3, g4, g5, g6, g7, g8⟩ := hg
  unfold f_M_production_121
  refine ok_lets (fun σ3 e3 => ok_then (by rw [e3, sf_1]; decide) ?_)
  have h2 : σ3.1 2 = nI (gnp g) := by rw [e3, sf_1n (by decide)]; exact g2
  rw [h2, show (4 : Int32) * nI (gnp g) = nI (4 * gnp g) from pk_mul 4 (gnp g), nI_1, show nI (4 * gnp g) + (2 : Int32) = nI (4 * gnp g + 2) from nI_add _ 2, show nI (4 * gnp g) + (3 : Int32) = nI (4 * gnp g + 3) from nI_add _ 3]
  refine ok_bd (bIn_nI (by omega) (by decide)) (ok_lets (fun σ6 e6 => ok_bd (bIn_nI (by omega) (by decide)) (ok_lets (fun σ8 e8 => ok_bd (bIn_nI (by omega) (by decide)) (ok_lets (fun σ10 e10 => ok_bd (bIn_nI (by omega) (by decide)) (ok_lets (fun σ12 e12 => ?_))))))))
  rw [nI_clamp (by omega)] at e6 e8 e10 e12
  have key : ∀ y : Int32, y = nI m → Ok (f_M_production_221 N σ12 (nI (gnp g)) y (nI (gnp g))) (fun v => v.1 = nI (gnp g) ∧ v.2.1 0 = 0 ∧ MG (gProd g m f) v.2 ∧ v.2.1 3 = 0 ∧ v.2.1 8 = -1 ∧ v.2.1 9 = -1 ∧ (∀ k, k ≠ 0 → k ≠ 2 → k ≠ 3 → k ≠ 8 → k ≠ 9 → v.2.1 k = σ.1 k) ∧ (∀ j, j < 160 → v.2.2 22 j = 0) ∧ ∀ a, a ≠ 2 → a ≠ 3 → a ≠ 22 → v.2.2 a = σ.2 a) := by
    intro y hy
    unfold f_M_production_221
    refine ok_bd (bIn_nI hp10 (by decide)) (ok_lets (fun σ14 e14 => ok_lets (fun σ15 e15 => ok_bi (m_forget hN σ15) (fun q hq => ok_some ?_))))
    rw [nI_clamp (by omega)] at e14
    obtain ⟨b1, b2, b3, b4, b5, b6⟩ := hq
    have i12 : σ12.1 = σ3.1 := by rw [e12, e10, e8, e6]; rfl
    have q2 : q.2.1 2 = nI (gnp g + 1) := by rw [b4 2 (by decide) (by decide) (by decide), e15, sf_1, e14, sa_1, i12, h2, nI_1]
    have kk : ∀ k, k ≠ 0 → k ≠ 2 → k ≠ 3 → k ≠ 8 → k ≠ 9 → q.2.1 k = σ.1 k := fun k c0 c2 c3 c8 c9 => by rw [b4 k c3 c8 c9, e15, sf_1n c2, e14, sa_1, i12, e3, sf_1n c0]
    have k0 : ∀ a, a ≠ 2 → a ≠ 3 → a ≠ 22 → q.2.2 a = σ.2 a := fun a c2 c3 c22 => by rw [b6 a c22, e15, sf_2, e14, sa_2a c2, e12, sa_2a c3, e10, sa_2a c3, e8, sa_2a c3, e6, sa_2a c3, e3, sf_2]
    have q3 : q.2.2 3 = σ12.2 3 := by rw [b6 3 (by decide), e15, sf_2, e14, sa_2a (by decide)]
    have q22 : q.2.2 2 = (sa σ12 2 (gnp g) y).2 2 := by rw [b6 2 (by decide), e15, sf_2, e14]
    have lt1 : ∀ p, p < gnp (gProd g m f) → p ≠ gnp g → p < gnp g := fun p h e => by
      have : p < gnp g + 1 := h
      omega
    dsimp only
    refine ⟨rfl, by rw [b4 0 (by decide) (by decide) (by decide), e15, sf_1n (by decide), e14, sa_1, i12, e3, sf_1], ⟨by rw [kk 1 (by decide) (by decide) (by decide) (by decide) (by decide)]; exact g1, q2, fun s h => by rw [k0 0 (by decide) (by decide) (by decide)]; exact g3 s h, fun s a h ha => by rw [k0 1 (by decide) (by decide) (by decide)]; exact g4 s a h ha, fun p h => ?_, fun p r h hr => ?_, fun p o h ho => ?_, fun p o h h10 ho => by rw [k0 4 (by decide) (by decide) (by decide)]; exact g8 p o (by have : gnp g + 1 ≤ p := h; omega) h10 ho⟩, b1, b2, b3, kk, b5, k0⟩
    · by_cases e : p = gnp g
      · rw [q22, e, gProd_new.1, sa_2]; exact hy
      · rw [q22, (gProd_old (lt1 p h e)).1, sa_2n e, e12, sa_2a (by decide), e10, sa_2a (by decide), e8, sa_2a (by decide), e6, sa_2a (by decide), e3, sf_2]
        exact g5 p (lt1 p h e)
    · by_cases e : p = gnp g
      · rw [e, gProd_new.1] at hr
        rw [q3, e, gProd_new.2.1]
        have v0 : σ12.2 3 (4 * gnp g) = nI (f 0) := by rw [e12, sa_2n (by omega), e10, sa_2n (by omega), e8, sa_2n (by omega), e6, sa_2]
        have v1 : σ12.2 3 (4 * gnp g + 1) = a1 := by rw [e12, sa_2n (by omega), e10, sa_2n (by omega), e8, sa_2]
        have v2 : σ12.2 3 (4 * gnp g + 2) = a2 := by rw [e12, sa_2n (by omega), e10, sa_2]
        have v3 : σ12.2 3 (4 * gnp g + 3) = a3 := by rw [e12, sa_2]
        have hq4 : r = 0 ∨ r = 1 ∨ r = 2 ∨ r = 3 := by
          rcases ‹rg m f a1 a2 a3› with h9 | h9 | h9 | h9 <;> omega
        rcases hq4 with rfl | rfl | rfl | rfl
        · exact v0
        · rw [v1]
          rcases ‹rg m f a1 a2 a3› with h9 | h9 | h9 | h9
          · omega
          · exact h9.2.1
          · exact h9.2.1
          · exact h9.2.1
        · rw [v2]
          rcases ‹rg m f a1 a2 a3› with h9 | h9 | h9 | h9
          · omega
          · omega
          · exact h9.2.2.1
          · exact h9.2.2.1
        · rw [v3]
          rcases ‹rg m f a1 a2 a3› with h9 | h9 | h9 | h9
          · omega
          · omega
          · omega
          · exact h9.2.2.2
      · have hl := lt1 p h e
        rw [(gProd_old hl).1] at hr
        have h5 := (hw.2.2.2.2.1 p hl).2
        rw [q3, (gProd_old hl).2.1, e12, sa_2n (by omega), e10, sa_2n (by omega), e8, sa_2n (by omega), e6, sa_2n (by omega), e3, sf_2]
        exact g6 p r hl hr
    · rw [k0 4 (by decide) (by decide) (by decide), k0 5 (by decide) (by decide) (by decide), k0 6 (by decide) (by decide) (by decide)]
      by_cases e : p = gnp g
      · rw [e, gProd_new.2.2]
        exact g8 (gnp g) o (Nat.le_refl _) hp10 ho
      · rw [(gProd_old (lt1 p h e)).2.2]
        exact g7 p o (lt1 p h e) ho
  rcases hr with ⟨rfl, c1, c2, c3⟩ | ⟨rfl, c1, c2, c3⟩ | ⟨rfl, c1, c2, c3⟩ | ⟨rfl, c1, c2, c3⟩
  · exact ok_then c1 (key 1 rfl)
  · have l1 := hf 1 (by decide)
    exact ok_else (by rw [c1]; exact nI_nm1 (by omega)) (ok_then c2 (key 2 rfl))
  · have l1 := hf 1 (by decide)
    have l2 := hf 2 (by decide)
    exact ok_else (by rw [c1]; exact nI_nm1 (by omega)) (ok_else (by rw [c2]; exact nI_nm1 (by omega)) (ok_then c3 (key 3 rfl)))
  · have l1 := hf 1 (by decide)
    have l2 := hf 2 (by decide)
    have l3 := hf 3 (by decide)
    exact ok_else (by rw [c1]; exact nI_nm1 (by omega)) (ok_else (by rw [c2]; exact nI_nm1 (by omega)) (ok_else (by rw [c3]; exact nI_nm1 (by omega)) (key 4 rfl)))
