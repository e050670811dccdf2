/-! What an occurrence is worth at a node. -/
def ndA (t : vT) (h q : Nat) : Nat := if q = 0 then h else (tCh t h q).getD 0
def celA (t : vT) (h o : Nat) : Nat := 4 * ndA t h (o / 4) + o % 4
def valA (t : vT) (w : Nat → Int32) (h : Nat) (r : Nat × Int32 × Int32) : Int32 := if r.1 = 0 then r.2.1 else if r.1 = 1 then tTo t h else if r.1 = 2 then w (celA t h r.2.1.toNatClampNeg) else if r.1 = 3 then w (celA t h r.2.1.toNatClampNeg) + w (celA t h r.2.2.toNatClampNeg) else if r.1 = 4 then w (celA t h r.2.1.toNatClampNeg) - w (celA t h r.2.2.toNatClampNeg) else if r.1 = 5 then w (celA t h r.2.1.toNatClampNeg) * w (celA t h r.2.2.toNatClampNeg) else if r.1 = 6 then (if w (celA t h r.2.1.toNatClampNeg) < w (celA t h r.2.2.toNatClampNeg) then w (celA t h r.2.2.toNatClampNeg) else w (celA t h r.2.1.toNatClampNeg)) else tTo t h + w (celA t h r.2.1.toNatClampNeg)
theorem valA_0 {t : vT} {w : Nat → Int32} {h : Nat} {r : Nat × Int32 × Int32} (e : r.1 = 0) : valA t w h r = r.2.1 := by
  unfold valA
  rw [e]
  rfl
theorem valA_1 {t : vT} {w : Nat → Int32} {h : Nat} {r : Nat × Int32 × Int32} (e : r.1 = 1) : valA t w h r = tTo t h := by
  unfold valA
  rw [e]
  rfl
theorem valA_2 {t : vT} {w : Nat → Int32} {h : Nat} {r : Nat × Int32 × Int32} (e : r.1 = 2) : valA t w h r = w (celA t h r.2.1.toNatClampNeg) := by
  unfold valA
  rw [e]
  rfl
theorem valA_3 {t : vT} {w : Nat → Int32} {h : Nat} {r : Nat × Int32 × Int32} (e : r.1 = 3) : valA t w h r = w (celA t h r.2.1.toNatClampNeg) + w (celA t h r.2.2.toNatClampNeg) := by
  unfold valA
  rw [e]
  rfl
theorem valA_4 {t : vT} {w : Nat → Int32} {h : Nat} {r : Nat × Int32 × Int32} (e : r.1 = 4) : valA t w h r = w (celA t h r.2.1.toNatClampNeg) - w (celA t h r.2.2.toNatClampNeg) := by
  unfold valA
  rw [e]
  rfl
theorem valA_5 {t : vT} {w : Nat → Int32} {h : Nat} {r : Nat × Int32 × Int32} (e : r.1 = 5) : valA t w h r = w (celA t h r.2.1.toNatClampNeg) * w (celA t h r.2.2.toNatClampNeg) := by
  unfold valA
  rw [e]
  rfl
theorem valA_6 {t : vT} {w : Nat → Int32} {h : Nat} {r : Nat × Int32 × Int32} (e : r.1 = 6) : valA t w h r = (if w (celA t h r.2.1.toNatClampNeg) < w (celA t h r.2.2.toNatClampNeg) then w (celA t h r.2.2.toNatClampNeg) else w (celA t h r.2.1.toNatClampNeg)) := by
  unfold valA
  rw [e]
  rfl
theorem valA_7 {t : vT} {w : Nat → Int32} {h : Nat} {r : Nat × Int32 × Int32} (e : r.1 = 7) : valA t w h r = tTo t h + w (celA t h r.2.1.toNatClampNeg) := by
  unfold valA
  rw [e]
  rfl
theorem nd_lt {g : vA} {t : vT} (hT : wfT g t) {h q : Nat} (hh : h < tN t) (hq : q < gpo g (tPr t h)) : ndA t h q < tN t := by
  unfold ndA
  by_cases e : q = 0
  · rw [if_pos e]; exact hh
  · rw [if_neg e]
    obtain ⟨c, c1, c2, _⟩ := hT.2.2.1 h q hh (by omega) hq
    rw [c2]
    show c < tN t
    omega
theorem x_nodeAt {N : Nat} {g : vA} (hw : wfA g) {t : vT} {σ : vS} (hT : wfT g t) (hX : XT t σ) {h q : Nat} (hh : h < tN t) (hq : q < gpo g (tPr t h)) : f_Z_nodeAt N σ (nI h) (nI q) = some (nI (ndA t h q), σ) := by
  have h40 := hT.1
  have h5 := hw.2.2.2.2.1 _ (hT.2.1 h hh)
  unfold f_Z_nodeAt vlet
  dsimp only
  rw [show nI h * (4 : Int32) = nI (h * 4) from pk_mul h 4, nI_add, if_pos (bIn_nI (by omega) (by decide)), nI_clamp (by omega), show h * 4 + q = 4 * h + q by omega]
  unfold ndA
  by_cases e : q = 0
  · rw [if_pos e, e]
    have := (hX.2 h hh).2.2.2.1
    rw [show 4 * h + 0 = 4 * h by omega, this]
  · rw [if_neg e, (hX.2 h hh).2.2.2.2 q (by omega) (by omega)]
    obtain ⟨c, c1, c2, _⟩ := hT.2.2.1 h q hh (by omega) hq
    rw [c2]
    rfl
theorem x_valueOf {N : Nat} {g : vA} (hw : wfA g) {t : vT} {σ : vS} (hT : wfT g t) (hX : XT t σ) {h o : Nat} (hh : h < tN t) (h11 : σ.1 11 = nI h) (ho : occ g (tPr t h) o = true) : f_U_valueOf N σ (nI o) = some (σ.2 24 (celA t h o), σ) := by
  have h40 := hT.1
  have hp := hT.2.1 h hh
  have h16 := (occ_lt hw hp ho).1
  have hq := occ_q ho
  have hn := nd_lt hT hh hq
  have e1 : nI o - nI o / (4 : Int32) * 4 = nI (o % 4) := pk_rem (a := o) (d := 4) (by omega) (by decide) (by decide)
  have e2 : nI o / (4 : Int32) = nI (o / 4) := pk_div (d := 4) (by omega) (by decide) (by decide)
  unfold f_U_valueOf vlet
  dsimp only
  rw [h11, e1, e2, x_nodeAt hw hT hX hh hq, Option.bind_some]
  dsimp only
  rw [show nI (ndA t h (o / 4)) * (4 : Int32) = nI (ndA t h (o / 4) * 4) from pk_mul _ 4, nI_add, if_pos (bIn_nI (by omega) (by decide)), nI_clamp (by omega), show ndA t h (o / 4) * 4 + o % 4 = celA t h o by unfold celA; omega]
theorem x_result {N : Nat} {g : vA} (hw : wfA g) {t : vT} {σ : vS} (hg : XG g σ) (hT : wfT g t) (hX : XT t σ) {h i : Nat} (hh : h < tN t) (h11 : σ.1 11 = nI h) (hi : i < 16) {r : Nat × Int32 × Int32} (hr : grl g (tPr t h) i = some r) : f_U_result N σ (nI (16 * tPr t h + i)) = some (valA t (σ.2 24) h r, σ) := by
  have h40 := hT.1
  have h10 := hw.2.2.2.1
  have hp := hT.2.1 h hh
  obtain ⟨r1, r2, r3, r4⟩ := hw.2.2.2.2.2.2 _ i r hp hi hr
  obtain ⟨s1, s2, s3⟩ := hg.2.2.2.2.2.2.2.2.2.1 _ i r hp hi hr
  have tok : (if bIn (σ.1 11) 40 = true then (vlet (σ.2 20 (σ.1 11).toNatClampNeg) (fun i10 => some (i10, σ))) else none) = some (tTo t h, σ) := by
    unfold vlet
    dsimp only
    rw [h11, if_pos (bIn_nI (by omega) (by decide)), nI_clamp (by omega), (hX.2 h hh).2.1]
  have v1 : 1 ≤ nds r.1 → f_U_valueOf N σ r.2.1 = some (σ.2 24 (celA t h r.2.1.toNatClampNeg), σ) := fun hn => by
    obtain ⟨u, u1, u2, u3⟩ := r3 hn
    rw [u2, nI_clamp (by omega)]
    exact x_valueOf hw hT hX hh h11 u3
  have v2 : 2 ≤ nds r.1 → f_U_valueOf N σ r.2.2 = some (σ.2 24 (celA t h r.2.2.toNatClampNeg), σ) := fun hn => by
    obtain ⟨u, u1, u2, u3⟩ := r4 hn
    rw [u2, nI_clamp (by omega)]
    exact x_valueOf hw hT hX hh h11 u3
  unfold f_U_result
  rw [if_pos (bIn_nI (by omega) (by decide))]
  unfold vlet
  dsimp only
  rw [if_pos (bIn_nI (by omega) (by decide)), if_pos (bIn_nI (by omega) (by decide)), nI_clamp (by omega), s1, s2, s3]
  have h8 : r.1 = 0 ∨ r.1 = 1 ∨ r.1 = 2 ∨ r.1 = 3 ∨ r.1 = 4 ∨ r.1 = 5 ∨ r.1 = 6 ∨ r.1 = 7 := by omega
  unfold vlet at tok
  rcases h8 with e | e | e | e | e | e | e | e
  · rw [valA_0 e, e, if_pos (show nI 0 = (0 : Int32) from rfl)]
  · rw [valA_1 e, e, if_neg (by decide), if_pos (show nI 1 = (1 : Int32) from rfl)]
    exact tok
  · rw [valA_2 e, e, if_neg (by decide), if_neg (by decide), if_pos (show nI 2 = (2 : Int32) from rfl)]
    rw [v1 (by rw [e]; decide), Option.bind_some]
  · rw [valA_3 e, e, if_neg (by decide), if_neg (by decide), if_neg (by decide), if_pos (show nI 3 = (3 : Int32) from rfl)]
    rw [v1 (by rw [e]; decide), Option.bind_some]
    dsimp only
    rw [v2 (by rw [e]; decide), Option.bind_some]
  · rw [valA_4 e, e, if_neg (by decide), if_neg (by decide), if_neg (by decide), if_neg (by decide), if_pos (show nI 4 = (4 : Int32) from rfl)]
    rw [v1 (by rw [e]; decide), Option.bind_some]
    dsimp only
    rw [v2 (by rw [e]; decide), Option.bind_some]
  · rw [valA_5 e, e, if_neg (by decide), if_neg (by decide), if_neg (by decide), if_neg (by decide), if_neg (by decide), if_pos (show nI 5 = (5 : Int32) from rfl)]
    rw [v1 (by rw [e]; decide), Option.bind_some]
    dsimp only
    rw [v2 (by rw [e]; decide), Option.bind_some]
  · rw [valA_6 e, e, if_neg (by decide), if_neg (by decide), if_neg (by decide), if_neg (by decide), if_neg (by decide), if_neg (by decide), if_pos (show nI 6 = (6 : Int32) from rfl)]
    rw [v1 (by rw [e]; decide), Option.bind_some]
    dsimp only
    rw [v2 (by rw [e]; decide), Option.bind_some]
  · rw [valA_7 e, e, if_neg (by decide), if_neg (by decide), if_neg (by decide), if_neg (by decide), if_neg (by decide), if_neg (by decide), if_neg (by decide)]
    rw [h11, if_pos (bIn_nI (by omega) (by decide)), nI_clamp (by omega), (hX.2 h hh).2.1, v1 (by rw [e]; decide), Option.bind_some]
/-! The same in the reference. -/
theorem m_cell {N : Nat} {g : vA} (hw : wfA g) {t : vT} {σ : vS} (hT : wfT g t) (hX : MT t σ) {h o : Nat} (hh : h < tN t) (ho : occ g (tPr t h) o = true) : f_M_cell N σ (nI h) (nI o) = some (nI (celA t h o), σ) := by
  have h40 := hT.1
  have hp := hT.2.1 h hh
  have h5 := hw.2.2.2.2.1 _ hp
  have h16 := (occ_lt hw hp ho).1
  have hq := occ_q ho
  have e1 : nI o - nI o / (4 : Int32) * 4 = nI (o % 4) := pk_rem (a := o) (d := 4) (by omega) (by decide) (by decide)
  have e2 : nI o / (4 : Int32) = nI (o / 4) := pk_div (d := 4) (by omega) (by decide) (by decide)
  unfold f_M_cell f_M_cell_24 celA ndA
  by_cases e : o < 4
  · rw [if_neg (show ¬ (4 : Int32) ≤ nI o from nI_ge (a := o) (b := 4) (by omega) (by decide)), e1, show (4 : Int32) * nI h = nI (4 * h) from pk_mul 4 h, nI_add, if_pos (show o / 4 = 0 by omega)]
  · rw [if_pos (show (4 : Int32) ≤ nI o from nI_le (a := 4) (b := o) (by omega) (by omega)), e1, e2, if_neg (show ¬ o / 4 = 0 by omega)]
    obtain ⟨c, c1, c2, _⟩ := hT.2.2.1 h (o / 4) hh (by omega) hq
    unfold vlet
    dsimp only
    rw [show (3 : Int32) * nI h = nI (3 * h) from pk_mul 3 h, nI_add, show nI (3 * h + o / 4) - (1 : Int32) = nI (3 * h + o / 4 - 1) from pk_sub (b := 1) (by omega), if_pos (bIn_nI (by omega) (by decide)), nI_clamp (by omega), (hX.2 h hh).2.2.2 (o / 4) (by omega) (by omega), c2]
    show some (((4 : Int32) * nI c + nI (o % 4)), σ) = some (nI (4 * c + o % 4), σ)
    rw [show (4 : Int32) * nI c = nI (4 * c) from pk_mul 4 c, nI_add]
theorem cel_lt {g : vA} {t : vT} (hT : wfT g t) {h o : Nat} (hh : h < tN t) (hq : o / 4 < gpo g (tPr t h)) : celA t h o < 160 := by
  have h40 := hT.1
  have := nd_lt hT hh hq
  unfold celA
  omega
theorem m_worth {N : Nat} {g : vA} (hw : wfA g) {t : vT} {σ : vS} (hg : MG g σ) (hT : wfT g t) (hX : MT t σ) {h i : Nat} (hh : h < tN t) (hi : i < 16) {r : Nat × Int32 × Int32} (hr : grl g (tPr t h) i = some r) : f_M_worth N σ (nI h) (nI i) = some (valA t (σ.2 23) h r, σ) := by
  have h40 := hT.1
  have h10 := hw.2.2.2.1
  have hp := hT.2.1 h hh
  obtain ⟨r1, r2, r3, r4⟩ := hw.2.2.2.2.2.2 _ i r hp hi hr
  have h7 := hg.2.2.2.2.2.2.1 _ i hp hi
  rw [hr] at h7
  obtain ⟨s1, s2, s3⟩ : σ.2 4 (16 * tPr t h + i) = nI r.1 ∧ σ.2 5 (16 * tPr t h + i) = r.2.1 ∧ σ.2 6 (16 * tPr t h + i) = r.2.2 := h7
  have hl := nds_le r.1
  have v1 : 1 ≤ nds r.1 → ∃ u, r.2.1.toNatClampNeg = u ∧ u < 16 ∧ f_M_cell N σ (nI h) r.2.1 = some (nI (celA t h u), σ) ∧ celA t h u < 160 := fun hn => by
    obtain ⟨u, u1, u2, u3⟩ := r3 hn
    exact ⟨u, by rw [u2, nI_clamp (by omega)], u1, by rw [u2]; exact m_cell hw hT hX hh u3, cel_lt hT hh (occ_q u3)⟩
  have v2 : 2 ≤ nds r.1 → ∃ u, r.2.2.toNatClampNeg = u ∧ u < 16 ∧ f_M_cell N σ (nI h) r.2.2 = some (nI (celA t h u), σ) ∧ celA t h u < 160 := fun hn => by
    obtain ⟨u, u1, u2, u3⟩ := r4 hn
    exact ⟨u, by rw [u2, nI_clamp (by omega)], u1, by rw [u2]; exact m_cell hw hT hX hh u3, cel_lt hT hh (occ_q u3)⟩
  have tok : (if bIn (nI h) 40 = true then (vlet (σ.2 18 (nI h).toNatClampNeg) (fun i14 => some (i14, σ))) else none) = some (tTo t h, σ) := by
    unfold vlet
    dsimp only
    rw [if_pos (bIn_nI (by omega) (by decide)), nI_clamp (by omega), (hX.2 h hh).2.1]
  -- the two operands
  have f48 : ∀ a : Int32, (1 ≤ nds r.1 → a = σ.2 23 (celA t h r.2.1.toNatClampNeg)) → f_M_worth_48 N σ (nI h) (nI (16 * tPr t h + i)) (nI r.1) a = some (valA t (σ.2 23) h r, σ) := by
    intro a ha
    have f79 : ∀ b : Int32, (2 ≤ nds r.1 → b = σ.2 23 (celA t h r.2.2.toNatClampNeg)) → f_M_worth_79 N σ (nI h) (nI (16 * tPr t h + i)) (nI r.1) a b = some (valA t (σ.2 23) h r, σ) := by
      intro b hb
      unfold f_M_worth_79
      have h8 : r.1 = 0 ∨ r.1 = 1 ∨ r.1 = 2 ∨ r.1 = 3 ∨ r.1 = 4 ∨ r.1 = 5 ∨ r.1 = 6 ∨ r.1 = 7 := by omega
      rcases h8 with e | e | e | e | e | e | e | e
      · rw [valA_0 e, e, if_pos (show nI 0 = (0 : Int32) from rfl)]
        rw [if_pos (bIn_nI (by omega) (by decide))]
        unfold vlet
        dsimp only
        rw [nI_clamp (by omega), s2]
      · rw [valA_1 e, e, if_neg (by decide), if_pos (show nI 1 = (1 : Int32) from rfl)]
        exact tok
      · rw [valA_2 e, ← ha (by rw [e]; decide), e, if_neg (by decide), if_neg (by decide), if_pos (show nI 2 = (2 : Int32) from rfl)]
      · rw [valA_3 e, ← ha (by rw [e]; decide), ← hb (by rw [e]; decide), e, if_neg (by decide), if_neg (by decide), if_neg (by decide), if_pos (show nI 3 = (3 : Int32) from rfl)]
      · rw [valA_4 e, ← ha (by rw [e]; decide), ← hb (by rw [e]; decide), e, if_neg (by decide), if_neg (by decide), if_neg (by decide), if_neg (by decide), if_pos (show nI 4 = (4 : Int32) from rfl)]
      · rw [valA_5 e, ← ha (by rw [e]; decide), ← hb (by rw [e]; decide), e, if_neg (by decide), if_neg (by decide), if_neg (by decide), if_neg (by decide), if_neg (by decide), if_pos (show nI 5 = (5 : Int32) from rfl)]
      · rw [valA_6 e, ← ha (by rw [e]; decide), ← hb (by rw [e]; decide), e, if_neg (by decide), if_neg (by decide), if_neg (by decide), if_neg (by decide), if_neg (by decide), if_neg (by decide), if_pos (show nI 6 = (6 : Int32) from rfl)]
        by_cases hc : a < b
        · rw [if_pos hc, if_neg (fun h9 => by
            rw [Int32.lt_iff_toInt_lt] at hc
            rw [Int32.le_iff_toInt_le] at h9
            omega)]
        · rw [if_neg hc, if_pos (by
            rw [Int32.lt_iff_toInt_lt] at hc
            rw [Int32.le_iff_toInt_le]
            omega)]
      · rw [valA_7 e, ← ha (by rw [e]; decide), e, if_neg (by decide), if_neg (by decide), if_neg (by decide), if_neg (by decide), if_neg (by decide), if_neg (by decide), if_neg (by decide)]
        rw [if_pos (bIn_nI (by omega) (by decide))]
        unfold vlet
        dsimp only
        rw [nI_clamp (by omega), (hX.2 h hh).2.1]
    unfold f_M_worth_48
    rw [nds_m r.1 r2, Option.bind_some]
    by_cases h2 : 2 ≤ nds r.1
    · obtain ⟨u, u1, u2, u3, u4⟩ := v2 h2
      rw [if_neg (show ¬ nI (nds r.1) ≤ (1 : Int32) from nI_ge (a := 1) (b := nds r.1) (by omega) (by omega)), if_pos (bIn_nI (by omega) (by decide))]
      unfold vlet
      dsimp only
      rw [nI_clamp (by omega), s3, u3, Option.bind_some]
      dsimp only
      rw [if_pos (bIn_nI u4 (by decide)), nI_clamp (by omega)]
      exact f79 _ (fun _ => by rw [u1])
    · rw [if_pos (show nI (nds r.1) ≤ (1 : Int32) from nI_le (a := nds r.1) (b := 1) (by omega) (by decide))]
      exact f79 0 (fun h9 => absurd h9 h2)
  unfold f_M_worth
  rw [if_pos (bIn_nI (by omega) (by decide))]
  unfold vlet
  dsimp only
  rw [nI_clamp (by omega), (hX.2 h hh).1, show (16 : Int32) * nI (tPr t h) = nI (16 * tPr t h) from pk_mul 16 _, nI_add, if_pos (bIn_nI (by omega) (by decide)), if_pos (bIn_nI (by omega) (by decide)), nI_clamp (by omega), s1, nds_m r.1 r2, Option.bind_some]
  by_cases h1 : 1 ≤ nds r.1
  · obtain ⟨u, u1, u2, u3, u4⟩ := v1 h1
    rw [if_neg (show ¬ nI (nds r.1) ≤ (0 : Int32) from nI_ge (a := 0) (b := nds r.1) (by omega) (by omega)), s2, u3, Option.bind_some]
    dsimp only
    rw [if_pos (bIn_nI u4 (by decide)), nI_clamp (by omega)]
    exact f48 _ (fun _ => by rw [u1])
  · rw [if_pos (show nI (nds r.1) ≤ (0 : Int32) from nI_le (a := nds r.1) (b := 0) (by omega) (by decide))]
    exact f48 0 (fun h9 => absurd h9 h1)
