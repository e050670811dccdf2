theorem x_place_no {N : Nat} {σ : vS} {p q : Int32} : f_G_place N σ p q (-1) = some (0, σ) := by
  unfold f_G_place
  rw [if_pos rfl]
theorem x_addProduction {N : Nat} {g : vA} {σ : vS} (hg : XG g σ) (hw : wfA g) {m : Nat} {f : Nat → Nat} {a1 a2 a3 : Int32} (hm : 1 ≤ m) (hf : ∀ q, q < m → f q < gns g) (hp : gnp g ≠ 10) (hr : rg m f a1 a2 a3) : Ok (f_G_addProduction N σ (nI (f 0)) a1 a2 a3) (fun v => v.1 = nI (gnp g) ∧ PL g f (sf σ 1 (nI (gnp g + 1))) v.2 m) := by
  have hp10 : gnp g < 10 := by
    have := hw.2.2.2.1
    omega
  obtain ⟨g1, g2, g3, g4, g5, g6, g7, g8, g9, g10, g11, g12⟩ := hg
  unfold f_G_addProduction
  refine ok_lets (fun σ1 e1 => ?_)
  rw [g2] at e1 ⊢
  rw [nI_1] at e1
  have hz := g12 (gnp g) (Nat.le_refl _) hp10
  have P0 : PL g f σ1 σ1 0 := by
    refine ⟨rfl, fun _ _ _ _ _ => rfl, fun _ _ => rfl, fun _ _ => ⟨rfl, rfl, rfl⟩, fun q h => absurd h (Nat.not_lt_zero _), fun h => absurd h (by decide), fun i hi => ?_, fun i hi => ?_⟩
    · rw [e1, sf_2, hz.2.1, bt_0]; rfl
    · rw [e1, sf_2, hz.2.2.1, bt_0]; rfl
  have st : ∀ (τ : vS) (k : Nat), k < 4 → f k < gns g → PL g f σ1 τ k → Ok (f_G_place N τ (nI (gnp g)) (nI k) (nI (f k))) (fun v => PL g f σ1 v.2 (k + 1)) := fun τ k hk hfk hPL => x_place hw hp10 hk hfk (by rw [e1, sf_2]; exact g3) (by rw [e1, sf_2]; exact g4) hPL
  have no : ∀ (τ : vS) (k : Int32) (n : Nat), PL g f σ1 τ n → Ok (f_G_place N τ (nI (gnp g)) k (-1)) (fun v => PL g f σ1 v.2 n) := fun τ k n h => ok_eq x_place_no h
  rw [← e1]
  refine ok_bi (st σ1 0 (by decide) (hf 0 hm) P0) (fun q2 h2 => ?_)
  rcases hr with ⟨rfl, c1, c2, c3⟩ | ⟨rfl, c1, c2, c3⟩ | ⟨rfl, c1, c2, c3⟩ | ⟨rfl, c1, c2, c3⟩
  · rw [c1, c2, c3]
    exact ok_bi (no q2.2 1 1 h2) (fun q4 h4 => ok_bi (no q4.2 2 1 h4) (fun q6 h6 => ok_bi (no q6.2 3 1 h6) (fun q8 h8 => ok_some ⟨rfl, h8⟩)))
  · rw [c1, c2, c3]
    exact ok_bi (st q2.2 1 (by decide) (hf 1 (by decide)) h2) (fun q4 h4 => ok_bi (no q4.2 2 2 h4) (fun q6 h6 => ok_bi (no q6.2 3 2 h6) (fun q8 h8 => ok_some ⟨rfl, h8⟩)))
  · rw [c1, c2, c3]
    exact ok_bi (st q2.2 1 (by decide) (hf 1 (by decide)) h2) (fun q4 h4 => ok_bi (st q4.2 2 (by decide) (hf 2 (by decide)) h4) (fun q6 h6 => ok_bi (no q6.2 3 3 h6) (fun q8 h8 => ok_some ⟨rfl, h8⟩)))
  · rw [c1, c2, c3]
    exact ok_bi (st q2.2 1 (by decide) (hf 1 (by decide)) h2) (fun q4 h4 => ok_bi (st q4.2 2 (by decide) (hf 2 (by decide)) h4) (fun q6 h6 => ok_bi (st q6.2 3 (by decide) (hf 3 (by decide)) h6) (fun q8 h8 => ok_some ⟨rfl, h8⟩)))
theorem XG_prod {g : vA} {σ τ : vS} (hg : XG g σ) (hw : wfA g) {m : Nat} {f : Nat → Nat} (hm : 1 ≤ m) (hp : gnp g ≠ 10) (hPL : PL g f (sf σ 1 (nI (gnp g + 1))) τ m) : XG (gProd g m f) τ := by
  have hp10 : gnp g < 10 := by
    have := hw.2.2.2.1
    omega
  obtain ⟨g1, g2, g3, g4, g5, g6, g7, g8, g9, g10, g11, g12⟩ := hg
  obtain ⟨p1, p2, p3, p4, p5, p6, p7, p8⟩ := hPL
  have lt1 : ∀ p, p < gnp (gProd g m f) → p ≠ gnp g → p < gnp g := fun p h e => by
    have : p < gnp g + 1 := h
    omega
  have k0 : ∀ a, a ≠ 2 → a ≠ 3 → a ≠ 4 → a ≠ 5 → τ.2 a = σ.2 a := fun a c2 c3 c4 c5 => p2 a c2 c3 c4 c5
  have hz := g12 (gnp g) (Nat.le_refl _) hp10
  refine ⟨by rw [p1, sf_1n (by decide)]; exact g1, by rw [p1, sf_1]; rfl, fun s h => by rw [k0 0 (by decide) (by decide) (by decide) (by decide)]; exact g3 s h, fun s i h hi => by rw [k0 1 (by decide) (by decide) (by decide) (by decide)]; exact g4 s i h hi, fun p h => ?_, fun p q h hq => ?_, fun p i h hi => ?_, fun p i h hi => ?_, fun p i h hi => ?_, fun p o r h ho hr => ?_, fun p o i h ho hi => ?_, fun p h h10 => ?_⟩
  · by_cases e : p = gnp g
    · rw [e, gProd_new.1]; exact p6 hm
    · rw [(gProd_old (lt1 p h e)).1, (p4 p e).1]; exact g5 p (lt1 p h e)
  · by_cases e : p = gnp g
    · rw [e, gProd_new.1] at hq
      rw [e, gProd_new.2.1]; exact p5 q hq
    · have hl := lt1 p h e
      rw [(gProd_old hl).1] at hq
      have h5 := (hw.2.2.2.2.1 p hl).2
      rw [(gProd_old hl).2.1, p3 (4 * p + q) (by omega)]; exact g6 p q hl hq
  · by_cases e : p = gnp g
    · rw [e, p7 i hi]
      unfold occ
      rw [gProd_new.1, gProd_new.2.1]; rfl
    · rw [(p4 p e).2.1, gProd_occ (lt1 p h e)]; exact g7 p i (lt1 p h e) hi
  · by_cases e : p = gnp g
    · rw [e, p8 i hi]
      unfold dfn occ
      rw [gProd_new.1, gProd_new.2.1]; rfl
    · rw [(p4 p e).2.2, gProd_dfn (lt1 p h e)]; exact g8 p i (lt1 p h e) hi
  · rw [k0 6 (by decide) (by decide) (by decide) (by decide)]
    by_cases e : p = gnp g
    · rw [e, gProd_new.2.2, hz.2.2.2.1, bt_0]
      exact (Bool.and_false _).symm
    · rw [(gProd_old (lt1 p h e)).2.2]; exact g9 p i (lt1 p h e) hi
  · by_cases e : p = gnp g
    · rw [e, gProd_new.2.2] at hr; cases hr
    · rw [(gProd_old (lt1 p h e)).2.2] at hr
      rw [k0 7 (by decide) (by decide) (by decide) (by decide), k0 8 (by decide) (by decide) (by decide) (by decide), k0 9 (by decide) (by decide) (by decide) (by decide)]
      exact g10 p o r (lt1 p h e) ho hr
  · rw [k0 10 (by decide) (by decide) (by decide) (by decide)]
    by_cases e : p = gnp g
    · rw [e, hz.2.2.2.2 o ho, bt_0]
      unfold usd
      rw [gProd_new.2.2]
      exact (Bool.and_false _).symm
    · rw [gProd_usd (lt1 p h e)]; exact g11 p o i (lt1 p h e) ho hi
  · have hlt : gnp g + 1 ≤ p := h
    have e : p ≠ gnp g := by omega
    rw [(p4 p e).1, (p4 p e).2.1, (p4 p e).2.2, k0 6 (by decide) (by decide) (by decide) (by decide), k0 10 (by decide) (by decide) (by decide) (by decide)]
    exact g12 p (by omega) h10
theorem x_production_ok {N : Nat} {g : vA} {σ : vS} (hg : XG g σ) (hw : wfA g) {m : Nat} {f : Nat → Nat} {a1 a2 a3 : Int32} (hm : 1 ≤ m) (hf : ∀ q, q < m → f q < gns g) (hp : gnp g ≠ 10) (hr : rg m f a1 a2 a3) (hrt : rgt g a1 a2 a3 = true) : Ok (f_V_production N σ (nI (f 0)) a1 a2 a3) (fun v => v.1 = (0, nI (gnp g)) ∧ XG (gProd g m f) v.2 ∧ v.2.1 2 = 0 ∧ v.2.1 9 = 0 ∧ (∀ k, k ≠ 1 → k ≠ 2 → k ≠ 9 → v.2.1 k = σ.1 k) ∧ ∀ a, a ≠ 2 → a ≠ 3 → a ≠ 4 → a ≠ 5 → v.2.2 a = σ.2 a) := by
  have hp10 : gnp g < 10 := by
    have := hw.2.2.2.1
    omega
  unfold f_V_production
  refine ok_bi (ok_eq (x_isS hg hw _) (P := fun q => q = (b01 (iS g (nI (f 0))), σ)) rfl) (fun q1 h1 => ?_)
  rw [h1, nI_iS hw (hf 0 hm)]
  dsimp only
  refine ok_else (by decide) (ok_bi (ok_eq (x_isRight hg hw a1 a2 a3) (P := fun q => q = (b01 (rgt g a1 a2 a3), σ)) rfl) (fun q4 h4 => ?_))
  rw [h4, hrt]
  dsimp only
  refine ok_else (by decide) (ok_else (fun h => ?_) ?_)
  · rw [hg.2.1] at h
    exact hp ((nI_eq (a := gnp g) (b := 10) (by omega) (by decide)).mp h)
  · rw [x_drop]
    refine ok_bi (ok_eq rfl (P := fun q => q = ((0 : Int32), sf (sf σ 2 0) 9 0)) rfl) (fun q8 h8 => ?_)
    rw [h8]
    dsimp only
    obtain ⟨τ, eτ⟩ : ∃ τ, τ = sf (sf σ 2 0) 9 0 := ⟨_, rfl⟩
    rw [← eτ]
    have hgτ : XG g τ := by
      have t0 : τ.1 0 = σ.1 0 := by rw [eτ, sf_1n (by decide), sf_1n (by decide)]
      have t1 : τ.1 1 = σ.1 1 := by rw [eτ, sf_1n (by decide), sf_1n (by decide)]
      have t2 : τ.2 = σ.2 := by rw [eτ]; rfl
      unfold XG
      rw [t0, t1, t2]
      exact hg
    refine ok_bi (x_addProduction hgτ hw hm hf hp hr) (fun q hq => ok_some ?_)
    obtain ⟨b1, b2⟩ := hq
    dsimp only
    refine ⟨by rw [b1], XG_prod hgτ hw hm hp b2, ?_, ?_, fun k c1 c2 c9 => ?_, fun a c2 c3 c4 c5 => ?_⟩
    · rw [b2.1, sf_1n (by decide), eτ, sf_1n (by decide), sf_1]
    · rw [b2.1, sf_1n (by decide), eτ, sf_1]
    · rw [b2.1, sf_1n c1, eτ, sf_1n c9, sf_1n c2]
    · rw [b2.2.1 a c2 c3 c4 c5, sf_2, eτ]; rfl
theorem x_production_bad {N : Nat} {g : vA} {σ : vS} (hg : XG g σ) (hw : wfA g) {a0 a1 a2 a3 : Int32} (h : (iS g a0 && rgt g a1 a2 a3) = false) : f_V_production N σ a0 a1 a2 a3 = some ((1, 0), σ) := by
  unfold f_V_production f_V_production_25
  rw [x_isS hg hw, Option.bind_some]
  dsimp only
  cases h0 : iS g a0
  · rfl
  · rw [h0, Bool.true_and] at h
    rw [if_neg (by decide), x_isRight hg hw, Option.bind_some, h]
    rfl
theorem x_production_full {N : Nat} {g : vA} {σ : vS} (hg : XG g σ) (hw : wfA g) {a0 a1 a2 a3 : Int32} (h : (iS g a0 && rgt g a1 a2 a3) = true) (h10 : gnp g = 10) : f_V_production N σ a0 a1 a2 a3 = some ((2, 0), σ) := by
  rw [Bool.and_eq_true] at h
  unfold f_V_production
  rw [x_isS hg hw, Option.bind_some, h.1]
  dsimp only
  rw [if_neg (by decide), x_isRight hg hw, Option.bind_some, h.2]
  dsimp only
  rw [if_neg (by decide), hg.2.1, h10, if_pos (show nI 10 = (10 : Int32) from rfl)]
