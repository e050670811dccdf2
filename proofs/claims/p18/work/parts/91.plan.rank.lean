/-! The visits that the ranks give. -/
def VW (g : vA) (S : vL) : vV := (fun s => if s < gns g then vsS g S s else 0, fun s a => if s < gns g ∧ a < 4 then voS g S s a else 0)
theorem VW_cong {g : vA} {S S' : vL} (h : ∀ s a b, s < gns g → a < 4 → b < 4 → S s a b = S' s a b) : VW g S = VW g S' := by
  unfold VW
  congr 1
  · funext s
    by_cases e : s < gns g
    · rw [if_pos e, if_pos e, vsS_cong h e]
    · rw [if_neg e, if_neg e]
  · funext s a
    by_cases e : s < gns g ∧ a < 4
    · rw [if_pos e, if_pos e, voS_cong h e.1 e.2]
    · rw [if_neg e, if_neg e]
theorem VW_1 {g : vA} {S : vL} {s : Nat} (hs : s < gns g) : (VW g S).1 s = vsS g S s := if_pos hs
theorem VW_2 {g : vA} {S : vL} {s a : Nat} (hs : s < gns g) (ha : a < 4) : (VW g S).2 s a = voS g S s a := if_pos ⟨hs, ha⟩
theorem hv_of {g : vA} (hw : wfA g) {S : vL} (hR : SAC g S) : HV g (VW g S) := fun s hs => by
  have h4 := hw.2.1 s hs
  rw [VW_1 hs]
  exact ⟨(vs_3 hR hs).1, (vs_3 hR hs).2, fun a ha => by rw [VW_2 hs (by omega)]; exact vo_3 hR hs ha⟩
theorem dfn_ih {g : vA} {p o : Nat} (h : dfn g p o = true) : gih g (gsy g p (o / 4)) (o % 4) = decide (4 ≤ o) := by
  unfold dfn at h
  rw [Bool.and_eq_true] at h
  exact eq_of_beq h.2
theorem ndf_ih {g : vA} {p o : Nat} (h : dfn g p o = false) (ho : occ g p o = true) : gih g (gsy g p (o / 4)) (o % 4) = !decide (4 ≤ o) := by
  unfold dfn at h
  rw [ho, Bool.true_and] at h
  cases h1 : gih g (gsy g p (o / 4)) (o % 4)
  · cases h2 : decide (4 ≤ o)
    · rw [h1, h2] at h; cases h
    · rfl
  · cases h2 : decide (4 ≤ o)
    · rfl
    · rw [h1, h2] at h; cases h
theorem ho_of {g : vA} (hw : wfA g) {S : vL} (hR : SAC g S) (hy : acy g (ordL g S)) : HO g (VW g S) (ordL g S) := fun p hp => by
  refine ⟨fun a m b _ hm _ h1 h2 => wcl_tr 16 a m b hm h1 h2, fun o ho => hy p o hp ho, fun u o hu ho h => wcl_in ((Bool.or_eq_true _ _).mpr (Or.inl h)) 16, fun o u ho hu hq hd hoc hnd hc => ?_⟩
  have hdo := occ_iff.mp (dfn_occ hd)
  have huo := occ_iff.mp hoc
  have hs := hw.2.2.2.2.2.1 p (u / 4) hp (by omega)
  have h4 := hw.2.1 _ hs
  rw [hq] at hdo
  have r1 := rk_5 (ih := gih g (gsy g p (u / 4))) (hR _ hs) hdo.2
  have r2 := rk_5 (ih := gih g (gsy g p (u / 4))) (hR _ hs) huo.2
  have v1 := vo_3 hR hs hdo.2
  have v2 := vo_3 hR hs huo.2
  have i1 := dfn_ih hd
  have i2 := ndf_ih hnd hoc
  rw [hq] at i1
  have p1 := rk_par (R := S (gsy g p (u / 4))) (ih := gih g (gsy g p (u / 4))) (a := o % 4)
  have p2 := rk_par (R := S (gsy g p (u / 4))) (ih := gih g (gsy g p (u / 4))) (a := u % 4)
  rw [i1] at p1
  rw [i2] at p2
  have e1 : wP g (VW g S) p o = voS g S (gsy g p (u / 4)) (o % 4) := by
    unfold wP
    rw [hq, VW_2 hs (Nat.mod_lt _ (by decide))]
  have e2 : wP g (VW g S) p u = voS g S (gsy g p (u / 4)) (u % 4) := by
    unfold wP
    rw [VW_2 hs (Nat.mod_lt _ (by decide))]
  rw [e1, e2] at hc
  have q1 : 1 ≤ rkS g S (gsy g p (u / 4)) (o % 4) := r1.1
  have q2 : 1 ≤ rkS g S (gsy g p (u / 4)) (u % 4) := r2.1
  have p1 : rkS g S (gsy g p (u / 4)) (o % 4) % 2 = (if decide (4 ≤ o) = true then 0 else 1) := p1
  have p2 : rkS g S (gsy g p (u / 4)) (u % 4) % 2 = (if (!decide (4 ≤ u)) = true then 0 else 1) := p2
  have lt : rkS g S (gsy g p (u / 4)) (u % 4) < rkS g S (gsy g p (u / 4)) (o % 4) := by
    unfold voS at hc v1 v2
    by_cases hu4 : u < 4
    · rw [if_pos hu4] at hc
      rw [decide_eq_false (show ¬ 4 ≤ o by omega), if_neg (by decide)] at p1
      rw [decide_eq_false (show ¬ 4 ≤ u by omega), if_pos (by decide)] at p2
      omega
    · rw [if_neg hu4] at hc
      rw [decide_eq_true (show 4 ≤ o by omega), if_pos (by decide)] at p1
      rw [decide_eq_true (show 4 ≤ u by omega), if_neg (by decide)] at p2
      omega
  refine wcl_in ((Bool.or_eq_true _ _).mpr (Or.inr (tkc_iff.mpr ⟨hq, by omega, ?_⟩))) 16
  rw [hq]
  unfold S2 apS
  rw [decide_eq_true (show gsy g p (u / 4) < gns g ∨ (gsy g p (u / 4) = gns g ∧ o % 4 < 0) from Or.inl hs), decide_eq_true hdo.2, decide_eq_true huo.2, decide_eq_true lt, Bool.true_and, Bool.true_and, Bool.true_and, Bool.or_true]
/-! The class: writing the sequences. -/
def XV (g : vA) (V : vV) (τ : vS) : Prop := ∀ s, s < gns g → τ.2 14 s = nI (V.1 s) ∧ ∀ w b, w < 4 → b < 32 → bt (τ.2 15 (4 * s + w)) b = (decide (b < gna g s) && decide (V.2 s b = w))
theorem XV_of {g : vA} (hw : wfA g) {S : vL} {τ : vS} (h : XR g S (gns g) τ) : XV g (VW g S) τ := fun s hs => by
  have h4 := hw.2.1 s hs
  rw [VW_1 hs]
  refine ⟨(h s hs).2.1, fun w b hw4 hb => ?_⟩
  rw [(h s hs).2.2 w b hw4 hb]
  by_cases e : b < gna g s
  · rw [VW_2 hs (by omega)]
  · rw [decide_eq_false e, Bool.false_and, Bool.false_and]
def XP (g : vA) (V : vV) (p : Nat) (x : pS) (τ : vS) : Prop := (∀ o, o < 32 → bt (τ.1 6) o = x.1 o) ∧ (∀ o, o < 32 → bt (τ.1 7) o = (occ g p o && knA g V p x o)) ∧ ∀ q, q < 4 → τ.2 18 q = nI (x.2 q)
theorem x_inh {N : Nat} {g : vA} {σ : vS} (hg : XG g σ) (hw : wfA g) {V : vV} (hX : XV g V σ) {s v : Nat} (hs : s < gns g) (hv : v < 4) : ∃ z, f_K_inheritedOf N σ (nI s) (nI v) = some (z, σ) ∧ ∀ b, b < 32 → bt z b = (decide (b < gna g s) && decide (V.2 s b = v) && gih g s b) := by
  have h6 := hw.1
  refine ⟨σ.2 15 (4 * s + v) &&& σ.2 1 s, ?_, fun b hb => ?_⟩
  · unfold f_K_inheritedOf vlet
    dsimp only
    rw [show nI s * (4 : Int32) = nI (s * 4) from pk_mul s 4, nI_add, if_pos (bIn_nI (by omega) (by decide)), if_pos (bIn_nI (by omega) (by decide)), nI_clamp (by omega), nI_clamp (by omega), show s * 4 + v = 4 * s + v by omega]
  · rw [bt_and, (hX s hs).2 v b hv hb, hg.2.2.2.1 s b hs hb]
theorem x_syn {N : Nat} {g : vA} {σ : vS} (hg : XG g σ) (hw : wfA g) {V : vV} (hX : XV g V σ) {s v : Nat} (hs : s < gns g) (hv : v < 4) : ∃ z, f_K_synthesizedOf N σ (nI s) (nI v) = some (z, σ) ∧ ∀ b, b < 32 → bt z b = (decide (b < gna g s) && decide (V.2 s b = v) && !gih g s b) := by
  have h6 := hw.1
  refine ⟨σ.2 15 (4 * s + v) &&& (σ.2 1 s ^^^ (-1)), ?_, fun b hb => ?_⟩
  · unfold f_K_synthesizedOf vlet
    dsimp only
    rw [show nI s * (4 : Int32) = nI (s * 4) from pk_mul s 4, nI_add, if_pos (bIn_nI (by omega) (by decide)), if_pos (bIn_nI (by omega) (by decide)), nI_clamp (by omega), nI_clamp (by omega), show s * 4 + v = 4 * s + v by omega]
  · rw [bt_and, bt_not hb, (hX s hs).2 v b hv hb, hg.2.2.2.1 s b hs hb]
theorem x_visitsAt {N : Nat} {g : vA} {σ : vS} (hg : XG g σ) (hw : wfA g) {V : vV} (hX : XV g V σ) {p q : Nat} (hp : p < gnp g) (hq : q < gpo g p) : f_Q_visitsAt N σ (nI p) (nI q) = some (nI (vP g V p q), σ) := by
  have h6 := hw.1
  have hs := hw.2.2.2.2.2.1 p q hp hq
  unfold f_Q_visitsAt vlet
  dsimp only
  rw [x_symbolAt hg hw hp hq, Option.bind_some]
  dsimp only
  rw [if_pos (bIn_nI (by omega) (by decide)), nI_clamp (by omega), (hX _ hs).1]
  rfl
/-- a search's answer as an int -/
def oI (o : Option Nat) : Int32 := match o with
  | some j => nI j
  | none => -1
theorem lst_s {f : Nat → Bool} {m i : Nat} (h : i < m) : lst f (m - i) i = if f i = true then some i else lst f (m - (i + 1)) (i + 1) := by
  rw [show m - i = (m - (i + 1)) + 1 by omega]
  rfl
theorem x_readySet {N : Nat} (hN : 161 ≤ N) {g : vA} {σ : vS} (hg : XG g σ) (hw : wfA g) {V : vV} {p : Nat} {x : pS} (hP : XP g V p x σ) (hp : p < gnp g) : f_Q_readySet N σ (nI p) = some (oI (lst (canS g V p x) 16 0), σ) := by
  have h10 := hw.2.2.2.1
  have loop : ∀ z, (∀ o, o < 32 → bt z o = (dfn g p o && !x.1 o)) → ∀ n o, o ≤ 16 → 16 < o + n → f_Q_readySet_25 N n σ z (nI (16 * p)) (nI o) = some (oI (lst (canS g V p x) (16 - o) o), σ) := by
    intro z hz n
    induction n with
    | zero => intro o h1 h2; omega
    | succ n ih =>
      intro o h1 h2
      rw [f_Q_readySet_25]
      dsimp only
      by_cases ho : o = 16
      · subst ho
        rw [if_pos (show (16 : Int32) ≤ nI 16 from nI_le (a := 16) (b := 16) (by decide) (by decide))]
        rfl
      · rw [if_neg (show ¬ (16 : Int32) ≤ nI o from nI_ge (a := o) (b := 16) (by omega) (by decide)), f_holds (by omega), Option.bind_some, hz o (by omega), lst_s (show o < 16 by omega)]
        have go : canS g V p x o = false → f_Q_readySet_66 N (f_Q_readySet_25 N n) σ z (nI (16 * p)) (nI o) = some (oI (if canS g V p x o = true then some o else lst (canS g V p x) (16 - (o + 1)) (o + 1)), σ) := fun h9 => by
          unfold f_Q_readySet_66
          rw [nI_1, h9, if_neg (by decide)]
          exact ih (o + 1) (by omega) (by omega)
        cases hd : (dfn g p o && !x.1 o)
        · rw [if_pos (by decide)]
          refine go ?_
          unfold canS
          rw [← Bool.and_assoc, hd, Bool.false_and]
        · rw [if_neg (by decide), nI_add, if_pos (bIn_nI (by omega) (by decide))]
          unfold vlet
          dsimp only
          rw [nI_clamp (by omega)]
          have hu : ∀ i, i < 32 → bt (σ.2 10 (16 * p + o)) i = (decide (i < 16) && usd g p i o) := fun i hi => hg.2.2.2.2.2.2.2.2.2.2.1 p o i hp (by omega) hi
          have ec : canS g V p x o = allB (fun u => !usd g p u o || knA g V p x u) 16 := by
            unfold canS
            rw [← Bool.and_assoc, hd, Bool.true_and]
          rcases f_holdsAll (N := N) (x := σ.1 7) (y := σ.2 10 (16 * p + o)) with ⟨e1, e2⟩ | ⟨e1, e2⟩
          · rw [e1, Option.bind_some, if_neg (by decide)]
            have : canS g V p x o = true := by
              rw [ec]
              refine (allB_iff 16).mpr (fun u hu16 => ?_)
              cases h9 : usd g p u o
              · rfl
              · have h8 := e2 u (by omega) (by rw [hu u (by omega), h9, decide_eq_true hu16]; rfl)
                rw [hP.2.1 u (by omega), Bool.and_eq_true] at h8
                rw [h8.2]; rfl
            rw [this, if_pos rfl]
            rfl
          · rw [e1, Option.bind_some, if_pos rfl]
            refine go ?_
            rw [ec]
            cases h9 : allB (fun u => !usd g p u o || knA g V p x u) 16
            · rfl
            · refine absurd (fun i hi h8 => ?_) e2
              rw [hu i hi, Bool.and_eq_true] at h8
              have h16 := of_decide_eq_true h8.1
              have h7 := (allB_iff 16).mp h9 i h16
              rw [h8.2] at h7
              rw [hP.2.1 i hi, (usd_occ hw hp h16 (by omega) h8.2).1]
              exact h7
  unfold f_Q_readySet
  rw [if_pos (bIn_nI (by omega) (by decide))]
  unfold vlet
  dsimp only
  rw [nI_clamp (by omega), show nI p * (16 : Int32) = nI (p * 16) from pk_mul _ 16, show p * 16 = 16 * p by omega]
  exact loop _ (fun o ho => by rw [bt_and, bt_not ho, hg.2.2.2.2.2.2.2.1 p o hp ho, hP.1 o ho]) N 0 (by omega) (by omega)
/-- being prepared, by the bits that are needed -/
theorem prep_bits {g : vA} (hw : wfA g) {V : vV} {p : Nat} {x : pS} {q v : Nat} (hp : p < gnp g) (hq : q < gpo g p) {y : Int32} (hy : ∀ o, o < 32 → bt y o = x.1 o) {z : Int32} (hz : ∀ o, o < 32 → bt z o = (decide (4 * q ≤ o ∧ o < 4 * q + 4) && (dfn g p o && decide (wP g V p o = v)))) : (∀ i, i < 32 → bt z i = true → bt y i = true) ↔ prepA g V p x q v = true := by
  have h5 := hw.2.2.2.2.1 p hp
  unfold prepA
  rw [allB_iff]
  refine ⟨fun h j hj => ?_, fun h i hi hzt => ?_⟩
  · cases e1 : dfn g p (4 * q + j)
    · rfl
    · by_cases e2 : wP g V p (4 * q + j) = v
      · have := h (4 * q + j) (by omega) (by rw [hz _ (by omega), e1, decide_eq_true e2, decide_eq_true (show 4 * q ≤ 4 * q + j ∧ 4 * q + j < 4 * q + 4 by omega)]; rfl)
        rw [hy _ (by omega)] at this
        rw [this]; rfl
      · rw [decide_eq_true e2, Bool.or_true, Bool.or_true]
  · rw [hz i hi, Bool.and_eq_true, Bool.and_eq_true, decide_eq_true_iff, decide_eq_true_iff] at hzt
    obtain ⟨h1, h2, h3⟩ := hzt
    have := h (i - 4 * q) (by omega)
    rw [show 4 * q + (i - 4 * q) = i by omega, h2, decide_eq_false (show ¬ wP g V p i ≠ v from fun h9 => h9 h3), Bool.or_false] at this
    rw [hy i hi]
    exact this
theorem wP_q {g : vA} {V : vV} {p q a : Nat} (ha : a < 4) : wP g V p (4 * q + a) = V.2 (gsy g p q) a := by
  unfold wP
  rw [show (4 * q + a) / 4 = q by omega, show (4 * q + a) % 4 = a by omega]
theorem dfn_q {g : vA} (hw : wfA g) {p q a : Nat} (hp : p < gnp g) (hq : q < gpo g p) (ha : a < 4) : dfn g p (4 * q + a) = (decide (a < gna g (gsy g p q)) && (gih g (gsy g p q) a == decide (1 ≤ q))) := by
  have h5 := hw.2.2.2.2.1 p hp
  unfold dfn occ
  rw [show (4 * q + a) / 4 = q by omega, show (4 * q + a) % 4 = a by omega, decide_eq_true (show 4 * q + a < 4 * gpo g p by omega), Bool.true_and, decide_eq_decide.mpr (show 4 ≤ 4 * q + a ↔ 1 ≤ q by omega)]
theorem occ_q2 {g : vA} {p q a : Nat} (hq : q < gpo g p) (ha : a < 4) : occ g p (4 * q + a) = decide (a < gna g (gsy g p q)) := by
  unfold occ
  rw [show (4 * q + a) / 4 = q by omega, show (4 * q + a) % 4 = a by omega, decide_eq_true (show 4 * q + a < 4 * gpo g p by omega), Bool.true_and]
theorem x_readyVisit_2 {N : Nat} {g : vA} {σ : vS} (hg : XG g σ) (hw : wfA g) {V : vV} (hV : HV g V) (hX : XV g V σ) {p : Nat} {x : pS} (hx : INVP g V p x) (hP : XP g V p x σ) (hp : p < gnp g) : ∀ n q, 1 ≤ q → q ≤ gpo g p → gpo g p < q + n → f_Q_readyVisit_2 N n σ (nI p) (nI q) = some (oI (lst (canG g V p x) (gpo g p - q) q), σ) := by
  have h10 := hw.2.2.2.1
  have h5 := hw.2.2.2.2.1 p hp
  intro n
  induction n with
  | zero => intro q h0 h1 h2; omega
  | succ n ih =>
    intro q h0 h1 h2
    rw [f_Q_readyVisit_2]
    dsimp only
    unfold vlet
    dsimp only
    rw [if_pos (bIn_nI (by omega) (by decide)), nI_clamp (by omega), hg.2.2.2.2.1 p hp]
    by_cases hq : q = gpo g p
    · subst hq
      rw [if_pos (nI_lt (by omega) (by omega)), Nat.sub_self]
      rfl
    · have hs := hw.2.2.2.2.2.1 p q hp (by omega)
      have h4 := hw.2.1 _ hs
      have hv3 : vP g V p q ≤ 3 := (hV _ hs).2.1
      have hx2 := hx.2.1 q (by omega)
      rw [if_neg (nI_nlt (by omega) (by omega)), if_pos (bIn_nI (by omega) (by decide)), nI_clamp (by omega), hP.2.2 q (by omega), x_visitsAt hg hw hX hp (by omega), Option.bind_some, lst_s (show q < gpo g p by omega), nI_1]
      dsimp only
      have go : canG g V p x q = false → f_Q_readyVisit_75 N (f_Q_readyVisit_2 N n) σ (nI p) (nI q) = some (oI (if canG g V p x q = true then some q else lst (canG g V p x) (gpo g p - (q + 1)) (q + 1)), σ) := fun h9 => by
        unfold f_Q_readyVisit_75
        rw [nI_1, h9, if_neg (by decide)]
        exact ih (q + 1) (by omega) (by omega) (by omega)
      by_cases hl : x.2 q + 1 ≤ vP g V p q
      · rw [if_neg (nI_nlt hl (by omega)), x_symbolAt hg hw hp (by omega), Option.bind_some]
        dsimp only
        obtain ⟨z, hz, hzb⟩ := x_inh (N := N) (s := gsy g p q) (v := x.2 q + 1) hg hw hX hs (by omega)
        rw [hz, Option.bind_some]
        dsimp only
        rw [show nI q * (4 : Int32) = nI (q * 4) from pk_mul _ 4]
        have hbits : ∀ o, o < 32 → bt (z <<< (nI (q * 4) &&& 31)) o = (decide (4 * q ≤ o ∧ o < 4 * q + 4) && (dfn g p o && decide (wP g V p o = x.2 q + 1))) := fun o ho => by
          rw [bt_shl (by omega), decide_eq_true ho, Bool.true_and]
          by_cases hlt : o < q * 4
          · rw [decide_eq_true hlt, decide_eq_false (show ¬ (4 * q ≤ o ∧ o < 4 * q + 4) by omega)]; rfl
          · rw [decide_eq_false hlt, Bool.not_false, Bool.true_and, hzb (o - q * 4) (by omega)]
            by_cases hge : o < 4 * q + 4
            · have e := dfn_q (a := o - q * 4) hw hp (show q < gpo g p by omega) (by omega)
              have e2 := wP_q (g := g) (V := V) (p := p) (q := q) (a := o - q * 4) (by omega)
              rw [show 4 * q + (o - q * 4) = o by omega] at e e2
              rw [e, e2, decide_eq_true (show 4 * q ≤ o ∧ o < 4 * q + 4 by omega), decide_eq_true h0, Bool.true_and]
              cases decide (o - q * 4 < gna g (gsy g p q)) <;> cases decide (V.2 (gsy g p q) (o - q * 4) = x.2 q + 1) <;> cases gih g (gsy g p q) (o - q * 4) <;> rfl
            · rw [decide_eq_false (show ¬ (4 * q ≤ o ∧ o < 4 * q + 4) by omega), decide_eq_false (show ¬ o - q * 4 < gna g (gsy g p q) by omega)]; rfl
        have hpr := prep_bits (V := V) (x := x) (v := x.2 q + 1) hw hp (show q < gpo g p by omega) hP.1 hbits
        have ec : canG g V p x q = prepA g V p x q (x.2 q + 1) := by
          unfold canG
          rw [decide_eq_true hl, Bool.true_and]
        rcases f_holdsAll (N := N) (x := σ.1 6) (y := z <<< (nI (q * 4) &&& 31)) with ⟨e1, e2⟩ | ⟨e1, e2⟩
        · rw [e1, Option.bind_some, if_neg (by decide), ec, hpr.mp e2, if_pos rfl]
          rfl
        · rw [e1, Option.bind_some, if_pos rfl]
          refine go ?_
          rw [ec]
          cases h9 : prepA g V p x q (x.2 q + 1)
          · rfl
          · exact absurd (hpr.mpr h9) e2
      · rw [if_pos (nI_lt (by omega) (by omega))]
        refine go ?_
        unfold canG
        rw [decide_eq_false hl, Bool.false_and]
theorem x_leaveReady {N : Nat} {g : vA} {σ : vS} (hg : XG g σ) (hw : wfA g) {V : vV} (hV : HV g V) (hX : XV g V σ) {p : Nat} {x : pS} (hx : INVP g V p x) (hP : XP g V p x σ) (hp : p < gnp g) (y : Bool) : f_Q_isLeaveReady N σ (nI p) (b01 y) = some (b01 (canG g V p x 0 && (decide (x.2 0 + 1 < vP g V p 0) || y)), σ) := by
  have h5 := hw.2.2.2.2.1 p hp
  have hs := hw.2.2.2.2.2.1 p 0 hp (by omega)
  have h4 := hw.2.1 _ hs
  have hv3 : vP g V p 0 ≤ 3 := (hV _ hs).2.1
  have hx2 := hx.2.1 0 (by omega)
  unfold f_Q_isLeaveReady vlet
  have z0 : ((0 : Int32)).toNatClampNeg = 0 := rfl
  have va : f_Q_visitsAt N σ (nI p) 0 = some (nI (vP g V p 0), σ) := x_visitsAt (q := 0) hg hw hX hp (by omega)
  rw [if_pos (by decide), z0, hP.2.2 0 (by decide)]
  dsimp only
  rw [nI_1, va, Option.bind_some]
  dsimp only
  by_cases hl : x.2 0 + 1 ≤ vP g V p 0
  · have h33 : f_Q_isLeaveReady_33 N σ (nI p) (nI (x.2 0 + 1)) = some (b01 (canG g V p x 0), σ) := by
      have sa0 : f_G_symbolAt N σ (nI p) 0 = some (nI (gsy g p 0), σ) := x_symbolAt (q := 0) hg hw hp (by omega)
      unfold f_Q_isLeaveReady_33
      rw [sa0, Option.bind_some]
      dsimp only
      obtain ⟨z, hz, hzb⟩ := x_syn (N := N) (s := gsy g p 0) (v := x.2 0 + 1) hg hw hX hs (by omega)
      rw [hz, Option.bind_some]
      dsimp only
      have hbits : ∀ o, o < 32 → bt z o = (decide (4 * 0 ≤ o ∧ o < 4 * 0 + 4) && (dfn g p o && decide (wP g V p o = x.2 0 + 1))) := fun o ho => by
        rw [hzb o ho]
        by_cases hge : o < 4
        · have e := dfn_q (a := o) hw hp (show 0 < gpo g p by omega) hge
          have e2 := wP_q (g := g) (V := V) (p := p) (q := 0) (a := o) hge
          rw [show 4 * 0 + o = o by omega] at e e2
          rw [e, e2, decide_eq_true (show 4 * 0 ≤ o ∧ o < 4 * 0 + 4 by omega), decide_eq_false (show ¬ 1 ≤ 0 by omega), Bool.true_and]
          cases decide (o < gna g (gsy g p 0)) <;> cases decide (V.2 (gsy g p 0) o = x.2 0 + 1) <;> cases gih g (gsy g p 0) o <;> rfl
        · rw [decide_eq_false (show ¬ (4 * 0 ≤ o ∧ o < 4 * 0 + 4) by omega), decide_eq_false (show ¬ o < gna g (gsy g p 0) by omega)]; rfl
      have hpr := prep_bits (V := V) (x := x) (v := x.2 0 + 1) hw hp (show 0 < gpo g p by omega) hP.1 hbits
      have ec : canG g V p x 0 = prepA g V p x 0 (x.2 0 + 1) := by
        unfold canG
        rw [decide_eq_true hl, Bool.true_and]
      rcases f_holdsAll (N := N) (x := σ.1 6) (y := z) with ⟨e1, e2⟩ | ⟨e1, e2⟩
      · rw [e1, Option.bind_some, if_neg (by decide), ec, hpr.mp e2]
        rfl
      · rw [e1, Option.bind_some, if_pos rfl, ec]
        cases h9 : prepA g V p x 0 (x.2 0 + 1)
        · rfl
        · exact absurd (hpr.mpr h9) e2
    rw [if_neg (nI_nlt hl (by omega))]
    by_cases hlt : x.2 0 + 1 < vP g V p 0
    · rw [if_pos (nI_lt hlt (by omega)), h33, decide_eq_true hlt, Bool.true_or, Bool.and_true]
    · rw [if_neg (nI_nlt (by omega) (by omega)), decide_eq_false hlt, Bool.false_or]
      cases y
      · rw [if_pos (show b01 false = 0 from rfl), Bool.and_false]; rfl
      · rw [if_neg (by decide), h33, Bool.and_true]
  · rw [if_pos (nI_lt (by omega) (by omega))]
    unfold canG
    rw [decide_eq_false hl, Bool.false_and, Bool.false_and]; rfl
