/-! The class: write, one instruction after another. -/
def FQ (σ τ : vS) : Prop := (∀ k, k ≠ 6 → k ≠ 7 → τ.1 k = σ.1 k) ∧ ∀ a, a ≠ 18 → τ.2 a = σ.2 a
theorem FQ.rf {σ : vS} : FQ σ σ := ⟨fun _ _ _ => rfl, fun _ _ => rfl⟩
theorem knA_no {g : vA} {V : vV} {p : Nat} {x : pS} {o : Nat} (h : dfn g p o = true) : knA g V p x o = x.1 o := by
  unfold knA
  rw [h, Bool.not_true, Bool.false_and, Bool.or_false]
theorem XP.set {g : vA} {V : vV} {p : Nat} {x : pS} {σ : vS} (h : XP g V p x σ) {o : Nat} (ho : o < 16) (hd : dfn g p o = true) : ∃ τ, f_Q_writeSet 0 σ (nI o) = some (nI o, τ) ∧ FQ σ τ ∧ XP g V p (apx x o) τ := by
  refine ⟨sf (sf σ 6 (σ.1 6 ||| ((1 : Int32) <<< (nI o &&& 31)))) 7 ((sf σ 6 (σ.1 6 ||| ((1 : Int32) <<< (nI o &&& 31)))).1 7 ||| ((1 : Int32) <<< (nI o &&& 31))), rfl, ⟨fun k k6 k7 => by rw [sf_1n k7, sf_1n k6], fun a _ => rfl⟩, ?_⟩
  have ea : apx x o = (fun k => x.1 k || decide (k = o), x.2) := if_pos (by omega)
  rw [ea]
  refine ⟨fun k hk => ?_, fun k hk => ?_, h.2.2⟩
  · rw [sf_1n (by decide), sf_1, bt_or, h.1 k hk, bt_one (by omega) hk]
  · rw [sf_1, sf_1n (by decide), bt_or, h.2.1 k hk, bt_one (by omega) hk]
    by_cases e : k = o
    · rw [e, decide_eq_true (rfl : o = o), Bool.or_true, dfn_occ hd, knA_no hd]
      show true = (true && (x.1 o || decide (o = o)))
      rw [decide_eq_true rfl, Bool.or_true]; rfl
    · rw [decide_eq_false e, Bool.or_false]
      unfold knA
      show _ = (occ g p k && ((x.1 k || decide (k = o)) || _))
      rw [decide_eq_false e, Bool.or_false]
theorem ih_ndf {g : vA} (hw : wfA g) {p q a : Nat} (hp : p < gnp g) (hq : q < gpo g p) (ha : a < 4) (hn : a < gna g (gsy g p q)) : dfn g p (4 * q + a) = (gih g (gsy g p q) a == decide (1 ≤ q)) := by
  rw [dfn_q hw hp hq ha, decide_eq_true hn, Bool.true_and]
theorem x_writeVisit {N : Nat} {g : vA} {σ : vS} (hg : XG g σ) (hw : wfA g) {V : vV} (hV : HV g V) (hX : XV g V σ) {p : Nat} {x : pS} (hP : XP g V p x σ) (hp : p < gnp g) {q : Nat} (hq1 : 1 ≤ q) (hq : q < gpo g p) (hl : x.2 q + 1 ≤ vP g V p q) : Ok (f_Q_writeVisit N σ (nI p) (nI q)) (fun v => v.1 = nI (100 * q + x.2 q + 1) ∧ FQ σ v.2 ∧ XP g V p (apx x (100 * q + x.2 q + 1)) v.2) := by
  have h5 := hw.2.2.2.2.1 p hp
  have hs := hw.2.2.2.2.2.1 p q hp hq
  have h4 := hw.2.1 _ hs
  have hv3 : vP g V p q ≤ 3 := (hV _ hs).2.1
  unfold f_Q_writeVisit
  refine ok_bd (bIn_nI (by omega) (by decide)) (ok_lets (fun i2 e2 => ok_bd (bIn_nI (by omega) (by decide)) (ok_lets (fun σ4 e4 => ?_))))
  rw [nI_clamp (by omega), hP.2.2 q (by omega)] at e2
  rw [nI_clamp (by omega), e2, nI_1] at e4
  have hE : E1 18 σ σ4 := by rw [e4]; exact E1.rf.sa
  have hg4 := hg.e1 hE (by decide)
  have hX4 : XV g V σ4 := fun s hs => by rw [hE.2 14 (by decide), hE.2 15 (by decide)]; exact hX s hs
  rw [x_symbolAt hg4 hw hp hq, Option.bind_some, e2, nI_1]
  dsimp only
  obtain ⟨z, hz, hzb⟩ := x_syn (N := N) (s := gsy g p q) (v := x.2 q + 1) hg4 hw hX4 hs (by omega)
  rw [hz, Option.bind_some, show nI q * (4 : Int32) = nI (q * 4) from pk_mul _ 4]
  refine ok_lets (fun i9 e9 => ok_lets (fun σ10 e10 => ok_lets (fun i11 e11 => ok_some ?_)))
  dsimp only at e9 e10
  rw [show (100 : Int32) * nI q = nI (100 * q) from pk_mul 100 q, nI_add] at e11
  have ea : apx x (100 * q + x.2 q + 1) = (x.1, fun k => if k = q then x.2 k + 1 else x.2 k) := by
    unfold apx
    rw [if_neg (by omega), if_pos (by omega), show (100 * q + x.2 q + 1) / 100 = q by omega]
  dsimp only
  refine ⟨by rw [e11, Nat.add_assoc], ⟨fun k k6 k7 => by rw [e10, sf_1n k7, hE.1], fun a a18 => by rw [e10, sf_2]; exact hE.2 a a18⟩, ?_⟩
  rw [ea]
  refine ⟨fun o ho => by rw [e10, sf_1n (by decide), hE.1]; exact hP.1 o ho, fun o ho => ?_, fun k hk => ?_⟩
  · rw [e10, sf_1, e9, bt_or, hE.1, hP.2.1 o ho, bt_shl (by omega), decide_eq_true ho, Bool.true_and]
    by_cases hb : 4 * q ≤ o ∧ o < 4 * q + 4
    · obtain ⟨a, hae⟩ : ∃ a, a = o - q * 4 := ⟨_, rfl⟩
      have ho4 : o = 4 * q + a := by omega
      have ha : a < 4 := by omega
      rw [decide_eq_false (show ¬ o < q * 4 by omega), Bool.not_false, Bool.true_and, ← hae, hzb a (by omega), ho4, occ_q2 hq ha]
      by_cases hn : a < gna g (gsy g p q)
      · rw [decide_eq_true hn, Bool.true_and, Bool.true_and, Bool.true_and]
        unfold knA
        rw [ih_ndf hw hp hq ha hn, decide_eq_true hq1, wP_q ha, if_neg (show ¬ 4 * q + a < 4 by omega), if_neg (show ¬ 4 * q + a < 4 by omega), show (4 * q + a) / 4 = q by omega]
        show _ = (x.1 (4 * q + a) || (!(gih g (gsy g p q) a == true) && decide (V.2 (gsy g p q) a ≤ (if q = q then x.2 q + 1 else x.2 q))))
        rw [if_pos rfl]
        cases gih g (gsy g p q) a
        · by_cases e : V.2 (gsy g p q) a = x.2 q + 1
          · rw [decide_eq_true e, decide_eq_true (show V.2 (gsy g p q) a ≤ x.2 q + 1 by omega), decide_eq_false (show ¬ V.2 (gsy g p q) a ≤ x.2 q by omega)]
            cases x.1 (4 * q + a) <;> rfl
          · rw [decide_eq_false e, decide_eq_decide.mpr (show V.2 (gsy g p q) a ≤ x.2 q ↔ V.2 (gsy g p q) a ≤ x.2 q + 1 by omega)]
            cases x.1 (4 * q + a) <;> cases decide (V.2 (gsy g p q) a ≤ x.2 q + 1) <;> rfl
        · rw [Bool.not_true, Bool.and_false, Bool.or_false]
          rfl
      · rw [decide_eq_false hn]; rfl
    · have e0 : (!decide (o < q * 4) && bt z (o - q * 4)) = false := by
        by_cases h9 : o < q * 4
        · rw [decide_eq_true h9]; rfl
        · rw [hzb _ (by omega), decide_eq_false (show ¬ o - q * 4 < gna g (gsy g p q) by omega), Bool.false_and, Bool.false_and, Bool.and_false]
      rw [e0, Bool.or_false]
      unfold knA
      show _ = (occ g p o && (x.1 o || (!dfn g p o && decide (wP g V p o ≤ (if o < 4 then (if 0 = q then x.2 0 + 1 else x.2 0) + 1 else (if o / 4 = q then x.2 (o / 4) + 1 else x.2 (o / 4)))))))
      rw [if_neg (show ¬ 0 = q by omega), if_neg (show ¬ o / 4 = q by omega)]
  · show σ10.2 18 k = nI (if k = q then x.2 k + 1 else x.2 k)
    rw [e10, sf_2, e4]
    by_cases e : k = q
    · rw [e, if_pos rfl, sa_2]
    · rw [if_neg e, sa_2n e]; exact hP.2.2 k hk
theorem x_writeLeave {N : Nat} {g : vA} {σ : vS} (hg : XG g σ) (hw : wfA g) {V : vV} (hV : HV g V) (hX : XV g V σ) {p : Nat} {x : pS} (hP : XP g V p x σ) (hp : p < gnp g) (hl : x.2 0 + 1 ≤ vP g V p 0) : Ok (f_Q_writeLeave N σ (nI p)) (fun v => v.1 = nI (1000 + x.2 0 + 1) ∧ FQ σ v.2 ∧ XP g V p (apx x (1000 + x.2 0 + 1)) v.2) := by
  have h5 := hw.2.2.2.2.1 p hp
  have hs := hw.2.2.2.2.2.1 p 0 hp (by omega)
  have h4 := hw.2.1 _ hs
  have hv3 : vP g V p 0 ≤ 3 := (hV _ hs).2.1
  unfold f_Q_writeLeave
  have z0 : ((0 : Int32)).toNatClampNeg = 0 := rfl
  refine ok_bd (by decide) (ok_lets (fun i2 e2 => ok_bd (by decide) (ok_lets (fun σ4 e4 => ?_))))
  rw [z0, hP.2.2 0 (by decide)] at e2
  rw [z0, e2, nI_1] at e4
  have hE : E1 18 σ σ4 := by rw [e4]; exact E1.rf.sa
  have hg4 := hg.e1 hE (by decide)
  have hX4 : XV g V σ4 := fun s hs => by rw [hE.2 14 (by decide), hE.2 15 (by decide)]; exact hX s hs
  have ea : apx x (1000 + x.2 0 + 1) = (x.1, fun k => if k = 0 then x.2 k + 1 else x.2 k) := by
    unfold apx
    rw [if_neg (by omega), if_neg (by omega)]
  have fin : ∀ υ : vS, (∀ k, k ≠ 7 → υ.1 k = σ4.1 k) → υ.2 = σ4.2 → (∀ o, o < 32 → bt (υ.1 7) o = ((occ g p o && knA g V p x o) || (decide (o < gna g (gsy g p 0)) && decide (V.2 (gsy g p 0) o = x.2 0 + 2) && gih g (gsy g p 0) o))) → Ok (f_Q_writeLeave_50 N υ (nI (x.2 0 + 1))) (fun v => v.1 = nI (1000 + x.2 0 + 1) ∧ FQ σ v.2 ∧ XP g V p (apx x (1000 + x.2 0 + 1)) v.2) := by
    intro υ u1 u2 u3
    unfold f_Q_writeLeave_50
    refine ok_some ⟨by rw [show (1000 : Int32) + nI (x.2 0 + 1) = nI (1000 + (x.2 0 + 1)) from nI_add 1000 _, Nat.add_assoc], ⟨fun k k6 k7 => by rw [u1 k k7, hE.1], fun a a18 => by rw [u2]; exact hE.2 a a18⟩, ?_⟩
    rw [ea]
    refine ⟨fun o ho => by rw [u1 6 (by decide), hE.1]; exact hP.1 o ho, fun o ho => ?_, fun k hk => ?_⟩
    · rw [u3 o ho]
      unfold knA
      show _ = (occ g p o && (x.1 o || (!dfn g p o && decide (wP g V p o ≤ (if o < 4 then (if (0 : Nat) = 0 then x.2 0 + 1 else x.2 0) + 1 else (if o / 4 = 0 then x.2 (o / 4) + 1 else x.2 (o / 4)))))))
      rw [if_pos (rfl : (0 : Nat) = 0)]
      by_cases ho4 : o < 4
      · have e := occ_q2 (g := g) (p := p) (q := 0) (a := o) (by omega) ho4
        have ew := wP_q (g := g) (V := V) (p := p) (q := 0) (a := o) ho4
        rw [show 4 * 0 + o = o by omega] at e ew
        rw [if_pos ho4, if_pos ho4, e, ew]
        by_cases hn : o < gna g (gsy g p 0)
        · have ed := ih_ndf (a := o) hw hp (show 0 < gpo g p by omega) ho4 hn
          rw [show 4 * 0 + o = o by omega, decide_eq_false (show ¬ 1 ≤ 0 by omega)] at ed
          rw [ed, decide_eq_true hn, Bool.true_and, Bool.true_and, Bool.true_and]
          cases gih g (gsy g p 0) o
          · rw [Bool.and_false, Bool.or_false]; rfl
          · by_cases e9 : V.2 (gsy g p 0) o = x.2 0 + 2
            · rw [decide_eq_true e9, decide_eq_true (show V.2 (gsy g p 0) o ≤ x.2 0 + 1 + 1 by omega)]
              cases x.1 o <;> cases decide (V.2 (gsy g p 0) o ≤ x.2 0 + 1) <;> rfl
            · rw [decide_eq_false e9, decide_eq_decide.mpr (show V.2 (gsy g p 0) o ≤ x.2 0 + 1 ↔ V.2 (gsy g p 0) o ≤ x.2 0 + 1 + 1 by omega)]
              cases x.1 o <;> cases decide (V.2 (gsy g p 0) o ≤ x.2 0 + 1 + 1) <;> rfl
        · rw [decide_eq_false hn]; rfl
      · rw [if_neg ho4, if_neg ho4, if_neg (show ¬ o / 4 = 0 by omega), decide_eq_false (show ¬ o < gna g (gsy g p 0) by omega), Bool.false_and, Bool.false_and, Bool.or_false]
    · show υ.2 18 k = nI (if k = 0 then x.2 k + 1 else x.2 k)
      rw [u2, e4]
      by_cases e : k = 0
      · rw [e, if_pos rfl, sa_2]
      · rw [if_neg e, sa_2n e]; exact hP.2.2 k hk
  have va : f_Q_visitsAt N σ4 (nI p) 0 = some (nI (vP g V p 0), σ4) := x_visitsAt (q := 0) hg4 hw hX4 hp (by omega)
  have sa0 : f_G_symbolAt N σ4 (nI p) 0 = some (nI (gsy g p 0), σ4) := x_symbolAt (q := 0) hg4 hw hp (by omega)
  rw [va, Option.bind_some, e2, nI_1]
  dsimp only
  by_cases hlt : x.2 0 + 1 < vP g V p 0
  · rw [if_neg (nI_ge hlt (by omega)), sa0, Option.bind_some, nI_1]
    dsimp only
    obtain ⟨z, hz, hzb⟩ := x_inh (N := N) (s := gsy g p 0) (v := x.2 0 + 1 + 1) hg4 hw hX4 hs (by omega)
    rw [hz, Option.bind_some]
    refine ok_lets (fun σ12 e12 => ?_)
    dsimp only at e12
    refine fin σ12 (fun k k7 => by rw [e12, sf_1n k7]) (by rw [e12, sf_2]) (fun o ho => ?_)
    rw [e12, sf_1, bt_or, hE.1, hP.2.1 o ho, hzb o ho]
  · rw [if_pos (nI_le (by omega) (by omega))]
    refine fin σ4 (fun _ _ => rfl) rfl (fun o ho => ?_)
    rw [hE.1, hP.2.1 o ho]
    by_cases hn : o < gna g (gsy g p 0)
    · have hwo := (hV _ hs).2.2 o hn
      have hv0 : vP g V p 0 = V.1 (gsy g p 0) := rfl
      rw [decide_eq_false (show ¬ V.2 (gsy g p 0) o = x.2 0 + 2 by omega), Bool.and_false, Bool.false_and, Bool.or_false]
    · rw [decide_eq_false hn, Bool.false_and, Bool.false_and, Bool.or_false]
theorem x_writeNext {N : Nat} (hN : 161 ≤ N) {g : vA} {σ : vS} (hg : XG g σ) (hw : wfA g) {V : vV} (hV : HV g V) (hX : XV g V σ) {p : Nat} {x : pS} (hx : INVP g V p x) (hP : XP g V p x σ) (hp : p < gnp g) {i : Nat} (hi : nxF g V p x = some i) {y : Bool} (hy : x.2 0 + 1 = vP g V p 0 → i = 1000 + x.2 0 + 1 → y = true) : Ok (f_Q_writeNext N σ (nI p) (b01 y)) (fun v => v.1 = nI i ∧ FQ σ v.2 ∧ XP g V p (apx x i) v.2) := by
  have h5 := hw.2.2.2.2.1 p hp
  unfold f_Q_writeNext
  rw [x_readySet hN hg hw hP hp, Option.bind_some]
  dsimp only
  unfold nxF at hi
  cases e1 : lst (canS g V p x) 16 0 with
  | some o =>
    rw [e1] at hi
    have hoi : o = i := Option.some.inj hi
    subst hoi
    obtain ⟨a1, a2, a3, a4⟩ := lst_some 16 0 o e1
    obtain ⟨τ, t1, t2, t3⟩ := hP.set (show o < 16 by omega) (canS_d a3).1
    rw [if_neg (show ¬ oI (some o) = -1 from nI_nm1 (by omega))]
    have t1 : f_Q_writeSet N σ (oI (some o)) = some (nI o, τ) := t1
    rw [t1, Option.bind_some]
    exact ok_some ⟨rfl, t2, t3⟩
  | none =>
    rw [e1] at hi
    rw [if_pos (show oI none = -1 from rfl)]
    have rv : f_Q_readyVisit N σ (nI p) = some (oI (lst (canG g V p x) (gpo g p - 1) 1), σ) := x_readyVisit_2 hg hw hV hX hx hP hp N 1 (by omega) (by omega) (by omega)
    rw [rv, Option.bind_some]
    dsimp only
    dsimp only at hi
    cases e2 : lst (canG g V p x) (gpo g p - 1) 1 with
    | some q =>
      rw [e2] at hi
      have hi : some (100 * q + x.2 q + 1) = some i := hi
      cases hi
      obtain ⟨a1, a2, a3, a4⟩ := lst_some _ 1 q e2
      have hl : x.2 q + 1 ≤ vP g V p q := by
        unfold canG at a3
        rw [Bool.and_eq_true] at a3
        exact of_decide_eq_true a3.1
      rw [if_neg (show ¬ oI (some q) = -1 from nI_nm1 (by omega))]
      exact ok_bi (x_writeVisit hg hw hV hX hP hp (by omega) (by omega) hl) (fun r hr => ok_some hr)
    | none =>
      rw [e2] at hi
      have hi : (if canG g V p x 0 = true then some (1000 + x.2 0 + 1) else none) = some i := hi
      rw [if_pos (show oI none = -1 from rfl), x_leaveReady hg hw hV hX hx hP hp y, Option.bind_some]
      dsimp only
      cases e3 : canG g V p x 0
      · rw [e3, if_neg (by decide)] at hi
        cases hi
      · rw [e3, if_pos rfl] at hi
        cases hi
        have hl : x.2 0 + 1 ≤ vP g V p 0 := by
          unfold canG at e3
          rw [Bool.and_eq_true] at e3
          exact of_decide_eq_true e3.1
        have : (true && (decide (x.2 0 + 1 < vP g V p 0) || y)) = true := by
          by_cases h9 : x.2 0 + 1 < vP g V p 0
          · rw [decide_eq_true h9]; rfl
          · rw [hy (by omega) rfl, Bool.or_true]; rfl
        rw [this, if_neg (by decide)]
        exact ok_bi (x_writeLeave hg hw hV hX hP hp hl) (fun r hr => ok_some hr)
theorem x_beginWriting {N : Nat} {g : vA} {σ : vS} (hg : XG g σ) (hw : wfA g) {V : vV} (hV : HV g V) (hX : XV g V σ) {p : Nat} (hp : p < gnp g) : Ok (f_Q_beginWriting N σ (nI p)) (fun v => FQ σ v.2 ∧ XP g V p px0 v.2) := by
  have h5 := hw.2.2.2.2.1 p hp
  have hs := hw.2.2.2.2.2.1 p 0 hp (by omega)
  have h4 := hw.2.1 _ hs
  unfold f_Q_beginWriting
  refine ok_lets (fun σ1 e1 => ok_lets (fun σ2 e2 => ?_))
  have k2 : ∀ k, k ≠ 6 → σ2.1 k = σ.1 k := fun k k6 => by rw [e2, sf_1n k6, e1]; rfl
  have a2 : ∀ a, a ≠ 18 → σ2.2 a = σ.2 a := fun a a18 => by rw [e2, sf_2, e1, sfill_2a a18]
  have hg2 : XG g σ2 := hg.stay (k2 0 (by decide)) (k2 1 (by decide)) (fun a ha => a2 a (by omega))
  have hX2 : XV g V σ2 := fun s hs => by rw [a2 14 (by decide), a2 15 (by decide)]; exact hX s hs
  have sa0 : f_G_symbolAt N σ2 (nI p) 0 = some (nI (gsy g p 0), σ2) := x_symbolAt (q := 0) hg2 hw hp (by omega)
  rw [sa0, Option.bind_some]
  dsimp only
  obtain ⟨z, hz, hzb⟩ := x_inh (N := N) (s := gsy g p 0) (v := 1) hg2 hw hX2 hs (by decide)
  have hz : f_K_inheritedOf N σ2 (nI (gsy g p 0)) 1 = some (z, σ2) := hz
  rw [hz, Option.bind_some]
  refine ok_lets (fun σ7 e7 => ok_some ?_)
  dsimp only at e7
  dsimp only
  refine ⟨⟨fun k k6 k7 => by rw [e7, sf_1n k7]; exact k2 k k6, fun a a18 => by rw [e7, sf_2]; exact a2 a a18⟩, fun o ho => ?_, fun o ho => ?_, fun q hq => ?_⟩
  · rw [e7, sf_1n (by decide), e2, sf_1, bt_0]; rfl
  · rw [e7, sf_1, hzb o ho]
    unfold knA
    show _ = (occ g p o && (false || (!dfn g p o && decide (wP g V p o ≤ (if o < 4 then 0 + 1 else 0)))))
    by_cases ho4 : o < 4
    · have e := occ_q2 (g := g) (p := p) (q := 0) (a := o) (by omega) ho4
      have ew := wP_q (g := g) (V := V) (p := p) (q := 0) (a := o) ho4
      rw [show 4 * 0 + o = o by omega] at e ew
      rw [if_pos ho4, e, ew]
      by_cases hn : o < gna g (gsy g p 0)
      · have ed := ih_ndf (a := o) hw hp (show 0 < gpo g p by omega) ho4 hn
        rw [show 4 * 0 + o = o by omega, decide_eq_false (show ¬ 1 ≤ 0 by omega)] at ed
        have hwo := (hV _ hs).2.2 o hn
        rw [ed, decide_eq_true hn, Bool.true_and, Bool.true_and, decide_eq_decide.mpr (show V.2 (gsy g p 0) o = 1 ↔ V.2 (gsy g p 0) o ≤ 0 + 1 by omega)]
        cases gih g (gsy g p 0) o <;> cases decide (V.2 (gsy g p 0) o ≤ 0 + 1) <;> rfl
      · rw [decide_eq_false hn]; rfl
    · rw [if_neg ho4, decide_eq_false (show ¬ o < gna g (gsy g p 0) by omega), Bool.false_and, Bool.false_and]
      cases hoc : occ g p o
      · rfl
      · have hq := occ_q hoc
        have hwo := (hV _ (hw.2.2.2.2.2.1 p (o / 4) hp hq)).2.2 (o % 4) (occ_iff.mp hoc).2
        have hwo : 1 ≤ wP g V p o := hwo.1
        rw [decide_eq_false (show ¬ wP g V p o ≤ 0 by omega), Bool.and_false]; rfl
  · rw [e7, sf_2, e2, sf_2, e1, sfill_2]; rfl
