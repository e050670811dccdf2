/-! Both sides at once. -/
def HOLD (σx σm : vS) : Prop := (∀ j, σx.2 23 j = σm.2 24 j) ∧ ∀ j, σx.2 24 j = σm.2 23 j
def BASE (g : vA) (t : vT) (σx σm : vS) : Prop := wfA g ∧ wfT g t ∧ XG g σx ∧ MG g σm ∧ XT t σx ∧ MT t σm ∧ HOLD σx σm
def IDLE (σx σm : vS) : Prop := σx.1 9 = 0 ∧ σm.1 8 = -1 ∧ σm.1 9 = -1 ∧ ∀ j, j < 160 → σm.2 22 j = 0
def KNW (b : Nat) (σx σm : vS) : Prop := (∀ n a, n < 40 → a < 4 → σm.2 22 (4 * n + a) = b01 (bt (σx.2 25 n) a)) ∧ ∀ n a, b ≤ n → n < 40 → a < 4 → bt (σx.2 25 n) a = false
def GOES (g : vA) (V : vV) (t : vT) (σx σm : vS) : Prop := ∃ root b h r k, RUN g V t root b (h :: r) k ∧ KNW b σx σm ∧ σx.1 9 = 1 ∧ σx.1 10 = nI root ∧ σx.1 11 = nI h ∧ σm.1 8 = nI root ∧ σm.1 9 = nI h ∧ ∀ n, n < b → σx.2 26 n = nI (k n) ∧ σm.2 21 n = nI (k n)
def ENDED (t : vT) (σx σm : vS) : Prop := ∃ root b, root < b ∧ b ≤ tN t ∧ KNW b σx σm ∧ σx.1 9 = 2 ∧ σm.1 8 = nI root ∧ σm.1 9 = -1
def INV (g : vA) (t : vT) (σx σm : vS) : Prop := BASE g t σx σm ∧ ((σx.1 2 = 0 ∧ σm.1 3 = 0 ∧ IDLE σx σm) ∨ (σx.1 2 = 1 ∧ σm.1 3 = 1 ∧ ∃ S, AN g S σx σm ∧ (IDLE σx σm ∨ GOES g (VW g S) t σx σm ∨ ENDED t σx σm)))
theorem AN.stay {g : vA} {S : vL} {σx σm σx' σm' : vS} (h : AN g S σx σm) (hx : ∀ a, 13 ≤ a → a < 18 → σx'.2 a = σx.2 a) (hm : ∀ a, 11 ≤ a → a < 15 → σm'.2 a = σm.2 a) : AN g S σx' σm' := by
  obtain ⟨h1, h2, h3, h4, h5, h6⟩ := h
  refine ⟨h1, h2, h3.eq (hx 13 (by decide) (by decide)) (hx 14 (by decide) (by decide)) (hx 15 (by decide) (by decide)), fun p hp => ?_, h5.tr15 (hm 11 (by decide) (by decide)) (hm 12 (by decide) (by decide)), fun p hp => ?_⟩
  · rw [hx 16 (by decide) (by decide), hx 17 (by decide) (by decide)]; exact h4 p hp
  · rw [hm 13 (by decide) (by decide), hm 14 (by decide) (by decide)]; exact h6 p hp
theorem BASE.stay {g : vA} {t : vT} {σx σm σx' σm' : vS} (h : BASE g t σx σm) (x0 : σx'.1 0 = σx.1 0) (x1 : σx'.1 1 = σx.1 1) (x8 : σx'.1 8 = σx.1 8) (xa : ∀ a, a < 11 ∨ (19 ≤ a ∧ a < 23) → σx'.2 a = σx.2 a) (m1 : σm'.1 1 = σm.1 1) (m2 : σm'.1 2 = σm.1 2) (m7 : σm'.1 7 = σm.1 7) (ma : ∀ a, a < 7 ∨ (17 ≤ a ∧ a < 21) → σm'.2 a = σm.2 a) (hH : HOLD σx' σm') : BASE g t σx' σm' := by
  obtain ⟨h1, h2, h3, h4, h5, h6, h7⟩ := h
  exact ⟨h1, h2, h3.stay x0 x1 (fun a ha => xa a (Or.inl ha)), h4.stay m1 m2 (fun a ha => ma a (Or.inl ha)), h5.stay x8 (fun a a1 a2 => xa a (Or.inr ⟨a1, a2⟩)), h6.stay m7 (fun a a1 a2 => ma a (Or.inr ⟨a1, a2⟩)), hH⟩
theorem HOLD.stay {σx σm σx' σm' : vS} (h : HOLD σx σm) (a1 : σx'.2 23 = σx.2 23) (a2 : σx'.2 24 = σx.2 24) (b1 : σm'.2 23 = σm.2 23) (b2 : σm'.2 24 = σm.2 24) : HOLD σx' σm' := by
  unfold HOLD
  rw [a1, a2, b1, b2]
  exact h
theorem KNW.stay {b : Nat} {σx σm σx' σm' : vS} (h : KNW b σx σm) (a1 : σx'.2 25 = σx.2 25) (b1 : σm'.2 22 = σm.2 22) : KNW b σx' σm' := by
  unfold KNW
  rw [a1, b1]
  exact h
theorem kup_rep {k : Nat → Nat} {b h : Nat} {σx σm : vS} (hh : h < b) (hk : ∀ n, n < b → σx.2 26 n = nI (k n) ∧ σm.2 21 n = nI (k n)) {τx τm : vS} (ex : τx.2 26 = (sa σx 26 h (nI (k h + 1))).2 26) (em : τm.2 21 = (sa σm 21 h (nI (k h + 1))).2 21) : ∀ n, n < b → τx.2 26 n = nI (kup k h n) ∧ τm.2 21 n = nI (kup k h n) := fun n hn => by
  rw [ex, em]
  by_cases e : n = h
  · rw [e, kup_h, sa_2, sa_2]; exact ⟨rfl, rfl⟩
  · rw [kup_n e, sa_2n e, sa_2n e]; exact hk n hn
/-- a step of the run, on both sides -/
theorem step_both {N : Nat} {g : vA} {S : vL} {t : vT} {σx σm : vS} (hB : BASE g t σx σm) (hA : AN g S σx σm) (hG : GOES g (VW g S) t σx σm) : ∃ σx' σm', f_U_step N σx = some (0, σx') ∧ f_M_step N σm = some (0, σm') ∧ BASE g t σx' σm' ∧ AN g S σx' σm' ∧ (GOES g (VW g S) t σx' σm' ∨ ENDED t σx' σm') ∧ σx'.1 2 = σx.1 2 ∧ σm'.1 3 = σm.1 3 ∧ σm'.1 0 = σm.1 0 := by
  obtain ⟨root, b, h, r, k, hR, hK, x9, x10, x11, m8, m9, hk⟩ := hG
  have hB0 := hB
  obtain ⟨hw, hT, hg, hm, hX, hM, hH⟩ := hB
  have hA0 := hA
  obtain ⟨hc, ⟨hS1, hS2⟩, hXR, hXQ, hMR, hMQ⟩ := hA
  have hV := hv_of hw hS1
  have hO := ho_of hw hS1 hS2
  have h40 := hT.1
  obtain ⟨a1, a2, a3⟩ := run_hand hw hV hO hT hR
  have hb : b ≤ tN t := hR.2.1
  have hro : root < b := hR.1
  have hh : h < tN t := by omega
  have hp := hT.2.1 h hh
  have h5 := hw.2.2.2.2.1 _ hp
  obtain ⟨n1, n2, n3⟩ := plan_at hw hV hO hp a3
  obtain ⟨i1, i2⟩ := plan_k hw hV hO hp (k h) (by omega)
  obtain ⟨i, hi⟩ : ∃ i, i = sqN g (VW g S) (tPr t h) (k h) := ⟨_, rfl⟩
  rw [← hi] at n1 n2 n3
  have sx : SX g (VW g S) t h (k h) i σx := ⟨hg, hX, hh, x11, (hk h a1).1, a3, hi, hXQ⟩
  have sm : SM g (VW g S) t h (k h) i σm := ⟨hm, hM, hh, m9, (hk h a1).2, a3, hi, hMQ⟩
  have hvq : ∀ q, q < gpo g (tPr t h) → (pst g (VW g S) (tPr t h) (k h)).2 q ≤ 3 := fun q hq => Nat.le_trans (i1.2.1 q hq) (hV _ (hw.2.2.2.2.2.1 _ q hp hq)).2.1
  rcases n2 with ⟨hi16, hcs⟩ | ⟨q, hq1, hq, hql, hqi⟩ | ⟨hql, hqi⟩
  · have hd := (canS_d hcs).1
    obtain ⟨ru, hru⟩ : ∃ ru, grl g (tPr t h) i = some ru := by
      have := hc _ i hp hi16 hd
      cases e : grl g (tPr t h) i with
      | none => rw [e] at this; cases this
      | some ru => exact ⟨ru, rfl⟩
    have hqo := occ_q (dfn_occ hd)
    have hnd := nd_lt hT hh hqo
    have hval : valA t (σm.2 23) h ru = valA t (σx.2 24) h ru := by
      rw [show σm.2 23 = σx.2 24 from funext (fun j => (hH.2 j).symm)]
    obtain ⟨σx', ex⟩ : ∃ σx', σx' = sa (sa (sa σx 26 h (nI (k h + 1))) 24 (celA t h i) (valA t (σx.2 24) h ru)) 25 (ndA t h (i / 4)) (σx.2 25 (ndA t h (i / 4)) ||| ((1 : Int32) <<< (nI (i % 4) &&& 31))) := ⟨_, rfl⟩
    obtain ⟨σm', em⟩ : ∃ σm', σm' = sa (sa (sa σm 21 h (nI (k h + 1))) 23 (celA t h i) (valA t (σm.2 23) h ru)) 22 (celA t h i) 1 := ⟨_, rfl⟩
    have fx : f_U_step N σx = some (0, σx') := by rw [ex]; exact x_step_set hw hV hT sx hi16 hd hru
    have fm : f_M_step N σm = some (0, σm') := by rw [em]; exact m_step_set hw hV hT sm hi16 hd hru
    have kx : σx'.1 = σx.1 := by rw [ex]; rfl
    have km : σm'.1 = σm.1 := by rw [em]; rfl
    have ax : ∀ a, a ≠ 24 → a ≠ 25 → a ≠ 26 → σx'.2 a = σx.2 a := fun a b1 b2 b3 => by rw [ex, sa_2a b2, sa_2a b1, sa_2a b3]
    have am : ∀ a, a ≠ 21 → a ≠ 22 → a ≠ 23 → σm'.2 a = σm.2 a := fun a b1 b2 b3 => by rw [em, sa_2a b2, sa_2a b3, sa_2a b1]
    have e26 : σx'.2 26 = (sa σx 26 h (nI (k h + 1))).2 26 := by rw [ex, sa_2a (by decide), sa_2a (by decide)]
    have e21 : σm'.2 21 = (sa σm 21 h (nI (k h + 1))).2 21 := by rw [em, sa_2a (by decide), sa_2a (by decide)]
    have hH' : HOLD σx' σm' := by
      refine ⟨fun j => by rw [ax 23 (by decide) (by decide) (by decide), am 24 (by decide) (by decide) (by decide)]; exact hH.1 j, fun j => ?_⟩
      have e24 : σx'.2 24 = (sa (sa σx 26 h (nI (k h + 1))) 24 (celA t h i) (valA t (σx.2 24) h ru)).2 24 := by rw [ex, sa_2a (by decide)]
      have e23 : σm'.2 23 = (sa (sa σm 21 h (nI (k h + 1))) 23 (celA t h i) (valA t (σm.2 23) h ru)).2 23 := by rw [em, sa_2a (by decide)]
      rw [e24, e23]
      by_cases e : j = celA t h i
      · rw [e, sa_2, sa_2, hval]
      · rw [sa_2n e, sa_2n e, sa_2a (show (24 : Nat) ≠ 26 by decide), sa_2a (show (23 : Nat) ≠ 21 by decide)]; exact hH.2 j
    have hK' : KNW b σx' σm' := by
      have e25 : ∀ n, n ≠ ndA t h (i / 4) → σx'.2 25 n = σx.2 25 n := fun n hn => by rw [ex, sa_2n hn, sa_2a (by decide), sa_2a (by decide)]
      have e25' : σx'.2 25 (ndA t h (i / 4)) = σx.2 25 (ndA t h (i / 4)) ||| ((1 : Int32) <<< (nI (i % 4) &&& 31)) := by rw [ex, sa_2]
      have e22 : ∀ j, j ≠ celA t h i → σm'.2 22 j = σm.2 22 j := fun j hj => by rw [em, sa_2n hj, sa_2a (by decide), sa_2a (by decide)]
      have e22' : σm'.2 22 (celA t h i) = 1 := by rw [em, sa_2]
      have hcel : celA t h i = 4 * ndA t h (i / 4) + i % 4 := rfl
      refine ⟨fun n a hn ha => ?_, fun n a hbn hn ha => ?_⟩
      · by_cases e : n = ndA t h (i / 4)
        · rw [e, e25', bt_or, bt_one (by omega) (by omega)]
          by_cases e2 : a = i % 4
          · rw [e2, ← hcel, e22', decide_eq_true rfl, Bool.or_true]; rfl
          · rw [e22 _ (by omega), decide_eq_false e2, Bool.or_false]
            have := hK.1 n a hn ha
            rw [e] at this
            exact this
        · rw [e25 n e, e22 _ (by omega)]
          exact hK.1 n a hn ha
      · have hnb : ndA t h (i / 4) < b := by
          unfold ndA
          by_cases e0 : i / 4 = 0
          · rw [if_pos e0]; exact a1
          · rw [if_neg e0]
            obtain ⟨c, c1, c2, _⟩ := hT.2.2.1 h (i / 4) hh (by omega) hqo
            rw [c2]
            show c < b
            omega
        rw [e25 n (by omega)]
        exact hK.2 n a hbn hn ha
    exact ⟨σx', σm', fx, fm, hB0.stay (by rw [kx]) (by rw [kx]) (by rw [kx]) (fun a ha => ax a (by omega) (by omega) (by omega)) (by rw [km]) (by rw [km]) (by rw [km]) (fun a ha => am a (by omega) (by omega) (by omega)) hH', hA0.stay (fun a b1 b2 => ax a (by omega) (by omega) (by omega)) (fun a b1 b2 => am a (by omega) (by omega) (by omega)), Or.inl ⟨root, b, h, r, kup k h, run_set hw hV hO hT hR (by omega), hK', by rw [kx]; exact x9, by rw [kx]; exact x10, by rw [kx]; exact x11, by rw [km]; exact m8, by rw [km]; exact m9, kup_rep a1 hk e26 e21⟩, by rw [kx], by rw [km], by rw [km]⟩
  · have := hvq q hq
    obtain ⟨c, c1, c2, c3, c4⟩ := hT.2.2.1 h q hh hq1 hq
    obtain ⟨σx', ex⟩ : ∃ σx', σx' = sf (sa σx 26 h (nI (k h + 1))) 11 (nI c) := ⟨_, rfl⟩
    obtain ⟨σm', em⟩ : ∃ σm', σm' = sf (sa σm 21 h (nI (k h + 1))) 9 (nI c) := ⟨_, rfl⟩
    have fx : f_U_step N σx = some (0, σx') := by rw [ex]; exact x_step_visit (v := (pst g (VW g S) (tPr t h) (k h)).2 q + 1) hw hV hT sx (by omega) (by omega) hq1 hq c2
    have fm : f_M_step N σm = some (0, σm') := by rw [em]; exact m_step_visit (v := (pst g (VW g S) (tPr t h) (k h)).2 q + 1) hw hV hT sm (by omega) (by omega) hq1 hq c2
    have kx : ∀ j, j ≠ 11 → σx'.1 j = σx.1 j := fun j hj => by rw [ex, sf_1n hj]; rfl
    have km : ∀ j, j ≠ 9 → σm'.1 j = σm.1 j := fun j hj => by rw [em, sf_1n hj]; rfl
    have ax : ∀ a, a ≠ 26 → σx'.2 a = σx.2 a := fun a b1 => by rw [ex, sf_2, sa_2a b1]
    have am : ∀ a, a ≠ 21 → σm'.2 a = σm.2 a := fun a b1 => by rw [em, sf_2, sa_2a b1]
    exact ⟨σx', σm', fx, fm, hB0.stay (kx 0 (by decide)) (kx 1 (by decide)) (kx 8 (by decide)) (fun a ha => ax a (by omega)) (km 1 (by decide)) (km 2 (by decide)) (km 7 (by decide)) (fun a ha => am a (by omega)) (hH.stay (ax 23 (by decide)) (ax 24 (by decide)) (am 23 (by decide)) (am 24 (by decide))), hA0.stay (fun a b1 b2 => ax a (by omega)) (fun a b1 b2 => am a (by omega)), Or.inl ⟨root, b, c, h :: r, kup k h, run_visit (v := (pst g (VW g S) (tPr t h) (k h)).2 q + 1) hw hV hO hT hR hq1 hq (by omega) (by omega) c2, hK.stay (ax 25 (by decide)) (am 22 (by decide)), by rw [kx 9 (by decide)]; exact x9, by rw [kx 10 (by decide)]; exact x10, by rw [ex, sf_1], by rw [km 8 (by decide)]; exact m8, by rw [em, sf_1], kup_rep a1 hk (by rw [ex, sf_2]) (by rw [em, sf_2])⟩, kx 2 (by decide), km 3 (by decide), km 0 (by decide)⟩
  · have h0 := hvq 0 (by omega)
    have fx0 := x_step_leave (N := N) hw hV hT sx x10 (by omega) (by omega) (by omega)
    have fm0 := m_step_leave (N := N) hw hV hT sm m8 (by omega) (by omega) (by omega)
    obtain ⟨rl1, rl2⟩ := run_leave hw hV hO hT hR (by omega)
    by_cases e : h = root
    · rw [if_pos e] at fx0 fm0
      by_cases e2 : k h + 1 = lnP g (VW g S) (tPr t h)
      · rw [if_pos e2] at fx0 fm0
        obtain ⟨σx', ex⟩ : ∃ σx', σx' = sf (sa σx 26 h (nI (k h + 1))) 9 2 := ⟨_, rfl⟩
        obtain ⟨σm', em⟩ : ∃ σm', σm' = sf (sa σm 21 h (nI (k h + 1))) 9 (-1) := ⟨_, rfl⟩
        rw [← ex] at fx0
        rw [← em] at fm0
        have kx : ∀ j, j ≠ 9 → σx'.1 j = σx.1 j := fun j hj => by rw [ex, sf_1n hj]; rfl
        have km : ∀ j, j ≠ 9 → σm'.1 j = σm.1 j := fun j hj => by rw [em, sf_1n hj]; rfl
        have ax : ∀ a, a ≠ 26 → σx'.2 a = σx.2 a := fun a b1 => by rw [ex, sf_2, sa_2a b1]
        have am : ∀ a, a ≠ 21 → σm'.2 a = σm.2 a := fun a b1 => by rw [em, sf_2, sa_2a b1]
        exact ⟨σx', σm', fx0, fm0, hB0.stay (kx 0 (by decide)) (kx 1 (by decide)) (kx 8 (by decide)) (fun a ha => ax a (by omega)) (km 1 (by decide)) (km 2 (by decide)) (km 7 (by decide)) (fun a ha => am a (by omega)) (hH.stay (ax 23 (by decide)) (ax 24 (by decide)) (am 23 (by decide)) (am 24 (by decide))), hA0.stay (fun a b1 b2 => ax a (by omega)) (fun a b1 b2 => am a (by omega)), Or.inr ⟨root, b, hro, hb, hK.stay (ax 25 (by decide)) (am 22 (by decide)), by rw [ex, sf_1], by rw [km 8 (by decide)]; exact m8, by rw [em, sf_1]⟩, kx 2 (by decide), km 3 (by decide), km 0 (by decide)⟩
      · rw [if_neg e2] at fx0 fm0
        obtain ⟨σx', ex⟩ : ∃ σx', σx' = sa σx 26 h (nI (k h + 1)) := ⟨_, rfl⟩
        obtain ⟨σm', em⟩ : ∃ σm', σm' = sf (sa σm 21 h (nI (k h + 1))) 9 (nI h) := ⟨_, rfl⟩
        rw [← ex] at fx0
        rw [← em] at fm0
        have kx : ∀ j, σx'.1 j = σx.1 j := fun j => by rw [ex]; rfl
        have km : ∀ j, j ≠ 9 → σm'.1 j = σm.1 j := fun j hj => by rw [em, sf_1n hj]; rfl
        have ax : ∀ a, a ≠ 26 → σx'.2 a = σx.2 a := fun a b1 => by rw [ex, sa_2a b1]
        have am : ∀ a, a ≠ 21 → σm'.2 a = σm.2 a := fun a b1 => by rw [em, sf_2, sa_2a b1]
        exact ⟨σx', σm', fx0, fm0, hB0.stay (kx 0) (kx 1) (kx 8) (fun a ha => ax a (by omega)) (km 1 (by decide)) (km 2 (by decide)) (km 7 (by decide)) (fun a ha => am a (by omega)) (hH.stay (ax 23 (by decide)) (ax 24 (by decide)) (am 23 (by decide)) (am 24 (by decide))), hA0.stay (fun a b1 b2 => ax a (by omega)) (fun a b1 b2 => am a (by omega)), Or.inl ⟨root, b, h, r, kup k h, rl2 e e2, hK.stay (ax 25 (by decide)) (am 22 (by decide)), by rw [kx]; exact x9, by rw [kx]; exact x10, by rw [kx]; exact x11, by rw [km 8 (by decide)]; exact m8, by rw [em, sf_1], kup_rep a1 hk (by rw [ex]) (by rw [em, sf_2])⟩, kx 2, km 3 (by decide), km 0 (by decide)⟩
    · rw [if_neg e] at fx0 fm0
      obtain ⟨m, r', er, e3, e4⟩ := pth_up hR.2.2.1 e
      rw [e3] at fx0 fm0
      have rl := rl1 e
      rw [er] at rl
      obtain ⟨σx', ex⟩ : ∃ σx', σx' = sf (sa σx 26 h (nI (k h + 1))) 11 (oI (some m)) := ⟨_, rfl⟩
      obtain ⟨σm', em⟩ : ∃ σm', σm' = sf (sa σm 21 h (nI (k h + 1))) 9 (oI (some m)) := ⟨_, rfl⟩
      rw [← ex] at fx0
      rw [← em] at fm0
      have kx : ∀ j, j ≠ 11 → σx'.1 j = σx.1 j := fun j hj => by rw [ex, sf_1n hj]; rfl
      have km : ∀ j, j ≠ 9 → σm'.1 j = σm.1 j := fun j hj => by rw [em, sf_1n hj]; rfl
      have ax : ∀ a, a ≠ 26 → σx'.2 a = σx.2 a := fun a b1 => by rw [ex, sf_2, sa_2a b1]
      have am : ∀ a, a ≠ 21 → σm'.2 a = σm.2 a := fun a b1 => by rw [em, sf_2, sa_2a b1]
      exact ⟨σx', σm', fx0, fm0, hB0.stay (kx 0 (by decide)) (kx 1 (by decide)) (kx 8 (by decide)) (fun a ha => ax a (by omega)) (km 1 (by decide)) (km 2 (by decide)) (km 7 (by decide)) (fun a ha => am a (by omega)) (hH.stay (ax 23 (by decide)) (ax 24 (by decide)) (am 23 (by decide)) (am 24 (by decide))), hA0.stay (fun a b1 b2 => ax a (by omega)) (fun a b1 b2 => am a (by omega)), Or.inl ⟨root, b, m, r', kup k h, rl, hK.stay (ax 25 (by decide)) (am 22 (by decide)), by rw [kx 9 (by decide)]; exact x9, by rw [kx 10 (by decide)]; exact x10, by rw [ex, sf_1]; rfl, by rw [km 8 (by decide)]; exact m8, by rw [em, sf_1]; rfl, kup_rep a1 hk (by rw [ex, sf_2]) (by rw [em, sf_2])⟩, kx 2 (by decide), km 3 (by decide), km 0 (by decide)⟩
/-- the run goes on, on both sides -/
theorem run_both {N : Nat} {g : vA} {S : vL} {t : vT} {s : Nat} (hs : s ≤ 500) : ∀ n d σx σm, d ≤ s → s < d + n → BASE g t σx σm → AN g S σx σm → (GOES g (VW g S) t σx σm ∨ ENDED t σx σm) → ∃ e σx' σm', f_U_advance_2 N n σx (nI s) (nI d) = some (nI e, σx') ∧ f_M_run_43 N n σm (nI s) (nI d) = some (nI e, σm') ∧ BASE g t σx' σm' ∧ AN g S σx' σm' ∧ (GOES g (VW g S) t σx' σm' ∨ ENDED t σx' σm') ∧ σx'.1 2 = σx.1 2 ∧ σm'.1 3 = σm.1 3 ∧ σm'.1 0 = σm.1 0 := by
  intro n
  induction n with
  | zero => intro d σx σm h1 h2; omega
  | succ n ih =>
    intro d σx σm h1 h2 hB hA hG
    rw [f_U_advance_2, f_M_run_43]
    dsimp only
    by_cases hd : d = s
    · subst hd
      exact ⟨d, σx, σm, if_pos (nI_le (Nat.le_refl _) (by omega)), if_pos (nI_le (Nat.le_refl _) (by omega)), hB, hA, hG, rfl, rfl, rfl⟩
    · rw [if_neg (nI_ge (by omega) (by omega)), if_neg (nI_ge (by omega) (by omega))]
      rcases hG with hG | hG
      · have x9 : σx.1 9 = 1 := by
          obtain ⟨_, _, _, _, _, _, _, h9, _⟩ := hG
          exact h9
        have m9 : σm.1 9 ≠ -1 := by
          have h40 := hB.2.1.1
          obtain ⟨root, b, h, r, k, hR, _, _, _, _, _, h9, _⟩ := hG
          have hle := (pth_le r h hR.2.2.1).1
          have hb := hR.2.1
          have hr := hR.1
          rw [h9]
          exact nI_nm1 (by omega)
        obtain ⟨σx', σm', f1, f2, b1, b2, b3, b4, b5, b6⟩ := step_both (N := N) hB hA hG
        rw [if_pos x9, if_neg m9, f1, f2, Option.bind_some, Option.bind_some]
        dsimp only
        rw [nI_1]
        obtain ⟨e, σx'', σm'', c1, c2, c3, c4, c5, c6, c7, c8⟩ := ih (d + 1) σx' σm' (by omega) (by omega) b1 b2 b3
        exact ⟨e, σx'', σm'', c1, c2, c3, c4, c5, c6.trans b4, c7.trans b5, c8.trans b6⟩
      · have hG0 := hG
        obtain ⟨root, b, _, _, _, x9, _, m9⟩ := hG
        rw [if_neg (by rw [x9]; decide), if_pos m9]
        exact ⟨d, σx, σm, rfl, rfl, hB, hA, Or.inr hG0, rfl, rfl, rfl⟩
