/-! A step, in the class. -/
/-- what the class's step rests on: the node at hand h, its k-th instruction i -/
def SX (g : vA) (V : vV) (t : vT) (h k i : Nat) (σ : vS) : Prop := XG g σ ∧ XT t σ ∧ h < tN t ∧ σ.1 11 = nI h ∧ σ.2 26 h = nI k ∧ k < lnP g V (tPr t h) ∧ i = sqN g V (tPr t h) k ∧ XQ g V (gnp g) σ
theorem x_step_go {N : Nat} {g : vA} (hw : wfA g) {V : vV} (hV : HV g V) {t : vT} (hT : wfT g t) {h k i : Nat} {σ : vS} (hS : SX g V t h k i σ) (hi : i < 2000) : f_U_step N σ = (if nI i < 1000 then (if nI i < 100 then (if nI i < 0 then some ((0 : Int32), sa σ 26 h (nI (k + 1))) else ((f_U_result N (sa σ 26 h (nI (k + 1))) (nI (16 * tPr t h + i))).bind (fun q14 => ((f_U_setOccurrence N q14.2 (nI i) (q14.1)).bind (fun q16 => some ((0 : Int32), q16.2)))))) else ((f_Z_nodeAt N (sa σ 26 h (nI (k + 1))) (nI h) (nI i / 100)).bind (fun q18 => (vlet (sf q18.2 11 (q18.1)) (fun σ20 => some ((0 : Int32), σ20)))))) else ((f_U_leaveNode N (sa σ 26 h (nI (k + 1))) (nI (tPr t h))).bind (fun q21 => some ((0 : Int32), q21.2)))) := by
  obtain ⟨hg, hX, hh, h11, h26, hk, hie, hQ⟩ := hS
  have h40 := hT.1
  have h10 := hw.2.2.2.1
  have hp := hT.2.1 h hh
  have hl := len_28 hw hV hp
  have hat : f_Q_at N σ (nI (tPr t h)) (nI k) = some (nI i, σ) := by
    unfold f_Q_at vlet
    dsimp only
    rw [if_pos (bIn_nI (by omega) (by decide)), nI_clamp (by omega), (hQ _ hp).1, if_neg (nI_ge hk (by omega)), show nI (tPr t h) * (32 : Int32) = nI (tPr t h * 32) from pk_mul _ 32, nI_add, if_pos (bIn_nI (by omega) (by decide)), nI_clamp (by omega), show tPr t h * 32 + k = 32 * tPr t h + k by omega, (hQ _ hp).2 k hk, hie]
  unfold f_U_step vlet
  dsimp only
  rw [h11, if_pos (bIn_nI (by omega) (by decide)), if_pos (bIn_nI (by omega) (by decide)), nI_clamp (by omega), (hX.2 h hh).1, h26, hat, Option.bind_some]
  dsimp only
  rw [h11, if_pos (bIn_nI (by omega) (by decide)), if_pos (bIn_nI (by omega) (by decide)), nI_clamp (by omega), h26, nI_1, show nI (tPr t h) * (16 : Int32) = nI (tPr t h * 16) from pk_mul _ 16, nI_add, show tPr t h * 16 + i = 16 * tPr t h + i by omega, sa_1, h11]
theorem x_step_set {N : Nat} {g : vA} (hw : wfA g) {V : vV} (hV : HV g V) {t : vT} (hT : wfT g t) {h k i : Nat} {σ : vS} (hS : SX g V t h k i σ) (hi : i < 16) (hd : dfn g (tPr t h) i = true) {r : Nat × Int32 × Int32} (hr : grl g (tPr t h) i = some r) : f_U_step N σ = some (0, sa (sa (sa σ 26 h (nI (k + 1))) 24 (celA t h i) (valA t (σ.2 24) h r)) 25 (ndA t h (i / 4)) (σ.2 25 (ndA t h (i / 4)) ||| ((1 : Int32) <<< (nI (i % 4) &&& 31)))) := by
  rw [x_step_go hw hV hT hS (by omega)]
  obtain ⟨hg, hX, hh, h11, h26, hk, hie, hQ⟩ := hS
  have h40 := hT.1
  have hp := hT.2.1 h hh
  have hq := occ_q (dfn_occ hd)
  have hn := nd_lt hT hh hq
  obtain ⟨σ', es⟩ : ∃ σ', σ' = sa σ 26 h (nI (k + 1)) := ⟨_, rfl⟩
  rw [← es]
  have hE : E1 26 σ σ' := by rw [es]; exact E1.rf.sa
  have hg' := hg.e1 hE (by decide)
  have hX' : XT t σ' := hX.stay (by rw [hE.1]) (fun a _ h23 => hE.2 a (by omega))
  have e1 : nI i - nI i / (4 : Int32) * 4 = nI (i % 4) := pk_rem (a := i) (d := 4) (by omega) (by decide) (by decide)
  have e2 : nI i / (4 : Int32) = nI (i / 4) := pk_div (d := 4) (by omega) (by decide) (by decide)
  rw [if_pos (show nI i < (1000 : Int32) from nI_lt (a := i) (b := 1000) (by omega) (by decide)), if_pos (show nI i < (100 : Int32) from nI_lt (a := i) (b := 100) (by omega) (by decide)), if_neg (nI_pos (by omega)), x_result hw hg' hT hX' hh (by rw [hE.1]; exact h11) hi hr, Option.bind_some]
  dsimp only
  unfold f_U_setOccurrence vlet
  dsimp only
  rw [hE.1, h11, e1, e2, x_nodeAt hw hT hX' hh hq, Option.bind_some]
  dsimp only
  rw [show nI (ndA t h (i / 4)) * (4 : Int32) = nI (ndA t h (i / 4) * 4) from pk_mul _ 4, nI_add, if_pos (bIn_nI (by omega) (by decide)), if_pos (bIn_nI (by omega) (by decide)), if_pos (bIn_nI (by omega) (by decide)), nI_clamp (by omega), nI_clamp (by omega), Option.bind_some, show ndA t h (i / 4) * 4 + i % 4 = celA t h i by unfold celA; omega, sa_2a (show (25 : Nat) ≠ 24 by decide), hE.2 25 (by decide), hE.2 24 (by decide)]
theorem x_step_visit {N : Nat} {g : vA} (hw : wfA g) {V : vV} (hV : HV g V) {t : vT} (hT : wfT g t) {h k i : Nat} {σ : vS} (hS : SX g V t h k i σ) {q v c : Nat} (hi : i = 100 * q + v) (hv : v < 100) (hq1 : 1 ≤ q) (hq : q < gpo g (tPr t h)) (hc : tCh t h q = some c) : f_U_step N σ = some (0, sf (sa σ 26 h (nI (k + 1))) 11 (nI c)) := by
  have hh := hS.2.2.1
  have hp := hT.2.1 h hh
  have h5 := hw.2.2.2.2.1 _ hp
  rw [x_step_go hw hV hT hS (by omega)]
  obtain ⟨hg, hX, hh, h11, h26, hk, hie, hQ⟩ := hS
  have hE : E1 26 σ (sa σ 26 h (nI (k + 1))) := E1.rf.sa
  have hX' : XT t (sa σ 26 h (nI (k + 1))) := hX.stay (by rw [hE.1]) (fun a _ h23 => hE.2 a (by omega))
  rw [if_pos (show nI i < (1000 : Int32) from nI_lt (a := i) (b := 1000) (by omega) (by decide)), if_neg (show ¬ nI i < (100 : Int32) from nI_nlt (a := i) (b := 100) (by omega) (by omega)), show nI i / (100 : Int32) = nI (i / 100) from pk_div (d := 100) (by omega) (by decide) (by decide), show i / 100 = q by omega, x_nodeAt hw hT hX' hh hq, Option.bind_some]
  have en : ndA t h q = c := by
    unfold ndA
    rw [if_neg (by omega), hc]
    rfl
  rw [en]
  rfl
theorem x_step_leave {N : Nat} {g : vA} (hw : wfA g) {V : vV} (hV : HV g V) {t : vT} (hT : wfT g t) {h k i root : Nat} {σ : vS} (hS : SX g V t h k i σ) (h10' : σ.1 10 = nI root) (hro : root < tN t) (hi : 1000 ≤ i) (hi2 : i < 2000) : f_U_step N σ = (if h = root then (if k + 1 = lnP g V (tPr t h) then some (0, sf (sa σ 26 h (nI (k + 1))) 9 2) else some (0, sa σ 26 h (nI (k + 1)))) else some (0, sf (sa σ 26 h (nI (k + 1))) 11 (oI (tPa t h)))) := by
  rw [x_step_go hw hV hT hS hi2]
  obtain ⟨hg, hX, hh, h11, h26, hk, hie, hQ⟩ := hS
  have h40 := hT.1
  have h10 := hw.2.2.2.1
  have hp := hT.2.1 h hh
  have hl := len_28 hw hV hp
  rw [if_neg (show ¬ nI i < (1000 : Int32) from nI_nlt (a := i) (b := 1000) (by omega) (by omega))]
  unfold f_U_leaveNode vlet
  dsimp only
  rw [sa_1, h11, h10']
  by_cases e : h = root
  · rw [if_pos e, if_pos (by rw [e]), if_pos (bIn_nI (by omega) (by decide)), if_pos (bIn_nI (by omega) (by decide)), nI_clamp (by omega), nI_clamp (by omega), ← e, sa_2, sa_2a (show (17 : Nat) ≠ 26 by decide), (hQ _ hp).1]
    by_cases e2 : k + 1 = lnP g V (tPr t h)
    · rw [if_pos e2, if_pos (by rw [e2])]
      rfl
    · rw [if_neg e2, if_neg (fun h9 => e2 ((nI_eq (by omega) (by omega)).mp h9))]
      rfl
  · rw [if_neg e, if_neg (fun h9 => e ((nI_eq (by omega) (by omega)).mp h9)), if_pos (bIn_nI (by omega) (by decide)), nI_clamp (by omega), sa_2a (show (21 : Nat) ≠ 26 by decide), (hX.2 h hh).2.2.1]
    rfl
/-! A step, in the reference. -/
def SM (g : vA) (V : vV) (t : vT) (h k i : Nat) (σ : vS) : Prop := MG g σ ∧ MT t σ ∧ h < tN t ∧ σ.1 9 = nI h ∧ σ.2 21 h = nI k ∧ k < lnP g V (tPr t h) ∧ i = sqN g V (tPr t h) k ∧ MSQ g V (gnp g) σ
theorem m_step_go {N : Nat} {g : vA} (hw : wfA g) {V : vV} (hV : HV g V) {t : vT} (hT : wfT g t) {h k i : Nat} {σ : vS} (hS : SM g V t h k i σ) (hi : i < 2000) : f_M_step N σ = (if (100 : Int32) ≤ nI i then (if (1000 : Int32) ≤ nI i then (if nI h = σ.1 8 then (if nI (k + 1) = nI (lnP g V (tPr t h)) then (vlet (sf (sa σ 21 h (nI (k + 1))) 9 (-1)) (fun σ20 => some ((0 : Int32), σ20))) else (vlet (sf (sa σ 21 h (nI (k + 1))) 9 (nI h)) (fun σ19 => some ((0 : Int32), σ19)))) else (vlet (sf (sa σ 21 h (nI (k + 1))) 9 (oI (tPa t h))) (fun σ23 => some ((0 : Int32), σ23)))) else (if bIn (nI (3 * h + i / 100) - 1) 120 = true then (vlet ((sa σ 21 h (nI (k + 1))).2 19 (nI (3 * h + i / 100) - 1).toNatClampNeg) (fun i26 => (vlet (sf (sa σ 21 h (nI (k + 1))) 9 i26) (fun σ27 => some ((0 : Int32), σ27))))) else none)) else ((f_M_cell N (sa σ 21 h (nI (k + 1))) (nI h) (nI i)).bind (fun q28 => ((f_M_worth N q28.2 (nI h) (nI i)).bind (fun q30 => (if bIn (q28.1) 160 = true then (vlet (sa q30.2 23 ((q28.1)).toNatClampNeg (q30.1)) (fun σ33 => ((f_M_cell N σ33 (nI h) (nI i)).bind (fun q34 => (if bIn (q34.1) 160 = true then (vlet (sa q34.2 22 ((q34.1)).toNatClampNeg (vp_nar .boolean 1)) (fun σ37 => some ((0 : Int32), σ37))) else none))))) else none)))))) := by
  obtain ⟨hg, hX, hh, h9, h21, hk, hie, hQ⟩ := hS
  have h40 := hT.1
  have h10 := hw.2.2.2.1
  have hp := hT.2.1 h hh
  have hl := len_28 hw hV hp
  unfold f_M_step
  rw [h9, if_pos (bIn_nI (by omega) (by decide))]
  unfold vlet
  dsimp only
  rw [if_pos (bIn_nI (by omega) (by decide)), if_pos (bIn_nI (by omega) (by decide)), if_pos (bIn_nI (by omega) (by decide)), if_pos (bIn_nI (by omega) (by decide)), if_pos (bIn_nI (by omega) (by decide)), nI_clamp (by omega), (hX.2 h hh).1, h21, show (48 : Int32) * nI (tPr t h) = nI (48 * tPr t h) from pk_mul 48 _, nI_add, if_pos (bIn_nI (by omega) (by decide)), nI_clamp (by omega), (hQ _ hp).2 k hk, ← hie, nI_1, sa_1, sa_2, sa_2a (show (13 : Nat) ≠ 21 by decide), sa_2a (show (20 : Nat) ≠ 21 by decide), if_pos (bIn_nI (by omega) (by decide)), nI_clamp (by omega), (hQ _ hp).1, (hX.2 h hh).2.2.1, show (3 : Int32) * nI h = nI (3 * h) from pk_mul 3 h, show nI i / (100 : Int32) = nI (i / 100) from pk_div (d := 100) (by omega) (by decide) (by decide), nI_add]
theorem m_step_set {N : Nat} {g : vA} (hw : wfA g) {V : vV} (hV : HV g V) {t : vT} (hT : wfT g t) {h k i : Nat} {σ : vS} (hS : SM g V t h k i σ) (hi : i < 16) (hd : dfn g (tPr t h) i = true) {r : Nat × Int32 × Int32} (hr : grl g (tPr t h) i = some r) : f_M_step N σ = some (0, sa (sa (sa σ 21 h (nI (k + 1))) 23 (celA t h i) (valA t (σ.2 23) h r)) 22 (celA t h i) 1) := by
  rw [m_step_go hw hV hT hS (by omega)]
  obtain ⟨hg, hX, hh, h9, h21, hk, hie, hQ⟩ := hS
  have hq := occ_q (dfn_occ hd)
  have hcl := cel_lt (o := i) hT hh hq
  obtain ⟨σ', es⟩ : ∃ σ', σ' = sa σ 21 h (nI (k + 1)) := ⟨_, rfl⟩
  rw [← es]
  have hE : E1 21 σ σ' := by rw [es]; exact E1.rf.sa
  have hg' := hg.e1 hE (by decide)
  have hX' : MT t σ' := hX.stay (by rw [hE.1]) (fun a _ h23 => hE.2 a (by omega))
  have hX2 : MT t (sa σ' 23 (celA t h i) (valA t (σ.2 23) h r)) := hX'.stay rfl (fun a _ h23 => sa_2a (by omega))
  rw [if_neg (show ¬ (100 : Int32) ≤ nI i from nI_ge (a := i) (b := 100) (by omega) (by decide)), m_cell hw hT hX' hh (dfn_occ hd), Option.bind_some]
  dsimp only
  rw [m_worth hw hg' hT hX' hh hi hr, Option.bind_some]
  dsimp only
  rw [if_pos (bIn_nI hcl (by decide)), nI_clamp (by omega), hE.2 23 (by decide)]
  unfold vlet
  dsimp only
  rw [m_cell hw hT hX2 hh (dfn_occ hd), Option.bind_some]
  dsimp only
  rw [if_pos (bIn_nI hcl (by decide)), nI_clamp (by omega), show vp_nar .boolean 1 = 1 from by decide]
theorem m_step_visit {N : Nat} {g : vA} (hw : wfA g) {V : vV} (hV : HV g V) {t : vT} (hT : wfT g t) {h k i : Nat} {σ : vS} (hS : SM g V t h k i σ) {q v c : Nat} (hi : i = 100 * q + v) (hv : v < 100) (hq1 : 1 ≤ q) (hq : q < gpo g (tPr t h)) (hc : tCh t h q = some c) : f_M_step N σ = some (0, sf (sa σ 21 h (nI (k + 1))) 9 (nI c)) := by
  have hh := hS.2.2.1
  have h40 := hT.1
  have hp := hT.2.1 h hh
  have h5 := hw.2.2.2.2.1 _ hp
  rw [m_step_go hw hV hT hS (by omega)]
  obtain ⟨hg, hX, hh, h9, h21, hk, hie, hQ⟩ := hS
  rw [if_pos (show (100 : Int32) ≤ nI i from nI_le (a := 100) (b := i) (by omega) (by omega)), if_neg (show ¬ (1000 : Int32) ≤ nI i from nI_ge (a := i) (b := 1000) (by omega) (by decide)), show i / 100 = q by omega, show nI (3 * h + q) - (1 : Int32) = nI (3 * h + q - 1) from pk_sub (b := 1) (by omega), if_pos (bIn_nI (by omega) (by decide)), nI_clamp (by omega), sa_2a (show (19 : Nat) ≠ 21 by decide), (hX.2 h hh).2.2.2 q hq1 (by omega), hc]
  rfl
theorem m_step_leave {N : Nat} {g : vA} (hw : wfA g) {V : vV} (hV : HV g V) {t : vT} (hT : wfT g t) {h k i root : Nat} {σ : vS} (hS : SM g V t h k i σ) (h8 : σ.1 8 = nI root) (hro : root < tN t) (hi : 1000 ≤ i) (hi2 : i < 2000) : f_M_step N σ = (if h = root then (if k + 1 = lnP g V (tPr t h) then some (0, sf (sa σ 21 h (nI (k + 1))) 9 (-1)) else some (0, sf (sa σ 21 h (nI (k + 1))) 9 (nI h))) else some (0, sf (sa σ 21 h (nI (k + 1))) 9 (oI (tPa t h)))) := by
  have hh := hS.2.2.1
  have h40 := hT.1
  have hp := hT.2.1 h hh
  have hl := len_28 hw hV hp
  rw [m_step_go hw hV hT hS hi2]
  obtain ⟨hg, hX, hh, h9, h21, hk, hie, hQ⟩ := hS
  rw [if_pos (show (100 : Int32) ≤ nI i from nI_le (a := 100) (b := i) (by omega) (by omega)), if_pos (show (1000 : Int32) ≤ nI i from nI_le (a := 1000) (b := i) (by omega) (by omega)), h8]
  by_cases e : h = root
  · rw [if_pos e, if_pos (by rw [e])]
    by_cases e2 : k + 1 = lnP g V (tPr t h)
    · rw [if_pos e2, if_pos (by rw [e2])]
      rfl
    · rw [if_neg e2, if_neg (fun h9 => e2 ((nI_eq (by omega) (by omega)).mp h9))]
      rfl
  · rw [if_neg e, if_neg (fun h9 => e ((nI_eq (by omega) (by omega)).mp h9))]
    rfl
