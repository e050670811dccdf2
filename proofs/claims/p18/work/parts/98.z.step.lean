/-! The step of the whole. -/
def LN : Nat := 3000
def Inv : vS → (Nat → Int64) → vS → Prop := fun σx _ σm => TOG σx σm
theorem Inv0 : Inv σx0 fo0 σm0 := TOG0
theorem s_0 (x : Nat → Int32) (σx : vS) (fo : Nat → Int64) (σm : vS) (h : TOG σx σm) (hj : x 0 &&& 31 = nI 0) : ∃ (σx' : vS) (fo' : Nat → Int64) (σm' : vS), Turn LN x σx fo σm σx' fo' σm' ∧ Inv σx' fo' σm' := by
  obtain ⟨kd, r, σx', u, σm', f1, f2, hT, hc⟩ := a_symbol (N := LN) (by decide) h (x 1) (x 2)
  rcases hc with ⟨hk, hcd, hu⟩ | ⟨hk, hcd⟩ | ⟨hk, hcd⟩
  · subst hk
    have t : T_0_0 LN x σx fo σm σx' (vp_updL fo (0 : Int32).toNatClampNeg r.toInt64) σm' := ⟨(r, σx'), (u, σm'), hj, f1, f2, rfl, rfl, rfl⟩
    exact ⟨_, _, _, t.turn, hT⟩
  · subst hk
    have t : T_0_1 LN x σx fo σm σx' fo σm' := ⟨(r, σx'), (u, σm'), hj, f1, f2, rfl, rfl, rfl⟩
    exact ⟨_, _, _, t.turn, hT⟩
  · subst hk
    have t : T_0_2 LN x σx fo σm σx' fo σm' := ⟨(r, σx'), (u, σm'), hj, f1, f2, rfl, rfl, rfl⟩
    exact ⟨_, _, _, t.turn, hT⟩
theorem s_1 (x : Nat → Int32) (σx : vS) (fo : Nat → Int64) (σm : vS) (h : TOG σx σm) (hj : x 0 &&& 31 = nI 1) : ∃ (σx' : vS) (fo' : Nat → Int64) (σm' : vS), Turn LN x σx fo σm σx' fo' σm' ∧ Inv σx' fo' σm' := by
  obtain ⟨kd, r, σx', u, σm', f1, f2, hT, hc⟩ := a_production (N := LN) (by decide) h (x 1) (x 2) (x 3) (x 4)
  rcases hc with ⟨hk, hcd, hu⟩ | ⟨hk, hcd⟩ | ⟨hk, hcd⟩
  · subst hk
    have t : T_1_0 LN x σx fo σm σx' (vp_updL fo (0 : Int32).toNatClampNeg r.toInt64) σm' := ⟨(r, σx'), (u, σm'), hj, f1, f2, rfl, rfl, rfl⟩
    exact ⟨_, _, _, t.turn, hT⟩
  · subst hk
    have t : T_1_1 LN x σx fo σm σx' fo σm' := ⟨(r, σx'), (u, σm'), hj, f1, f2, rfl, rfl, rfl⟩
    exact ⟨_, _, _, t.turn, hT⟩
  · subst hk
    have t : T_1_2 LN x σx fo σm σx' fo σm' := ⟨(r, σx'), (u, σm'), hj, f1, f2, rfl, rfl, rfl⟩
    exact ⟨_, _, _, t.turn, hT⟩
theorem s_2 (x : Nat → Int32) (σx : vS) (fo : Nat → Int64) (σm : vS) (h : TOG σx σm) (hj : x 0 &&& 31 = nI 2) : ∃ (σx' : vS) (fo' : Nat → Int64) (σm' : vS), Turn LN x σx fo σm σx' fo' σm' ∧ Inv σx' fo' σm' := by
  obtain ⟨kd, r, σx', u, σm', f1, f2, hT, hc⟩ := a_rule (N := LN) (by decide) h (x 1) (x 2) (x 3) (x 4) (x 5)
  rcases hc with ⟨hk, hcd⟩ | ⟨hk, hcd⟩ | ⟨hk, hcd⟩
  · subst hk
    have t : T_2_0 LN x σx fo σm σx' fo σm' := ⟨(r, σx'), (u, σm'), hj, f1, f2, rfl, rfl, rfl⟩
    exact ⟨_, _, _, t.turn, hT⟩
  · subst hk
    have t : T_2_3 LN x σx fo σm σx' fo σm' := ⟨(r, σx'), (u, σm'), hj, f1, f2, rfl, rfl, rfl⟩
    exact ⟨_, _, _, t.turn, hT⟩
  · subst hk
    have t : T_2_1 LN x σx fo σm σx' fo σm' := ⟨(r, σx'), (u, σm'), hj, f1, f2, rfl, rfl, rfl⟩
    exact ⟨_, _, _, t.turn, hT⟩
theorem s_3 (x : Nat → Int32) (σx : vS) (fo : Nat → Int64) (σm : vS) (h : TOG σx σm) (hj : x 0 &&& 31 = nI 3) : ∃ (σx' : vS) (fo' : Nat → Int64) (σm' : vS), Turn LN x σx fo σm σx' fo' σm' ∧ Inv σx' fo' σm' := by
  obtain ⟨kd, r, σx', u, σm', f1, f2, hT, hc⟩ := a_analyse (N := LN) (by decide) h
  rcases hc with ⟨hk, hcd, hu⟩ | ⟨hk, hcd⟩ | ⟨hk, hcd⟩
  · subst hk
    have t : T_3_0 LN x σx fo σm σx' (vp_updL fo (0 : Int32).toNatClampNeg r.toInt64) σm' := ⟨(r, σx'), (u, σm'), hj, f1, f2, rfl, rfl, rfl⟩
    exact ⟨_, _, _, t.turn, hT⟩
  · subst hk
    have t : T_3_2 LN x σx fo σm σx' fo σm' := ⟨(r, σx'), (u, σm'), hj, f1, f2, rfl, rfl, rfl⟩
    exact ⟨_, _, _, t.turn, hT⟩
  · subst hk
    have t : T_3_4 LN x σx fo σm σx' fo σm' := ⟨(r, σx'), (u, σm'), hj, f1, f2, rfl, rfl, rfl⟩
    exact ⟨_, _, _, t.turn, hT⟩
theorem s_4 (x : Nat → Int32) (σx : vS) (fo : Nat → Int64) (σm : vS) (h : TOG σx σm) (hj : x 0 &&& 31 = nI 4) : ∃ (σx' : vS) (fo' : Nat → Int64) (σm' : vS), Turn LN x σx fo σm σx' fo' σm' ∧ Inv σx' fo' σm' := by
  obtain ⟨r, σx', u, σm', f1, f2, hT⟩ := a_fault (N := LN) h (x 1)
  have t : T_4 LN x σx fo σm σx' fo σm' := ⟨(r, σx'), (u, σm'), hj, f1, f2, rfl, rfl, rfl⟩
  exact ⟨_, _, _, t.turn, hT⟩
theorem s_5 (x : Nat → Int32) (σx : vS) (fo : Nat → Int64) (σm : vS) (h : TOG σx σm) (hj : x 0 &&& 31 = nI 5) : ∃ (σx' : vS) (fo' : Nat → Int64) (σm' : vS), Turn LN x σx fo σm σx' fo' σm' ∧ Inv σx' fo' σm' := by
  obtain ⟨kd, r, σx', u, σm', f1, f2, hT, hc⟩ := a_visits (N := LN) h (x 1)
  rcases hc with ⟨hk, hcd, hu⟩ | ⟨hk, hcd⟩ | ⟨hk, hcd⟩
  · subst hk
    have t : T_5_0 LN x σx fo σm σx' (vp_updL fo (0 : Int32).toNatClampNeg r.toInt64) σm' := ⟨(r, σx'), (u, σm'), hj, f1, f2, rfl, rfl, rfl⟩
    exact ⟨_, _, _, t.turn, hT⟩
  · subst hk
    have t : T_5_2 LN x σx fo σm σx' fo σm' := ⟨(r, σx'), (u, σm'), hj, f1, f2, rfl, rfl, rfl⟩
    exact ⟨_, _, _, t.turn, hT⟩
  · subst hk
    have t : T_5_3 LN x σx fo σm σx' fo σm' := ⟨(r, σx'), (u, σm'), hj, f1, f2, rfl, rfl, rfl⟩
    exact ⟨_, _, _, t.turn, hT⟩
theorem s_6 (x : Nat → Int32) (σx : vS) (fo : Nat → Int64) (σm : vS) (h : TOG σx σm) (hj : x 0 &&& 31 = nI 6) : ∃ (σx' : vS) (fo' : Nat → Int64) (σm' : vS), Turn LN x σx fo σm σx' fo' σm' ∧ Inv σx' fo' σm' := by
  obtain ⟨kd, r, σx', u, σm', f1, f2, hT, hc⟩ := a_rank (N := LN) h (x 1) (x 2)
  rcases hc with ⟨hk, hcd, hu⟩ | ⟨hk, hcd⟩ | ⟨hk, hcd⟩
  · subst hk
    have t : T_6_0 LN x σx fo σm σx' (vp_updL fo (0 : Int32).toNatClampNeg r.toInt64) σm' := ⟨(r, σx'), (u, σm'), hj, f1, f2, rfl, rfl, rfl⟩
    exact ⟨_, _, _, t.turn, hT⟩
  · subst hk
    have t : T_6_2 LN x σx fo σm σx' fo σm' := ⟨(r, σx'), (u, σm'), hj, f1, f2, rfl, rfl, rfl⟩
    exact ⟨_, _, _, t.turn, hT⟩
  · subst hk
    have t : T_6_3 LN x σx fo σm σx' fo σm' := ⟨(r, σx'), (u, σm'), hj, f1, f2, rfl, rfl, rfl⟩
    exact ⟨_, _, _, t.turn, hT⟩
theorem s_7 (x : Nat → Int32) (σx : vS) (fo : Nat → Int64) (σm : vS) (h : TOG σx σm) (hj : x 0 &&& 31 = nI 7) : ∃ (σx' : vS) (fo' : Nat → Int64) (σm' : vS), Turn LN x σx fo σm σx' fo' σm' ∧ Inv σx' fo' σm' := by
  obtain ⟨kd, r, σx', u, σm', f1, f2, hT, hc⟩ := a_instruction (N := LN) h (x 1) (x 2)
  rcases hc with ⟨hk, hcd, hu⟩ | ⟨hk, hcd⟩ | ⟨hk, hcd⟩
  · subst hk
    have t : T_7_0 LN x σx fo σm σx' (vp_updL fo (0 : Int32).toNatClampNeg r.toInt64) σm' := ⟨(r, σx'), (u, σm'), hj, f1, f2, rfl, rfl, rfl⟩
    exact ⟨_, _, _, t.turn, hT⟩
  · subst hk
    have t : T_7_2 LN x σx fo σm σx' fo σm' := ⟨(r, σx'), (u, σm'), hj, f1, f2, rfl, rfl, rfl⟩
    exact ⟨_, _, _, t.turn, hT⟩
  · subst hk
    have t : T_7_3 LN x σx fo σm σx' fo σm' := ⟨(r, σx'), (u, σm'), hj, f1, f2, rfl, rfl, rfl⟩
    exact ⟨_, _, _, t.turn, hT⟩
theorem s_8 (x : Nat → Int32) (σx : vS) (fo : Nat → Int64) (σm : vS) (h : TOG σx σm) (hj : x 0 &&& 31 = nI 8) : ∃ (σx' : vS) (fo' : Nat → Int64) (σm' : vS), Turn LN x σx fo σm σx' fo' σm' ∧ Inv σx' fo' σm' := by
  obtain ⟨kd, r, σx', u, σm', f1, f2, hT, hc⟩ := a_node (N := LN) (by decide) h (x 1) (x 2) (x 3) (x 4) (x 5)
  rcases hc with ⟨hk, hcd, hu⟩ | ⟨hk, hcd⟩ | ⟨hk, hcd⟩
  · subst hk
    have t : T_8_0 LN x σx fo σm σx' (vp_updL fo (0 : Int32).toNatClampNeg r.toInt64) σm' := ⟨(r, σx'), (u, σm'), hj, f1, f2, rfl, rfl, rfl⟩
    exact ⟨_, _, _, t.turn, hT⟩
  · subst hk
    have t : T_8_1 LN x σx fo σm σx' fo σm' := ⟨(r, σx'), (u, σm'), hj, f1, f2, rfl, rfl, rfl⟩
    exact ⟨_, _, _, t.turn, hT⟩
  · subst hk
    have t : T_8_2 LN x σx fo σm σx' fo σm' := ⟨(r, σx'), (u, σm'), hj, f1, f2, rfl, rfl, rfl⟩
    exact ⟨_, _, _, t.turn, hT⟩
theorem s_9 (x : Nat → Int32) (σx : vS) (fo : Nat → Int64) (σm : vS) (h : TOG σx σm) (hj : x 0 &&& 31 = nI 9) : ∃ (σx' : vS) (fo' : Nat → Int64) (σm' : vS), Turn LN x σx fo σm σx' fo' σm' ∧ Inv σx' fo' σm' := by
  obtain ⟨r, σx', u, σm', f1, f2, hT⟩ := a_fell (N := LN) (by decide) h
  have t : T_9 LN x σx fo σm σx' fo σm' := ⟨(r, σx'), (u, σm'), hj, f1, f2, rfl, rfl, rfl⟩
  exact ⟨_, _, _, t.turn, hT⟩
theorem s_10 (x : Nat → Int32) (σx : vS) (fo : Nat → Int64) (σm : vS) (h : TOG σx σm) (hj : x 0 &&& 31 = nI 10) : ∃ (σx' : vS) (fo' : Nat → Int64) (σm' : vS), Turn LN x σx fo σm σx' fo' σm' ∧ Inv σx' fo' σm' := by
  obtain ⟨kd, r, σx', u, σm', f1, f2, hT, hc⟩ := a_give (N := LN) h (x 1) (x 2)
  rcases hc with ⟨hk, hcd⟩ | ⟨hk, hcd⟩
  · subst hk
    have t : T_10_0 LN x σx fo σm σx' fo σm' := ⟨(r, σx'), (u, σm'), hj, f1, f2, rfl, rfl, rfl⟩
    exact ⟨_, _, _, t.turn, hT⟩
  · subst hk
    have t : T_10_3 LN x σx fo σm σx' fo σm' := ⟨(r, σx'), (u, σm'), hj, f1, f2, rfl, rfl, rfl⟩
    exact ⟨_, _, _, t.turn, hT⟩
theorem s_11 (x : Nat → Int32) (σx : vS) (fo : Nat → Int64) (σm : vS) (h : TOG σx σm) (hj : x 0 &&& 31 = nI 11) : ∃ (σx' : vS) (fo' : Nat → Int64) (σm' : vS), Turn LN x σx fo σm σx' fo' σm' ∧ Inv σx' fo' σm' := by
  obtain ⟨kd, r, σx', u, σm', f1, f2, hT, hc⟩ := a_start (N := LN) (by decide) h (x 1)
  rcases hc with ⟨hk, hcd⟩ | ⟨hk, hcd⟩ | ⟨hk, hcd⟩
  · subst hk
    have t : T_11_0 LN x σx fo σm σx' fo σm' := ⟨(r, σx'), (u, σm'), hj, f1, f2, rfl, rfl, rfl⟩
    exact ⟨_, _, _, t.turn, hT⟩
  · subst hk
    have t : T_11_2 LN x σx fo σm σx' fo σm' := ⟨(r, σx'), (u, σm'), hj, f1, f2, rfl, rfl, rfl⟩
    exact ⟨_, _, _, t.turn, hT⟩
  · subst hk
    have t : T_11_3 LN x σx fo σm σx' fo σm' := ⟨(r, σx'), (u, σm'), hj, f1, f2, rfl, rfl, rfl⟩
    exact ⟨_, _, _, t.turn, hT⟩
theorem s_12 (x : Nat → Int32) (σx : vS) (fo : Nat → Int64) (σm : vS) (h : TOG σx σm) (hj : x 0 &&& 31 = nI 12) : ∃ (σx' : vS) (fo' : Nat → Int64) (σm' : vS), Turn LN x σx fo σm σx' fo' σm' ∧ Inv σx' fo' σm' := by
  obtain ⟨kd, r, σx', u, σm', f1, f2, hT, hc⟩ := a_run (N := LN) (by decide) h (x 1)
  rcases hc with ⟨hk, hcd, hu⟩ | ⟨hk, hcd⟩ | ⟨hk, hcd⟩
  · subst hk
    have t : T_12_0 LN x σx fo σm σx' (vp_updL fo (0 : Int32).toNatClampNeg r.toInt64) σm' := ⟨(r, σx'), (u, σm'), hj, f1, f2, rfl, rfl, rfl⟩
    exact ⟨_, _, _, t.turn, hT⟩
  · subst hk
    have t : T_12_1 LN x σx fo σm σx' fo σm' := ⟨(r, σx'), (u, σm'), hj, f1, f2, rfl, rfl, rfl⟩
    exact ⟨_, _, _, t.turn, hT⟩
  · subst hk
    have t : T_12_2 LN x σx fo σm σx' fo σm' := ⟨(r, σx'), (u, σm'), hj, f1, f2, rfl, rfl, rfl⟩
    exact ⟨_, _, _, t.turn, hT⟩
theorem s_13 (x : Nat → Int32) (σx : vS) (fo : Nat → Int64) (σm : vS) (h : TOG σx σm) (hj : x 0 &&& 31 = nI 13) : ∃ (σx' : vS) (fo' : Nat → Int64) (σm' : vS), Turn LN x σx fo σm σx' fo' σm' ∧ Inv σx' fo' σm' := by
  obtain ⟨r, σx', u, σm', f1, f2, hT, hu⟩ := a_status (N := LN) h
  have t : T_13 LN x σx fo σm σx' fo σm' := ⟨(r, σx'), (u, σm'), hj, f1, f2, rfl, rfl, rfl⟩
  exact ⟨_, _, _, t.turn, hT⟩
theorem s_14 (x : Nat → Int32) (σx : vS) (fo : Nat → Int64) (σm : vS) (h : TOG σx σm) (hj : x 0 &&& 31 = nI 14) : ∃ (σx' : vS) (fo' : Nat → Int64) (σm' : vS), Turn LN x σx fo σm σx' fo' σm' ∧ Inv σx' fo' σm' := by
  obtain ⟨r, σx', u, σm', f1, f2, hT, hu⟩ := a_atHand (N := LN) h
  have t : T_14 LN x σx fo σm σx' fo σm' := ⟨(r, σx'), (u, σm'), hj, f1, f2, rfl, rfl, rfl⟩
  exact ⟨_, _, _, t.turn, hT⟩
theorem s_15 (x : Nat → Int32) (σx : vS) (fo : Nat → Int64) (σm : vS) (h : TOG σx σm) (hj : x 0 &&& 31 = nI 15) : ∃ (σx' : vS) (fo' : Nat → Int64) (σm' : vS), Turn LN x σx fo σm σx' fo' σm' ∧ Inv σx' fo' σm' := by
  obtain ⟨kd, r, σx', u, σm', f1, f2, hT, hc⟩ := a_knows (N := LN) h (x 1) (x 2)
  rcases hc with ⟨hk, hcd, hu, h01⟩ | ⟨hk, hcd, _⟩
  · subst hk
    have t : T_15_0 LN x σx fo σm σx' (vp_updL fo (0 : Int32).toNatClampNeg (if r = 0 then (0 : Int64) else 1)) σm' := ⟨(r, σx'), (u, σm'), hj, f1, f2, rfl, rfl, rfl⟩
    exact ⟨_, _, _, t.turn, hT⟩
  · subst hk
    have t : T_15_3 LN x σx fo σm σx' fo σm' := ⟨(r, σx'), (u, σm'), hj, f1, f2, rfl, rfl, rfl⟩
    exact ⟨_, _, _, t.turn, hT⟩
theorem s_16 (x : Nat → Int32) (σx : vS) (fo : Nat → Int64) (σm : vS) (h : TOG σx σm) (hj : x 0 &&& 31 = nI 16) : ∃ (σx' : vS) (fo' : Nat → Int64) (σm' : vS), Turn LN x σx fo σm σx' fo' σm' ∧ Inv σx' fo' σm' := by
  obtain ⟨kd, r, σx', u, σm', f1, f2, hT, hc⟩ := a_value (N := LN) h (x 1) (x 2)
  rcases hc with ⟨hk, hcd, hu⟩ | ⟨hk, hcd⟩ | ⟨hk, hcd⟩
  · subst hk
    have t : T_16_0 LN x σx fo σm σx' (vp_updL fo (0 : Int32).toNatClampNeg r.toInt64) σm' := ⟨(r, σx'), (u, σm'), (σm'.1 0, σm'), hj, f1, f2, rfl, hcd, congrArg Int32.toInt64 hu.symm, rfl, rfl, rfl⟩
    exact ⟨_, _, _, t.turn, hT⟩
  · subst hk
    have t : T_16_3 LN x σx fo σm σx' fo σm' := ⟨(r, σx'), (u, σm'), (σm'.1 0, σm'), hj, f1, f2, rfl, hcd, rfl, rfl, rfl⟩
    exact ⟨_, _, _, t.turn, hT⟩
  · subst hk
    have t : T_16_2 LN x σx fo σm σx' fo σm' := ⟨(r, σx'), (u, σm'), (σm'.1 0, σm'), hj, f1, f2, rfl, hcd, rfl, rfl, rfl⟩
    exact ⟨_, _, _, t.turn, hT⟩
theorem Inv1 : ∀ (x : Nat → Int32) (σx : vS) (fo : Nat → Int64) (σm : vS), Inv σx fo σm → ∃ (σx' : vS) (fo' : Nat → Int64) (σm' : vS), Turn LN x σx fo σm σx' fo' σm' ∧ Inv σx' fo' σm' := by
  intro x σx fo σm h
  obtain ⟨j, hj, e⟩ := pk_andE (x 0) (m := 31) 5 (by decide)
  by_cases h0 : j = 0
  · subst h0; exact s_0 x σx fo σm h e
  by_cases h1 : j = 1
  · subst h1; exact s_1 x σx fo σm h e
  by_cases h2 : j = 2
  · subst h2; exact s_2 x σx fo σm h e
  by_cases h3 : j = 3
  · subst h3; exact s_3 x σx fo σm h e
  by_cases h4 : j = 4
  · subst h4; exact s_4 x σx fo σm h e
  by_cases h5 : j = 5
  · subst h5; exact s_5 x σx fo σm h e
  by_cases h6 : j = 6
  · subst h6; exact s_6 x σx fo σm h e
  by_cases h7 : j = 7
  · subst h7; exact s_7 x σx fo σm h e
  by_cases h8 : j = 8
  · subst h8; exact s_8 x σx fo σm h e
  by_cases h9 : j = 9
  · subst h9; exact s_9 x σx fo σm h e
  by_cases h10 : j = 10
  · subst h10; exact s_10 x σx fo σm h e
  by_cases h11 : j = 11
  · subst h11; exact s_11 x σx fo σm h e
  by_cases h12 : j = 12
  · subst h12; exact s_12 x σx fo σm h e
  by_cases h13 : j = 13
  · subst h13; exact s_13 x σx fo σm h e
  by_cases h14 : j = 14
  · subst h14; exact s_14 x σx fo σm h e
  by_cases h15 : j = 15
  · subst h15; exact s_15 x σx fo σm h e
  by_cases h16 : j = 16
  · subst h16; exact s_16 x σx fo σm h e
  have t : T_other LN x σx fo σm σx fo σm := ⟨j, by omega, hj, e, rfl, rfl, rfl⟩
  exact ⟨_, _, _, t.turn, h⟩
