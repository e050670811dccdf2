/-! Bits of an int. -/
def bt (x : Int32) (i : Nat) : Bool := x.toBitVec.getLsbD i
theorem bt_big {x : Int32} {i : Nat} (h : 32 ≤ i) : bt x i = false := BitVec.getLsbD_of_ge _ _ h
theorem bt_ext {x y : Int32} (h : ∀ i, i < 32 → bt x i = bt y i) : x = y := by
  have h1 : x.toBitVec = y.toBitVec := BitVec.eq_of_getLsbD_eq (fun i hi => h i hi)
  exact Int32.toBitVec_inj.mp h1
theorem bt_and {x y : Int32} {i : Nat} : bt (x &&& y) i = (bt x i && bt y i) := by
  unfold bt
  rw [Int32.toBitVec_and, BitVec.getLsbD_and]
theorem bt_or {x y : Int32} {i : Nat} : bt (x ||| y) i = (bt x i || bt y i) := by
  unfold bt
  rw [Int32.toBitVec_or, BitVec.getLsbD_or]
theorem bt_not {x : Int32} {i : Nat} (hi : i < 32) : bt (x ^^^ (-1)) i = !bt x i := by
  have h1 : ∀ i, i < 32 → (-1 : Int32).toBitVec.getLsbD i = true := by decide
  unfold bt
  rw [Int32.toBitVec_xor, BitVec.getLsbD_xor, h1 i hi]
  cases x.toBitVec.getLsbD i <;> rfl
theorem bt_0 {i : Nat} : bt 0 i = false := by
  show (0 : Int32).toBitVec.getLsbD i = false
  rw [show (0 : Int32).toBitVec = 0#32 from rfl, BitVec.getLsbD_zero]
theorem bt_1 {i : Nat} : bt 1 i = decide (i = 0) := by
  by_cases h : i < 32
  · have h1 : ∀ i, i < 32 → bt 1 i = decide (i = 0) := by decide
    exact h1 i h
  · rw [bt_big (by omega)]
    exact (decide_eq_false (by omega)).symm
theorem sh_k : ∀ k, k < 32 → ((nI k &&& 31).toBitVec.smod 32).toNat = k := by decide
theorem bt_shl {x : Int32} {s i : Nat} (hs : s < 32) : bt (x <<< (nI s &&& 31)) i = (decide (i < 32) && !decide (i < s) && bt x (i - s)) := by
  unfold bt
  rw [Int32.toBitVec_shiftLeft, BitVec.shiftLeft_eq', sh_k s hs, BitVec.getLsbD_shiftLeft]
theorem bt_shr {x : Int32} {s i : Nat} (hs : s < 32) (hi : s + i < 32) : bt (x >>> (nI s &&& 31)) i = bt x (s + i) := by
  unfold bt
  rw [Int32.toBitVec_shiftRight, BitVec.sshiftRight', sh_k s hs, BitVec.getLsbD_sshiftRight, if_pos hi, decide_eq_false (by omega)]
  rfl
theorem bt_one {s i : Nat} (hs : s < 32) (hi : i < 32) : bt ((1 : Int32) <<< (nI s &&& 31)) i = decide (i = s) := by
  rw [bt_shl hs, bt_1, decide_eq_true hi]
  by_cases h : i < s
  · rw [decide_eq_true h, decide_eq_false (show ¬ i = s by omega)]; rfl
  · rw [decide_eq_false h]
    by_cases h2 : i = s
    · rw [decide_eq_true h2, decide_eq_true (show i - s = 0 by omega)]; rfl
    · rw [decide_eq_false h2, decide_eq_false (show ¬ i - s = 0 by omega)]; rfl
theorem hold_iff {x : Int32} {i : Nat} (hi : i < 32) : (x >>> (nI i &&& 31)) &&& 1 = 0 ↔ bt x i = false := by
  have h0 : bt (x >>> (nI i &&& 31)) 0 = bt x i := by rw [bt_shr hi (by omega)]; rfl
  refine ⟨fun h => ?_, fun h => bt_ext (fun j hj => ?_)⟩
  · have h1 : bt ((x >>> (nI i &&& 31)) &&& 1) 0 = bt 0 0 := by rw [h]
    rw [bt_and, h0, bt_1, bt_0] at h1
    simpa using h1
  · rw [bt_and, bt_1, bt_0]
    by_cases hj0 : j = 0
    · rw [hj0, h0, h]; rfl
    · rw [decide_eq_false hj0, Bool.and_false]
theorem f_holds {N : Nat} {x : Int32} {i : Nat} (hi : i < 32) : f_V_holds N x (nI i) = some (if bt x i = true then 1 else 0) := by
  unfold f_V_holds
  by_cases h : bt x i = true
  · rw [if_pos h, if_neg (fun h9 => by rw [(hold_iff hi).mp h9] at h; cases h)]
  · rw [if_neg h, if_pos ((hold_iff hi).mpr (by simpa using h))]
theorem f_holdsAll {N : Nat} {x y : Int32} : (f_V_holdsAll N x y = some 1 ∧ ∀ i, i < 32 → bt y i = true → bt x i = true) ∨ (f_V_holdsAll N x y = some 0 ∧ ¬ ∀ i, i < 32 → bt y i = true → bt x i = true) := by
  unfold f_V_holdsAll
  by_cases h : ∀ i, i < 32 → bt y i = true → bt x i = true
  · refine Or.inl ⟨if_pos (bt_ext (fun i hi => ?_)), h⟩
    rw [bt_and, bt_not hi, bt_0]
    cases hy : bt y i
    · rfl
    · rw [h i hi hy]; rfl
  · refine Or.inr ⟨if_neg (fun h9 => h (fun i hi hy => ?_)), h⟩
    have h1 : bt (y &&& (x ^^^ (-1))) i = bt 0 i := by rw [h9]
    rw [bt_and, bt_not hi, bt_0, hy] at h1
    simpa using h1
