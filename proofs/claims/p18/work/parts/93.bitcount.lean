/-! How many bits are set. -/
theorem bt_nI {n i : Nat} (hi : i < 32) : bt (nI n) i = n.testBit i := by
  show (BitVec.ofNat 32 n).getLsbD i = n.testBit i
  rw [BitVec.getLsbD_ofNat, decide_eq_true hi, Bool.true_and]
theorem bt_ush {x : Int32} {k i : Nat} (hk : k < 32) (hi : i < 32) : bt ((x.toUInt32 >>> ((nI k).toUInt32 &&& Int32.toUInt32 31)).toInt32) i = bt x (k + i) := by
  have h1 : ((x.toUInt32 >>> ((nI k).toUInt32 &&& Int32.toUInt32 31)).toInt32).toBitVec = x.toBitVec >>> k := by
    show (x.toUInt32 >>> ((nI k).toUInt32 &&& Int32.toUInt32 31)).toBitVec = _
    rw [UInt32.toBitVec_shiftRight]
    have h2 : ∀ k, k < 32 → (((nI k).toUInt32 &&& Int32.toUInt32 31).toBitVec % 32).toNat = k := by decide
    rw [BitVec.ushiftRight_eq', h2 k hk]
    rfl
  unfold bt
  rw [h1, BitVec.getLsbD_ushiftRight]
theorem nI_and {a b : Nat} : nI a &&& nI b = nI (a &&& b) := bt_ext (fun i hi => by
  rw [bt_and, bt_nI hi, bt_nI hi, bt_nI hi, Nat.testBit_and])
theorem nI_ush {n k : Nat} (hn : n < 2 ^ 31) (hk : k < 32) : (((nI n).toUInt32 >>> ((nI k).toUInt32 &&& Int32.toUInt32 31)).toInt32) = nI (n >>> k) := bt_ext (fun i hi => by
  rw [bt_ush hk hi, bt_nI hi, Nat.testBit_shiftRight]
  by_cases h : k + i < 32
  · rw [bt_nI h]
  · rw [bt_big (by omega)]
    exact (Nat.testBit_lt_two_pow (Nat.lt_of_lt_of_le hn (Nat.pow_le_pow_right (by decide) (by omega)))).symm)
/-- the same over Nat -/
def bcN (n : Nat) : Nat :=
  let a := n - ((n >>> 1) &&& 1431655765)
  let b := (a &&& 858993459) + ((a >>> 2) &&& 858993459)
  let c := (b + (b >>> 4)) &&& 252645135
  let d := c + (c >>> 8)
  (d + (d >>> 16)) &&& 63
theorem bcN_eq {N n : Nat} (hn : n < 65536) : f_I_bitCount N (nI n) = some (nI (bcN n)) := by
  have u1 : (n >>> 1) &&& 1431655765 ≤ n := Nat.le_trans Nat.and_le_left (by rw [Nat.shiftRight_eq_div_pow]; exact Nat.div_le_self _ _)
  have e1 : nI n - (nI (n >>> 1) &&& (1431655765 : Int32)) = nI (n - ((n >>> 1) &&& 1431655765)) := by
    rw [show (1431655765 : Int32) = nI 1431655765 from rfl, nI_and, pk_sub u1]
  obtain ⟨a, ha⟩ : ∃ a, a = n - ((n >>> 1) &&& 1431655765) := ⟨_, rfl⟩
  have ha16 : a < 65536 := by omega
  obtain ⟨b, hb⟩ : ∃ b, b = (a &&& 858993459) + ((a >>> 2) &&& 858993459) := ⟨_, rfl⟩
  have hb17 : b < 131072 := by
    have h1 : a &&& 858993459 ≤ a := Nat.and_le_left
    have h2 : (a >>> 2) &&& 858993459 ≤ a >>> 2 := Nat.and_le_left
    have h3 : a >>> 2 ≤ a := by rw [Nat.shiftRight_eq_div_pow]; exact Nat.div_le_self _ _
    omega
  obtain ⟨c, hc⟩ : ∃ c, c = (b + (b >>> 4)) &&& 252645135 := ⟨_, rfl⟩
  have hc18 : c < 262144 := by
    have h1 : (b + (b >>> 4)) &&& 252645135 ≤ b + (b >>> 4) := Nat.and_le_left
    have h3 : b >>> 4 ≤ b := by rw [Nat.shiftRight_eq_div_pow]; exact Nat.div_le_self _ _
    omega
  obtain ⟨d, hd⟩ : ∃ d, d = c + (c >>> 8) := ⟨_, rfl⟩
  have hd19 : d < 524288 := by
    have h3 : c >>> 8 ≤ c := by rw [Nat.shiftRight_eq_div_pow]; exact Nat.div_le_self _ _
    omega
  unfold f_I_bitCount vlet
  dsimp only
  have s1 : (((nI n).toUInt32 >>> ((1 : Int32).toUInt32 &&& Int32.toUInt32 31)).toInt32) = nI (n >>> 1) := nI_ush (k := 1) (by omega) (by decide)
  rw [s1, e1, ← ha]
  have s2 : (((nI a).toUInt32 >>> ((2 : Int32).toUInt32 &&& Int32.toUInt32 31)).toInt32) = nI (a >>> 2) := nI_ush (k := 2) (by omega) (by decide)
  rw [s2, show (858993459 : Int32) = nI 858993459 from rfl, nI_and, nI_and, nI_add, ← hb]
  have s3 : (((nI b).toUInt32 >>> ((4 : Int32).toUInt32 &&& Int32.toUInt32 31)).toInt32) = nI (b >>> 4) := nI_ush (k := 4) (by omega) (by decide)
  rw [s3, show (252645135 : Int32) = nI 252645135 from rfl, nI_add, nI_and, ← hc]
  have s4 : (((nI c).toUInt32 >>> ((8 : Int32).toUInt32 &&& Int32.toUInt32 31)).toInt32) = nI (c >>> 8) := nI_ush (k := 8) (by omega) (by decide)
  rw [s4, nI_add, ← hd]
  have s5 : (((nI d).toUInt32 >>> ((16 : Int32).toUInt32 &&& Int32.toUInt32 31)).toInt32) = nI (d >>> 16) := nI_ush (k := 16) (by omega) (by decide)
  rw [s5, show (63 : Int32) = nI 63 from rfl, nI_add, nI_and]
  unfold bcN
  dsimp only
  rw [← ha, ← hb, ← hc, ← hd]
/-- over Nat's own functions -/
def bcR (n : Nat) : Nat :=
  (fun a => (fun b => (fun c => (fun d => Nat.land (Nat.add d (Nat.shiftRight d 16)) 63) (Nat.add c (Nat.shiftRight c 8))) (Nat.land (Nat.add b (Nat.shiftRight b 4)) 252645135)) (Nat.add (Nat.land a 858993459) (Nat.land (Nat.shiftRight a 2) 858993459))) (Nat.sub n (Nat.land (Nat.shiftRight n 1) 1431655765))
theorem bcR_eq (n : Nat) : bcN n = bcR n := rfl
def zcT (n : Nat) : Bool := Nat.beq (bcR n) (Nat.add (bcR (Nat.div n 2)) (Nat.mod n 2))
def zcB : Nat → Nat → Bool
  | 0 => fun a => zcT a
  | d + 1 => fun a => zcB d a && zcB d (Nat.add a (Nat.pow 2 d))
theorem zcB_at : ∀ d a, zcB d a = true → ∀ k, k < 2 ^ d → zcT (a + k) = true := by
  intro d
  induction d with
  | zero =>
    intro a h k hk
    have h0 : k = 0 := by
      have : (2 : Nat) ^ 0 = 1 := rfl
      omega
    rw [h0]
    exact h
  | succ d ih =>
    intro a h k hk
    have h : (zcB d a && zcB d (a + 2 ^ d)) = true := h
    rw [Bool.and_eq_true] at h
    by_cases e : k < 2 ^ d
    · exact ih a h.1 k e
    · have := ih (a + 2 ^ d) h.2 (k - 2 ^ d) (by rw [Nat.pow_succ] at hk; omega)
      rw [show a + 2 ^ d + (k - 2 ^ d) = a + k by omega] at this
      exact this
theorem zc_0 : zcB 12 0 = true := by decide +kernel
theorem zc_1 : zcB 12 4096 = true := by decide +kernel
theorem zc_2 : zcB 12 8192 = true := by decide +kernel
theorem zc_3 : zcB 12 12288 = true := by decide +kernel
theorem zc_4 : zcB 12 16384 = true := by decide +kernel
theorem zc_5 : zcB 12 20480 = true := by decide +kernel
theorem zc_6 : zcB 12 24576 = true := by decide +kernel
theorem zc_7 : zcB 12 28672 = true := by decide +kernel
theorem zc_8 : zcB 12 32768 = true := by decide +kernel
theorem zc_9 : zcB 12 36864 = true := by decide +kernel
theorem zc_10 : zcB 12 40960 = true := by decide +kernel
theorem zc_11 : zcB 12 45056 = true := by decide +kernel
theorem zc_12 : zcB 12 49152 = true := by decide +kernel
theorem zc_13 : zcB 12 53248 = true := by decide +kernel
theorem zc_14 : zcB 12 57344 = true := by decide +kernel
theorem zc_15 : zcB 12 61440 = true := by decide +kernel
theorem zc_all {n : Nat} (h : n < 65536) : zcT n = true := by
  by_cases h0 : n < 4096
  · rw [show n = 0 + (n - 0) by omega]; exact zcB_at 12 0 zc_0 (n - 0) (by show _ < 4096; omega)
  by_cases h1 : n < 8192
  · rw [show n = 4096 + (n - 4096) by omega]; exact zcB_at 12 4096 zc_1 (n - 4096) (by show _ < 4096; omega)
  by_cases h2 : n < 12288
  · rw [show n = 8192 + (n - 8192) by omega]; exact zcB_at 12 8192 zc_2 (n - 8192) (by show _ < 4096; omega)
  by_cases h3 : n < 16384
  · rw [show n = 12288 + (n - 12288) by omega]; exact zcB_at 12 12288 zc_3 (n - 12288) (by show _ < 4096; omega)
  by_cases h4 : n < 20480
  · rw [show n = 16384 + (n - 16384) by omega]; exact zcB_at 12 16384 zc_4 (n - 16384) (by show _ < 4096; omega)
  by_cases h5 : n < 24576
  · rw [show n = 20480 + (n - 20480) by omega]; exact zcB_at 12 20480 zc_5 (n - 20480) (by show _ < 4096; omega)
  by_cases h6 : n < 28672
  · rw [show n = 24576 + (n - 24576) by omega]; exact zcB_at 12 24576 zc_6 (n - 24576) (by show _ < 4096; omega)
  by_cases h7 : n < 32768
  · rw [show n = 28672 + (n - 28672) by omega]; exact zcB_at 12 28672 zc_7 (n - 28672) (by show _ < 4096; omega)
  by_cases h8 : n < 36864
  · rw [show n = 32768 + (n - 32768) by omega]; exact zcB_at 12 32768 zc_8 (n - 32768) (by show _ < 4096; omega)
  by_cases h9 : n < 40960
  · rw [show n = 36864 + (n - 36864) by omega]; exact zcB_at 12 36864 zc_9 (n - 36864) (by show _ < 4096; omega)
  by_cases h10 : n < 45056
  · rw [show n = 40960 + (n - 40960) by omega]; exact zcB_at 12 40960 zc_10 (n - 40960) (by show _ < 4096; omega)
  by_cases h11 : n < 49152
  · rw [show n = 45056 + (n - 45056) by omega]; exact zcB_at 12 45056 zc_11 (n - 45056) (by show _ < 4096; omega)
  by_cases h12 : n < 53248
  · rw [show n = 49152 + (n - 49152) by omega]; exact zcB_at 12 49152 zc_12 (n - 49152) (by show _ < 4096; omega)
  by_cases h13 : n < 57344
  · rw [show n = 53248 + (n - 53248) by omega]; exact zcB_at 12 53248 zc_13 (n - 53248) (by show _ < 4096; omega)
  by_cases h14 : n < 61440
  · rw [show n = 57344 + (n - 57344) by omega]; exact zcB_at 12 57344 zc_14 (n - 57344) (by show _ < 4096; omega)
  rw [show n = 61440 + (n - 61440) by omega]; exact zcB_at 12 61440 zc_15 (n - 61440) (by show _ < 4096; omega)
theorem cB_shift {f : Nat → Bool} : ∀ m, cB f (m + 1) = (if f 0 = true then 1 else 0) + cB (fun i => f (i + 1)) m := by
  intro m
  induction m with
  | zero =>
    show 0 + (if f 0 = true then 1 else 0) = (if f 0 = true then 1 else 0) + 0
    rw [Nat.zero_add, Nat.add_zero]
  | succ m ih =>
    show cB f (m + 1) + (if f (m + 1) = true then 1 else 0) = (if f 0 = true then 1 else 0) + (cB (fun i => f (i + 1)) m + (if f (m + 1) = true then 1 else 0))
    rw [ih]; omega
theorem bcR_cB : ∀ m, m ≤ 16 → ∀ n, n < 2 ^ m → bcR n = cB (fun i => n.testBit i) m := by
  intro m
  induction m with
  | zero =>
    intro _ n hn
    have h0 : n = 0 := by
      have : (2 : Nat) ^ 0 = 1 := rfl
      omega
    rw [h0]
    rfl
  | succ m ih =>
    intro hm n hn
    have h16 : n < 65536 := Nat.lt_of_lt_of_le hn (Nat.le_trans (Nat.pow_le_pow_right (by decide) hm) (by decide))
    have ht : bcR n = bcR (n / 2) + n % 2 := Nat.eq_of_beq_eq_true (zc_all h16)
    rw [ht, ih (by omega) (n / 2) (by rw [Nat.pow_succ] at hn; omega), cB_shift, cB_eq (h := fun i => n.testBit (i + 1)) m (fun i _ => (Nat.testBit_add_one n i).symm)]
    have h2 : n.testBit 0 = decide (n % 2 = 1) := Nat.testBit_zero n
    rw [h2]
    by_cases e : n % 2 = 1
    · rw [decide_eq_true e, if_pos rfl]; omega
    · rw [decide_eq_false e, if_neg (by decide)]; omega
