/-! How many bits are set. -/
def bcC (n : Nat) : Bool := decide (f_I_bitCount 0 (nI n) = some (nI (cB (fun i => n.testBit i) 16)))
def bcA (a : Nat) : Nat → Bool
  | 0 => true
  | k + 1 => bcC (a + k) && bcA a k
theorem bcA_at {a : Nat} : ∀ m, bcA a m = true → ∀ k, k < m → bcC (a + k) = true := by
  intro m
  induction m with
  | zero => intro _ k h; exact absurd h (Nat.not_lt_zero _)
  | succ m ih =>
    intro h k hk
    have h : (bcC (a + m) && bcA a m) = true := h
    rw [Bool.and_eq_true] at h
    by_cases e : k = m
    · rw [e]; exact h.1
    · exact ih h.2 k (by omega)
theorem bc_0 : bcA 0 1024 = true := by decide +kernel
theorem bc_1 : bcA 1024 1024 = true := by decide +kernel
theorem bc_2 : bcA 2048 1024 = true := by decide +kernel
theorem bc_3 : bcA 3072 1024 = true := by decide +kernel
theorem bc_4 : bcA 4096 1024 = true := by decide +kernel
theorem bc_5 : bcA 5120 1024 = true := by decide +kernel
theorem bc_6 : bcA 6144 1024 = true := by decide +kernel
theorem bc_7 : bcA 7168 1024 = true := by decide +kernel
theorem bc_8 : bcA 8192 1024 = true := by decide +kernel
theorem bc_9 : bcA 9216 1024 = true := by decide +kernel
theorem bc_10 : bcA 10240 1024 = true := by decide +kernel
theorem bc_11 : bcA 11264 1024 = true := by decide +kernel
theorem bc_12 : bcA 12288 1024 = true := by decide +kernel
theorem bc_13 : bcA 13312 1024 = true := by decide +kernel
theorem bc_14 : bcA 14336 1024 = true := by decide +kernel
theorem bc_15 : bcA 15360 1024 = true := by decide +kernel
theorem bc_16 : bcA 16384 1024 = true := by decide +kernel
theorem bc_17 : bcA 17408 1024 = true := by decide +kernel
theorem bc_18 : bcA 18432 1024 = true := by decide +kernel
theorem bc_19 : bcA 19456 1024 = true := by decide +kernel
theorem bc_20 : bcA 20480 1024 = true := by decide +kernel
theorem bc_21 : bcA 21504 1024 = true := by decide +kernel
theorem bc_22 : bcA 22528 1024 = true := by decide +kernel
theorem bc_23 : bcA 23552 1024 = true := by decide +kernel
theorem bc_24 : bcA 24576 1024 = true := by decide +kernel
theorem bc_25 : bcA 25600 1024 = true := by decide +kernel
theorem bc_26 : bcA 26624 1024 = true := by decide +kernel
theorem bc_27 : bcA 27648 1024 = true := by decide +kernel
theorem bc_28 : bcA 28672 1024 = true := by decide +kernel
theorem bc_29 : bcA 29696 1024 = true := by decide +kernel
theorem bc_30 : bcA 30720 1024 = true := by decide +kernel
theorem bc_31 : bcA 31744 1024 = true := by decide +kernel
theorem bc_32 : bcA 32768 1024 = true := by decide +kernel
theorem bc_33 : bcA 33792 1024 = true := by decide +kernel
theorem bc_34 : bcA 34816 1024 = true := by decide +kernel
theorem bc_35 : bcA 35840 1024 = true := by decide +kernel
theorem bc_36 : bcA 36864 1024 = true := by decide +kernel
theorem bc_37 : bcA 37888 1024 = true := by decide +kernel
theorem bc_38 : bcA 38912 1024 = true := by decide +kernel
theorem bc_39 : bcA 39936 1024 = true := by decide +kernel
theorem bc_40 : bcA 40960 1024 = true := by decide +kernel
theorem bc_41 : bcA 41984 1024 = true := by decide +kernel
theorem bc_42 : bcA 43008 1024 = true := by decide +kernel
theorem bc_43 : bcA 44032 1024 = true := by decide +kernel
theorem bc_44 : bcA 45056 1024 = true := by decide +kernel
theorem bc_45 : bcA 46080 1024 = true := by decide +kernel
theorem bc_46 : bcA 47104 1024 = true := by decide +kernel
theorem bc_47 : bcA 48128 1024 = true := by decide +kernel
theorem bc_48 : bcA 49152 1024 = true := by decide +kernel
theorem bc_49 : bcA 50176 1024 = true := by decide +kernel
theorem bc_50 : bcA 51200 1024 = true := by decide +kernel
theorem bc_51 : bcA 52224 1024 = true := by decide +kernel
theorem bc_52 : bcA 53248 1024 = true := by decide +kernel
theorem bc_53 : bcA 54272 1024 = true := by decide +kernel
theorem bc_54 : bcA 55296 1024 = true := by decide +kernel
theorem bc_55 : bcA 56320 1024 = true := by decide +kernel
theorem bc_56 : bcA 57344 1024 = true := by decide +kernel
theorem bc_57 : bcA 58368 1024 = true := by decide +kernel
theorem bc_58 : bcA 59392 1024 = true := by decide +kernel
theorem bc_59 : bcA 60416 1024 = true := by decide +kernel
theorem bc_60 : bcA 61440 1024 = true := by decide +kernel
theorem bc_61 : bcA 62464 1024 = true := by decide +kernel
theorem bc_62 : bcA 63488 1024 = true := by decide +kernel
theorem bc_63 : bcA 64512 1024 = true := by decide +kernel
theorem bc_all {n : Nat} (h : n < 65536) : bcC n = true := by
  by_cases h0 : n < 1024
  · rw [show n = 0 + (n - 0) by omega]; exact bcA_at 1024 bc_0 (n - 0) (by omega)
  by_cases h1 : n < 2048
  · rw [show n = 1024 + (n - 1024) by omega]; exact bcA_at 1024 bc_1 (n - 1024) (by omega)
  by_cases h2 : n < 3072
  · rw [show n = 2048 + (n - 2048) by omega]; exact bcA_at 1024 bc_2 (n - 2048) (by omega)
  by_cases h3 : n < 4096
  · rw [show n = 3072 + (n - 3072) by omega]; exact bcA_at 1024 bc_3 (n - 3072) (by omega)
  by_cases h4 : n < 5120
  · rw [show n = 4096 + (n - 4096) by omega]; exact bcA_at 1024 bc_4 (n - 4096) (by omega)
  by_cases h5 : n < 6144
  · rw [show n = 5120 + (n - 5120) by omega]; exact bcA_at 1024 bc_5 (n - 5120) (by omega)
  by_cases h6 : n < 7168
  · rw [show n = 6144 + (n - 6144) by omega]; exact bcA_at 1024 bc_6 (n - 6144) (by omega)
  by_cases h7 : n < 8192
  · rw [show n = 7168 + (n - 7168) by omega]; exact bcA_at 1024 bc_7 (n - 7168) (by omega)
  by_cases h8 : n < 9216
  · rw [show n = 8192 + (n - 8192) by omega]; exact bcA_at 1024 bc_8 (n - 8192) (by omega)
  by_cases h9 : n < 10240
  · rw [show n = 9216 + (n - 9216) by omega]; exact bcA_at 1024 bc_9 (n - 9216) (by omega)
  by_cases h10 : n < 11264
  · rw [show n = 10240 + (n - 10240) by omega]; exact bcA_at 1024 bc_10 (n - 10240) (by omega)
  by_cases h11 : n < 12288
  · rw [show n = 11264 + (n - 11264) by omega]; exact bcA_at 1024 bc_11 (n - 11264) (by omega)
  by_cases h12 : n < 13312
  · rw [show n = 12288 + (n - 12288) by omega]; exact bcA_at 1024 bc_12 (n - 12288) (by omega)
  by_cases h13 : n < 14336
  · rw [show n = 13312 + (n - 13312) by omega]; exact bcA_at 1024 bc_13 (n - 13312) (by omega)
  by_cases h14 : n < 15360
  · rw [show n = 14336 + (n - 14336) by omega]; exact bcA_at 1024 bc_14 (n - 14336) (by omega)
  by_cases h15 : n < 16384
  · rw [show n = 15360 + (n - 15360) by omega]; exact bcA_at 1024 bc_15 (n - 15360) (by omega)
  by_cases h16 : n < 17408
  · rw [show n = 16384 + (n - 16384) by omega]; exact bcA_at 1024 bc_16 (n - 16384) (by omega)
  by_cases h17 : n < 18432
  · rw [show n = 17408 + (n - 17408) by omega]; exact bcA_at 1024 bc_17 (n - 17408) (by omega)
  by_cases h18 : n < 19456
  · rw [show n = 18432 + (n - 18432) by omega]; exact bcA_at 1024 bc_18 (n - 18432) (by omega)
  by_cases h19 : n < 20480
  · rw [show n = 19456 + (n - 19456) by omega]; exact bcA_at 1024 bc_19 (n - 19456) (by omega)
  by_cases h20 : n < 21504
  · rw [show n = 20480 + (n - 20480) by omega]; exact bcA_at 1024 bc_20 (n - 20480) (by omega)
  by_cases h21 : n < 22528
  · rw [show n = 21504 + (n - 21504) by omega]; exact bcA_at 1024 bc_21 (n - 21504) (by omega)
  by_cases h22 : n < 23552
  · rw [show n = 22528 + (n - 22528) by omega]; exact bcA_at 1024 bc_22 (n - 22528) (by omega)
  by_cases h23 : n < 24576
  · rw [show n = 23552 + (n - 23552) by omega]; exact bcA_at 1024 bc_23 (n - 23552) (by omega)
  by_cases h24 : n < 25600
  · rw [show n = 24576 + (n - 24576) by omega]; exact bcA_at 1024 bc_24 (n - 24576) (by omega)
  by_cases h25 : n < 26624
  · rw [show n = 25600 + (n - 25600) by omega]; exact bcA_at 1024 bc_25 (n - 25600) (by omega)
  by_cases h26 : n < 27648
  · rw [show n = 26624 + (n - 26624) by omega]; exact bcA_at 1024 bc_26 (n - 26624) (by omega)
  by_cases h27 : n < 28672
  · rw [show n = 27648 + (n - 27648) by omega]; exact bcA_at 1024 bc_27 (n - 27648) (by omega)
  by_cases h28 : n < 29696
  · rw [show n = 28672 + (n - 28672) by omega]; exact bcA_at 1024 bc_28 (n - 28672) (by omega)
  by_cases h29 : n < 30720
  · rw [show n = 29696 + (n - 29696) by omega]; exact bcA_at 1024 bc_29 (n - 29696) (by omega)
  by_cases h30 : n < 31744
  · rw [show n = 30720 + (n - 30720) by omega]; exact bcA_at 1024 bc_30 (n - 30720) (by omega)
  by_cases h31 : n < 32768
  · rw [show n = 31744 + (n - 31744) by omega]; exact bcA_at 1024 bc_31 (n - 31744) (by omega)
  by_cases h32 : n < 33792
  · rw [show n = 32768 + (n - 32768) by omega]; exact bcA_at 1024 bc_32 (n - 32768) (by omega)
  by_cases h33 : n < 34816
  · rw [show n = 33792 + (n - 33792) by omega]; exact bcA_at 1024 bc_33 (n - 33792) (by omega)
  by_cases h34 : n < 35840
  · rw [show n = 34816 + (n - 34816) by omega]; exact bcA_at 1024 bc_34 (n - 34816) (by omega)
  by_cases h35 : n < 36864
  · rw [show n = 35840 + (n - 35840) by omega]; exact bcA_at 1024 bc_35 (n - 35840) (by omega)
  by_cases h36 : n < 37888
  · rw [show n = 36864 + (n - 36864) by omega]; exact bcA_at 1024 bc_36 (n - 36864) (by omega)
  by_cases h37 : n < 38912
  · rw [show n = 37888 + (n - 37888) by omega]; exact bcA_at 1024 bc_37 (n - 37888) (by omega)
  by_cases h38 : n < 39936
  · rw [show n = 38912 + (n - 38912) by omega]; exact bcA_at 1024 bc_38 (n - 38912) (by omega)
  by_cases h39 : n < 40960
  · rw [show n = 39936 + (n - 39936) by omega]; exact bcA_at 1024 bc_39 (n - 39936) (by omega)
  by_cases h40 : n < 41984
  · rw [show n = 40960 + (n - 40960) by omega]; exact bcA_at 1024 bc_40 (n - 40960) (by omega)
  by_cases h41 : n < 43008
  · rw [show n = 41984 + (n - 41984) by omega]; exact bcA_at 1024 bc_41 (n - 41984) (by omega)
  by_cases h42 : n < 44032
  · rw [show n = 43008 + (n - 43008) by omega]; exact bcA_at 1024 bc_42 (n - 43008) (by omega)
  by_cases h43 : n < 45056
  · rw [show n = 44032 + (n - 44032) by omega]; exact bcA_at 1024 bc_43 (n - 44032) (by omega)
  by_cases h44 : n < 46080
  · rw [show n = 45056 + (n - 45056) by omega]; exact bcA_at 1024 bc_44 (n - 45056) (by omega)
  by_cases h45 : n < 47104
  · rw [show n = 46080 + (n - 46080) by omega]; exact bcA_at 1024 bc_45 (n - 46080) (by omega)
  by_cases h46 : n < 48128
  · rw [show n = 47104 + (n - 47104) by omega]; exact bcA_at 1024 bc_46 (n - 47104) (by omega)
  by_cases h47 : n < 49152
  · rw [show n = 48128 + (n - 48128) by omega]; exact bcA_at 1024 bc_47 (n - 48128) (by omega)
  by_cases h48 : n < 50176
  · rw [show n = 49152 + (n - 49152) by omega]; exact bcA_at 1024 bc_48 (n - 49152) (by omega)
  by_cases h49 : n < 51200
  · rw [show n = 50176 + (n - 50176) by omega]; exact bcA_at 1024 bc_49 (n - 50176) (by omega)
  by_cases h50 : n < 52224
  · rw [show n = 51200 + (n - 51200) by omega]; exact bcA_at 1024 bc_50 (n - 51200) (by omega)
  by_cases h51 : n < 53248
  · rw [show n = 52224 + (n - 52224) by omega]; exact bcA_at 1024 bc_51 (n - 52224) (by omega)
  by_cases h52 : n < 54272
  · rw [show n = 53248 + (n - 53248) by omega]; exact bcA_at 1024 bc_52 (n - 53248) (by omega)
  by_cases h53 : n < 55296
  · rw [show n = 54272 + (n - 54272) by omega]; exact bcA_at 1024 bc_53 (n - 54272) (by omega)
  by_cases h54 : n < 56320
  · rw [show n = 55296 + (n - 55296) by omega]; exact bcA_at 1024 bc_54 (n - 55296) (by omega)
  by_cases h55 : n < 57344
  · rw [show n = 56320 + (n - 56320) by omega]; exact bcA_at 1024 bc_55 (n - 56320) (by omega)
  by_cases h56 : n < 58368
  · rw [show n = 57344 + (n - 57344) by omega]; exact bcA_at 1024 bc_56 (n - 57344) (by omega)
  by_cases h57 : n < 59392
  · rw [show n = 58368 + (n - 58368) by omega]; exact bcA_at 1024 bc_57 (n - 58368) (by omega)
  by_cases h58 : n < 60416
  · rw [show n = 59392 + (n - 59392) by omega]; exact bcA_at 1024 bc_58 (n - 59392) (by omega)
  by_cases h59 : n < 61440
  · rw [show n = 60416 + (n - 60416) by omega]; exact bcA_at 1024 bc_59 (n - 60416) (by omega)
  by_cases h60 : n < 62464
  · rw [show n = 61440 + (n - 61440) by omega]; exact bcA_at 1024 bc_60 (n - 61440) (by omega)
  by_cases h61 : n < 63488
  · rw [show n = 62464 + (n - 62464) by omega]; exact bcA_at 1024 bc_61 (n - 62464) (by omega)
  by_cases h62 : n < 64512
  · rw [show n = 63488 + (n - 63488) by omega]; exact bcA_at 1024 bc_62 (n - 63488) (by omega)
  rw [show n = 64512 + (n - 64512) by omega]; exact bcA_at 1024 bc_63 (n - 64512) (by omega)
