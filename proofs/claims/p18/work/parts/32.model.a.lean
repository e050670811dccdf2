def f_M_visitOf (N : Nat) (σ : vS) (a0 : Int32) (a1 : Int32) : Option (Int32 × vS) :=
  ((f_M_attributeOf N σ a0 a1).bind (fun q1 => (if bIn ((q1.1) / 4) 6 = true then (vlet (q1.2.2 12 (((q1.1) / 4)).toNatClampNeg) (fun i4 => (if bIn (q1.1) 24 = true then (vlet (q1.2.2 11 ((q1.1)).toNatClampNeg) (fun i6 => some ((i4 - ((i6 - 1) / 2)), q1.2))) else none))) else none)))
def f_M_isKnown (N : Nat) (σ : vS) (a0 : Int32) (a1 : Int32) : Option (Int32 × vS) :=
  (if bIn a1 16 = true then (vlet (σ.2 15 (a1).toNatClampNeg) (fun i2 => (if i2 = 0 then ((f_M_isDefined N σ a0 a1).bind (fun q4 => (if (q4.1) = 0 then (if (4 : Int32) ≤ a1 then ((f_M_visitOf N q4.2 a0 a1).bind (fun q8 => (if bIn (a1 / 4) 4 = true then (vlet (q8.2.2 16 ((a1 / 4)).toNatClampNeg) (fun i11 => (if i11 < (q8.1) then some ((0 : Int32), q8.2) else some ((1 : Int32), q8.2)))) else none))) else ((f_M_visitOf N q4.2 a0 a1).bind (fun q13 => (if bIn (0 : Int32) 4 = true then (vlet (q13.2.2 16 ((0 : Int32)).toNatClampNeg) (fun i16 => (if (i16 + 1) < (q13.1) then some ((0 : Int32), q13.2) else some ((1 : Int32), q13.2)))) else none)))) else some ((0 : Int32), q4.2)))) else some ((1 : Int32), σ)))) else none)
def f_M_canSet_62 (N : Nat) (k25 : vS → Int32 → Int32 → Int32 → Int32 → Option (Int32 × vS)) (τ : vS) (x1 : Int32) (x2 : Int32) (x4 : Int32) (y0 : Int32) : Option (Int32 × vS) :=
  k25 τ x1 x2 y0 (x4 + 1)
def f_M_canSet_61 (N : Nat) (k25 : vS → Int32 → Int32 → Int32 → Int32 → Option (Int32 × vS)) (τ : vS) (x1 : Int32) (x2 : Int32) (x4 : Int32) : Option (Int32 × vS) :=
  f_M_canSet_62 N (k25) τ x1 x2 x4 0
def f_M_canSet_57 (N : Nat) (k25 : vS → Int32 → Int32 → Int32 → Int32 → Option (Int32 × vS)) (τ : vS) (x1 : Int32) (x2 : Int32) (x4 : Int32) : Option (Int32 × vS) :=
  f_M_canSet_62 N (k25) τ x1 x2 x4 1
def f_M_canSet_25 (N : Nat) : Nat → vS → Int32 → Int32 → Int32 → Int32 → Option (Int32 × vS)
  | 0 => fun _ _ _ _ _ => none
  | n25 + 1 => fun τ x1 x2 x3 x4 => (if (16 : Int32) ≤ x4 then some (vp_nar .boolean x3, τ) else (if x3 = 0 then f_M_canSet_61 N (f_M_canSet_25 N n25) τ x1 x2 x4 else ((f_M_isUsed N τ x1 x4 x2).bind (fun q9 => (if (q9.1) = 0 then f_M_canSet_57 N (f_M_canSet_25 N n25) q9.2 x1 x2 x4 else ((f_M_isKnown N q9.2 x1 x4).bind (fun q12 => (if (q12.1) = 0 then f_M_canSet_61 N (f_M_canSet_25 N n25) q12.2 x1 x2 x4 else f_M_canSet_57 N (f_M_canSet_25 N n25) q12.2 x1 x2 x4))))))))
def f_M_canSet (N : Nat) (σ : vS) (a0 : Int32) (a1 : Int32) : Option (Int32 × vS) :=
  ((f_M_isDefined N σ a0 a1).bind (fun q1 => (if (q1.1) = 0 then some ((0 : Int32), q1.2) else (if bIn a1 16 = true then (vlet (q1.2.2 15 (a1).toNatClampNeg) (fun i5 => (if i5 = 0 then f_M_canSet_25 N N q1.2 a0 a1 1 0 else some ((0 : Int32), q1.2)))) else none))))
def f_M_isPrepared_59 (N : Nat) (k8 : vS → Int32 → Int32 → Int32 → Int32 → Int32 → Option (Int32 × vS)) (τ : vS) (x1 : Int32) (x2 : Int32) (x3 : Int32) (x5 : Int32) (y0 : Int32) : Option (Int32 × vS) :=
  k8 τ x1 x2 x3 y0 (x5 + 1)
def f_M_isPrepared_58 (N : Nat) (k8 : vS → Int32 → Int32 → Int32 → Int32 → Int32 → Option (Int32 × vS)) (τ : vS) (x1 : Int32) (x2 : Int32) (x3 : Int32) (x5 : Int32) : Option (Int32 × vS) :=
  f_M_isPrepared_59 N (k8) τ x1 x2 x3 x5 0
def f_M_isPrepared_54 (N : Nat) (k8 : vS → Int32 → Int32 → Int32 → Int32 → Int32 → Option (Int32 × vS)) (τ : vS) (x1 : Int32) (x2 : Int32) (x3 : Int32) (x5 : Int32) : Option (Int32 × vS) :=
  f_M_isPrepared_59 N (k8) τ x1 x2 x3 x5 1
def f_M_isPrepared_8 (N : Nat) : Nat → vS → Int32 → Int32 → Int32 → Int32 → Int32 → Option (Int32 × vS)
  | 0 => fun _ _ _ _ _ _ => none
  | n8 + 1 => fun τ x1 x2 x3 x4 x5 => (if (((4 : Int32) * x2) + 4) ≤ x5 then some (vp_nar .boolean x4, τ) else (if x4 = 0 then f_M_isPrepared_58 N (f_M_isPrepared_8 N n8) τ x1 x2 x3 x5 else ((f_M_isDefined N τ x1 x5).bind (fun q3 => (if (q3.1) = 0 then f_M_isPrepared_54 N (f_M_isPrepared_8 N n8) q3.2 x1 x2 x3 x5 else (if bIn x5 16 = true then (vlet (q3.2.2 15 (x5).toNatClampNeg) (fun i7 => (if i7 = 0 then ((f_M_visitOf N q3.2 x1 x5).bind (fun q9 => (if (q9.1) = x3 then f_M_isPrepared_58 N (f_M_isPrepared_8 N n8) q9.2 x1 x2 x3 x5 else f_M_isPrepared_54 N (f_M_isPrepared_8 N n8) q9.2 x1 x2 x3 x5))) else f_M_isPrepared_54 N (f_M_isPrepared_8 N n8) q3.2 x1 x2 x3 x5))) else none))))))
def f_M_isPrepared (N : Nat) (σ : vS) (a0 : Int32) (a1 : Int32) (a2 : Int32) : Option (Int32 × vS) :=
  f_M_isPrepared_8 N N σ a0 a1 a2 1 ((4 : Int32) * a1)
def f_M_canGo (N : Nat) (σ : vS) (a0 : Int32) (a1 : Int32) : Option (Int32 × vS) :=
  (if bIn a1 4 = true then (vlet (σ.2 16 (a1).toNatClampNeg) (fun i2 => (if bIn (((4 : Int32) * a0) + a1) 40 = true then (vlet (σ.2 3 ((((4 : Int32) * a0) + a1)).toNatClampNeg) (fun i4 => (if bIn i4 6 = true then (vlet (σ.2 12 (i4).toNatClampNeg) (fun i6 => (if i6 < (i2 + 1) then some ((0 : Int32), σ) else ((f_M_isPrepared N σ a0 a1 (i2 + 1)).bind (fun q8 => (if (q8.1) = 0 then some ((0 : Int32), q8.2) else some ((1 : Int32), q8.2))))))) else none))) else none))) else none)
def f_M_plan_210 (N : Nat) (k50 : vS → Int32 → Int32 → Option (Int32 × vS)) (τ : vS) (x1 : Int32) (x2 : Int32) : Option (Int32 × vS) :=
  (if bIn x1 10 = true then (vlet (τ.2 13 (x1).toNatClampNeg) (fun i11 => (if bIn (((48 : Int32) * x1) + i11) 480 = true then (vlet (sa τ 14 ((((48 : Int32) * x1) + i11)).toNatClampNeg x2) (fun σ13 => (if bIn x1 10 = true then (vlet (σ13.2 13 (x1).toNatClampNeg) (fun i15 => (if bIn x1 10 = true then (vlet (sa σ13 13 (x1).toNatClampNeg (i15 + 1)) (fun σ17 => k50 σ17 x1 x2)) else none))) else none))) else none))) else none)
def f_M_plan_205 (N : Nat) (k50 : vS → Int32 → Int32 → Option (Int32 × vS)) (τ : vS) (x1 : Int32) (x2 : Int32) (y0 : Int32) : Option (Int32 × vS) :=
  (if bIn y0 4 = true then (vlet (τ.2 16 (y0).toNatClampNeg) (fun i20 => (if bIn y0 4 = true then (vlet (sa τ 16 (y0).toNatClampNeg (i20 + 1)) (fun σ22 => f_M_plan_210 N (k50) σ22 x1 x2)) else none))) else none)
def f_M_plan_162 (N : Nat) (k50 : vS → Int32 → Int32 → Option (Int32 × vS)) (τ : vS) (x1 : Int32) (x2 : Int32) : Option (Int32 × vS) :=
  (if x2 = (-1) then k50 τ x1 x2 else (if (100 : Int32) ≤ x2 then (if (1000 : Int32) ≤ x2 then f_M_plan_205 N (k50) τ x1 x2 0 else f_M_plan_205 N (k50) τ x1 x2 (x2 / 100)) else (if bIn x2 16 = true then (vlet (sa τ 15 (x2).toNatClampNeg (vp_nar .boolean 1)) (fun σ25 => f_M_plan_210 N (k50) σ25 x1 x2)) else none)))
def f_M_plan_135 (N : Nat) (k50 : vS → Int32 → Int32 → Option (Int32 × vS)) (τ : vS) (x1 : Int32) (x2 : Int32) : Option (Int32 × vS) :=
  (if x2 = (-1) then ((f_M_canGo N τ x1 0).bind (fun q27 => (if (q27.1) = 0 then f_M_plan_162 N (k50) q27.2 x1 x2 else (if bIn (0 : Int32) 4 = true then (vlet (q27.2.2 16 ((0 : Int32)).toNatClampNeg) (fun i31 => f_M_plan_162 N (k50) q27.2 x1 (((1000 : Int32) + i31) + 1))) else none)))) else f_M_plan_162 N (k50) τ x1 x2)
def f_M_plan_128 (N : Nat) (k50 : vS → Int32 → Int32 → Option (Int32 × vS)) (k87 : vS → Int32 → Int32 → Int32 → Option (Int32 × vS)) (τ : vS) (x1 : Int32) (x3 : Int32) (y0 : Int32) : Option (Int32 × vS) :=
  k87 τ x1 y0 (x3 + 1)
def f_M_plan_87 (N : Nat) (k50 : vS → Int32 → Int32 → Option (Int32 × vS)) : Nat → vS → Int32 → Int32 → Int32 → Option (Int32 × vS)
  | 0 => fun _ _ _ _ => none
  | n87 + 1 => fun τ x1 x2 x3 => (if bIn x1 10 = true then (vlet (τ.2 2 (x1).toNatClampNeg) (fun i8 => (if i8 ≤ x3 then f_M_plan_135 N (k50) τ x1 x2 else (if x2 = (-1) then ((f_M_canGo N τ x1 x3).bind (fun q34 => (if (q34.1) = 0 then f_M_plan_128 N (k50) (f_M_plan_87 N (k50) n87) q34.2 x1 x3 x2 else (if bIn x3 4 = true then (vlet (q34.2.2 16 (x3).toNatClampNeg) (fun i38 => (vlet ((((100 : Int32) * x3) + i38) + 1) (fun i39 => f_M_plan_128 N (k50) (f_M_plan_87 N (k50) n87) q34.2 x1 x3 i39)))) else none)))) else f_M_plan_135 N (k50) τ x1 x2)))) else none)
def f_M_plan_78 (N : Nat) (k50 : vS → Int32 → Int32 → Option (Int32 × vS)) (k60 : vS → Int32 → Int32 → Int32 → Option (Int32 × vS)) (τ : vS) (x1 : Int32) (x3 : Int32) (y0 : Int32) : Option (Int32 × vS) :=
  k60 τ x1 y0 (x3 + (-1))
def f_M_plan_60 (N : Nat) (k50 : vS → Int32 → Int32 → Option (Int32 × vS)) : Nat → vS → Int32 → Int32 → Int32 → Option (Int32 × vS)
  | 0 => fun _ _ _ _ => none
  | n60 + 1 => fun τ x1 x2 x3 => (if x3 < 0 then f_M_plan_87 N (k50) N τ x1 x2 1 else ((f_M_canSet N τ x1 x3).bind (fun q40 => (if (q40.1) = 0 then f_M_plan_78 N (k50) (f_M_plan_60 N (k50) n60) q40.2 x1 x3 x2 else f_M_plan_78 N (k50) (f_M_plan_60 N (k50) n60) q40.2 x1 x3 x3))))
def f_M_plan_50 (N : Nat) : Nat → vS → Int32 → Int32 → Option (Int32 × vS)
  | 0 => fun _ _ _ => none
  | n50 + 1 => fun τ x1 x2 => (if x2 = (-1) then some ((0 : Int32), τ) else f_M_plan_60 N (f_M_plan_50 N n50) N τ x1 (-1) 15)
def f_M_plan_23 (N : Nat) : Nat → vS → Int32 → Int32 → Option (Int32 × vS)
  | 0 => fun _ _ _ => none
  | n23 + 1 => fun τ x1 x2 => (if (4 : Int32) ≤ x2 then (if bIn x1 10 = true then (vlet (sa τ 13 (x1).toNatClampNeg 0) (fun σ4 => f_M_plan_50 N N σ4 x1 0)) else none) else (if bIn x2 4 = true then (vlet (sa τ 16 (x2).toNatClampNeg 0) (fun σ44 => f_M_plan_23 N n23 σ44 x1 (x2 + 1))) else none))
def f_M_plan_2 (N : Nat) : Nat → vS → Int32 → Int32 → Option (Int32 × vS)
  | 0 => fun _ _ _ => none
  | n2 + 1 => fun τ x1 x2 => (if (16 : Int32) ≤ x2 then f_M_plan_23 N N τ x1 0 else (if bIn x2 16 = true then (vlet (sa τ 15 (x2).toNatClampNeg (vp_nar .boolean 0)) (fun σ46 => f_M_plan_2 N n2 σ46 x1 (x2 + 1))) else none))
def f_M_plan (N : Nat) (σ : vS) (a0 : Int32) : Option (Int32 × vS) :=
  f_M_plan_2 N N σ a0 0
def f_M_analyse_92 (N : Nat) : Nat → vS → Int32 → Int32 → Option (Int32 × vS)
  | 0 => fun _ _ _ => none
  | n92 + 1 => fun τ x1 x2 => (if (τ.1 2) ≤ x2 then (vlet (sf τ 3 1) (fun σ22 => some (x1, σ22))) else ((f_M_plan N τ x2).bind (fun q23 => (if bIn x2 10 = true then (vlet (q23.2.2 13 (x2).toNatClampNeg) (fun i26 => f_M_analyse_92 N n92 q23.2 (x1 + i26) (x2 + 1))) else none))))
def f_M_analyse_56 (N : Nat) : Nat → vS → Int32 → Option (Int32 × vS)
  | 0 => fun _ _ => none
  | n56 + 1 => fun τ x1 => (if (τ.1 1) ≤ x1 then ((f_M_mixes N τ).bind (fun q18 => (if (q18.1) = 0 then f_M_analyse_92 N N q18.2 0 0 else ((f_M_fail N q18.2 2).bind (fun q27 => some ((q27.1), q27.2)))))) else ((f_M_rankAll N τ x1).bind (fun q29 => f_M_analyse_56 N n56 q29.2 (x1 + 1))))
def f_M_analyse_31 (N : Nat) (τ : vS) : Option (Int32 × vS) :=
  ((f_M_fail N τ 1).bind (fun q8 => some ((q8.1), q8.2)))
def f_M_analyse (N : Nat) (σ : vS) : Option (Int32 × vS) :=
  (vlet (sf σ 0 0) (fun σ1 => ((f_M_forget N σ1).bind (fun q2 => ((f_M_blame N q2.2 0 (-1) (-1)).bind (fun q4 => ((f_M_lacks N q4.2).bind (fun q6 => (if (q6.1) = 0 then (if (q6.2.1 2) = 0 then f_M_analyse_31 N q6.2 else ((f_M_begin N q6.2).bind (fun q12 => ((f_M_circles N q12.2).bind (fun q14 => (if (q14.1) = 0 then f_M_analyse_56 N N q14.2 0 else ((f_M_fail N q14.2 2).bind (fun q31 => some ((q31.1), q31.2))))))))) else f_M_analyse_31 N q6.2)))))))))
def f_M_fault (N : Nat) (σ : vS) (a0 : Int32) : Option (Int32 × vS) :=
  (vlet (sf σ 0 0) (fun σ1 => (if a0 = 0 then some ((σ1.1 4), σ1) else (if a0 = 1 then some ((σ1.1 5), σ1) else (if a0 = 2 then some ((σ1.1 6), σ1) else some (((-1) : Int32), σ1))))))
def f_M_visits_25 (N : Nat) (τ : vS) (x1 : Int32) (y0 : Int32) : Option (Int32 × vS) :=
  (vlet (sf τ 0 y0) (fun σ1 => (if (σ1.1 0) ≤ 0 then (if bIn x1 6 = true then (vlet (σ1.2 12 (x1).toNatClampNeg) (fun i4 => some (i4, σ1))) else none) else some ((0 : Int32), σ1))))
def f_M_visits (N : Nat) (σ : vS) (a0 : Int32) : Option (Int32 × vS) :=
  (if (σ.1 3) = 0 then f_M_visits_25 N σ a0 1 else ((f_M_isSymbol N σ a0).bind (fun q6 => (if (q6.1) = 0 then f_M_visits_25 N q6.2 a0 2 else f_M_visits_25 N q6.2 a0 0))))
def f_M_rank_39 (N : Nat) (τ : vS) (x1 : Int32) (x2 : Int32) (y0 : Int32) : Option (Int32 × vS) :=
  (vlet (sf τ 0 y0) (fun σ1 => (if (σ1.1 0) ≤ 0 then (if bIn (((4 : Int32) * x1) + x2) 24 = true then (vlet (σ1.2 11 ((((4 : Int32) * x1) + x2)).toNatClampNeg) (fun i4 => some (i4, σ1))) else none) else some ((0 : Int32), σ1))))
def f_M_rank_38 (N : Nat) (τ : vS) (x1 : Int32) (x2 : Int32) : Option (Int32 × vS) :=
  f_M_rank_39 N τ x1 x2 2
def f_M_rank (N : Nat) (σ : vS) (a0 : Int32) (a1 : Int32) : Option (Int32 × vS) :=
  (if (σ.1 3) = 0 then f_M_rank_39 N σ a0 a1 1 else ((f_M_isSymbol N σ a0).bind (fun q6 => (if (q6.1) = 0 then f_M_rank_38 N q6.2 a0 a1 else (if a1 < 0 then f_M_rank_38 N q6.2 a0 a1 else (if bIn a0 6 = true then (vlet (q6.2.2 0 (a0).toNatClampNeg) (fun i11 => (if i11 ≤ a1 then f_M_rank_38 N q6.2 a0 a1 else f_M_rank_39 N q6.2 a0 a1 0))) else none))))))
def f_M_instruction_33 (N : Nat) (τ : vS) (x1 : Int32) (x2 : Int32) (y0 : Int32) : Option (Int32 × vS) :=
  (vlet (sf τ 0 y0) (fun σ1 => (if (σ1.1 0) ≤ 0 then (if bIn x1 10 = true then (vlet (σ1.2 13 (x1).toNatClampNeg) (fun i4 => (if i4 ≤ x2 then some (((-1) : Int32), σ1) else (if bIn (((48 : Int32) * x1) + x2) 480 = true then (vlet (σ1.2 14 ((((48 : Int32) * x1) + x2)).toNatClampNeg) (fun i7 => some (i7, σ1))) else none)))) else none) else some ((0 : Int32), σ1))))
def f_M_instruction_28 (N : Nat) (τ : vS) (x1 : Int32) (x2 : Int32) : Option (Int32 × vS) :=
  f_M_instruction_33 N τ x1 x2 2
def f_M_instruction (N : Nat) (σ : vS) (a0 : Int32) (a1 : Int32) : Option (Int32 × vS) :=
  (if (σ.1 3) = 0 then f_M_instruction_33 N σ a0 a1 1 else (if a0 < 0 then f_M_instruction_28 N σ a0 a1 else (if (σ.1 2) ≤ a0 then f_M_instruction_28 N σ a0 a1 else (if (0 : Int32) ≤ a1 then f_M_instruction_33 N σ a0 a1 0 else f_M_instruction_28 N σ a0 a1))))
