def f_M_thrown (N : Nat) (σ : vS) : Option (Int32 × vS) :=
  some ((σ.1 0), σ)
def f_M_fail (N : Nat) (σ : vS) (a0 : Int32) : Option (Int32 × vS) :=
  (vlet (sf σ 0 a0) (fun σ1 => some ((0 : Int32), σ1)))
def f_M_endRun_12 (N : Nat) : Nat → vS → Int32 → Option (Int32 × vS)
  | 0 => fun _ _ => none
  | n12 + 1 => fun τ x1 => (if (160 : Int32) ≤ x1 then some ((0 : Int32), τ) else (if bIn x1 160 = true then (vlet (sa τ 22 (x1).toNatClampNeg (vp_nar .boolean 0)) (fun σ5 => f_M_endRun_12 N n12 σ5 (x1 + 1))) else none))
def f_M_endRun (N : Nat) (σ : vS) : Option (Int32 × vS) :=
  (vlet (sf σ 8 (-1)) (fun σ1 => (vlet (sf σ1 9 (-1)) (fun σ2 => f_M_endRun_12 N N σ2 0))))
def f_M_forget (N : Nat) (σ : vS) : Option (Int32 × vS) :=
  (vlet (sf σ 3 0) (fun σ1 => ((f_M_endRun N σ1).bind (fun q2 => some ((0 : Int32), q2.2)))))
def f_M_symbol_88 (N : Nat) (k52 : vS → Int32 → Int32 → Int32 → Option (Int32 × vS)) (τ : vS) (x1 : Int32) (x2 : Int32) (x3 : Int32) (y0 : Int32) (y1 : Int32) : Option (Int32 × vS) :=
  (if bIn y1 24 = true then (vlet (sa τ 1 (y1).toNatClampNeg (vp_nar .boolean y0)) (fun σ10 => k52 σ10 x1 x2 (x3 + 1))) else none)
def f_M_symbol_87 (N : Nat) (k52 : vS → Int32 → Int32 → Int32 → Option (Int32 × vS)) (τ : vS) (x1 : Int32) (x2 : Int32) (x3 : Int32) (y0 : Int32) : Option (Int32 × vS) :=
  f_M_symbol_88 N (k52) τ x1 x2 x3 0 y0
def f_M_symbol_52 (N : Nat) : Nat → vS → Int32 → Int32 → Int32 → Option (Int32 × vS)
  | 0 => fun _ _ _ _ => none
  | n52 + 1 => fun τ x1 x2 x3 => (if (4 : Int32) ≤ x3 then (vlet (sf τ 1 ((τ.1 1) + 1)) (fun σ6 => ((f_M_forget N σ6).bind (fun q7 => some (((q7.2.1 1) - 1), q7.2))))) else (if x1 ≤ x3 then f_M_symbol_87 N (f_M_symbol_52 N n52) τ x1 x2 x3 (((4 : Int32) * (τ.1 1)) + x3) else (if ((x2 >>> (x3 &&& 31)) &&& 1) = 1 then f_M_symbol_88 N (f_M_symbol_52 N n52) τ x1 x2 x3 1 (((4 : Int32) * (τ.1 1)) + x3) else f_M_symbol_87 N (f_M_symbol_52 N n52) τ x1 x2 x3 (((4 : Int32) * (τ.1 1)) + x3))))
def f_M_symbol_28 (N : Nat) (τ : vS) (x1 : Int32) (x2 : Int32) (y0 : Int32) : Option (Int32 × vS) :=
  (vlet (sf τ 0 y0) (fun σ1 => (if (σ1.1 0) ≤ 0 then (if bIn (σ1.1 1) 6 = true then (vlet (sa σ1 0 ((σ1.1 1)).toNatClampNeg x1) (fun σ4 => f_M_symbol_52 N N σ4 x1 x2 0)) else none) else some ((0 : Int32), σ1))))
def f_M_symbol_10 (N : Nat) (τ : vS) (x1 : Int32) (x2 : Int32) : Option (Int32 × vS) :=
  f_M_symbol_28 N τ x1 x2 1
def f_M_symbol (N : Nat) (σ : vS) (a0 : Int32) (a1 : Int32) : Option (Int32 × vS) :=
  (if a0 < 0 then f_M_symbol_10 N σ a0 a1 else (if a0 ≤ 4 then (if (σ.1 1) = 6 then f_M_symbol_28 N σ a0 a1 2 else f_M_symbol_28 N σ a0 a1 0) else f_M_symbol_10 N σ a0 a1))
def f_M_isSymbol (N : Nat) (σ : vS) (a0 : Int32) : Option (Int32 × vS) :=
  (if a0 < 0 then some ((0 : Int32), σ) else (if (σ.1 1) ≤ a0 then some ((0 : Int32), σ) else some ((1 : Int32), σ)))
def f_M_production_221 (N : Nat) (τ : vS) (x8 : Int32) (y0 : Int32) (y1 : Int32) : Option (Int32 × vS) :=
  (if bIn y1 10 = true then (vlet (sa τ 2 (y1).toNatClampNeg y0) (fun σ14 => (vlet (sf σ14 2 ((σ14.1 2) + 1)) (fun σ15 => ((f_M_forget N σ15).bind (fun q16 => some (x8, q16.2))))))) else none)
def f_M_production_121 (N : Nat) (τ : vS) (x1 : Int32) (x2 : Int32) (x3 : Int32) (x4 : Int32) (y0 : Int32) : Option (Int32 × vS) :=
  (vlet (sf τ 0 y0) (fun σ3 => (if (σ3.1 0) ≤ 0 then (if bIn ((4 : Int32) * (σ3.1 2)) 40 = true then (vlet (sa σ3 3 (((4 : Int32) * (σ3.1 2))).toNatClampNeg x1) (fun σ6 => (if bIn (((4 : Int32) * (σ3.1 2)) + 1) 40 = true then (vlet (sa σ6 3 ((((4 : Int32) * (σ3.1 2)) + 1)).toNatClampNeg x2) (fun σ8 => (if bIn (((4 : Int32) * (σ3.1 2)) + 2) 40 = true then (vlet (sa σ8 3 ((((4 : Int32) * (σ3.1 2)) + 2)).toNatClampNeg x3) (fun σ10 => (if bIn (((4 : Int32) * (σ3.1 2)) + 3) 40 = true then (vlet (sa σ10 3 ((((4 : Int32) * (σ3.1 2)) + 3)).toNatClampNeg x4) (fun σ12 => (if x2 = (-1) then f_M_production_221 N σ12 (σ3.1 2) 1 (σ3.1 2) else (if x3 = (-1) then f_M_production_221 N σ12 (σ3.1 2) 2 (σ3.1 2) else (if x4 = (-1) then f_M_production_221 N σ12 (σ3.1 2) 3 (σ3.1 2) else f_M_production_221 N σ12 (σ3.1 2) 4 (σ3.1 2)))))) else none))) else none))) else none))) else none) else some ((0 : Int32), σ3))))
def f_M_production_103 (N : Nat) (τ : vS) (x1 : Int32) (x2 : Int32) (x3 : Int32) (x4 : Int32) : Option (Int32 × vS) :=
  f_M_production_121 N τ x1 x2 x3 x4 1
def f_M_production_77 (N : Nat) (τ : vS) (x1 : Int32) (x2 : Int32) (x3 : Int32) (x4 : Int32) (x5 : Int32) (x6 : Int32) (y0 : Int32) : Option (Int32 × vS) :=
  ((f_M_isSymbol N τ x1).bind (fun q1 => (if (q1.1) = 0 then f_M_production_103 N q1.2 x1 x2 x3 x4 else (if x5 = 0 then f_M_production_103 N q1.2 x1 x2 x3 x4 else (if x6 = 0 then f_M_production_103 N q1.2 x1 x2 x3 x4 else (if y0 = 0 then f_M_production_103 N q1.2 x1 x2 x3 x4 else (if (q1.2.1 2) = 10 then f_M_production_121 N q1.2 x1 x2 x3 x4 2 else f_M_production_121 N q1.2 x1 x2 x3 x4 0)))))))
def f_M_production_72 (N : Nat) (τ : vS) (x1 : Int32) (x2 : Int32) (x3 : Int32) (x4 : Int32) (x5 : Int32) (x6 : Int32) : Option (Int32 × vS) :=
  f_M_production_77 N τ x1 x2 x3 x4 x5 x6 1
def f_M_production_55 (N : Nat) (τ : vS) (x1 : Int32) (x2 : Int32) (x3 : Int32) (x4 : Int32) (x5 : Int32) (y0 : Int32) : Option (Int32 × vS) :=
  (if x4 = (-1) then f_M_production_72 N τ x1 x2 x3 x4 x5 y0 else ((f_M_isSymbol N τ x4).bind (fun q27 => (if (q27.1) = 0 then f_M_production_77 N q27.2 x1 x2 x3 x4 x5 y0 0 else f_M_production_72 N q27.2 x1 x2 x3 x4 x5 y0))))
def f_M_production_29 (N : Nat) (τ : vS) (x1 : Int32) (x2 : Int32) (x3 : Int32) (x4 : Int32) (y0 : Int32) : Option (Int32 × vS) :=
  (if x3 = (-1) then (if x4 = (-1) then f_M_production_55 N τ x1 x2 x3 x4 y0 1 else f_M_production_55 N τ x1 x2 x3 x4 y0 0) else ((f_M_isSymbol N τ x3).bind (fun q31 => f_M_production_55 N q31.2 x1 x2 x3 x4 y0 (q31.1))))
def f_M_production_20 (N : Nat) (τ : vS) (x1 : Int32) (x2 : Int32) (x3 : Int32) (x4 : Int32) : Option (Int32 × vS) :=
  f_M_production_29 N τ x1 x2 x3 x4 0
def f_M_production (N : Nat) (σ : vS) (a0 : Int32) (a1 : Int32) (a2 : Int32) (a3 : Int32) : Option (Int32 × vS) :=
  (if a1 = (-1) then (if a2 = (-1) then (if a3 = (-1) then f_M_production_29 N σ a0 a1 a2 a3 1 else f_M_production_20 N σ a0 a1 a2 a3) else f_M_production_20 N σ a0 a1 a2 a3) else ((f_M_isSymbol N σ a1).bind (fun q35 => f_M_production_29 N q35.2 a0 a1 a2 a3 (q35.1))))
def f_M_isOccurrence (N : Nat) (σ : vS) (a0 : Int32) (a1 : Int32) : Option (Int32 × vS) :=
  (if a1 < 0 then some ((0 : Int32), σ) else (if bIn a0 10 = true then (vlet (σ.2 2 (a0).toNatClampNeg) (fun i3 => (if ((4 : Int32) * i3) ≤ a1 then some ((0 : Int32), σ) else (if bIn (((4 : Int32) * a0) + (a1 / 4)) 40 = true then (vlet (σ.2 3 ((((4 : Int32) * a0) + (a1 / 4))).toNatClampNeg) (fun i6 => (if bIn i6 6 = true then (vlet (σ.2 0 (i6).toNatClampNeg) (fun i8 => (if i8 ≤ (a1 - a1 / 4 * 4) then some ((0 : Int32), σ) else some ((1 : Int32), σ)))) else none))) else none)))) else none))
def f_M_attributeOf (N : Nat) (σ : vS) (a0 : Int32) (a1 : Int32) : Option (Int32 × vS) :=
  (if bIn (((4 : Int32) * a0) + (a1 / 4)) 40 = true then (vlet (σ.2 3 ((((4 : Int32) * a0) + (a1 / 4))).toNatClampNeg) (fun i2 => (vlet (((4 : Int32) * i2) + (a1 - a1 / 4 * 4)) (fun i3 => some (i3, σ))))) else none)
def f_M_isDefined_30 (N : Nat) (τ : vS) (y0 : Int32) (y1 : Int32) : Option (Int32 × vS) :=
  (if y1 = y0 then some ((1 : Int32), τ) else some ((0 : Int32), τ))
def f_M_isDefined (N : Nat) (σ : vS) (a0 : Int32) (a1 : Int32) : Option (Int32 × vS) :=
  ((f_M_isOccurrence N σ a0 a1).bind (fun q1 => (if (q1.1) = 0 then some ((0 : Int32), q1.2) else ((f_M_attributeOf N q1.2 a0 a1).bind (fun q4 => (if bIn (q4.1) 24 = true then (vlet (q4.2.2 1 ((q4.1)).toNatClampNeg) (fun i7 => (if a1 ≤ 3 then f_M_isDefined_30 N q4.2 0 i7 else f_M_isDefined_30 N q4.2 1 i7))) else none))))))
def f_M_rule_102 (N : Nat) (τ : vS) (x1 : Int32) (x2 : Int32) (x3 : Int32) (x4 : Int32) (x5 : Int32) (y0 : Int32) : Option (Int32 × vS) :=
  (vlet (sf τ 0 y0) (fun σ5 => (if (σ5.1 0) ≤ 0 then (if bIn (((16 : Int32) * x1) + x2) 160 = true then (vlet (sa σ5 4 ((((16 : Int32) * x1) + x2)).toNatClampNeg x3) (fun σ8 => (if bIn (((16 : Int32) * x1) + x2) 160 = true then (vlet (sa σ8 5 ((((16 : Int32) * x1) + x2)).toNatClampNeg x4) (fun σ10 => (if bIn (((16 : Int32) * x1) + x2) 160 = true then (vlet (sa σ10 6 ((((16 : Int32) * x1) + x2)).toNatClampNeg x5) (fun σ12 => ((f_M_forget N σ12).bind (fun q13 => some ((0 : Int32), q13.2))))) else none))) else none))) else none) else some ((0 : Int32), σ5))))
def f_M_rule_89 (N : Nat) (τ : vS) (x1 : Int32) (x2 : Int32) (x3 : Int32) (x4 : Int32) (x5 : Int32) (y0 : Int32) : Option (Int32 × vS) :=
  (if y0 = 0 then f_M_rule_102 N τ x1 x2 x3 x4 x5 2 else f_M_rule_102 N τ x1 x2 x3 x4 x5 0)
def f_M_rule_88 (N : Nat) (τ : vS) (x1 : Int32) (x2 : Int32) (x3 : Int32) (x4 : Int32) (x5 : Int32) : Option (Int32 × vS) :=
  f_M_rule_89 N τ x1 x2 x3 x4 x5 0
def f_M_rule_84 (N : Nat) (τ : vS) (x1 : Int32) (x2 : Int32) (x3 : Int32) (x4 : Int32) (x5 : Int32) : Option (Int32 × vS) :=
  f_M_rule_89 N τ x1 x2 x3 x4 x5 1
def f_M_rule_66 (N : Nat) (τ : vS) (x1 : Int32) (x2 : Int32) (x3 : Int32) (x4 : Int32) (x5 : Int32) : Option (Int32 × vS) :=
  ((f_M_needs N x3).bind (fun q21 => (if q21 < 2 then f_M_rule_84 N τ x1 x2 x3 x4 x5 else ((f_M_isOccurrence N τ x1 x5).bind (fun q24 => (if (q24.1) = 0 then f_M_rule_88 N q24.2 x1 x2 x3 x4 x5 else f_M_rule_84 N q24.2 x1 x2 x3 x4 x5))))))
def f_M_rule_18 (N : Nat) (τ : vS) (x1 : Int32) (x2 : Int32) (x3 : Int32) (x4 : Int32) (x5 : Int32) (y0 : Int32) : Option (Int32 × vS) :=
  (vlet (sf τ 0 y0) (fun σ1 => (if (σ1.1 0) ≤ 0 then ((f_M_isDefined N σ1 x1 x2).bind (fun q3 => (if (q3.1) = 0 then f_M_rule_88 N q3.2 x1 x2 x3 x4 x5 else (if x3 < 0 then f_M_rule_88 N q3.2 x1 x2 x3 x4 x5 else (if (8 : Int32) ≤ x3 then f_M_rule_88 N q3.2 x1 x2 x3 x4 x5 else ((f_M_needs N x3).bind (fun q19 => (if q19 < 1 then f_M_rule_66 N q3.2 x1 x2 x3 x4 x5 else ((f_M_isOccurrence N q3.2 x1 x4).bind (fun q28 => (if (q28.1) = 0 then f_M_rule_88 N q28.2 x1 x2 x3 x4 x5 else f_M_rule_66 N q28.2 x1 x2 x3 x4 x5))))))))))) else some ((0 : Int32), σ1))))
def f_M_rule_13 (N : Nat) (τ : vS) (x1 : Int32) (x2 : Int32) (x3 : Int32) (x4 : Int32) (x5 : Int32) : Option (Int32 × vS) :=
  f_M_rule_18 N τ x1 x2 x3 x4 x5 1
def f_M_rule (N : Nat) (σ : vS) (a0 : Int32) (a1 : Int32) (a2 : Int32) (a3 : Int32) (a4 : Int32) : Option (Int32 × vS) :=
  (if a0 < 0 then f_M_rule_13 N σ a0 a1 a2 a3 a4 else (if a0 < (σ.1 2) then f_M_rule_18 N σ a0 a1 a2 a3 a4 0 else f_M_rule_13 N σ a0 a1 a2 a3 a4))
def f_M_isUsed_57 (N : Nat) (τ : vS) : Option (Int32 × vS) :=
  some ((1 : Int32), τ)
def f_M_isUsed_32 (N : Nat) (τ : vS) (x2 : Int32) (x4 : Int32) : Option (Int32 × vS) :=
  (if bIn x4 160 = true then (vlet (τ.2 4 (x4).toNatClampNeg) (fun i6 => ((f_M_needs N i6).bind (fun q7 => (if q7 ≤ 1 then some ((0 : Int32), τ) else (if bIn x4 160 = true then (vlet (τ.2 6 (x4).toNatClampNeg) (fun i11 => (if i11 = x2 then f_M_isUsed_57 N τ else some ((0 : Int32), τ)))) else none)))))) else none)
def f_M_isUsed (N : Nat) (σ : vS) (a0 : Int32) (a1 : Int32) (a2 : Int32) : Option (Int32 × vS) :=
  (if bIn (((16 : Int32) * a0) + a2) 160 = true then (vlet (σ.2 4 ((((16 : Int32) * a0) + a2)).toNatClampNeg) (fun i2 => ((f_M_needs N i2).bind (fun q3 => (if q3 ≤ 0 then f_M_isUsed_32 N σ a1 (((16 : Int32) * a0) + a2) else (if bIn (((16 : Int32) * a0) + a2) 160 = true then (vlet (σ.2 5 ((((16 : Int32) * a0) + a2)).toNatClampNeg) (fun i15 => (if i15 = a1 then f_M_isUsed_57 N σ else f_M_isUsed_32 N σ a1 (((16 : Int32) * a0) + a2)))) else none)))))) else none)
def f_M_blame (N : Nat) (σ : vS) (a0 : Int32) (a1 : Int32) (a2 : Int32) : Option (Int32 × vS) :=
  (vlet (sf σ 4 a0) (fun σ1 => (vlet (sf σ1 5 a1) (fun σ2 => (vlet (sf σ2 6 a2) (fun σ3 => some ((1 : Int32), σ3)))))))
def f_M_lacks_50 (N : Nat) (k2 : vS → Int32 → Option (Int32 × vS)) (k12 : vS → Int32 → Int32 → Option (Int32 × vS)) (τ : vS) (x1 : Int32) (x2 : Int32) : Option (Int32 × vS) :=
  k12 τ x1 (x2 + 1)
def f_M_lacks_12 (N : Nat) (k2 : vS → Int32 → Option (Int32 × vS)) : Nat → vS → Int32 → Int32 → Option (Int32 × vS)
  | 0 => fun _ _ _ => none
  | n12 + 1 => fun τ x1 x2 => (if (16 : Int32) ≤ x2 then k2 τ (x1 + 1) else ((f_M_isDefined N τ x1 x2).bind (fun q3 => (if (q3.1) = 0 then f_M_lacks_50 N (k2) (f_M_lacks_12 N (k2) n12) q3.2 x1 x2 else (if bIn (((16 : Int32) * x1) + x2) 160 = true then (vlet (q3.2.2 4 ((((16 : Int32) * x1) + x2)).toNatClampNeg) (fun i7 => (if i7 = (-1) then ((f_M_blame N q3.2 1 x1 x2).bind (fun q9 => some (vp_nar .boolean (q9.1), q9.2))) else f_M_lacks_50 N (k2) (f_M_lacks_12 N (k2) n12) q3.2 x1 x2))) else none)))))
def f_M_lacks_2 (N : Nat) : Nat → vS → Int32 → Option (Int32 × vS)
  | 0 => fun _ _ => none
  | n2 + 1 => fun τ x1 => (if (τ.1 2) ≤ x1 then some ((0 : Int32), τ) else f_M_lacks_12 N (f_M_lacks_2 N n2) N τ x1 0)
def f_M_lacks (N : Nat) (σ : vS) : Option (Int32 × vS) :=
  f_M_lacks_2 N N σ 0
def f_M_begin_86 (N : Nat) (k23 : vS → Int32 → Option (Int32 × vS)) (τ : vS) (x1 : Int32) (y0 : Int32) (y1 : Int32) : Option (Int32 × vS) :=
  (if bIn y1 2560 = true then (vlet (sa τ 7 (y1).toNatClampNeg (vp_nar .boolean y0)) (fun σ7 => (if bIn x1 2560 = true then (vlet (σ7.2 7 (x1).toNatClampNeg) (fun i9 => (if bIn x1 2560 = true then (vlet (sa σ7 8 (x1).toNatClampNeg (vp_nar .boolean i9)) (fun σ11 => k23 σ11 (x1 + 1))) else none))) else none))) else none)
def f_M_begin_85 (N : Nat) (k23 : vS → Int32 → Option (Int32 × vS)) (τ : vS) (x1 : Int32) (y0 : Int32) : Option (Int32 × vS) :=
  f_M_begin_86 N (k23) τ x1 0 y0
def f_M_begin_23 (N : Nat) : Nat → vS → Int32 → Option (Int32 × vS)
  | 0 => fun _ _ => none
  | n23 + 1 => fun τ x1 => (if ((256 : Int32) * (τ.1 2)) ≤ x1 then some ((0 : Int32), τ) else (vlet ((x1 / 16) - (x1 / 16) / 16 * 16) (fun i3 => ((f_M_isDefined N τ (x1 / 256) (x1 - x1 / 16 * 16)).bind (fun q4 => (if (q4.1) = 0 then f_M_begin_85 N (f_M_begin_23 N n23) q4.2 x1 x1 else ((f_M_isUsed N q4.2 (x1 / 256) i3 (x1 - x1 / 16 * 16)).bind (fun q13 => (if (q13.1) = 0 then f_M_begin_85 N (f_M_begin_23 N n23) q13.2 x1 x1 else f_M_begin_86 N (f_M_begin_23 N n23) q13.2 x1 1 x1)))))))))
def f_M_begin_2 (N : Nat) : Nat → vS → Int32 → Option (Int32 × vS)
  | 0 => fun _ _ => none
  | n2 + 1 => fun τ x1 => (if (96 : Int32) ≤ x1 then f_M_begin_23 N N τ 0 else (if bIn x1 96 = true then (vlet (sa τ 9 (x1).toNatClampNeg (vp_nar .boolean 0)) (fun σ17 => f_M_begin_2 N n2 σ17 (x1 + 1))) else none))
def f_M_begin (N : Nat) (σ : vS) : Option (Int32 × vS) :=
  f_M_begin_2 N N σ 0
