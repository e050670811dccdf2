def f_G_hasSymbol (N : Nat) (σ : vS) (a0 : Int32) : Option (Int32 × vS) :=
  (if a0 < 0 then some ((0 : Int32), σ) else (if (σ.1 0) ≤ a0 then some ((0 : Int32), σ) else some ((1 : Int32), σ)))
def f_G_hasAttribute (N : Nat) (σ : vS) (a0 : Int32) (a1 : Int32) : Option (Int32 × vS) :=
  (if a1 < 0 then some ((0 : Int32), σ) else (if bIn a0 6 = true then (vlet (σ.2 0 (a0).toNatClampNeg) (fun i3 => (if i3 ≤ a1 then some ((0 : Int32), σ) else some ((1 : Int32), σ)))) else none))
def f_G_hasProduction (N : Nat) (σ : vS) (a0 : Int32) : Option (Int32 × vS) :=
  (if a0 < 0 then some ((0 : Int32), σ) else (if (σ.1 1) ≤ a0 then some ((0 : Int32), σ) else some ((1 : Int32), σ)))
def f_G_hasOccurrence (N : Nat) (σ : vS) (a0 : Int32) (a1 : Int32) : Option (Int32 × vS) :=
  (if a1 < 0 then some ((0 : Int32), σ) else (if (16 : Int32) ≤ a1 then some ((0 : Int32), σ) else (if bIn a0 10 = true then (vlet (σ.2 4 (a0).toNatClampNeg) (fun i4 => ((f_V_holds N i4 a1).bind (fun q5 => (if q5 = 0 then some ((0 : Int32), σ) else some ((1 : Int32), σ)))))) else none)))
def f_G_isToBeDefined (N : Nat) (σ : vS) (a0 : Int32) (a1 : Int32) : Option (Int32 × vS) :=
  ((f_G_hasOccurrence N σ a0 a1).bind (fun q1 => (if (q1.1) = 0 then some ((0 : Int32), q1.2) else (if bIn a0 10 = true then (vlet (q1.2.2 5 (a0).toNatClampNeg) (fun i5 => ((f_V_holds N i5 a1).bind (fun q6 => (if q6 = 0 then some ((0 : Int32), q1.2) else some ((1 : Int32), q1.2)))))) else none))))
def f_G_isRight_74 (N : Nat) (τ : vS) : Option (Int32 × vS) :=
  some ((1 : Int32), τ)
def f_G_isRight (N : Nat) (σ : vS) (a0 : Int32) (a1 : Int32) (a2 : Int32) : Option (Int32 × vS) :=
  (if a0 = (-1) then (if a1 = (-1) then (if a2 = (-1) then some ((1 : Int32), σ) else some ((0 : Int32), σ)) else some ((0 : Int32), σ)) else (if a1 = (-1) then ((f_G_hasSymbol N σ a0).bind (fun q13 => (if (q13.1) = 0 then some ((0 : Int32), q13.2) else (if a2 = (-1) then some ((1 : Int32), q13.2) else some ((0 : Int32), q13.2))))) else ((f_G_hasSymbol N σ a0).bind (fun q3 => (if (q3.1) = 0 then some ((0 : Int32), q3.2) else ((f_G_hasSymbol N q3.2 a1).bind (fun q6 => (if (q6.1) = 0 then some ((0 : Int32), q6.2) else (if a2 = (-1) then f_G_isRight_74 N q6.2 else ((f_G_hasSymbol N q6.2 a2).bind (fun q10 => (if (q10.1) = 0 then some ((0 : Int32), q10.2) else f_G_isRight_74 N q10.2))))))))))))
def f_G_isForm_43 (N : Nat) (τ : vS) : Option (Int32 × vS) :=
  some ((1 : Int32), τ)
def f_G_isForm_26 (N : Nat) (τ : vS) (x1 : Int32) (x2 : Int32) (x4 : Int32) : Option (Int32 × vS) :=
  ((f_G_usesSecond N x2).bind (fun q5 => (if q5 = 0 then f_G_isForm_43 N τ else ((f_G_hasOccurrence N τ x1 x4).bind (fun q8 => (if (q8.1) = 0 then some ((0 : Int32), q8.2) else f_G_isForm_43 N q8.2))))))
def f_G_isForm (N : Nat) (σ : vS) (a0 : Int32) (a1 : Int32) (a2 : Int32) (a3 : Int32) : Option (Int32 × vS) :=
  (if a1 < 0 then some ((0 : Int32), σ) else (if (7 : Int32) < a1 then some ((0 : Int32), σ) else ((f_G_usesFirst N a1).bind (fun q3 => (if q3 = 0 then f_G_isForm_26 N σ a0 a1 a3 else ((f_G_hasOccurrence N σ a0 a2).bind (fun q12 => (if (q12.1) = 0 then some ((0 : Int32), q12.2) else f_G_isForm_26 N q12.2 a0 a1 a3))))))))
def f_G_symbolAt (N : Nat) (σ : vS) (a0 : Int32) (a1 : Int32) : Option (Int32 × vS) :=
  (if bIn ((a0 * 4) + a1) 40 = true then (vlet (σ.2 2 (((a0 * 4) + a1)).toNatClampNeg) (fun i2 => some (i2, σ))) else none)
def f_G_allAttributes (N : Nat) (σ : vS) (a0 : Int32) : Option (Int32 × vS) :=
  (if bIn a0 6 = true then (vlet (σ.2 0 (a0).toNatClampNeg) (fun i2 => (vlet (((1 : Int32) <<< (i2 &&& 31)) - 1) (fun i3 => some (i3, σ))))) else none)
def f_G_addSymbol (N : Nat) (σ : vS) (a0 : Int32) (a1 : Int32) : Option (Int32 × vS) :=
  (if bIn (σ.1 0) 6 = true then (vlet (sa σ 0 ((σ.1 0)).toNatClampNeg a0) (fun σ2 => ((f_G_allAttributes N σ2 (σ.1 0)).bind (fun q3 => (if bIn (σ.1 0) 6 = true then (vlet (sa q3.2 1 ((σ.1 0)).toNatClampNeg (a1 &&& (q3.1))) (fun σ6 => (vlet (sf σ6 0 ((σ6.1 0) + 1)) (fun σ7 => some ((σ.1 0), σ7))))) else none))))) else none)
def f_G_place_37 (N : Nat) (τ : vS) (x1 : Int32) (x2 : Int32) (x3 : Int32) (x5 : Int32) (y0 : Int32) : Option (Int32 × vS) :=
  (if bIn ((x1 * 4) + x2) 40 = true then (vlet (sa τ 2 (((x1 * 4) + x2)).toNatClampNeg x3) (fun σ7 => (if bIn x1 10 = true then (vlet (sa σ7 3 (x1).toNatClampNeg x2) (fun σ9 => (if bIn x1 10 = true then (vlet (σ9.2 4 (x1).toNatClampNeg) (fun i11 => (vlet (i11 ||| (x5 <<< ((x2 * 4) &&& 31))) (fun i12 => (if bIn x1 10 = true then (vlet (sa σ9 4 (x1).toNatClampNeg i12) (fun σ14 => (if bIn x1 10 = true then (vlet (σ14.2 5 (x1).toNatClampNeg) (fun i16 => (vlet (i16 ||| (y0 <<< ((x2 * 4) &&& 31))) (fun i17 => (if bIn x1 10 = true then (vlet (sa σ14 5 (x1).toNatClampNeg i17) (fun σ19 => some ((0 : Int32), σ19))) else none))))) else none))) else none))))) else none))) else none))) else none)
def f_G_place (N : Nat) (σ : vS) (a0 : Int32) (a1 : Int32) (a2 : Int32) : Option (Int32 × vS) :=
  (if a2 = (-1) then some ((0 : Int32), σ) else (if bIn a2 6 = true then (vlet (σ.2 1 (a2).toNatClampNeg) (fun i3 => ((f_G_allAttributes N σ a2).bind (fun q4 => (if a1 = 0 then f_G_place_37 N q4.2 a0 a1 a2 (q4.1) ((q4.1) &&& (i3 ^^^ (-1))) else f_G_place_37 N q4.2 a0 a1 a2 (q4.1) i3))))) else none))
def f_G_addProduction (N : Nat) (σ : vS) (a0 : Int32) (a1 : Int32) (a2 : Int32) (a3 : Int32) : Option (Int32 × vS) :=
  (vlet (sf σ 1 ((σ.1 1) + 1)) (fun σ1 => ((f_G_place N σ1 (σ.1 1) 0 a0).bind (fun q2 => ((f_G_place N q2.2 (σ.1 1) 1 a1).bind (fun q4 => ((f_G_place N q4.2 (σ.1 1) 2 a2).bind (fun q6 => ((f_G_place N q6.2 (σ.1 1) 3 a3).bind (fun q8 => some ((σ.1 1), q8.2)))))))))))
def f_G_setRule_70 (N : Nat) (τ : vS) (x1 : Int32) (x2 : Int32) (y0 : Int32) (y1 : Int32) (y2 : Int32) : Option (Int32 × vS) :=
  (if bIn y2 160 = true then (vlet (sa τ 10 (y2).toNatClampNeg (y1 ||| y0)) (fun σ12 => (if bIn x1 10 = true then (vlet (σ12.2 6 (x1).toNatClampNeg) (fun i14 => (vlet (i14 ||| ((1 : Int32) <<< (x2 &&& 31))) (fun i15 => (if bIn x1 10 = true then (vlet (sa σ12 6 (x1).toNatClampNeg i15) (fun σ17 => some ((0 : Int32), σ17))) else none))))) else none))) else none)
def f_G_setRule_55 (N : Nat) (τ : vS) (x1 : Int32) (x2 : Int32) (x3 : Int32) (x5 : Int32) (y0 : Int32) (y1 : Int32) : Option (Int32 × vS) :=
  ((f_G_usesSecond N x3).bind (fun q9 => (if q9 = 0 then f_G_setRule_70 N τ x1 x2 0 y0 y1 else f_G_setRule_70 N τ x1 x2 ((1 : Int32) <<< (x5 &&& 31)) y0 y1)))
def f_G_setRule (N : Nat) (σ : vS) (a0 : Int32) (a1 : Int32) (a2 : Int32) (a3 : Int32) (a4 : Int32) : Option (Int32 × vS) :=
  (if bIn ((a0 * 16) + a1) 160 = true then (vlet (sa σ 7 (((a0 * 16) + a1)).toNatClampNeg a2) (fun σ2 => (if bIn ((a0 * 16) + a1) 160 = true then (vlet (sa σ2 8 (((a0 * 16) + a1)).toNatClampNeg a3) (fun σ4 => (if bIn ((a0 * 16) + a1) 160 = true then (vlet (sa σ4 9 (((a0 * 16) + a1)).toNatClampNeg a4) (fun σ6 => ((f_G_usesFirst N a2).bind (fun q7 => (if q7 = 0 then f_G_setRule_55 N σ6 a0 a1 a2 a4 0 ((a0 * 16) + a1) else f_G_setRule_55 N σ6 a0 a1 a2 a4 ((1 : Int32) <<< (a3 &&& 31)) ((a0 * 16) + a1)))))) else none))) else none))) else none)
def f_G_leastWithoutRule (N : Nat) (σ : vS) (a0 : Int32) : Option (Int32 × vS) :=
  (if bIn a0 10 = true then (vlet (σ.2 5 (a0).toNatClampNeg) (fun i2 => (if bIn a0 10 = true then (vlet (σ.2 6 (a0).toNatClampNeg) (fun i4 => ((f_V_leastOf N (i2 &&& (i4 ^^^ (-1)))).bind (fun q5 => some (q5, σ))))) else none))) else none)
