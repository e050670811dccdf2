def f_K_inheritedOf (N : Nat) (σ : vS) (a0 : Int32) (a1 : Int32) : Option (Int32 × vS) :=
  (if bIn ((a0 * 4) + a1) 24 = true then (vlet (σ.2 15 (((a0 * 4) + a1)).toNatClampNeg) (fun i2 => (if bIn a0 6 = true then (vlet (σ.2 1 (a0).toNatClampNeg) (fun i4 => some ((i2 &&& i4), σ))) else none))) else none)
def f_K_synthesizedOf (N : Nat) (σ : vS) (a0 : Int32) (a1 : Int32) : Option (Int32 × vS) :=
  (if bIn ((a0 * 4) + a1) 24 = true then (vlet (σ.2 15 (((a0 * 4) + a1)).toNatClampNeg) (fun i2 => (if bIn a0 6 = true then (vlet (σ.2 1 (a0).toNatClampNeg) (fun i4 => some ((i2 &&& (i4 ^^^ (-1))), σ))) else none))) else none)
def f_K_leastRank (N : Nat) (σ : vS) (a0 : Int32) (a1 : Int32) : Option (Int32 × vS) :=
  (if bIn a0 6 = true then (vlet (σ.2 1 (a0).toNatClampNeg) (fun i2 => ((f_V_holds N i2 a1).bind (fun q3 => (if q3 = 0 then some ((1 : Int32), σ) else some ((2 : Int32), σ)))))) else none)
def f_K_rankAboveLed_70 (N : Nat) (k21 : vS → Int32 → Int32 → Int32 → Int32 → Int32 → Int32 → Option (Int32 × vS)) (τ : vS) (x1 : Int32) (x2 : Int32) (x3 : Int32) (x4 : Int32) (x5 : Int32) (x6 : Int32) : Option (Int32 × vS) :=
  k21 τ x1 x2 x3 x4 x5 (x6 + 1)
def f_K_rankAboveLed_21 (N : Nat) : Nat → vS → Int32 → Int32 → Int32 → Int32 → Int32 → Int32 → Option (Int32 × vS)
  | 0 => fun _ _ _ _ _ _ _ => none
  | n21 + 1 => fun τ x1 x2 x3 x4 x5 x6 => (if bIn x1 6 = true then (vlet (τ.2 0 (x1).toNatClampNeg) (fun i4 => (if i4 ≤ x6 then some ((x5 + ((x5 - x4) &&& 1)), τ) else (if bIn (x3 + x2) 24 = true then (vlet (τ.2 12 ((x3 + x2)).toNatClampNeg) (fun i7 => ((f_V_holds N i7 x6).bind (fun q8 => (if q8 = 0 then f_K_rankAboveLed_70 N (f_K_rankAboveLed_21 N n21) τ x1 x2 x3 x4 x5 x6 else (if bIn (x3 + x6) 24 = true then (vlet (τ.2 13 ((x3 + x6)).toNatClampNeg) (fun i12 => f_K_rankAboveLed_70 N (f_K_rankAboveLed_21 N n21) τ x1 x2 x3 x4 (if x5 < i12 then i12 else x5) x6)) else none)))))) else none)))) else none)
def f_K_rankAboveLed (N : Nat) (σ : vS) (a0 : Int32) (a1 : Int32) : Option (Int32 × vS) :=
  (if bIn ((a0 * 4) + a1) 24 = true then (vlet (σ.2 13 (((a0 * 4) + a1)).toNatClampNeg) (fun i2 => f_K_rankAboveLed_21 N N σ a0 a1 (a0 * 4) i2 i2 0)) else none)
def f_K_rankAttributes_57 (N : Nat) (k48 : vS → Int32 → Int32 → Int32 → Int32 → Option (Int32 × vS)) : Nat → vS → Int32 → Int32 → Int32 → Int32 → Int32 → Option (Int32 × vS)
  | 0 => fun _ _ _ _ _ _ => none
  | n57 + 1 => fun τ x1 x2 x3 x4 x5 => (if x2 ≤ x5 then k48 τ x1 x2 x3 (x4 + 1) else ((f_K_rankAboveLed N τ x1 x5).bind (fun q6 => (if bIn (x3 + x5) 24 = true then (vlet (sa q6.2 13 ((x3 + x5)).toNatClampNeg (q6.1)) (fun σ9 => f_K_rankAttributes_57 N (k48) n57 σ9 x1 x2 x3 x4 (x5 + 1))) else none))))
def f_K_rankAttributes_48 (N : Nat) : Nat → vS → Int32 → Int32 → Int32 → Int32 → Option (Int32 × vS)
  | 0 => fun _ _ _ _ _ => none
  | n48 + 1 => fun τ x1 x2 x3 x4 => (if x2 ≤ x4 then some ((0 : Int32), τ) else f_K_rankAttributes_57 N (f_K_rankAttributes_48 N n48) N τ x1 x2 x3 x4 0)
def f_K_rankAttributes_17 (N : Nat) : Nat → vS → Int32 → Int32 → Int32 → Int32 → Option (Int32 × vS)
  | 0 => fun _ _ _ _ _ => none
  | n17 + 1 => fun τ x1 x2 x3 x4 => (if x2 ≤ x4 then f_K_rankAttributes_48 N N τ x1 x2 x3 1 else ((f_K_leastRank N τ x1 x4).bind (fun q10 => (if bIn (x3 + x4) 24 = true then (vlet (sa q10.2 13 ((x3 + x4)).toNatClampNeg (q10.1)) (fun σ13 => f_K_rankAttributes_17 N n17 σ13 x1 x2 x3 (x4 + 1))) else none))))
def f_K_rankAttributes (N : Nat) (σ : vS) (a0 : Int32) : Option (Int32 × vS) :=
  (if bIn a0 6 = true then (vlet (σ.2 0 (a0).toNatClampNeg) (fun i2 => f_K_rankAttributes_17 N N σ a0 i2 (a0 * 4) 0)) else none)
def f_K_countVisits_4 (N : Nat) : Nat → vS → Int32 → Int32 → Int32 → Option (Int32 × vS)
  | 0 => fun _ _ _ _ => none
  | n4 + 1 => fun τ x1 x2 x3 => (if bIn x1 6 = true then (vlet (τ.2 0 (x1).toNatClampNeg) (fun i2 => (if i2 ≤ x3 then (if bIn x1 6 = true then (vlet (sa τ 14 (x1).toNatClampNeg ((x2 + 1) / 2)) (fun σ5 => some ((0 : Int32), σ5))) else none) else (if bIn ((x1 * 4) + x3) 24 = true then (vlet (τ.2 13 (((x1 * 4) + x3)).toNatClampNeg) (fun i7 => f_K_countVisits_4 N n4 τ x1 (if x2 < i7 then i7 else x2) (x3 + 1))) else none)))) else none)
def f_K_countVisits (N : Nat) (σ : vS) (a0 : Int32) : Option (Int32 × vS) :=
  f_K_countVisits_4 N N σ a0 1 0
def f_K_shareOut_2 (N : Nat) : Nat → vS → Int32 → Int32 → Option (Int32 × vS)
  | 0 => fun _ _ _ => none
  | n2 + 1 => fun τ x1 x2 => (if bIn x1 6 = true then (vlet (τ.2 0 (x1).toNatClampNeg) (fun i2 => (if i2 ≤ x2 then some ((0 : Int32), τ) else (if bIn ((x1 * 4) + x2) 24 = true then (vlet (τ.2 13 (((x1 * 4) + x2)).toNatClampNeg) (fun i5 => (if bIn x1 6 = true then (vlet (τ.2 14 (x1).toNatClampNeg) (fun i7 => (vlet ((x1 * 4) + (i7 - ((i5 - 1) / 2))) (fun i8 => (if bIn i8 24 = true then (vlet (τ.2 15 (i8).toNatClampNeg) (fun i10 => (vlet (i10 ||| ((1 : Int32) <<< (x2 &&& 31))) (fun i11 => (if bIn i8 24 = true then (vlet (sa τ 15 (i8).toNatClampNeg i11) (fun σ13 => f_K_shareOut_2 N n2 σ13 x1 (x2 + 1))) else none))))) else none))))) else none))) else none)))) else none)
def f_K_shareOut (N : Nat) (σ : vS) (a0 : Int32) : Option (Int32 × vS) :=
  f_K_shareOut_2 N N σ a0 0
def f_K_ofLessRank_41 (N : Nat) (k5 : vS → Int32 → Int32 → Int32 → Int32 → Option (Int32 × vS)) (τ : vS) (x1 : Int32) (x2 : Int32) (x3 : Int32) (x4 : Int32) : Option (Int32 × vS) :=
  k5 τ x1 x2 x3 (x4 + 1)
def f_K_ofLessRank_5 (N : Nat) : Nat → vS → Int32 → Int32 → Int32 → Int32 → Option (Int32 × vS)
  | 0 => fun _ _ _ _ _ => none
  | n5 + 1 => fun τ x1 x2 x3 x4 => (if bIn x1 6 = true then (vlet (τ.2 0 (x1).toNatClampNeg) (fun i2 => (if i2 ≤ x4 then some (x3, τ) else (if bIn ((x1 * 4) + x4) 24 = true then (vlet (τ.2 13 (((x1 * 4) + x4)).toNatClampNeg) (fun i5 => (if x2 ≤ i5 then f_K_ofLessRank_41 N (f_K_ofLessRank_5 N n5) τ x1 x2 x3 x4 else (vlet (x3 ||| ((1 : Int32) <<< (x4 &&& 31))) (fun i7 => f_K_ofLessRank_41 N (f_K_ofLessRank_5 N n5) τ x1 x2 i7 x4))))) else none)))) else none)
def f_K_ofLessRank (N : Nat) (σ : vS) (a0 : Int32) (a1 : Int32) : Option (Int32 × vS) :=
  f_K_ofLessRank_5 N N σ a0 a1 0 0
def f_K_addToLeads_19 (N : Nat) (k2 : vS → Int32 → Option (Int32 × vS)) : Nat → vS → Int32 → Int32 → Int32 → Option (Int32 × vS)
  | 0 => fun _ _ _ _ => none
  | n19 + 1 => fun τ x1 x2 x3 => (if bIn x1 6 = true then (vlet (τ.2 0 (x1).toNatClampNeg) (fun i3 => (if i3 ≤ x3 then k2 τ (x1 + 1) else (if bIn (x2 + x3) 24 = true then (vlet (τ.2 12 ((x2 + x3)).toNatClampNeg) (fun i6 => (if bIn (x2 + x3) 24 = true then (vlet (τ.2 13 ((x2 + x3)).toNatClampNeg) (fun i8 => ((f_K_ofLessRank N τ x1 i8).bind (fun q9 => (if bIn (x2 + x3) 24 = true then (vlet (sa q9.2 12 ((x2 + x3)).toNatClampNeg (i6 ||| (q9.1))) (fun σ12 => f_K_addToLeads_19 N (k2) n19 σ12 x1 x2 (x3 + 1))) else none))))) else none))) else none)))) else none)
def f_K_addToLeads_2 (N : Nat) : Nat → vS → Int32 → Option (Int32 × vS)
  | 0 => fun _ _ => none
  | n2 + 1 => fun τ x1 => (if (τ.1 0) ≤ x1 then some ((0 : Int32), τ) else f_K_addToLeads_19 N (f_K_addToLeads_2 N n2) N τ x1 (x1 * 4) 0)
def f_K_addToLeads (N : Nat) (σ : vS) : Option (Int32 × vS) :=
  f_K_addToLeads_2 N N σ 0
def f_K_make_10 (N : Nat) : Nat → vS → Int32 → Option (Int32 × vS)
  | 0 => fun _ _ => none
  | n10 + 1 => fun τ x1 => (if (τ.1 0) ≤ x1 then some ((0 : Int32), τ) else ((f_K_rankAttributes N τ x1).bind (fun q3 => ((f_K_countVisits N q3.2 x1).bind (fun q5 => ((f_K_shareOut N q5.2 x1).bind (fun q7 => f_K_make_10 N n10 q7.2 (x1 + 1))))))))
def f_K_make (N : Nat) (σ : vS) : Option (Int32 × vS) :=
  (vlet (sfill σ 15 0) (fun σ1 => f_K_make_10 N N σ1 0))
