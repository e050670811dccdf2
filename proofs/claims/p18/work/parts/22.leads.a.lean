def f_E_takeRule_38 (N : Nat) (k3 : vS → Int32 → Int32 → Int32 → Int32 → Option (Int32 × vS)) (τ : vS) (x1 : Int32) (x2 : Int32) (x3 : Int32) (x4 : Int32) : Option (Int32 × vS) :=
  k3 τ x1 x2 x3 (x4 + 1)
def f_E_takeRule_3 (N : Nat) : Nat → vS → Int32 → Int32 → Int32 → Int32 → Option (Int32 × vS)
  | 0 => fun _ _ _ _ _ => none
  | n3 + 1 => fun τ x1 x2 x3 x4 => (if x3 = 0 then some ((0 : Int32), τ) else (if (16 : Int32) ≤ x4 then some ((0 : Int32), τ) else ((f_V_holds N x3 x4).bind (fun q3 => (if q3 = 0 then f_E_takeRule_38 N (f_E_takeRule_3 N n3) τ x1 x2 x3 x4 else (if bIn (x1 + x4) 160 = true then (vlet (τ.2 11 ((x1 + x4)).toNatClampNeg) (fun i7 => (vlet (i7 ||| ((1 : Int32) <<< (x2 &&& 31))) (fun i8 => (if bIn (x1 + x4) 160 = true then (vlet (sa τ 11 ((x1 + x4)).toNatClampNeg i8) (fun σ10 => f_E_takeRule_38 N (f_E_takeRule_3 N n3) σ10 x1 x2 x3 x4)) else none))))) else none))))))
def f_E_takeRule (N : Nat) (σ : vS) (a0 : Int32) (a1 : Int32) (a2 : Int32) : Option (Int32 × vS) :=
  f_E_takeRule_3 N N σ a0 a1 a2 0
def f_E_takeRules_28 (N : Nat) (k10 : vS → Int32 → Option (Int32 × vS)) : Nat → vS → Int32 → Int32 → Int32 → Option (Int32 × vS)
  | 0 => fun _ _ _ _ => none
  | n28 + 1 => fun τ x1 x2 x3 => (if (16 : Int32) ≤ x3 then k10 τ (x1 + 1) else (if bIn (x2 + x3) 160 = true then (vlet (τ.2 10 ((x2 + x3)).toNatClampNeg) (fun i5 => ((f_E_takeRule N τ x2 x3 i5).bind (fun q6 => f_E_takeRules_28 N (k10) n28 q6.2 x1 x2 (x3 + 1))))) else none))
def f_E_takeRules_10 (N : Nat) : Nat → vS → Int32 → Option (Int32 × vS)
  | 0 => fun _ _ => none
  | n10 + 1 => fun τ x1 => (if (τ.1 1) ≤ x1 then some ((0 : Int32), τ) else f_E_takeRules_28 N (f_E_takeRules_10 N n10) N τ x1 (x1 * 16) 0)
def f_E_takeRules (N : Nat) (σ : vS) : Option (Int32 × vS) :=
  (vlet (sfill σ 11 0) (fun σ1 => f_E_takeRules_10 N N σ1 0))
def f_E_takeFromSymbols_44 (N : Nat) (k2 : vS → Int32 → Int32 → Option (Int32 × vS)) : Nat → vS → Int32 → Int32 → Int32 → Int32 → Int32 → Int32 → Option (Int32 × vS)
  | 0 => fun _ _ _ _ _ _ _ => none
  | n44 + 1 => fun τ x1 x2 x3 x4 x5 x6 => (if (4 : Int32) ≤ x6 then k2 τ x1 (x2 + 1) else (if bIn (x5 + x6) 160 = true then (vlet (τ.2 11 ((x5 + x6)).toNatClampNeg) (fun i8 => (if bIn (x3 + x6) 24 = true then (vlet (τ.2 12 ((x3 + x6)).toNatClampNeg) (fun i10 => (if bIn (x5 + x6) 160 = true then (vlet (sa τ 11 ((x5 + x6)).toNatClampNeg (i8 ||| (i10 <<< (x4 &&& 31)))) (fun σ12 => f_E_takeFromSymbols_44 N (k2) n44 σ12 x1 x2 x3 x4 x5 (x6 + 1))) else none))) else none))) else none))
def f_E_takeFromSymbols_2 (N : Nat) : Nat → vS → Int32 → Int32 → Option (Int32 × vS)
  | 0 => fun _ _ _ => none
  | n2 + 1 => fun τ x1 x2 => (if bIn x1 10 = true then (vlet (τ.2 3 (x1).toNatClampNeg) (fun i2 => (if i2 < x2 then some ((0 : Int32), τ) else ((f_G_symbolAt N τ x1 x2).bind (fun q4 => f_E_takeFromSymbols_44 N (f_E_takeFromSymbols_2 N n2) N q4.2 x1 x2 ((q4.1) * 4) (x2 * 4) ((x1 * 16) + (x2 * 4)) 0))))) else none)
def f_E_takeFromSymbols (N : Nat) (σ : vS) (a0 : Int32) : Option (Int32 × vS) :=
  f_E_takeFromSymbols_2 N N σ a0 0
def f_E_close_74 (N : Nat) (k7 : vS → Int32 → Int32 → Option (Int32 × vS)) (τ : vS) (x2 : Int32) (x3 : Int32) : Option (Int32 × vS) :=
  k7 τ x2 (x3 + 1)
def f_E_close_68 (N : Nat) (k7 : vS → Int32 → Int32 → Option (Int32 × vS)) (k26 : vS → Int32 → Int32 → Int32 → Int32 → Option (Int32 × vS)) (τ : vS) (x2 : Int32) (x3 : Int32) (x4 : Int32) (x5 : Int32) : Option (Int32 × vS) :=
  k26 τ x2 x3 x4 (x5 + 1)
def f_E_close_26 (N : Nat) (k7 : vS → Int32 → Int32 → Option (Int32 × vS)) : Nat → vS → Int32 → Int32 → Int32 → Int32 → Option (Int32 × vS)
  | 0 => fun _ _ _ _ _ => none
  | n26 + 1 => fun τ x2 x3 x4 x5 => (if x4 = 0 then f_E_close_74 N (k7) τ x2 x3 else (if (16 : Int32) ≤ x5 then f_E_close_74 N (k7) τ x2 x3 else (if bIn (x2 + x5) 160 = true then (vlet (τ.2 11 ((x2 + x5)).toNatClampNeg) (fun i7 => ((f_V_holds N i7 x3).bind (fun q8 => (if q8 = 0 then f_E_close_68 N (k7) (f_E_close_26 N (k7) n26) τ x2 x3 x4 x5 else (if bIn (x2 + x5) 160 = true then (vlet (τ.2 11 ((x2 + x5)).toNatClampNeg) (fun i12 => (if bIn (x2 + x5) 160 = true then (vlet (sa τ 11 ((x2 + x5)).toNatClampNeg (i12 ||| x4)) (fun σ14 => f_E_close_68 N (k7) (f_E_close_26 N (k7) n26) σ14 x2 x3 x4 x5)) else none))) else none)))))) else none)))
def f_E_close_7 (N : Nat) : Nat → vS → Int32 → Int32 → Option (Int32 × vS)
  | 0 => fun _ _ _ => none
  | n7 + 1 => fun τ x2 x3 => (if (16 : Int32) ≤ x3 then some ((0 : Int32), τ) else (if bIn (x2 + x3) 160 = true then (vlet (τ.2 11 ((x2 + x3)).toNatClampNeg) (fun i3 => f_E_close_26 N (f_E_close_7 N n7) N τ x2 x3 i3 0)) else none))
def f_E_close (N : Nat) (σ : vS) (a0 : Int32) : Option (Int32 × vS) :=
  f_E_close_7 N N σ (a0 * 16) 0
def f_E_giveToSymbols_107 (N : Nat) (k4 : vS → Int32 → Int32 → Int32 → Option (Int32 × vS)) (k47 : vS → Int32 → Int32 → Int32 → Int32 → Int32 → Int32 → Int32 → Option (Int32 × vS)) (τ : vS) (x1 : Int32) (x2 : Int32) (x3 : Int32) (x4 : Int32) (x5 : Int32) (x6 : Int32) (x7 : Int32) : Option (Int32 × vS) :=
  k47 τ x1 x2 x3 x4 x5 x6 (x7 + 1)
def f_E_giveToSymbols_47 (N : Nat) (k4 : vS → Int32 → Int32 → Int32 → Option (Int32 × vS)) : Nat → vS → Int32 → Int32 → Int32 → Int32 → Int32 → Int32 → Int32 → Option (Int32 × vS)
  | 0 => fun _ _ _ _ _ _ _ _ => none
  | n47 + 1 => fun τ x1 x2 x3 x4 x5 x6 x7 => (if (4 : Int32) ≤ x7 then k4 τ x1 x2 (x3 + 1) else (if bIn (x6 + x7) 160 = true then (vlet (τ.2 11 ((x6 + x7)).toNatClampNeg) (fun i8 => ((f_E_othersAt N x5 x7 i8).bind (fun q9 => (if bIn (x4 + x7) 24 = true then (vlet (τ.2 12 ((x4 + x7)).toNatClampNeg) (fun i12 => ((f_V_holdsAll N i12 q9).bind (fun q13 => (if q13 = 0 then (if bIn (x4 + x7) 24 = true then (vlet (τ.2 12 ((x4 + x7)).toNatClampNeg) (fun i17 => (if bIn (x4 + x7) 24 = true then (vlet (sa τ 12 ((x4 + x7)).toNatClampNeg (i17 ||| q9)) (fun σ19 => f_E_giveToSymbols_107 N (k4) (f_E_giveToSymbols_47 N (k4) n47) σ19 x1 1 x3 x4 x5 x6 x7)) else none))) else none) else f_E_giveToSymbols_107 N (k4) (f_E_giveToSymbols_47 N (k4) n47) τ x1 x2 x3 x4 x5 x6 x7))))) else none))))) else none))
def f_E_giveToSymbols_4 (N : Nat) : Nat → vS → Int32 → Int32 → Int32 → Option (Int32 × vS)
  | 0 => fun _ _ _ _ => none
  | n4 + 1 => fun τ x1 x2 x3 => (if bIn x1 10 = true then (vlet (τ.2 3 (x1).toNatClampNeg) (fun i2 => (if i2 < x3 then some (vp_nar .boolean x2, τ) else ((f_G_symbolAt N τ x1 x3).bind (fun q4 => f_E_giveToSymbols_47 N (f_E_giveToSymbols_4 N n4) N q4.2 x1 x2 x3 ((q4.1) * 4) (x3 * 4) ((x1 * 16) + (x3 * 4)) 0))))) else none)
def f_E_giveToSymbols (N : Nat) (σ : vS) (a0 : Int32) : Option (Int32 × vS) :=
  f_E_giveToSymbols_4 N N σ a0 0 0
def f_E_takeOrder_2 (N : Nat) : Nat → vS → Int32 → Option (Int32 × vS)
  | 0 => fun _ _ => none
  | n2 + 1 => fun τ x1 => (if (τ.1 1) ≤ x1 then some ((0 : Int32), τ) else ((f_E_takeFromSymbols N τ x1).bind (fun q2 => ((f_E_close N q2.2 x1).bind (fun q4 => f_E_takeOrder_2 N n2 q4.2 (x1 + 1))))))
def f_E_takeOrder (N : Nat) (σ : vS) : Option (Int32 × vS) :=
  f_E_takeOrder_2 N N σ 0
def f_E_leastLeadingToItself_7 (N : Nat) : Nat → vS → Int32 → Int32 → Option (Int32 × vS)
  | 0 => fun _ _ _ => none
  | n7 + 1 => fun τ x2 x3 => (if (16 : Int32) ≤ x3 then some (((-1) : Int32), τ) else (if bIn (x2 + x3) 160 = true then (vlet (τ.2 11 ((x2 + x3)).toNatClampNeg) (fun i3 => ((f_V_holds N i3 x3).bind (fun q4 => (if q4 = 0 then f_E_leastLeadingToItself_7 N n7 τ x2 (x3 + 1) else some (x3, τ)))))) else none))
def f_E_leastLeadingToItself (N : Nat) (σ : vS) (a0 : Int32) : Option (Int32 × vS) :=
  f_E_leastLeadingToItself_7 N N σ (a0 * 16) 0
def f_E_spread_61 (N : Nat) (k16 : vS → Int32 → Int32 → Option (Int32 × vS)) (k30 : vS → Int32 → Int32 → Int32 → Option (Int32 × vS)) (τ : vS) (x1 : Int32) (x2 : Int32) (x3 : Int32) : Option (Int32 × vS) :=
  k30 τ x1 x2 (x3 + 1)
def f_E_spread_30 (N : Nat) (k16 : vS → Int32 → Int32 → Option (Int32 × vS)) : Nat → vS → Int32 → Int32 → Int32 → Option (Int32 × vS)
  | 0 => fun _ _ _ _ => none
  | n30 + 1 => fun τ x1 x2 x3 => (if (τ.1 1) ≤ x3 then k16 τ x1 (x2 + 1) else ((f_E_takeFromSymbols N τ x3).bind (fun q7 => ((f_E_close N q7.2 x3).bind (fun q9 => ((f_E_giveToSymbols N q9.2 x3).bind (fun q11 => (if (q11.1) = 0 then f_E_spread_61 N (k16) (f_E_spread_30 N (k16) n30) q11.2 x1 x2 x3 else f_E_spread_61 N (k16) (f_E_spread_30 N (k16) n30) q11.2 1 x2 x3))))))))
def f_E_spread_16 (N : Nat) : Nat → vS → Int32 → Int32 → Option (Int32 × vS)
  | 0 => fun _ _ _ => none
  | n16 + 1 => fun τ x1 x2 => (if x1 = 0 then some ((0 : Int32), τ) else (if (97 : Int32) ≤ x2 then some ((0 : Int32), τ) else f_E_spread_30 N (f_E_spread_16 N n16) N τ 0 x2 0))
def f_E_spread (N : Nat) (σ : vS) : Option (Int32 × vS) :=
  (vlet (sfill σ 12 0) (fun σ1 => ((f_E_takeRules N σ1).bind (fun q2 => f_E_spread_16 N N q2.2 1 0))))
