def f_Z_hasNode (N : Nat) (σ : vS) (a0 : Int32) : Option (Int32 × vS) :=
  (if a0 < 0 then some ((0 : Int32), σ) else (if (σ.1 8) ≤ a0 then some ((0 : Int32), σ) else some ((1 : Int32), σ)))
def f_Z_symbolOf (N : Nat) (σ : vS) (a0 : Int32) : Option (Int32 × vS) :=
  (if bIn a0 40 = true then (vlet (σ.2 19 (a0).toNatClampNeg) (fun i2 => ((f_G_symbolAt N σ i2 0).bind (fun q3 => some ((q3.1), q3.2))))) else none)
def f_Z_nodeAt (N : Nat) (σ : vS) (a0 : Int32) (a1 : Int32) : Option (Int32 × vS) :=
  (if bIn ((a0 * 4) + a1) 160 = true then (vlet (σ.2 22 (((a0 * 4) + a1)).toNatClampNeg) (fun i2 => some (i2, σ))) else none)
def f_Z_canBeChild (N : Nat) (σ : vS) (a0 : Int32) (a1 : Int32) (a2 : Int32) : Option (Int32 × vS) :=
  (if bIn a0 10 = true then (vlet (σ.2 3 (a0).toNatClampNeg) (fun i2 => (if a1 ≤ i2 then ((f_Z_hasNode N σ a2).bind (fun q4 => (if (q4.1) = 0 then some ((0 : Int32), q4.2) else (if bIn a2 40 = true then (vlet (q4.2.2 21 (a2).toNatClampNeg) (fun i8 => (if i8 = (-1) then ((f_Z_symbolOf N q4.2 a2).bind (fun q10 => ((f_G_symbolAt N q10.2 a0 a1).bind (fun q12 => (if (q10.1) = (q12.1) then some ((1 : Int32), q12.2) else some ((0 : Int32), q12.2)))))) else some ((0 : Int32), q4.2)))) else none)))) else (if a2 = (-1) then some ((1 : Int32), σ) else some ((0 : Int32), σ))))) else none)
def f_Z_canBeChildren_58 (N : Nat) (τ : vS) : Option (Int32 × vS) :=
  some ((1 : Int32), τ)
def f_Z_canBeChildren_47 (N : Nat) (τ : vS) (x3 : Int32) (x4 : Int32) : Option (Int32 × vS) :=
  (if x3 = (-1) then f_Z_canBeChildren_58 N τ else (if x3 = x4 then some ((0 : Int32), τ) else f_Z_canBeChildren_58 N τ))
def f_Z_canBeChildren (N : Nat) (σ : vS) (a0 : Int32) (a1 : Int32) (a2 : Int32) (a3 : Int32) : Option (Int32 × vS) :=
  ((f_Z_canBeChild N σ a0 1 a1).bind (fun q1 => (if (q1.1) = 0 then some ((0 : Int32), q1.2) else ((f_Z_canBeChild N q1.2 a0 2 a2).bind (fun q4 => (if (q4.1) = 0 then some ((0 : Int32), q4.2) else ((f_Z_canBeChild N q4.2 a0 3 a3).bind (fun q7 => (if (q7.1) = 0 then some ((0 : Int32), q7.2) else (if a1 = (-1) then f_Z_canBeChildren_47 N q7.2 a2 a3 else (if a1 = a2 then some ((0 : Int32), q7.2) else (if a1 = a3 then some ((0 : Int32), q7.2) else f_Z_canBeChildren_47 N q7.2 a2 a3))))))))))))
def f_Z_adopt (N : Nat) (σ : vS) (a0 : Int32) (a1 : Int32) (a2 : Int32) : Option (Int32 × vS) :=
  (if bIn ((a0 * 4) + a1) 160 = true then (vlet (sa σ 22 (((a0 * 4) + a1)).toNatClampNeg a2) (fun σ2 => (if a2 = (-1) then some ((0 : Int32), σ2) else (if bIn a2 40 = true then (vlet (sa σ2 21 (a2).toNatClampNeg a0) (fun σ5 => some ((0 : Int32), σ5))) else none)))) else none)
def f_Z_grow (N : Nat) (σ : vS) (a0 : Int32) (a1 : Int32) (a2 : Int32) (a3 : Int32) (a4 : Int32) : Option (Int32 × vS) :=
  (vlet (sf σ 8 ((σ.1 8) + 1)) (fun σ1 => (if bIn (σ.1 8) 40 = true then (vlet (sa σ1 19 ((σ.1 8)).toNatClampNeg a0) (fun σ3 => (if bIn (σ.1 8) 40 = true then (vlet (sa σ3 20 ((σ.1 8)).toNatClampNeg a1) (fun σ5 => (if bIn (σ.1 8) 40 = true then (vlet (sa σ5 21 ((σ.1 8)).toNatClampNeg (-1)) (fun σ7 => (if bIn ((σ.1 8) * 4) 160 = true then (vlet (sa σ7 22 (((σ.1 8) * 4)).toNatClampNeg (σ.1 8)) (fun σ9 => ((f_Z_adopt N σ9 (σ.1 8) 1 a2).bind (fun q10 => ((f_Z_adopt N q10.2 (σ.1 8) 2 a3).bind (fun q12 => ((f_Z_adopt N q12.2 (σ.1 8) 3 a4).bind (fun q14 => some ((σ.1 8), q14.2))))))))) else none))) else none))) else none))) else none)))
def f_Z_clear (N : Nat) (σ : vS) : Option (Int32 × vS) :=
  (vlet (sf σ 8 0) (fun σ1 => some ((0 : Int32), σ1)))
