def f_M_fits (N : Nat) (σ : vS) (a0 : Int32) (a1 : Int32) (a2 : Int32) : Option (Int32 × vS) :=
  (if bIn a0 10 = true then (vlet (σ.2 2 (a0).toNatClampNeg) (fun i2 => (if a1 < i2 then (if a2 < 0 then some ((0 : Int32), σ) else (if (σ.1 7) ≤ a2 then some ((0 : Int32), σ) else (if bIn a2 40 = true then (vlet (σ.2 20 (a2).toNatClampNeg) (fun i7 => (if i7 = (-1) then (if bIn a2 40 = true then (vlet (σ.2 17 (a2).toNatClampNeg) (fun i10 => (if bIn ((4 : Int32) * i10) 40 = true then (vlet (σ.2 3 (((4 : Int32) * i10)).toNatClampNeg) (fun i12 => (if bIn (((4 : Int32) * a0) + a1) 40 = true then (vlet (σ.2 3 ((((4 : Int32) * a0) + a1)).toNatClampNeg) (fun i14 => (if i12 = i14 then some ((1 : Int32), σ) else some ((0 : Int32), σ)))) else none))) else none))) else none) else some ((0 : Int32), σ)))) else none))) else (if a2 = (-1) then some ((1 : Int32), σ) else some ((0 : Int32), σ))))) else none)
def f_M_node_248 (N : Nat) : Nat → vS → Int32 → Int32 → Option (Int32 × vS)
  | 0 => fun _ _ _ => none
  | n248 + 1 => fun τ x7 x8 => (if (4 : Int32) ≤ x8 then (vlet (sf τ 7 ((τ.1 7) + 1)) (fun σ17 => some (x7, σ17))) else (if bIn (((4 : Int32) * x7) + x8) 160 = true then (vlet (sa τ 22 ((((4 : Int32) * x7) + x8)).toNatClampNeg (vp_nar .boolean 0)) (fun σ19 => f_M_node_248 N n248 σ19 x7 (x8 + 1))) else none))
def f_M_node_239 (N : Nat) (k198 : vS → Int32 → Int32 → Option (Int32 × vS)) (τ : vS) (x7 : Int32) (x8 : Int32) : Option (Int32 × vS) :=
  k198 τ x7 (x8 + 1)
def f_M_node_198 (N : Nat) : Nat → vS → Int32 → Int32 → Option (Int32 × vS)
  | 0 => fun _ _ _ => none
  | n198 + 1 => fun τ x7 x8 => (if (3 : Int32) ≤ x8 then f_M_node_248 N N τ x7 0 else (if bIn (((3 : Int32) * x7) + x8) 120 = true then (vlet (τ.2 19 ((((3 : Int32) * x7) + x8)).toNatClampNeg) (fun i21 => (if i21 = (-1) then f_M_node_239 N (f_M_node_198 N n198) τ x7 x8 else (if bIn (((3 : Int32) * x7) + x8) 120 = true then (vlet (τ.2 19 ((((3 : Int32) * x7) + x8)).toNatClampNeg) (fun i24 => (if bIn i24 40 = true then (vlet (sa τ 20 (i24).toNatClampNeg x7) (fun σ26 => f_M_node_239 N (f_M_node_198 N n198) σ26 x7 x8)) else none))) else none)))) else none))
def f_M_node_117 (N : Nat) (τ : vS) (x1 : Int32) (x2 : Int32) (x3 : Int32) (x4 : Int32) (x5 : Int32) (y0 : Int32) : Option (Int32 × vS) :=
  (vlet (sf τ 0 y0) (fun σ1 => (if (σ1.1 0) ≤ 0 then (if bIn (σ1.1 7) 40 = true then (vlet (sa σ1 17 ((σ1.1 7)).toNatClampNeg x1) (fun σ4 => (if bIn (σ1.1 7) 40 = true then (vlet (sa σ4 18 ((σ1.1 7)).toNatClampNeg x2) (fun σ6 => (if bIn (σ1.1 7) 40 = true then (vlet (sa σ6 20 ((σ1.1 7)).toNatClampNeg (-1)) (fun σ8 => (if bIn ((3 : Int32) * (σ1.1 7)) 120 = true then (vlet (sa σ8 19 (((3 : Int32) * (σ1.1 7))).toNatClampNeg x3) (fun σ10 => (if bIn (((3 : Int32) * (σ1.1 7)) + 1) 120 = true then (vlet (sa σ10 19 ((((3 : Int32) * (σ1.1 7)) + 1)).toNatClampNeg x4) (fun σ12 => (if bIn (((3 : Int32) * (σ1.1 7)) + 2) 120 = true then (vlet (sa σ12 19 ((((3 : Int32) * (σ1.1 7)) + 2)).toNatClampNeg x5) (fun σ14 => f_M_node_198 N N σ14 (σ1.1 7) 0)) else none))) else none))) else none))) else none))) else none))) else none) else some ((0 : Int32), σ1))))
def f_M_node_91 (N : Nat) (τ : vS) (x1 : Int32) (x2 : Int32) (x3 : Int32) (x4 : Int32) (x5 : Int32) (y0 : Int32) : Option (Int32 × vS) :=
  (if y0 = 0 then f_M_node_117 N τ x1 x2 x3 x4 x5 1 else (if (τ.1 7) = 40 then f_M_node_117 N τ x1 x2 x3 x4 x5 2 else f_M_node_117 N τ x1 x2 x3 x4 x5 0))
def f_M_node_90 (N : Nat) (τ : vS) (x1 : Int32) (x2 : Int32) (x3 : Int32) (x4 : Int32) (x5 : Int32) : Option (Int32 × vS) :=
  f_M_node_91 N τ x1 x2 x3 x4 x5 0
def f_M_node_86 (N : Nat) (τ : vS) (x1 : Int32) (x2 : Int32) (x3 : Int32) (x4 : Int32) (x5 : Int32) : Option (Int32 × vS) :=
  f_M_node_91 N τ x1 x2 x3 x4 x5 1
def f_M_node_73 (N : Nat) (τ : vS) (x1 : Int32) (x2 : Int32) (x3 : Int32) (x4 : Int32) (x5 : Int32) : Option (Int32 × vS) :=
  (if x4 = (-1) then f_M_node_86 N τ x1 x2 x3 x4 x5 else (if x4 = x5 then f_M_node_90 N τ x1 x2 x3 x4 x5 else f_M_node_86 N τ x1 x2 x3 x4 x5))
def f_M_node_49 (N : Nat) (τ : vS) (x1 : Int32) (x2 : Int32) (x3 : Int32) (x4 : Int32) (x5 : Int32) (y0 : Int32) : Option (Int32 × vS) :=
  (if y0 = 0 then f_M_node_90 N τ x1 x2 x3 x4 x5 else (if x3 = (-1) then f_M_node_73 N τ x1 x2 x3 x4 x5 else (if x3 = x4 then f_M_node_90 N τ x1 x2 x3 x4 x5 else (if x3 = x5 then f_M_node_90 N τ x1 x2 x3 x4 x5 else f_M_node_73 N τ x1 x2 x3 x4 x5))))
def f_M_node_48 (N : Nat) (τ : vS) (x1 : Int32) (x2 : Int32) (x3 : Int32) (x4 : Int32) (x5 : Int32) : Option (Int32 × vS) :=
  f_M_node_49 N τ x1 x2 x3 x4 x5 0
def f_M_node (N : Nat) (σ : vS) (a0 : Int32) (a1 : Int32) (a2 : Int32) (a3 : Int32) (a4 : Int32) : Option (Int32 × vS) :=
  (if a0 < 0 then f_M_node_48 N σ a0 a1 a2 a3 a4 else (if (σ.1 2) ≤ a0 then f_M_node_48 N σ a0 a1 a2 a3 a4 else ((f_M_fits N σ a0 1 a2).bind (fun q37 => (if (q37.1) = 0 then f_M_node_48 N q37.2 a0 a1 a2 a3 a4 else ((f_M_fits N q37.2 a0 2 a3).bind (fun q40 => (if (q40.1) = 0 then f_M_node_48 N q40.2 a0 a1 a2 a3 a4 else ((f_M_fits N q40.2 a0 3 a4).bind (fun q43 => (if (q43.1) = 0 then f_M_node_48 N q43.2 a0 a1 a2 a3 a4 else f_M_node_49 N q43.2 a0 a1 a2 a3 a4 1)))))))))))
def f_M_fell (N : Nat) (σ : vS) : Option (Int32 × vS) :=
  (vlet (sf σ 0 0) (fun σ1 => ((f_M_endRun N σ1).bind (fun q2 => (vlet (sf q2.2 7 0) (fun σ4 => some ((0 : Int32), σ4)))))))
def f_M_give_15 (N : Nat) (τ : vS) (x1 : Int32) (x2 : Int32) (y0 : Int32) : Option (Int32 × vS) :=
  (vlet (sf τ 0 y0) (fun σ1 => (if (σ1.1 0) = 0 then (if bIn x1 4 = true then (vlet (sa σ1 24 (x1).toNatClampNeg x2) (fun σ4 => some ((0 : Int32), σ4))) else none) else some ((0 : Int32), σ1))))
def f_M_give_10 (N : Nat) (τ : vS) (x1 : Int32) (x2 : Int32) : Option (Int32 × vS) :=
  f_M_give_15 N τ x1 x2 1
def f_M_give (N : Nat) (σ : vS) (a0 : Int32) (a1 : Int32) : Option (Int32 × vS) :=
  (if a0 < 0 then f_M_give_10 N σ a0 a1 else (if a0 ≤ 3 then f_M_give_15 N σ a0 a1 0 else f_M_give_10 N σ a0 a1))
def f_M_isNode (N : Nat) (σ : vS) (a0 : Int32) : Option (Int32 × vS) :=
  (if a0 < 0 then some ((0 : Int32), σ) else (if (σ.1 7) ≤ a0 then some ((0 : Int32), σ) else some ((1 : Int32), σ)))
def f_M_start_79 (N : Nat) : Nat → vS → Int32 → Int32 → Int32 → Option (Int32 × vS)
  | 0 => fun _ _ _ _ => none
  | n79 + 1 => fun τ x1 x2 x3 => (if (4 : Int32) ≤ x3 then (vlet (sf τ 8 x1) (fun σ11 => (vlet (sf σ11 9 x1) (fun σ12 => some ((0 : Int32), σ12))))) else (if bIn (((4 : Int32) * x2) + x3) 24 = true then (vlet (τ.2 1 ((((4 : Int32) * x2) + x3)).toNatClampNeg) (fun i14 => (if bIn (((4 : Int32) * x1) + x3) 160 = true then (vlet (sa τ 22 ((((4 : Int32) * x1) + x3)).toNatClampNeg (vp_nar .boolean i14)) (fun σ16 => (if bIn x3 4 = true then (vlet (σ16.2 24 (x3).toNatClampNeg) (fun i18 => (if bIn (((4 : Int32) * x1) + x3) 160 = true then (vlet (sa σ16 23 ((((4 : Int32) * x1) + x3)).toNatClampNeg i18) (fun σ20 => f_M_start_79 N n79 σ20 x1 x2 (x3 + 1))) else none))) else none))) else none))) else none))
def f_M_start_42 (N : Nat) : Nat → vS → Int32 → Int32 → Option (Int32 × vS)
  | 0 => fun _ _ _ => none
  | n42 + 1 => fun τ x1 x2 => (if (τ.1 7) ≤ x2 then (if bIn x1 40 = true then (vlet (τ.2 17 (x1).toNatClampNeg) (fun i7 => (if bIn ((4 : Int32) * i7) 40 = true then (vlet (τ.2 3 (((4 : Int32) * i7)).toNatClampNeg) (fun i9 => f_M_start_79 N N τ x1 i9 0)) else none))) else none) else (if bIn x2 40 = true then (vlet (sa τ 21 (x2).toNatClampNeg 0) (fun σ22 => f_M_start_42 N n42 σ22 x1 (x2 + 1))) else none))
def f_M_start_25 (N : Nat) (τ : vS) (x1 : Int32) (y0 : Int32) : Option (Int32 × vS) :=
  (vlet (sf τ 0 y0) (fun σ1 => (if (σ1.1 0) ≤ 0 then ((f_M_endRun N σ1).bind (fun q3 => f_M_start_42 N N q3.2 x1 0)) else some ((0 : Int32), σ1))))
def f_M_start (N : Nat) (σ : vS) (a0 : Int32) : Option (Int32 × vS) :=
  (if (σ.1 3) = 0 then f_M_start_25 N σ a0 1 else ((f_M_isNode N σ a0).bind (fun q24 => (if (q24.1) = 0 then f_M_start_25 N q24.2 a0 2 else f_M_start_25 N q24.2 a0 0))))
def f_M_cell_24 (N : Nat) (τ : vS) (x2 : Int32) (y0 : Int32) (y1 : Int32) : Option (Int32 × vS) :=
  some (((y1 * y0) + (x2 - x2 / 4 * 4)), τ)
def f_M_cell (N : Nat) (σ : vS) (a0 : Int32) (a1 : Int32) : Option (Int32 × vS) :=
  (if (4 : Int32) ≤ a1 then (vlet ((((3 : Int32) * a0) + (a1 / 4)) - 1) (fun i2 => (if bIn i2 120 = true then (vlet (σ.2 19 (i2).toNatClampNeg) (fun i4 => f_M_cell_24 N σ a1 i4 4)) else none))) else f_M_cell_24 N σ a1 a0 4)
def f_M_worth_79 (N : Nat) (τ : vS) (x1 : Int32) (x3 : Int32) (x4 : Int32) (x5 : Int32) (y0 : Int32) : Option (Int32 × vS) :=
  (if x4 = 0 then (if bIn x3 160 = true then (vlet (τ.2 5 (x3).toNatClampNeg) (fun i11 => some (i11, τ))) else none) else (if x4 = 1 then (if bIn x1 40 = true then (vlet (τ.2 18 (x1).toNatClampNeg) (fun i14 => some (i14, τ))) else none) else (if x4 = 2 then some (x5, τ) else (if x4 = 3 then some ((x5 + y0), τ) else (if x4 = 4 then some ((x5 - y0), τ) else (if x4 = 5 then some ((x5 * y0), τ) else (if x4 = 6 then (if y0 ≤ x5 then some (x5, τ) else some (y0, τ)) else (if bIn x1 40 = true then (vlet (τ.2 18 (x1).toNatClampNeg) (fun i22 => some ((i22 + x5), τ))) else none))))))))
def f_M_worth_48 (N : Nat) (τ : vS) (x1 : Int32) (x3 : Int32) (x4 : Int32) (y0 : Int32) : Option (Int32 × vS) :=
  ((f_M_needs N x4).bind (fun q7 => (if q7 ≤ 1 then f_M_worth_79 N τ x1 x3 x4 y0 0 else (if bIn x3 160 = true then (vlet (τ.2 6 (x3).toNatClampNeg) (fun i25 => ((f_M_cell N τ x1 i25).bind (fun q26 => (if bIn (q26.1) 160 = true then (vlet (q26.2.2 23 ((q26.1)).toNatClampNeg) (fun i29 => f_M_worth_79 N q26.2 x1 x3 x4 y0 i29)) else none))))) else none))))
def f_M_worth (N : Nat) (σ : vS) (a0 : Int32) (a1 : Int32) : Option (Int32 × vS) :=
  (if bIn a0 40 = true then (vlet (σ.2 17 (a0).toNatClampNeg) (fun i2 => (if bIn (((16 : Int32) * i2) + a1) 160 = true then (vlet (σ.2 4 ((((16 : Int32) * i2) + a1)).toNatClampNeg) (fun i4 => ((f_M_needs N i4).bind (fun q5 => (if q5 ≤ 0 then f_M_worth_48 N σ a0 (((16 : Int32) * i2) + a1) i4 0 else (if bIn (((16 : Int32) * i2) + a1) 160 = true then (vlet (σ.2 5 ((((16 : Int32) * i2) + a1)).toNatClampNeg) (fun i32 => ((f_M_cell N σ a0 i32).bind (fun q33 => (if bIn (q33.1) 160 = true then (vlet (q33.2.2 23 ((q33.1)).toNatClampNeg) (fun i36 => f_M_worth_48 N q33.2 a0 (((16 : Int32) * i2) + a1) i4 i36)) else none))))) else none)))))) else none))) else none)
def f_M_step (N : Nat) (σ : vS) : Option (Int32 × vS) :=
  (if bIn (σ.1 9) 40 = true then (vlet (σ.2 17 ((σ.1 9)).toNatClampNeg) (fun i2 => (if bIn (σ.1 9) 40 = true then (vlet (σ.2 21 ((σ.1 9)).toNatClampNeg) (fun i4 => (if bIn (((48 : Int32) * i2) + i4) 480 = true then (vlet (σ.2 14 ((((48 : Int32) * i2) + i4)).toNatClampNeg) (fun i6 => (if bIn (σ.1 9) 40 = true then (vlet (σ.2 21 ((σ.1 9)).toNatClampNeg) (fun i8 => (if bIn (σ.1 9) 40 = true then (vlet (sa σ 21 ((σ.1 9)).toNatClampNeg (i8 + 1)) (fun σ10 => (if (100 : Int32) ≤ i6 then (if (1000 : Int32) ≤ i6 then (if (σ.1 9) = (σ10.1 8) then (if bIn (σ.1 9) 40 = true then (vlet (σ10.2 21 ((σ.1 9)).toNatClampNeg) (fun i15 => (if bIn i2 10 = true then (vlet (σ10.2 13 (i2).toNatClampNeg) (fun i17 => (if i15 = i17 then (vlet (sf σ10 9 (-1)) (fun σ20 => some ((0 : Int32), σ20))) else (vlet (sf σ10 9 (σ.1 9)) (fun σ19 => some ((0 : Int32), σ19)))))) else none))) else none) else (if bIn (σ.1 9) 40 = true then (vlet (σ10.2 20 ((σ.1 9)).toNatClampNeg) (fun i22 => (vlet (sf σ10 9 i22) (fun σ23 => some ((0 : Int32), σ23))))) else none)) else (vlet (((3 : Int32) * (σ.1 9)) + (i6 / 100)) (fun i24 => (if bIn (i24 - 1) 120 = true then (vlet (σ10.2 19 ((i24 - 1)).toNatClampNeg) (fun i26 => (vlet (sf σ10 9 i26) (fun σ27 => some ((0 : Int32), σ27))))) else none)))) else ((f_M_cell N σ10 (σ.1 9) i6).bind (fun q28 => ((f_M_worth N q28.2 (σ.1 9) i6).bind (fun q30 => (if bIn (q28.1) 160 = true then (vlet (sa q30.2 23 ((q28.1)).toNatClampNeg (q30.1)) (fun σ33 => ((f_M_cell N σ33 (σ.1 9) i6).bind (fun q34 => (if bIn (q34.1) 160 = true then (vlet (sa q34.2 22 ((q34.1)).toNatClampNeg (vp_nar .boolean 1)) (fun σ37 => some ((0 : Int32), σ37))) else none))))) else none)))))))) else none))) else none))) else none))) else none))) else none)
def f_M_run_43 (N : Nat) : Nat → vS → Int32 → Int32 → Option (Int32 × vS)
  | 0 => fun _ _ _ => none
  | n43 + 1 => fun τ x1 x2 => (if x1 ≤ x2 then some (x2, τ) else (if (τ.1 9) = (-1) then some (x2, τ) else ((f_M_step N τ).bind (fun q5 => f_M_run_43 N n43 q5.2 x1 (x2 + 1)))))
def f_M_run_29 (N : Nat) (τ : vS) (x1 : Int32) (y0 : Int32) : Option (Int32 × vS) :=
  (vlet (sf τ 0 y0) (fun σ1 => (if (σ1.1 0) ≤ 0 then f_M_run_43 N N σ1 x1 0 else some ((0 : Int32), σ1))))
def f_M_run_12 (N : Nat) (τ : vS) (x1 : Int32) : Option (Int32 × vS) :=
  f_M_run_29 N τ x1 1
def f_M_run (N : Nat) (σ : vS) (a0 : Int32) : Option (Int32 × vS) :=
  (if a0 < 0 then f_M_run_12 N σ a0 else (if a0 ≤ 500 then (if (σ.1 8) = (-1) then f_M_run_29 N σ a0 2 else f_M_run_29 N σ a0 0) else f_M_run_12 N σ a0))
def f_M_status (N : Nat) (σ : vS) : Option (Int32 × vS) :=
  (vlet (sf σ 0 0) (fun σ1 => (if (σ1.1 8) = (-1) then some ((0 : Int32), σ1) else (if (σ1.1 9) = (-1) then some ((2 : Int32), σ1) else some ((1 : Int32), σ1)))))
def f_M_atHand (N : Nat) (σ : vS) : Option (Int32 × vS) :=
  (vlet (sf σ 0 0) (fun σ1 => some ((σ1.1 9), σ1)))
def f_M_isAttribute (N : Nat) (σ : vS) (a0 : Int32) (a1 : Int32) : Option (Int32 × vS) :=
  ((f_M_isNode N σ a0).bind (fun q1 => (if (q1.1) = 0 then some ((0 : Int32), q1.2) else (if a1 < 0 then some ((0 : Int32), q1.2) else (if bIn a0 40 = true then (vlet (q1.2.2 17 (a0).toNatClampNeg) (fun i6 => (if bIn ((4 : Int32) * i6) 40 = true then (vlet (q1.2.2 3 (((4 : Int32) * i6)).toNatClampNeg) (fun i8 => (if bIn i8 6 = true then (vlet (q1.2.2 0 (i8).toNatClampNeg) (fun i10 => (if i10 ≤ a1 then some ((0 : Int32), q1.2) else some ((1 : Int32), q1.2)))) else none))) else none))) else none)))))
def f_M_knows_15 (N : Nat) (τ : vS) (x1 : Int32) (x2 : Int32) (y0 : Int32) : Option (Int32 × vS) :=
  (vlet (sf τ 0 y0) (fun σ3 => (if (σ3.1 0) = 0 then (if bIn (((4 : Int32) * x1) + x2) 160 = true then (vlet (σ3.2 22 ((((4 : Int32) * x1) + x2)).toNatClampNeg) (fun i6 => (if i6 = 0 then some ((0 : Int32), σ3) else some ((1 : Int32), σ3)))) else none) else some ((0 : Int32), σ3))))
def f_M_knows (N : Nat) (σ : vS) (a0 : Int32) (a1 : Int32) : Option (Int32 × vS) :=
  ((f_M_isAttribute N σ a0 a1).bind (fun q1 => (if (q1.1) = 0 then f_M_knows_15 N q1.2 a0 a1 1 else f_M_knows_15 N q1.2 a0 a1 0)))
def f_M_value_32 (N : Nat) (τ : vS) (x1 : Int32) (x2 : Int32) (y0 : Int32) : Option (Int32 × vS) :=
  (vlet (sf τ 0 y0) (fun σ3 => (if (σ3.1 0) ≤ 0 then (if bIn (((4 : Int32) * x1) + x2) 160 = true then (vlet (σ3.2 23 ((((4 : Int32) * x1) + x2)).toNatClampNeg) (fun i6 => some (i6, σ3))) else none) else some ((0 : Int32), σ3))))
def f_M_value (N : Nat) (σ : vS) (a0 : Int32) (a1 : Int32) : Option (Int32 × vS) :=
  ((f_M_isAttribute N σ a0 a1).bind (fun q1 => (if (q1.1) = 0 then f_M_value_32 N q1.2 a0 a1 1 else (if bIn (((4 : Int32) * a0) + a1) 160 = true then (vlet (q1.2.2 22 ((((4 : Int32) * a0) + a1)).toNatClampNeg) (fun i9 => (if i9 = 0 then f_M_value_32 N q1.2 a0 a1 2 else f_M_value_32 N q1.2 a0 a1 0))) else none))))
