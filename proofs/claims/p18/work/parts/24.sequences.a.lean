def f_Q_at (N : Nat) (σ : vS) (a0 : Int32) (a1 : Int32) : Option (Int32 × vS) :=
  (if bIn a0 10 = true then (vlet (σ.2 17 (a0).toNatClampNeg) (fun i2 => (if i2 ≤ a1 then some (((-1) : Int32), σ) else (if bIn ((a0 * 32) + a1) 320 = true then (vlet (σ.2 16 (((a0 * 32) + a1)).toNatClampNeg) (fun i5 => some (i5, σ))) else none)))) else none)
def f_Q_lengthOfAll_4 (N : Nat) : Nat → vS → Int32 → Int32 → Option (Int32 × vS)
  | 0 => fun _ _ _ => none
  | n4 + 1 => fun τ x1 x2 => (if (τ.1 1) ≤ x2 then some (x1, τ) else (if bIn x2 10 = true then (vlet (τ.2 17 (x2).toNatClampNeg) (fun i3 => f_Q_lengthOfAll_4 N n4 τ (x1 + i3) (x2 + 1))) else none))
def f_Q_lengthOfAll (N : Nat) (σ : vS) : Option (Int32 × vS) :=
  f_Q_lengthOfAll_4 N N σ 0 0
def f_Q_visitsAt (N : Nat) (σ : vS) (a0 : Int32) (a1 : Int32) : Option (Int32 × vS) :=
  ((f_G_symbolAt N σ a0 a1).bind (fun q1 => (if bIn (q1.1) 6 = true then (vlet (q1.2.2 14 ((q1.1)).toNatClampNeg) (fun i4 => some (i4, q1.2))) else none)))
def f_Q_readySet_66 (N : Nat) (k25 : vS → Int32 → Int32 → Int32 → Option (Int32 × vS)) (τ : vS) (x2 : Int32) (x3 : Int32) (x4 : Int32) : Option (Int32 × vS) :=
  k25 τ x2 x3 (x4 + 1)
def f_Q_readySet_25 (N : Nat) : Nat → vS → Int32 → Int32 → Int32 → Option (Int32 × vS)
  | 0 => fun _ _ _ _ => none
  | n25 + 1 => fun τ x2 x3 x4 => (if (16 : Int32) ≤ x4 then some (((-1) : Int32), τ) else ((f_V_holds N x2 x4).bind (fun q4 => (if q4 = 0 then f_Q_readySet_66 N (f_Q_readySet_25 N n25) τ x2 x3 x4 else (if bIn (x3 + x4) 160 = true then (vlet (τ.2 10 ((x3 + x4)).toNatClampNeg) (fun i8 => ((f_V_holdsAll N (τ.1 7) i8).bind (fun q9 => (if q9 = 0 then f_Q_readySet_66 N (f_Q_readySet_25 N n25) τ x2 x3 x4 else some (x4, τ)))))) else none)))))
def f_Q_readySet (N : Nat) (σ : vS) (a0 : Int32) : Option (Int32 × vS) :=
  (if bIn a0 10 = true then (vlet (σ.2 5 (a0).toNatClampNeg) (fun i2 => f_Q_readySet_25 N N σ (i2 &&& ((σ.1 6) ^^^ (-1))) (a0 * 16) 0)) else none)
def f_Q_readyVisit_75 (N : Nat) (k2 : vS → Int32 → Int32 → Option (Int32 × vS)) (τ : vS) (x1 : Int32) (x2 : Int32) : Option (Int32 × vS) :=
  k2 τ x1 (x2 + 1)
def f_Q_readyVisit_2 (N : Nat) : Nat → vS → Int32 → Int32 → Option (Int32 × vS)
  | 0 => fun _ _ _ => none
  | n2 + 1 => fun τ x1 x2 => (if bIn x1 10 = true then (vlet (τ.2 3 (x1).toNatClampNeg) (fun i2 => (if i2 < x2 then some (((-1) : Int32), τ) else (if bIn x2 4 = true then (vlet (τ.2 18 (x2).toNatClampNeg) (fun i5 => ((f_Q_visitsAt N τ x1 x2).bind (fun q6 => (if (q6.1) < (i5 + 1) then f_Q_readyVisit_75 N (f_Q_readyVisit_2 N n2) q6.2 x1 x2 else ((f_G_symbolAt N q6.2 x1 x2).bind (fun q9 => ((f_K_inheritedOf N q9.2 (q9.1) (i5 + 1)).bind (fun q11 => ((f_V_holdsAll N (q11.2.1 6) ((q11.1) <<< ((x2 * 4) &&& 31))).bind (fun q13 => (if q13 = 0 then f_Q_readyVisit_75 N (f_Q_readyVisit_2 N n2) q11.2 x1 x2 else some (x2, q11.2))))))))))))) else none)))) else none)
def f_Q_readyVisit (N : Nat) (σ : vS) (a0 : Int32) : Option (Int32 × vS) :=
  f_Q_readyVisit_2 N N σ a0 1
def f_Q_isLeaveReady_33 (N : Nat) (τ : vS) (x1 : Int32) (x3 : Int32) : Option (Int32 × vS) :=
  ((f_G_symbolAt N τ x1 0).bind (fun q6 => ((f_K_synthesizedOf N q6.2 (q6.1) x3).bind (fun q8 => ((f_V_holdsAll N (τ.1 6) (q8.1)).bind (fun q10 => (if q10 = 0 then some ((0 : Int32), q8.2) else some ((1 : Int32), q8.2))))))))
def f_Q_isLeaveReady (N : Nat) (σ : vS) (a0 : Int32) (a1 : Int32) : Option (Int32 × vS) :=
  (if bIn (0 : Int32) 4 = true then (vlet (σ.2 18 ((0 : Int32)).toNatClampNeg) (fun i2 => ((f_Q_visitsAt N σ a0 0).bind (fun q3 => (if (q3.1) < (i2 + 1) then some ((0 : Int32), q3.2) else (if (i2 + 1) < (q3.1) then f_Q_isLeaveReady_33 N q3.2 a0 (i2 + 1) else (if a1 = 0 then some ((0 : Int32), q3.2) else f_Q_isLeaveReady_33 N q3.2 a0 (i2 + 1)))))))) else none)
def f_Q_writeSet (N : Nat) (σ : vS) (a0 : Int32) : Option (Int32 × vS) :=
  (vlet ((σ.1 6) ||| ((1 : Int32) <<< (a0 &&& 31))) (fun i1 => (vlet (sf σ 6 i1) (fun σ2 => (vlet ((σ2.1 7) ||| ((1 : Int32) <<< (a0 &&& 31))) (fun i3 => (vlet (sf σ2 7 i3) (fun σ4 => some (a0, σ4)))))))))
def f_Q_writeVisit (N : Nat) (σ : vS) (a0 : Int32) (a1 : Int32) : Option (Int32 × vS) :=
  (if bIn a1 4 = true then (vlet (σ.2 18 (a1).toNatClampNeg) (fun i2 => (if bIn a1 4 = true then (vlet (sa σ 18 (a1).toNatClampNeg (i2 + 1)) (fun σ4 => ((f_G_symbolAt N σ4 a0 a1).bind (fun q5 => ((f_K_synthesizedOf N q5.2 (q5.1) (i2 + 1)).bind (fun q7 => (vlet ((q7.2.1 7) ||| ((q7.1) <<< ((a1 * 4) &&& 31))) (fun i9 => (vlet (sf q7.2 7 i9) (fun σ10 => (vlet (((100 : Int32) * a1) + (i2 + 1)) (fun i11 => some (i11, σ10))))))))))))) else none))) else none)
def f_Q_writeLeave_50 (N : Nat) (τ : vS) (x2 : Int32) : Option (Int32 × vS) :=
  some (((1000 : Int32) + x2), τ)
def f_Q_writeLeave (N : Nat) (σ : vS) (a0 : Int32) : Option (Int32 × vS) :=
  (if bIn (0 : Int32) 4 = true then (vlet (σ.2 18 ((0 : Int32)).toNatClampNeg) (fun i2 => (if bIn (0 : Int32) 4 = true then (vlet (sa σ 18 ((0 : Int32)).toNatClampNeg (i2 + 1)) (fun σ4 => ((f_Q_visitsAt N σ4 a0 0).bind (fun q5 => (if (q5.1) ≤ (i2 + 1) then f_Q_writeLeave_50 N q5.2 (i2 + 1) else ((f_G_symbolAt N q5.2 a0 0).bind (fun q8 => ((f_K_inheritedOf N q8.2 (q8.1) ((i2 + 1) + 1)).bind (fun q10 => (vlet (sf q10.2 7 ((q5.2.1 7) ||| (q10.1))) (fun σ12 => f_Q_writeLeave_50 N σ12 (i2 + 1)))))))))))) else none))) else none)
def f_Q_writeNext (N : Nat) (σ : vS) (a0 : Int32) (a1 : Int32) : Option (Int32 × vS) :=
  ((f_Q_readySet N σ a0).bind (fun q1 => (if (q1.1) = (-1) then ((f_Q_readyVisit N q1.2 a0).bind (fun q4 => (if (q4.1) = (-1) then ((f_Q_isLeaveReady N q4.2 a0 a1).bind (fun q7 => (if (q7.1) = 0 then some (((-1) : Int32), q7.2) else ((f_Q_writeLeave N q7.2 a0).bind (fun q10 => some ((q10.1), q10.2)))))) else ((f_Q_writeVisit N q4.2 a0 (q4.1)).bind (fun q12 => some ((q12.1), q12.2)))))) else ((f_Q_writeSet N q1.2 (q1.1)).bind (fun q14 => some ((q14.1), q14.2))))))
def f_Q_beginWriting (N : Nat) (σ : vS) (a0 : Int32) : Option (Int32 × vS) :=
  (vlet (sfill σ 18 0) (fun σ1 => (vlet (sf σ1 6 0) (fun σ2 => ((f_G_symbolAt N σ2 a0 0).bind (fun q3 => ((f_K_inheritedOf N q3.2 (q3.1) 1).bind (fun q5 => (vlet (sf q5.2 7 (q5.1)) (fun σ7 => some ((0 : Int32), σ7)))))))))))
def f_Q_fullLength_15 (N : Nat) : Nat → vS → Int32 → Int32 → Int32 → Option (Int32 × vS)
  | 0 => fun _ _ _ _ => none
  | n15 + 1 => fun τ x1 x2 x3 => (if bIn x1 10 = true then (vlet (τ.2 3 (x1).toNatClampNeg) (fun i6 => (if i6 < x3 then some (x2, τ) else ((f_Q_visitsAt N τ x1 x3).bind (fun q8 => f_Q_fullLength_15 N n15 q8.2 x1 (x2 + (q8.1)) (x3 + 1)))))) else none)
def f_Q_fullLength (N : Nat) (σ : vS) (a0 : Int32) : Option (Int32 × vS) :=
  (if bIn a0 10 = true then (vlet (σ.2 5 (a0).toNatClampNeg) (fun i2 => ((f_I_bitCount N i2).bind (fun q3 => f_Q_fullLength_15 N N σ a0 q3 0)))) else none)
def f_Q_write_55 (N : Nat) (k2 : vS → Int32 → Option (Int32 × vS)) (k26 : vS → Int32 → Int32 → Int32 → Option (Int32 × vS)) (τ : vS) (x1 : Int32) (x2 : Int32) (x3 : Int32) (y0 : Int32) (y1 : Int32) (y3 : Int32) : Option (Int32 × vS) :=
  ((f_Q_writeNext N τ y1 y0).bind (fun q9 => (if bIn y3 320 = true then (vlet (sa q9.2 16 (y3).toNatClampNeg (q9.1)) (fun σ12 => k26 σ12 x1 x2 (x3 + 1))) else none)))
def f_Q_write_26 (N : Nat) (k2 : vS → Int32 → Option (Int32 × vS)) : Nat → vS → Int32 → Int32 → Int32 → Option (Int32 × vS)
  | 0 => fun _ _ _ _ => none
  | n26 + 1 => fun τ x1 x2 x3 => (if x2 ≤ x3 then (if bIn x1 10 = true then (vlet (sa τ 17 (x1).toNatClampNeg x2) (fun σ8 => k2 σ8 (x1 + 1))) else none) else (if x3 = (x2 - 1) then f_Q_write_55 N (k2) (f_Q_write_26 N (k2) n26) τ x1 x2 x3 1 x1 ((x1 * 32) + x3) else f_Q_write_55 N (k2) (f_Q_write_26 N (k2) n26) τ x1 x2 x3 0 x1 ((x1 * 32) + x3)))
def f_Q_write_2 (N : Nat) : Nat → vS → Int32 → Option (Int32 × vS)
  | 0 => fun _ _ => none
  | n2 + 1 => fun τ x1 => (if (τ.1 1) ≤ x1 then some ((0 : Int32), τ) else ((f_Q_beginWriting N τ x1).bind (fun q2 => ((f_Q_fullLength N q2.2 x1).bind (fun q4 => f_Q_write_26 N (f_Q_write_2 N n2) N q4.2 x1 (q4.1) 0)))))
def f_Q_write (N : Nat) (σ : vS) : Option (Int32 × vS) :=
  f_Q_write_2 N N σ 0
