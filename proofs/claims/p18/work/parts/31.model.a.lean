def f_M_learn_334 (N : Nat) (k212 : vS → Int32 → Int32 → Int32 → Int32 → Option (Int32 × vS)) (k226 : vS → Int32 → Int32 → Int32 → Int32 → Int32 → Option (Int32 × vS)) (τ : vS) (x1 : Int32) (x2 : Int32) (x3 : Int32) (x4 : Int32) (x5 : Int32) (y0 : Int32) (y1 : Int32) : Option (Int32 × vS) :=
  (if bIn y1 96 = true then (vlet (sa τ 9 (y1).toNatClampNeg (vp_nar .boolean y0)) (fun σ18 => k226 σ18 x1 x2 x3 x4 (x5 + 1))) else none)
def f_M_learn_329 (N : Nat) (k212 : vS → Int32 → Int32 → Int32 → Int32 → Option (Int32 × vS)) (k226 : vS → Int32 → Int32 → Int32 → Int32 → Int32 → Option (Int32 × vS)) (τ : vS) (x1 : Int32) (x2 : Int32) (x3 : Int32) (x4 : Int32) (x5 : Int32) (y0 : Int32) : Option (Int32 × vS) :=
  f_M_learn_334 N (k212) (k226) τ x1 x2 x3 x4 x5 1 y0
def f_M_learn_307 (N : Nat) (k212 : vS → Int32 → Int32 → Int32 → Int32 → Option (Int32 × vS)) (k226 : vS → Int32 → Int32 → Int32 → Int32 → Int32 → Option (Int32 × vS)) (τ : vS) (x1 : Int32) (x2 : Int32) (x4 : Int32) (x5 : Int32) (x6 : Int32) (x7 : Int32) (y0 : Int32) : Option (Int32 × vS) :=
  (if bIn x6 96 = true then (vlet (τ.2 9 (x6).toNatClampNeg) (fun i16 => (if i16 = 0 then (if x7 = 0 then f_M_learn_334 N (k212) (k226) τ x1 x2 y0 x4 x5 0 x6 else f_M_learn_329 N (k212) (k226) τ x1 x2 y0 x4 x5 x6) else f_M_learn_329 N (k212) (k226) τ x1 x2 y0 x4 x5 x6))) else none)
def f_M_learn_306 (N : Nat) (k212 : vS → Int32 → Int32 → Int32 → Int32 → Option (Int32 × vS)) (k226 : vS → Int32 → Int32 → Int32 → Int32 → Int32 → Option (Int32 × vS)) (τ : vS) (x1 : Int32) (x2 : Int32) (x4 : Int32) (x5 : Int32) (x6 : Int32) (x7 : Int32) : Option (Int32 × vS) :=
  f_M_learn_307 N (k212) (k226) τ x1 x2 x4 x5 x6 x7 0
def f_M_learn_302 (N : Nat) (k212 : vS → Int32 → Int32 → Int32 → Int32 → Option (Int32 × vS)) (k226 : vS → Int32 → Int32 → Int32 → Int32 → Int32 → Option (Int32 × vS)) (τ : vS) (x1 : Int32) (x2 : Int32) (x4 : Int32) (x5 : Int32) (x6 : Int32) (x7 : Int32) : Option (Int32 × vS) :=
  f_M_learn_307 N (k212) (k226) τ x1 x2 x4 x5 x6 x7 1
def f_M_learn_226 (N : Nat) (k212 : vS → Int32 → Int32 → Int32 → Int32 → Option (Int32 × vS)) : Nat → vS → Int32 → Int32 → Int32 → Int32 → Int32 → Option (Int32 × vS)
  | 0 => fun _ _ _ _ _ _ => none
  | n226 + 1 => fun τ x1 x2 x3 x4 x5 => (if (16 : Int32) ≤ x5 then k212 τ x1 x2 x3 (x4 + 1) else (if bIn (((4 : Int32) * x1) + x4) 40 = true then (vlet (τ.2 3 ((((4 : Int32) * x1) + x4)).toNatClampNeg) (fun i10 => (vlet ((16 : Int32) * (((4 : Int32) * x4) + (x5 / 4))) (fun i11 => (vlet ((x2 + i11) + ((4 : Int32) * x4)) (fun i12 => (if bIn (i12 + (x5 - x5 / 4 * 4)) 2560 = true then (vlet (τ.2 8 ((i12 + (x5 - x5 / 4 * 4))).toNatClampNeg) (fun i14 => (if x3 = 0 then (if i14 = 0 then f_M_learn_306 N (k212) (f_M_learn_226 N (k212) n226) τ x1 x2 x4 x5 (((16 : Int32) * i10) + x5) i14 else (if bIn (((16 : Int32) * i10) + x5) 96 = true then (vlet (τ.2 9 ((((16 : Int32) * i10) + x5)).toNatClampNeg) (fun i24 => (if i24 = 0 then f_M_learn_302 N (k212) (f_M_learn_226 N (k212) n226) τ x1 x2 x4 x5 (((16 : Int32) * i10) + x5) i14 else f_M_learn_306 N (k212) (f_M_learn_226 N (k212) n226) τ x1 x2 x4 x5 (((16 : Int32) * i10) + x5) i14))) else none)) else f_M_learn_302 N (k212) (f_M_learn_226 N (k212) n226) τ x1 x2 x4 x5 (((16 : Int32) * i10) + x5) i14))) else none))))))) else none))
def f_M_learn_212 (N : Nat) : Nat → vS → Int32 → Int32 → Int32 → Int32 → Option (Int32 × vS)
  | 0 => fun _ _ _ _ _ => none
  | n212 + 1 => fun τ x1 x2 x3 x4 => (if bIn x1 10 = true then (vlet (τ.2 2 (x1).toNatClampNeg) (fun i6 => (if i6 ≤ x4 then some (vp_nar .boolean x3, τ) else f_M_learn_226 N (f_M_learn_212 N n212) N τ x1 x2 x3 x4 0))) else none)
def f_M_learn_194 (N : Nat) (k112 : vS → Int32 → Int32 → Int32 → Option (Int32 × vS)) (k121 : vS → Int32 → Int32 → Int32 → Int32 → Option (Int32 × vS)) (τ : vS) (x1 : Int32) (x2 : Int32) (x3 : Int32) (x4 : Int32) (y0 : Int32) (y1 : Int32) : Option (Int32 × vS) :=
  (if bIn y1 2560 = true then (vlet (sa τ 8 (y1).toNatClampNeg (vp_nar .boolean y0)) (fun σ30 => k121 σ30 x1 x2 x3 (x4 + 1))) else none)
def f_M_learn_193 (N : Nat) (k112 : vS → Int32 → Int32 → Int32 → Option (Int32 × vS)) (k121 : vS → Int32 → Int32 → Int32 → Int32 → Option (Int32 × vS)) (τ : vS) (x1 : Int32) (x2 : Int32) (x3 : Int32) (x4 : Int32) (y0 : Int32) : Option (Int32 × vS) :=
  f_M_learn_194 N (k112) (k121) τ x1 x2 x3 x4 0 y0
def f_M_learn_189 (N : Nat) (k112 : vS → Int32 → Int32 → Int32 → Option (Int32 × vS)) (k121 : vS → Int32 → Int32 → Int32 → Int32 → Option (Int32 × vS)) (τ : vS) (x1 : Int32) (x2 : Int32) (x3 : Int32) (x4 : Int32) (y0 : Int32) : Option (Int32 × vS) :=
  f_M_learn_194 N (k112) (k121) τ x1 x2 x3 x4 1 y0
def f_M_learn_121 (N : Nat) (k112 : vS → Int32 → Int32 → Int32 → Option (Int32 × vS)) : Nat → vS → Int32 → Int32 → Int32 → Int32 → Option (Int32 × vS)
  | 0 => fun _ _ _ _ _ => none
  | n121 + 1 => fun τ x1 x2 x3 x4 => (if (256 : Int32) ≤ x4 then k112 τ x1 x2 (x3 + 1) else (if bIn (x2 + x4) 2560 = true then (vlet (τ.2 8 ((x2 + x4)).toNatClampNeg) (fun i28 => (if i28 = 0 then (if bIn ((x2 + ((x4 / 16) * 16)) + x3) 2560 = true then (vlet (τ.2 8 (((x2 + ((x4 / 16) * 16)) + x3)).toNatClampNeg) (fun i33 => (if i33 = 0 then f_M_learn_193 N (k112) (f_M_learn_121 N (k112) n121) τ x1 x2 x3 x4 (x2 + x4) else (vlet ((x2 + ((16 : Int32) * x3)) + (x4 - x4 / 16 * 16)) (fun i35 => (if bIn i35 2560 = true then (vlet (τ.2 8 (i35).toNatClampNeg) (fun i37 => (if i37 = 0 then f_M_learn_193 N (k112) (f_M_learn_121 N (k112) n121) τ x1 x2 x3 x4 (x2 + x4) else f_M_learn_189 N (k112) (f_M_learn_121 N (k112) n121) τ x1 x2 x3 x4 (x2 + x4)))) else none)))))) else none) else f_M_learn_189 N (k112) (f_M_learn_121 N (k112) n121) τ x1 x2 x3 x4 (x2 + x4)))) else none))
def f_M_learn_112 (N : Nat) : Nat → vS → Int32 → Int32 → Int32 → Option (Int32 × vS)
  | 0 => fun _ _ _ _ => none
  | n112 + 1 => fun τ x1 x2 x3 => (if (16 : Int32) ≤ x3 then f_M_learn_212 N N τ x1 x2 0 0 else f_M_learn_121 N (f_M_learn_112 N n112) N τ x1 x2 x3 0)
def f_M_learn_97 (N : Nat) (k8 : vS → Int32 → Int32 → Int32 → Option (Int32 × vS)) (k21 : vS → Int32 → Int32 → Int32 → Int32 → Option (Int32 × vS)) (τ : vS) (x1 : Int32) (x2 : Int32) (x3 : Int32) (x4 : Int32) (y0 : Int32) (y1 : Int32) : Option (Int32 × vS) :=
  (if bIn y1 2560 = true then (vlet (sa τ 8 (y1).toNatClampNeg (vp_nar .boolean y0)) (fun σ45 => k21 σ45 x1 x2 x3 (x4 + 1))) else none)
def f_M_learn_92 (N : Nat) (k8 : vS → Int32 → Int32 → Int32 → Option (Int32 × vS)) (k21 : vS → Int32 → Int32 → Int32 → Int32 → Option (Int32 × vS)) (τ : vS) (x1 : Int32) (x2 : Int32) (x3 : Int32) (x4 : Int32) (y0 : Int32) : Option (Int32 × vS) :=
  f_M_learn_97 N (k8) (k21) τ x1 x2 x3 x4 1 y0
def f_M_learn_21 (N : Nat) (k8 : vS → Int32 → Int32 → Int32 → Option (Int32 × vS)) : Nat → vS → Int32 → Int32 → Int32 → Int32 → Option (Int32 × vS)
  | 0 => fun _ _ _ _ _ => none
  | n21 + 1 => fun τ x1 x2 x3 x4 => (if (16 : Int32) ≤ x4 then k8 τ x1 x2 (x3 + 1) else (vlet ((16 : Int32) * (((4 : Int32) * x3) + (x4 / 4))) (fun i40 => (vlet ((x2 + i40) + ((4 : Int32) * x3)) (fun i41 => (if bIn (i41 + (x4 - x4 / 4 * 4)) 2560 = true then (vlet (τ.2 8 ((i41 + (x4 - x4 / 4 * 4))).toNatClampNeg) (fun i43 => (if i43 = 0 then (if bIn (((4 : Int32) * x1) + x3) 40 = true then (vlet (τ.2 3 ((((4 : Int32) * x1) + x3)).toNatClampNeg) (fun i48 => (if bIn (((16 : Int32) * i48) + x4) 96 = true then (vlet (τ.2 9 ((((16 : Int32) * i48) + x4)).toNatClampNeg) (fun i50 => (if i50 = 0 then f_M_learn_97 N (k8) (f_M_learn_21 N (k8) n21) τ x1 x2 x3 x4 0 (i41 + (x4 - x4 / 4 * 4)) else f_M_learn_92 N (k8) (f_M_learn_21 N (k8) n21) τ x1 x2 x3 x4 (i41 + (x4 - x4 / 4 * 4))))) else none))) else none) else f_M_learn_92 N (k8) (f_M_learn_21 N (k8) n21) τ x1 x2 x3 x4 (i41 + (x4 - x4 / 4 * 4))))) else none))))))
def f_M_learn_8 (N : Nat) : Nat → vS → Int32 → Int32 → Int32 → Option (Int32 × vS)
  | 0 => fun _ _ _ _ => none
  | n8 + 1 => fun τ x1 x2 x3 => (if bIn x1 10 = true then (vlet (τ.2 2 (x1).toNatClampNeg) (fun i2 => (if i2 ≤ x3 then f_M_learn_112 N N τ x1 x2 0 else f_M_learn_21 N (f_M_learn_8 N n8) N τ x1 x2 x3 0))) else none)
def f_M_learn (N : Nat) (σ : vS) (a0 : Int32) : Option (Int32 × vS) :=
  f_M_learn_8 N N σ a0 ((256 : Int32) * a0) 0
def f_M_circles_49 (N : Nat) (k39 : vS → Int32 → Option (Int32 × vS)) : Nat → vS → Int32 → Int32 → Option (Int32 × vS)
  | 0 => fun _ _ _ => none
  | n49 + 1 => fun τ x2 x3 => (if (16 : Int32) ≤ x3 then k39 τ (x2 + 1) else (vlet (((256 : Int32) * x2) + ((17 : Int32) * x3)) (fun i4 => (if bIn i4 2560 = true then (vlet (τ.2 8 (i4).toNatClampNeg) (fun i6 => (if i6 = 0 then f_M_circles_49 N (k39) n49 τ x2 (x3 + 1) else ((f_M_blame N τ 2 x2 x3).bind (fun q8 => some (vp_nar .boolean (q8.1), q8.2)))))) else none))))
def f_M_circles_39 (N : Nat) : Nat → vS → Int32 → Option (Int32 × vS)
  | 0 => fun _ _ => none
  | n39 + 1 => fun τ x2 => (if (τ.1 2) ≤ x2 then some ((0 : Int32), τ) else f_M_circles_49 N (f_M_circles_39 N n39) N τ x2 0)
def f_M_circles_28 (N : Nat) (k2 : vS → Int32 → Option (Int32 × vS)) (k10 : vS → Int32 → Int32 → Option (Int32 × vS)) (τ : vS) (x1 : Int32) (x2 : Int32) : Option (Int32 × vS) :=
  k10 τ x1 (x2 + 1)
def f_M_circles_10 (N : Nat) (k2 : vS → Int32 → Option (Int32 × vS)) : Nat → vS → Int32 → Int32 → Option (Int32 × vS)
  | 0 => fun _ _ _ => none
  | n10 + 1 => fun τ x1 x2 => (if (τ.1 2) ≤ x2 then k2 τ x1 else ((f_M_learn N τ x2).bind (fun q11 => (if (q11.1) = 0 then f_M_circles_28 N (k2) (f_M_circles_10 N (k2) n10) q11.2 x1 x2 else f_M_circles_28 N (k2) (f_M_circles_10 N (k2) n10) q11.2 1 x2))))
def f_M_circles_2 (N : Nat) : Nat → vS → Int32 → Option (Int32 × vS)
  | 0 => fun _ _ => none
  | n2 + 1 => fun τ x1 => (if x1 = 0 then f_M_circles_39 N N τ 0 else f_M_circles_10 N (f_M_circles_2 N n2) N τ 0 0)
def f_M_circles (N : Nat) (σ : vS) : Option (Int32 × vS) :=
  f_M_circles_2 N N σ 1
def f_M_reach_36 (N : Nat) (k5 : vS → Int32 → Int32 → Int32 → Int32 → Option (Int32 × vS)) (τ : vS) (x1 : Int32) (x2 : Int32) (x4 : Int32) (y0 : Int32) (y1 : Int32) : Option (Int32 × vS) :=
  k5 τ x1 x2 (y1 + y0) (x4 + 1)
def f_M_reach_5 (N : Nat) : Nat → vS → Int32 → Int32 → Int32 → Int32 → Option (Int32 × vS)
  | 0 => fun _ _ _ _ _ => none
  | n5 + 1 => fun τ x1 x2 x3 x4 => (if (4 : Int32) ≤ x4 then some (x3, τ) else (vlet (((16 : Int32) * x1) + ((4 : Int32) * x2)) (fun i2 => (if bIn (i2 + x4) 96 = true then (vlet (τ.2 9 ((i2 + x4)).toNatClampNeg) (fun i4 => (if i4 = 0 then f_M_reach_36 N (f_M_reach_5 N n5) τ x1 x2 x4 0 x3 else f_M_reach_36 N (f_M_reach_5 N n5) τ x1 x2 x4 1 x3))) else none))))
def f_M_reach (N : Nat) (σ : vS) (a0 : Int32) (a1 : Int32) : Option (Int32 × vS) :=
  f_M_reach_5 N N σ a0 a1 0 0
def f_M_rankAll_199 (N : Nat) (k4 : vS → Int32 → Int32 → Int32 → Option (Int32 × vS)) (k12 : vS → Int32 → Int32 → Int32 → Int32 → Option (Int32 × vS)) (τ : vS) (x1 : Int32) (x2 : Int32) (x3 : Int32) (x4 : Int32) : Option (Int32 × vS) :=
  k12 τ x1 x2 x3 (x4 + 1)
def f_M_rankAll_198 (N : Nat) (k4 : vS → Int32 → Int32 → Int32 → Option (Int32 × vS)) (k12 : vS → Int32 → Int32 → Int32 → Int32 → Option (Int32 × vS)) (τ : vS) (x1 : Int32) (x3 : Int32) (x4 : Int32) (y0 : Int32) : Option (Int32 × vS) :=
  f_M_rankAll_199 N (k4) (k12) τ x1 y0 x3 x4
def f_M_rankAll_167 (N : Nat) (k4 : vS → Int32 → Int32 → Int32 → Option (Int32 × vS)) (k12 : vS → Int32 → Int32 → Int32 → Int32 → Option (Int32 × vS)) (τ : vS) (x1 : Int32) (x2 : Int32) (x3 : Int32) (x4 : Int32) (y0 : Int32) (y1 : Int32) : Option (Int32 × vS) :=
  (if bIn y1 24 = true then (vlet (sa τ 11 (y1).toNatClampNeg y0) (fun σ14 => (if bIn (((4 : Int32) * x1) + x4) 24 = true then (vlet (σ14.2 11 ((((4 : Int32) * x1) + x4)).toNatClampNeg) (fun i16 => (if i16 ≤ x2 then f_M_rankAll_198 N (k4) (k12) σ14 x1 x3 x4 x2 else (if bIn (((4 : Int32) * x1) + x4) 24 = true then (vlet (σ14.2 11 ((((4 : Int32) * x1) + x4)).toNatClampNeg) (fun i19 => f_M_rankAll_198 N (k4) (k12) σ14 x1 x3 x4 i19)) else none)))) else none))) else none)
def f_M_rankAll_153 (N : Nat) (k4 : vS → Int32 → Int32 → Int32 → Option (Int32 × vS)) (k12 : vS → Int32 → Int32 → Int32 → Int32 → Option (Int32 × vS)) (τ : vS) (x1 : Int32) (x2 : Int32) (x3 : Int32) (x4 : Int32) (x5 : Int32) (x6 : Int32) (y0 : Int32) (y1 : Int32) : Option (Int32 × vS) :=
  (if y0 = x6 then f_M_rankAll_167 N (k4) (k12) τ x1 x2 x3 x4 x5 y1 else f_M_rankAll_167 N (k4) (k12) τ x1 x2 x3 x4 (x5 + 1) y1)
def f_M_rankAll_128 (N : Nat) (k4 : vS → Int32 → Int32 → Int32 → Option (Int32 × vS)) (k12 : vS → Int32 → Int32 → Int32 → Int32 → Option (Int32 × vS)) (τ : vS) (x1 : Int32) (x2 : Int32) (x3 : Int32) (x4 : Int32) (x5 : Int32) (y0 : Int32) : Option (Int32 × vS) :=
  (if (x5 - x5 / 2 * 2) = 1 then f_M_rankAll_153 N (k4) (k12) τ x1 x2 x3 x4 x5 y0 1 (((4 : Int32) * x1) + x4) else f_M_rankAll_153 N (k4) (k12) τ x1 x2 x3 x4 x5 y0 0 (((4 : Int32) * x1) + x4))
def f_M_rankAll_101 (N : Nat) (k4 : vS → Int32 → Int32 → Int32 → Option (Int32 × vS)) (k12 : vS → Int32 → Int32 → Int32 → Int32 → Option (Int32 × vS)) (k43 : vS → Int32 → Int32 → Int32 → Int32 → Int32 → Int32 → Option (Int32 × vS)) (τ : vS) (x1 : Int32) (x2 : Int32) (x3 : Int32) (x4 : Int32) (x6 : Int32) (y0 : Int32) : Option (Int32 × vS) :=
  k43 τ x1 x2 x3 x4 y0 (x6 + 1)
def f_M_rankAll_99 (N : Nat) (k4 : vS → Int32 → Int32 → Int32 → Option (Int32 × vS)) (k12 : vS → Int32 → Int32 → Int32 → Int32 → Option (Int32 × vS)) (k43 : vS → Int32 → Int32 → Int32 → Int32 → Int32 → Int32 → Option (Int32 × vS)) (τ : vS) (x1 : Int32) (x2 : Int32) (x3 : Int32) (x4 : Int32) (x5 : Int32) (x6 : Int32) : Option (Int32 × vS) :=
  f_M_rankAll_101 N (k4) (k12) (k43) τ x1 x2 x3 x4 x6 x5
def f_M_rankAll_43 (N : Nat) (k4 : vS → Int32 → Int32 → Int32 → Option (Int32 × vS)) (k12 : vS → Int32 → Int32 → Int32 → Int32 → Option (Int32 × vS)) : Nat → vS → Int32 → Int32 → Int32 → Int32 → Int32 → Int32 → Option (Int32 × vS)
  | 0 => fun _ _ _ _ _ _ _ => none
  | n43 + 1 => fun τ x1 x2 x3 x4 x5 x6 => (if (4 : Int32) ≤ x6 then (if bIn (((4 : Int32) * x1) + x4) 24 = true then (vlet (τ.2 1 ((((4 : Int32) * x1) + x4)).toNatClampNeg) (fun i12 => (if i12 = 0 then f_M_rankAll_128 N (k4) (k12) τ x1 x2 x3 x4 x5 1 else f_M_rankAll_128 N (k4) (k12) τ x1 x2 x3 x4 x5 0))) else none) else (vlet (((16 : Int32) * x1) + ((4 : Int32) * x4)) (fun i23 => (if bIn (i23 + x6) 96 = true then (vlet (τ.2 9 ((i23 + x6)).toNatClampNeg) (fun i25 => (if i25 = 0 then f_M_rankAll_99 N (k4) (k12) (f_M_rankAll_43 N (k4) (k12) n43) τ x1 x2 x3 x4 x5 x6 else (if bIn (((4 : Int32) * x1) + x6) 24 = true then (vlet (τ.2 11 ((((4 : Int32) * x1) + x6)).toNatClampNeg) (fun i28 => (if i28 ≤ x5 then f_M_rankAll_99 N (k4) (k12) (f_M_rankAll_43 N (k4) (k12) n43) τ x1 x2 x3 x4 x5 x6 else (if bIn (((4 : Int32) * x1) + x6) 24 = true then (vlet (τ.2 11 ((((4 : Int32) * x1) + x6)).toNatClampNeg) (fun i31 => f_M_rankAll_101 N (k4) (k12) (f_M_rankAll_43 N (k4) (k12) n43) τ x1 x2 x3 x4 x6 i31)) else none)))) else none)))) else none))))
def f_M_rankAll_12 (N : Nat) (k4 : vS → Int32 → Int32 → Int32 → Option (Int32 × vS)) : Nat → vS → Int32 → Int32 → Int32 → Int32 → Option (Int32 × vS)
  | 0 => fun _ _ _ _ _ => none
  | n12 + 1 => fun τ x1 x2 x3 x4 => (if bIn x1 6 = true then (vlet (τ.2 0 (x1).toNatClampNeg) (fun i5 => (if i5 ≤ x4 then k4 τ x1 x2 (x3 + 1) else ((f_M_reach N τ x1 x4).bind (fun q7 => (if (q7.1) = x3 then f_M_rankAll_43 N (k4) (f_M_rankAll_12 N (k4) n12) N q7.2 x1 x2 x3 x4 1 0 else f_M_rankAll_199 N (k4) (f_M_rankAll_12 N (k4) n12) q7.2 x1 x2 x3 x4)))))) else none)
def f_M_rankAll_4 (N : Nat) : Nat → vS → Int32 → Int32 → Int32 → Option (Int32 × vS)
  | 0 => fun _ _ _ _ => none
  | n4 + 1 => fun τ x1 x2 x3 => (if (4 : Int32) ≤ x3 then (if bIn x1 6 = true then (vlet (sa τ 12 (x1).toNatClampNeg ((x2 + 1) / 2)) (fun σ3 => some ((0 : Int32), σ3))) else none) else f_M_rankAll_12 N (f_M_rankAll_4 N n4) N τ x1 x2 x3 0)
def f_M_rankAll (N : Nat) (σ : vS) (a0 : Int32) : Option (Int32 × vS) :=
  f_M_rankAll_4 N N σ a0 1 0
def f_M_isDemanded_113 (N : Nat) (τ : vS) : Option (Int32 × vS) :=
  some ((1 : Int32), τ)
def f_M_isDemanded (N : Nat) (σ : vS) (a0 : Int32) (a1 : Int32) (a2 : Int32) : Option (Int32 × vS) :=
  (vlet (((256 : Int32) * a0) + ((16 : Int32) * a1)) (fun i1 => (if bIn (i1 + a2) 2560 = true then (vlet (σ.2 7 ((i1 + a2)).toNatClampNeg) (fun i3 => (if i3 = 0 then (if (a1 / 4) = (a2 / 4) then ((f_M_isOccurrence N σ a0 a1).bind (fun q6 => (if (q6.1) = 0 then some ((0 : Int32), q6.2) else ((f_M_isOccurrence N q6.2 a0 a2).bind (fun q9 => (if (q9.1) = 0 then some ((0 : Int32), q9.2) else (if bIn (((4 : Int32) * a0) + (a1 / 4)) 40 = true then (vlet (q9.2.2 3 ((((4 : Int32) * a0) + (a1 / 4))).toNatClampNeg) (fun i13 => (vlet ((4 : Int32) * (a1 - a1 / 4 * 4)) (fun i14 => (vlet ((((16 : Int32) * i13) + i14) + (a2 - a2 / 4 * 4)) (fun i15 => (if bIn i15 96 = true then (vlet (q9.2.2 9 (i15).toNatClampNeg) (fun i17 => (if i17 = 0 then ((f_M_attributeOf N q9.2 a0 a1).bind (fun q19 => (if bIn (q19.1) 24 = true then (vlet (q19.2.2 11 ((q19.1)).toNatClampNeg) (fun i22 => ((f_M_attributeOf N q19.2 a0 a2).bind (fun q23 => (if bIn (q23.1) 24 = true then (vlet (q23.2.2 11 ((q23.1)).toNatClampNeg) (fun i26 => (if i22 ≤ i26 then some ((0 : Int32), q23.2) else f_M_isDemanded_113 N q23.2))) else none))))) else none))) else f_M_isDemanded_113 N q9.2))) else none))))))) else none))))))) else some ((0 : Int32), σ)) else some ((1 : Int32), σ)))) else none)))
def f_M_mixes_129 (N : Nat) (k2 : vS → Int32 → Option (Int32 × vS)) : Nat → vS → Int32 → Int32 → Option (Int32 × vS)
  | 0 => fun _ _ _ => none
  | n129 + 1 => fun τ x1 x2 => (if (16 : Int32) ≤ x2 then k2 τ (x1 + 1) else (if bIn ((17 : Int32) * x2) 256 = true then (vlet (τ.2 10 (((17 : Int32) * x2)).toNatClampNeg) (fun i6 => (if i6 = 0 then f_M_mixes_129 N (k2) n129 τ x1 (x2 + 1) else ((f_M_blame N τ 3 x1 x2).bind (fun q8 => some (vp_nar .boolean (q8.1), q8.2)))))) else none))
def f_M_mixes_114 (N : Nat) (k2 : vS → Int32 → Option (Int32 × vS)) (k46 : vS → Int32 → Int32 → Option (Int32 × vS)) (k54 : vS → Int32 → Int32 → Int32 → Option (Int32 × vS)) (τ : vS) (x1 : Int32) (x2 : Int32) (x3 : Int32) (y0 : Int32) (y1 : Int32) : Option (Int32 × vS) :=
  (if bIn y1 256 = true then (vlet (sa τ 10 (y1).toNatClampNeg (vp_nar .boolean y0)) (fun σ14 => k54 σ14 x1 x2 (x3 + 1))) else none)
def f_M_mixes_113 (N : Nat) (k2 : vS → Int32 → Option (Int32 × vS)) (k46 : vS → Int32 → Int32 → Option (Int32 × vS)) (k54 : vS → Int32 → Int32 → Int32 → Option (Int32 × vS)) (τ : vS) (x1 : Int32) (x2 : Int32) (x3 : Int32) (y0 : Int32) : Option (Int32 × vS) :=
  f_M_mixes_114 N (k2) (k46) (k54) τ x1 x2 x3 0 y0
def f_M_mixes_109 (N : Nat) (k2 : vS → Int32 → Option (Int32 × vS)) (k46 : vS → Int32 → Int32 → Option (Int32 × vS)) (k54 : vS → Int32 → Int32 → Int32 → Option (Int32 × vS)) (τ : vS) (x1 : Int32) (x2 : Int32) (x3 : Int32) (y0 : Int32) : Option (Int32 × vS) :=
  f_M_mixes_114 N (k2) (k46) (k54) τ x1 x2 x3 1 y0
def f_M_mixes_54 (N : Nat) (k2 : vS → Int32 → Option (Int32 × vS)) (k46 : vS → Int32 → Int32 → Option (Int32 × vS)) : Nat → vS → Int32 → Int32 → Int32 → Option (Int32 × vS)
  | 0 => fun _ _ _ _ => none
  | n54 + 1 => fun τ x1 x2 x3 => (if (256 : Int32) ≤ x3 then k46 τ x1 (x2 + 1) else (if bIn x3 256 = true then (vlet (τ.2 10 (x3).toNatClampNeg) (fun i12 => (if i12 = 0 then (if bIn (((x3 / 16) * 16) + x2) 256 = true then (vlet (τ.2 10 ((((x3 / 16) * 16) + x2)).toNatClampNeg) (fun i17 => (if i17 = 0 then f_M_mixes_113 N (k2) (k46) (f_M_mixes_54 N (k2) (k46) n54) τ x1 x2 x3 x3 else (vlet (((16 : Int32) * x2) + (x3 - x3 / 16 * 16)) (fun i19 => (if bIn i19 256 = true then (vlet (τ.2 10 (i19).toNatClampNeg) (fun i21 => (if i21 = 0 then f_M_mixes_113 N (k2) (k46) (f_M_mixes_54 N (k2) (k46) n54) τ x1 x2 x3 x3 else f_M_mixes_109 N (k2) (k46) (f_M_mixes_54 N (k2) (k46) n54) τ x1 x2 x3 x3))) else none)))))) else none) else f_M_mixes_109 N (k2) (k46) (f_M_mixes_54 N (k2) (k46) n54) τ x1 x2 x3 x3))) else none))
def f_M_mixes_46 (N : Nat) (k2 : vS → Int32 → Option (Int32 × vS)) : Nat → vS → Int32 → Int32 → Option (Int32 × vS)
  | 0 => fun _ _ _ => none
  | n46 + 1 => fun τ x1 x2 => (if (16 : Int32) ≤ x2 then f_M_mixes_129 N (k2) N τ x1 0 else f_M_mixes_54 N (k2) (f_M_mixes_46 N (k2) n46) N τ x1 x2 0)
def f_M_mixes_12 (N : Nat) (k2 : vS → Int32 → Option (Int32 × vS)) : Nat → vS → Int32 → Int32 → Option (Int32 × vS)
  | 0 => fun _ _ _ => none
  | n12 + 1 => fun τ x1 x2 => (if (256 : Int32) ≤ x2 then f_M_mixes_46 N (k2) N τ x1 0 else ((f_M_isDemanded N τ x1 (x2 / 16) (x2 - x2 / 16 * 16)).bind (fun q23 => (if bIn x2 256 = true then (vlet (sa q23.2 10 (x2).toNatClampNeg (vp_nar .boolean (q23.1))) (fun σ26 => f_M_mixes_12 N (k2) n12 σ26 x1 (x2 + 1))) else none))))
def f_M_mixes_2 (N : Nat) : Nat → vS → Int32 → Option (Int32 × vS)
  | 0 => fun _ _ => none
  | n2 + 1 => fun τ x1 => (if (τ.1 2) ≤ x1 then some ((0 : Int32), τ) else f_M_mixes_12 N (f_M_mixes_2 N n2) N τ x1 0)
def f_M_mixes (N : Nat) (σ : vS) : Option (Int32 × vS) :=
  f_M_mixes_2 N N σ 0
