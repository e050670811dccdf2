def f_V_symbol_9 (N : Nat) (τ : vS) : Option ((Nat × Int32) × vS) :=
  some ((1, 0), τ)
def f_V_symbol (N : Nat) (σ : vS) (a0 : Int32) (a1 : Int32) : Option ((Nat × Int32) × vS) :=
  (if a0 < 0 then f_V_symbol_9 N σ else (if a0 ≤ 4 then (if (σ.1 0) = 6 then some ((2, 0), σ) else ((f_V_dropAnalysis N σ).bind (fun q4 => ((f_G_addSymbol N q4.2 a0 a1).bind (fun q6 => some ((0, (q6.1)), q6.2)))))) else f_V_symbol_9 N σ))
def f_V_production_25 (N : Nat) (τ : vS) : Option ((Nat × Int32) × vS) :=
  some ((1, 0), τ)
def f_V_production (N : Nat) (σ : vS) (a0 : Int32) (a1 : Int32) (a2 : Int32) (a3 : Int32) : Option ((Nat × Int32) × vS) :=
  ((f_G_hasSymbol N σ a0).bind (fun q1 => (if (q1.1) = 0 then f_V_production_25 N q1.2 else ((f_G_isRight N q1.2 a1 a2 a3).bind (fun q4 => (if (q4.1) = 0 then f_V_production_25 N q4.2 else (if (q4.2.1 1) = 10 then some ((2, 0), q4.2) else ((f_V_dropAnalysis N q4.2).bind (fun q8 => ((f_G_addProduction N q8.2 a0 a1 a2 a3).bind (fun q10 => some ((0, (q10.1)), q10.2))))))))))))
def f_V_rule (N : Nat) (σ : vS) (a0 : Int32) (a1 : Int32) (a2 : Int32) (a3 : Int32) (a4 : Int32) : Option ((Nat × Int32) × vS) :=
  ((f_G_hasProduction N σ a0).bind (fun q1 => (if (q1.1) = 0 then some ((3, 0), q1.2) else ((f_G_isToBeDefined N q1.2 a0 a1).bind (fun q4 => (if (q4.1) = 0 then some ((1, 0), q4.2) else ((f_G_isForm N q4.2 a0 a2 a3 a4).bind (fun q7 => (if (q7.1) = 0 then some ((1, 0), q7.2) else ((f_V_dropAnalysis N q7.2).bind (fun q10 => ((f_G_setRule N q10.2 a0 a1 a2 a3 a4).bind (fun q12 => some ((0, (0 : Int32)), q12.2))))))))))))))
def f_V_analyse_36 (N : Nat) (τ : vS) : Option ((Nat × Int32) × vS) :=
  some ((4, 0), τ)
def f_V_analyse (N : Nat) (σ : vS) : Option ((Nat × Int32) × vS) :=
  ((f_U_end N σ).bind (fun q1 => ((f_A_make N q1.2).bind (fun q3 => (if (q3.2.1 3) = 2 then f_V_analyse_36 N q3.2 else (if (q3.2.1 3) = 3 then f_V_analyse_36 N q3.2 else (if (q3.2.1 2) = 0 then some ((2, 0), q3.2) else ((f_Q_lengthOfAll N q3.2).bind (fun q8 => some ((0, (q8.1)), q8.2))))))))))
def f_V_fault (N : Nat) (σ : vS) (a0 : Int32) : Option (Int32 × vS) :=
  (if a0 = 0 then some ((σ.1 3), σ) else (if a0 = 1 then some ((σ.1 4), σ) else (if a0 = 2 then some ((σ.1 5), σ) else some (((-1) : Int32), σ))))
def f_V_visits (N : Nat) (σ : vS) (a0 : Int32) : Option ((Nat × Int32) × vS) :=
  ((f_V_requireAnalysis N σ).bind (fun q1 => (if q1.1.1 = 0 then ((f_G_hasSymbol N q1.2 a0).bind (fun q4 => (if (q4.1) = 0 then some ((3, 0), q4.2) else (if bIn a0 6 = true then (vlet (q4.2.2 14 (a0).toNatClampNeg) (fun i8 => some ((0, i8), q4.2))) else none)))) else some ((2, q1.1.2), q1.2))))
def f_V_rank_27 (N : Nat) (τ : vS) : Option ((Nat × Int32) × vS) :=
  some ((3, 0), τ)
def f_V_rank (N : Nat) (σ : vS) (a0 : Int32) (a1 : Int32) : Option ((Nat × Int32) × vS) :=
  ((f_V_requireAnalysis N σ).bind (fun q1 => (if q1.1.1 = 0 then ((f_G_hasSymbol N q1.2 a0).bind (fun q4 => (if (q4.1) = 0 then f_V_rank_27 N q4.2 else ((f_G_hasAttribute N q4.2 a0 a1).bind (fun q7 => (if (q7.1) = 0 then f_V_rank_27 N q7.2 else (if bIn ((a0 * 4) + a1) 24 = true then (vlet (q7.2.2 13 (((a0 * 4) + a1)).toNatClampNeg) (fun i11 => some ((0, i11), q7.2))) else none))))))) else some ((2, q1.1.2), q1.2))))
def f_V_instruction_19 (N : Nat) (τ : vS) : Option ((Nat × Int32) × vS) :=
  some ((3, 0), τ)
def f_V_instruction (N : Nat) (σ : vS) (a0 : Int32) (a1 : Int32) : Option ((Nat × Int32) × vS) :=
  ((f_V_requireAnalysis N σ).bind (fun q1 => (if q1.1.1 = 0 then ((f_G_hasProduction N q1.2 a0).bind (fun q4 => (if (q4.1) = 0 then f_V_instruction_19 N q4.2 else (if (0 : Int32) ≤ a1 then ((f_Q_at N q4.2 a0 a1).bind (fun q8 => some ((0, (q8.1)), q8.2))) else f_V_instruction_19 N q4.2)))) else some ((2, q1.1.2), q1.2))))
def f_V_node_27 (N : Nat) (τ : vS) : Option ((Nat × Int32) × vS) :=
  some ((1, 0), τ)
def f_V_node (N : Nat) (σ : vS) (a0 : Int32) (a1 : Int32) (a2 : Int32) (a3 : Int32) (a4 : Int32) : Option ((Nat × Int32) × vS) :=
  ((f_G_hasProduction N σ a0).bind (fun q1 => (if (q1.1) = 0 then f_V_node_27 N q1.2 else ((f_Z_canBeChildren N q1.2 a0 a2 a3 a4).bind (fun q4 => (if (q4.1) = 0 then f_V_node_27 N q4.2 else (if (q4.2.1 8) = 40 then some ((2, 0), q4.2) else ((f_Z_grow N q4.2 a0 a1 a2 a3 a4).bind (fun q8 => some ((0, (q8.1)), q8.2))))))))))
def f_V_fell (N : Nat) (σ : vS) : Option (Int32 × vS) :=
  ((f_U_end N σ).bind (fun q1 => ((f_Z_clear N q1.2).bind (fun q3 => some ((0 : Int32), q3.2)))))
def f_V_give_9 (N : Nat) (τ : vS) : Option ((Nat × Int32) × vS) :=
  some ((3, 0), τ)
def f_V_give (N : Nat) (σ : vS) (a0 : Int32) (a1 : Int32) : Option ((Nat × Int32) × vS) :=
  (if a0 < 0 then f_V_give_9 N σ else (if a0 < 4 then (if bIn a0 4 = true then (vlet (sa σ 23 (a0).toNatClampNeg a1) (fun σ4 => some ((0, (0 : Int32)), σ4))) else none) else f_V_give_9 N σ))
def f_V_start (N : Nat) (σ : vS) (a0 : Int32) : Option ((Nat × Int32) × vS) :=
  ((f_V_requireAnalysis N σ).bind (fun q1 => (if q1.1.1 = 0 then ((f_Z_hasNode N q1.2 a0).bind (fun q4 => (if (q4.1) = 0 then some ((3, 0), q4.2) else ((f_U_begin N q4.2 a0).bind (fun q7 => some ((0, (0 : Int32)), q7.2)))))) else some ((2, q1.1.2), q1.2))))
def f_V_run_11 (N : Nat) (τ : vS) : Option ((Nat × Int32) × vS) :=
  some ((1, 0), τ)
def f_V_run (N : Nat) (σ : vS) (a0 : Int32) : Option ((Nat × Int32) × vS) :=
  (if a0 < 0 then f_V_run_11 N σ else (if a0 ≤ 500 then (if (σ.1 9) = 0 then some ((2, 0), σ) else ((f_U_advance N σ a0).bind (fun q4 => some ((0, (q4.1)), q4.2)))) else f_V_run_11 N σ))
def f_V_status (N : Nat) (σ : vS) : Option (Int32 × vS) :=
  some ((σ.1 9), σ)
def f_V_atHand (N : Nat) (σ : vS) : Option (Int32 × vS) :=
  (if (σ.1 9) = 1 then some ((σ.1 11), σ) else some (((-1) : Int32), σ))
def f_V_knows (N : Nat) (σ : vS) (a0 : Int32) (a1 : Int32) : Option ((Nat × Int32) × vS) :=
  ((f_V_requireAttribute N σ a0 a1).bind (fun q1 => (if q1.1.1 = 0 then ((f_U_isKnown N q1.2 a0 a1).bind (fun q4 => some ((0, vp_nar .boolean (q4.1)), q4.2))) else some ((3, q1.1.2), q1.2))))
def f_V_value (N : Nat) (σ : vS) (a0 : Int32) (a1 : Int32) : Option ((Nat × Int32) × vS) :=
  ((f_V_requireAttribute N σ a0 a1).bind (fun q1 => (if q1.1.1 = 0 then ((f_U_isKnown N q1.2 a0 a1).bind (fun q4 => (if (q4.1) = 0 then some ((2, 0), q4.2) else (if bIn ((a0 * 4) + a1) 160 = true then (vlet (q4.2.2 24 (((a0 * 4) + a1)).toNatClampNeg) (fun i8 => some ((0, i8), q4.2))) else none)))) else some ((3, q1.1.2), q1.2))))
