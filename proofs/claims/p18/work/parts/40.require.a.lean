def f_V_dropAnalysis (N : Nat) (σ : vS) : Option (Int32 × vS) :=
  (vlet (sf σ 2 0) (fun σ1 => ((f_U_end N σ1).bind (fun q2 => some ((0 : Int32), q2.2)))))
def f_V_requireAnalysis (N : Nat) (σ : vS) : Option ((Nat × Int32) × vS) :=
  (if (σ.1 2) = 0 then some ((2, 0), σ) else some ((0, (0 : Int32)), σ))
def f_V_requireAttribute_30 (N : Nat) (τ : vS) : Option ((Nat × Int32) × vS) :=
  some ((3, 0), τ)
def f_V_requireAttribute (N : Nat) (σ : vS) (a0 : Int32) (a1 : Int32) : Option ((Nat × Int32) × vS) :=
  ((f_Z_hasNode N σ a0).bind (fun q1 => (if (q1.1) = 0 then f_V_requireAttribute_30 N q1.2 else ((f_Z_symbolOf N q1.2 a0).bind (fun q4 => ((f_G_hasAttribute N q4.2 (q4.1) a1).bind (fun q6 => (if (q6.1) = 0 then f_V_requireAttribute_30 N q6.2 else some ((0, (0 : Int32)), q6.2)))))))))
