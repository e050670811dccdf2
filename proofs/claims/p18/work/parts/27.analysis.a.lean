def f_A_forgetFault (N : Nat) (σ : vS) : Option (Int32 × vS) :=
  (vlet (sf σ 3 0) (fun σ1 => (vlet (sf σ1 4 (-1)) (fun σ2 => (vlet (sf σ2 5 (-1)) (fun σ3 => some ((0 : Int32), σ3)))))))
def f_A_noteFault (N : Nat) (σ : vS) (a0 : Int32) (a1 : Int32) (a2 : Int32) : Option (Int32 × vS) :=
  (vlet (sf σ 3 a0) (fun σ1 => (vlet (sf σ1 4 a1) (fun σ2 => (vlet (sf σ2 5 a2) (fun σ3 => some ((0 : Int32), σ3)))))))
def f_A_isComplete_2 (N : Nat) : Nat → vS → Int32 → Option (Int32 × vS)
  | 0 => fun _ _ => none
  | n2 + 1 => fun τ x1 => (if (τ.1 1) ≤ x1 then some ((1 : Int32), τ) else ((f_G_leastWithoutRule N τ x1).bind (fun q2 => (if (q2.1) = (-1) then f_A_isComplete_2 N n2 q2.2 (x1 + 1) else ((f_A_noteFault N q2.2 1 x1 (q2.1)).bind (fun q5 => some ((0 : Int32), q5.2)))))))
def f_A_isComplete (N : Nat) (σ : vS) : Option (Int32 × vS) :=
  f_A_isComplete_2 N N σ 0
def f_A_noneLeadsToItself_2 (N : Nat) : Nat → vS → Int32 → Int32 → Option (Int32 × vS)
  | 0 => fun _ _ _ => none
  | n2 + 1 => fun τ x1 x2 => (if (τ.1 1) ≤ x2 then some ((1 : Int32), τ) else ((f_E_leastLeadingToItself N τ x2).bind (fun q2 => (if (q2.1) = (-1) then f_A_noneLeadsToItself_2 N n2 q2.2 x1 (x2 + 1) else ((f_A_noteFault N q2.2 x1 x2 (q2.1)).bind (fun q5 => some ((0 : Int32), q5.2)))))))
def f_A_noneLeadsToItself (N : Nat) (σ : vS) (a0 : Int32) : Option (Int32 × vS) :=
  f_A_noneLeadsToItself_2 N N σ a0 0
def f_A_isWithoutCircle (N : Nat) (σ : vS) : Option (Int32 × vS) :=
  ((f_E_spread N σ).bind (fun q1 => ((f_A_noneLeadsToItself N q1.2 2).bind (fun q3 => some (vp_nar .boolean (q3.1), q3.2)))))
def f_A_isOrdered (N : Nat) (σ : vS) : Option (Int32 × vS) :=
  ((f_K_make N σ).bind (fun q1 => ((f_K_addToLeads N q1.2).bind (fun q3 => ((f_E_takeOrder N q3.2).bind (fun q5 => ((f_A_noneLeadsToItself N q5.2 3).bind (fun q7 => some (vp_nar .boolean (q7.1), q7.2)))))))))
def f_A_make_40 (N : Nat) (τ : vS) : Option (Int32 × vS) :=
  (vlet (sf τ 2 0) (fun σ3 => (if (σ3.1 2) = 0 then some ((0 : Int32), σ3) else ((f_Q_write N σ3).bind (fun q5 => some ((0 : Int32), q5.2))))))
def f_A_make (N : Nat) (σ : vS) : Option (Int32 × vS) :=
  ((f_A_forgetFault N σ).bind (fun q1 => (if (q1.2.1 1) ≤ 0 then f_A_make_40 N q1.2 else ((f_A_isComplete N q1.2).bind (fun q8 => (if (q8.1) = 0 then f_A_make_40 N q8.2 else ((f_A_isWithoutCircle N q8.2).bind (fun q11 => (if (q11.1) = 0 then f_A_make_40 N q11.2 else ((f_A_isOrdered N q11.2).bind (fun q14 => (if (q14.1) = 0 then f_A_make_40 N q14.2 else (vlet (sf q14.2 2 1) (fun σ17 => (if (σ17.1 2) = 0 then some ((0 : Int32), σ17) else ((f_Q_write N σ17).bind (fun q19 => some ((0 : Int32), q19.2))))))))))))))))))
