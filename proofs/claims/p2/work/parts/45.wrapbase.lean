/-! What the law's wrappers ask beside. -/
def vq_ncl : List (String × String) := [("java/lang/IllegalArgumentException", "java/lang/IllegalStateException"), ("java/lang/IllegalArgumentException", "java/lang/IndexOutOfBoundsException"), ("java/lang/IllegalArgumentException", "java/lang/UnsupportedOperationException"), ("java/lang/IllegalStateException", "java/lang/IllegalArgumentException"), ("java/lang/IllegalStateException", "java/lang/IndexOutOfBoundsException"), ("java/lang/IllegalStateException", "java/lang/UnsupportedOperationException"), ("java/lang/IndexOutOfBoundsException", "java/lang/IllegalArgumentException"), ("java/lang/IndexOutOfBoundsException", "java/lang/IllegalStateException"), ("java/lang/IndexOutOfBoundsException", "java/lang/UnsupportedOperationException"), ("java/lang/UnsupportedOperationException", "java/lang/IllegalArgumentException"), ("java/lang/UnsupportedOperationException", "java/lang/IllegalStateException"), ("java/lang/UnsupportedOperationException", "java/lang/IndexOutOfBoundsException")]
def vq_nc (U : State) : Prop := ∀ pr ∈ vq_ncl, va_Nc pr.1 pr.2 U
theorem vq_nc.moved {u U : State} (hvm : u.vm.Alike U.vm) (h : vq_nc u) : vq_nc U := fun pr hp => (h pr hp).moved hvm
abbrev vq_PreN (D : va_G) (cl : List vw_C) (sz : Nat) (ws : va_W) (tys : List (ClassId × FieldType)) (U : State) : Prop := vq_nc U ∧ vq_Pre D cl sz ws tys U
theorem vq_blindN {D : va_G} {cl : List vw_C} {sz : Nat} {ws : va_W} {tys : List (ClassId × FieldType)} {av : List Value} : FrameBlind (va_Pc av (vq_PreN D cl sz ws tys)) := by
  intro a U g mk q
  obtain ⟨q0, qn, q1⟩ := q
  have h1 := vq_blind (av := av) a U g mk ⟨q0, q1⟩
  exact ⟨h1.1, vq_nc.moved (u := U) (U := U.calling g mk a) (Vm.Alike.refl U.vm) qn, h1.2⟩
theorem vq_hereN {D : va_G} {cl : List vw_C} {ws : va_W} {tys : List (ClassId × FieldType)} {av : List Value} {s : State} {H : Heap} {A : Nat → Prop} {locs : List Loc} (hnc : vq_nc s) (hst : vq_st s) (hS : va_S A s.heap H locs) (hN : ∀ q : Nat, A q → ∀ cell : Cell, s.heap[q]? = some cell → cell.vm.isStatics = false)
    (hP : va_P D cl ws H) (hK : va_K D cl tys s) (hD : va_D A ws) : ∀ U : State, U.heap = H → s.WarmedH U.vm → va_Pc av (vq_PreN D cl H.size ws tys) av.toArray U := by
  intro U hU hW
  have h1 := vq_here (av := av) hst hS hN hP hK hD U hU hW
  exact ⟨h1.1, hnc.moved hW.alike, h1.2⟩
