def LW (ad : Nat → Nat) (ca : Nat → ClassId) (o : Nat) (co : ClassId) (bd : Nat → Nat) (cb : Nat → ClassId) (σx : vS) (fo : Nat → Int64) (σm : vS) : va_W := Xw ad ca σx ++ ((o, .inl (co, 1, .inr (.inl fo))) :: Mw bd cb σm)
def LT (ca : Nat → ClassId) (co : ClassId) (cb : Nat → ClassId) : List (ClassId × FieldType) := Xt ca ++ ((co, .long) :: Mt cb)
theorem vq_cmpS (x : Int64) : lg_cmp x x = 0 := by
  unfold lg_cmp
  simp
def Wr1 (ad : Nat → Nat) (ca : Nat → ClassId) (o : Nat) (co : ClassId) (σx : vS) (fo : Nat → Int64) : va_W := Xw ad ca σx ++ [(o, .inl (co, 1, .inr (.inl fo)))]
