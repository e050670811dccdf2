def f_V_holds (N : Nat) (a0 : Int32) (a1 : Int32) : Option (Int32) :=
  (if ((a0 >>> (a1 &&& 31)) &&& 1) = 0 then some ((0 : Int32)) else some ((1 : Int32)))
def f_V_holdsAll (N : Nat) (a0 : Int32) (a1 : Int32) : Option (Int32) :=
  (if (a1 &&& (a0 ^^^ (-1))) = 0 then some ((1 : Int32)) else some ((0 : Int32)))
def f_G_usesFirst (N : Nat) (a0 : Int32) : Option (Int32) :=
  (if a0 < 2 then some ((0 : Int32)) else some ((1 : Int32)))
def f_G_usesSecond (N : Nat) (a0 : Int32) : Option (Int32) :=
  (if a0 < 3 then some ((0 : Int32)) else (if (6 : Int32) < a0 then some ((0 : Int32)) else some ((1 : Int32))))
def f_E_othersAt (N : Nat) (a0 : Int32) (a1 : Int32) (a2 : Int32) : Option (Int32) :=
  (vlet (((1 : Int32) <<< (a1 &&& 31)) ^^^ (-1)) (fun i1 => (vlet (((a2 >>> (a0 &&& 31)) &&& 15) &&& i1) (fun i2 => some (i2)))))
def f_M_needs_20 (N : Nat) : Option (Int32) :=
  some ((1 : Int32))
def f_M_needs (N : Nat) (a0 : Int32) : Option (Int32) :=
  (if (2 : Int32) ≤ a0 then (if a0 = 2 then f_M_needs_20 N else (if a0 = 7 then f_M_needs_20 N else some ((2 : Int32)))) else some ((0 : Int32)))
def f_I_bitCount (N : Nat) (a0 : Int32) : Option (Int32) :=
  (vlet ((a0.toUInt32 >>> ((1 : Int32).toUInt32 &&& Int32.toUInt32 31)).toInt32) (fun i1 => (vlet ((a0 - (i1 &&& 1431655765)) &&& 858993459) (fun i2 => (vlet (((a0 - (i1 &&& 1431655765)).toUInt32 >>> ((2 : Int32).toUInt32 &&& Int32.toUInt32 31)).toInt32) (fun i3 => (vlet (((i2 + (i3 &&& 858993459)).toUInt32 >>> ((4 : Int32).toUInt32 &&& Int32.toUInt32 31)).toInt32) (fun i4 => (vlet (((i2 + (i3 &&& 858993459)) + i4) &&& 252645135) (fun i5 => (vlet ((i5.toUInt32 >>> ((8 : Int32).toUInt32 &&& Int32.toUInt32 31)).toInt32) (fun i6 => (vlet (((i5 + i6).toUInt32 >>> ((16 : Int32).toUInt32 &&& Int32.toUInt32 31)).toInt32) (fun i7 => some ((((i5 + i6) + i7) &&& 63))))))))))))))))
def f_V_leastOf (N : Nat) (a0 : Int32) : Option (Int32) :=
  (if a0 = 0 then some (((-1) : Int32)) else ((f_I_bitCount N ((a0 &&& (-a0)) - 1)).bind (fun q2 => some (q2))))
