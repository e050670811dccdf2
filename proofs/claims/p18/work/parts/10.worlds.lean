/-! Pure states: numbers and arrays; the worlds of the class and of the reference. Written by wip/tools/dec.py. -/
abbrev vS : Type := (Nat → Int32) × (Nat → Nat → Int32)
def sf (σ : vS) (k : Nat) (x : Int32) : vS := (upd σ.1 k x, σ.2)
def sa (σ : vS) (a i : Nat) (x : Int32) : vS := (σ.1, fun b => if b = a then upd (σ.2 a) i x else σ.2 b)
def sfill (σ : vS) (a : Nat) (x : Int32) : vS := (σ.1, fun b => if b = a then (fun _ => x) else σ.2 b)
def bIn (i : Int32) (n : Nat) : Bool := decide (0 ≤ i.toInt ∧ i.toInt < n)
theorem bIn_in {i : Int32} {n : Nat} (h : bIn i n = true) : vp_in i n := vp_in_iff.mpr (of_decide_eq_true h)
theorem bIn_nn {i : Int32} {n : Nat} (h : bIn i n = true) : ¬ i < 0 := by
  have h1 := of_decide_eq_true h
  rw [Int32.lt_iff_toInt_lt, Int32.toInt_zero]
  omega
theorem bIn_le {i : Int32} {n m k : Nat} (h : bIn i n = true) (hk : n + k ≤ m + 1) : i.toNatClampNeg + k ≤ m := by
  have h1 := of_decide_eq_true h
  show i.toInt.toNat + k ≤ m
  omega
theorem vq_bd {α : Type} {b : Bool} {k : Option α} {v : α} (h : (if b = true then k else none) = some v) : b = true ∧ k = some v := by
  cases b with
  | true => exact ⟨rfl, by rwa [if_pos rfl] at h⟩
  | false => simp at h
def vlet {α β : Type} (x : α) (k : α → β) : β := k x
theorem vq_let {α β : Type} {x : α} {k : α → Option β} {v : β} (h : vlet x k = some v) : ∃ y, y = x ∧ k y = some v := ⟨x, rfl, h⟩
theorem vq_bi {α β : Type} {o : Option α} {k : α → Option β} {v : β} (h : o.bind k = some v) : ∃ q, o = some q ∧ k q = some v := Option.bind_eq_some_iff.mp h
theorem vq_freeAll {A : Nat → Prop} {ws : va_W} {H0 H : Heap} {locs : List Loc} (hD : va_D A ws) (hS : va_S A H0 H locs) (hA : ∀ q, H0.size ≤ q → A q) : ∀ q, va_A ws H.size q → A q := by
  intro q h
  rcases h with ⟨k, e, hk⟩ | h
  · exact hD.2 k _ hk
  · exact hA q (Nat.le_trans hS.1 h)
theorem vq_keepP {D : va_G} {cl : List vw_C} {ws : va_W} {H H1 : Heap} (hP : va_P D cl ws H) (hk : ∀ q : Nat, q < H.size → ¬ va_A [] H.size q → H1[q]? = H[q]?) : va_P D cl ws H1 :=
  hP.kept (fun k x hx => by
    have hl := (hP k x hx).lt
    exact hk x.1 hl (fun h => by
      rcases h with ⟨k2, e2, h2⟩ | h2
      · simp at h2
      · exact absurd hl (Nat.not_lt.mpr h2)))
theorem vq_cSN {R : Room} {s : State} {args : Array Value} {own host : String} {index maxL mc ms : Nat} {y : MethodName} {bytes : ByteArray} {ret : Option FieldType} {Ts : List Cond} {rm : Room} (hk : Ts.all vq_k = true) (hts : ∀ w ∈ Ts, w.before args s = true) (n : Nat) (hrc : rm.cells = mc) (hrs : rm.slots = ms) (hR : rm.frames + 1 ≤ R.frames ∧ 8 + (maxL + 11) + rm.locals ≤ R.locals) (hcode : Cond.code y bytes maxL ret ∈ Ts) (hini : Cond.initialized y.cls ∈ Ts) (hl : Cond.methodLinkNest own index y host ∈ Ts)
    (hin : Cond.static y ∈ Ts) (hd : y.cls ≠ "java/lang/invoke/MethodHandle" ∧ y.cls ≠ "java/lang/invoke/VarHandle" ∧ (parseMethodDescriptor y.desc).map (fun d => d.parameters.length) = some n) : va_CN R s args own index y host bytes maxL ret Ts rm mc ms n ∧ (Cond.static y).before args s = true ∧ True := by
  refine ⟨⟨⟨hrc, hrs, hR.1, hR.2, vq_all hk hts, hcode⟩, hts _ hcode, hts _ hini, ⟨hd.1, hd.2.1⟩, fun sig h => ?_, hts _ hl⟩, hts _ hin, trivial⟩
  have h2 := hd.2.2
  rw [h] at h2
  exact (Option.some.inj h2).symm
theorem vq_zret {p : Program} {l : Launch} {e : Env} {R : Room} {s : State} {m : MethodId} {args : Array Value} {below : List Frame} {meth : Method} {c : Code} {H : Heap} {locs : List Loc} {cells slots : Nat} {cc : ByteArray} {Qc : Array Value → State → Outcome → State → Prop} {free : Addr → Prop} {v : Int32} (hexec : p.tables.exec = Jvm.exec) (hb : c.code = cc) (hr : meth.sig.returnType = some .boolean)
    (hq : ∀ t : State, t.heap = H → s.WarmedH t.vm → Qc args s (.returned (some (.int (vp_nar .boolean v)))) t) (hf : ∀ q ∈ locs, free q.base)
    {pc : Nat} {ls : Array Slot} (hdg : decode cc pc = .ok (.ireturn, 1)) (hlocks : meth.locks = false := by first | with_reducible assumption | exact BodyLoose.notSynchronized (by with_reducible assumption) | assumption) : W p l e R s m args below meth c H locs cells slots (MQ below Qc args s cells slots free) (F0 m pc ls [.int v]) := by
  intro T hT X
  have hlocks : meth.locks = false := hlocks
  have hn : narrow .boolean (.int v) = .int (vp_nar .boolean v) := by simp [vp_nar, narrow]
  obtain ⟨fs, hret, hrun, hended, hW, hframe⟩ := X.leave (v := some (.int (vp_nar .boolean v))) (fun h => by rw [hr] at h; cases h)
  have hmeth' : T.vm.method? m = some meth := X.method'
  refine ⟨T.setFrames fs, ?_, .returned (some (.int (vp_nar .boolean v))), hrun, hended, hq _ hT hW, locs, ⟨⟨_, rfl⟩, hW, hframe⟩, hf⟩
  jvm_step X.here [X.here.top, hexec, hb, hdg, hmeth', hr, hn]
  (try refine ⟨rfl, ?_⟩); (try refine ⟨rfl, ?_⟩)
  first | (intro acts; rw [hret _ acts rfl rfl rfl]) | rw [hret _ _ rfl rfl rfl]
  exact Steps.refl _
theorem vq_out3 {x : Int32} (h0 : ¬ x = 0) (h1 : ¬ x = 1) (h2 : ¬ x = 2) : x.toInt < 0 ∨ 2 < x.toInt := vq_f4 h0 h1 h2
theorem vq_out7 {x : Int32} (h0 : ¬ x = 0) (h1 : ¬ x = 1) (h2 : ¬ x = 2) (h3 : ¬ x = 3) (h4 : ¬ x = 4) (h5 : ¬ x = 5) (h6 : ¬ x = 6) : x.toInt < 0 ∨ 6 < x.toInt := by
  have k : ∀ y : Int32, x.toInt = y.toInt → x = y := fun y h => Int32.toInt_inj.mp h
  by_cases h : x.toInt < 0
  · exact Or.inl h
  refine Or.inr ?_
  by_cases g0 : x.toInt = 0
  · exact absurd (k 0 (g0.trans (by decide))) h0
  by_cases g1 : x.toInt = 1
  · exact absurd (k 1 (g1.trans (by decide))) h1
  by_cases g2 : x.toInt = 2
  · exact absurd (k 2 (g2.trans (by decide))) h2
  by_cases g3 : x.toInt = 3
  · exact absurd (k 3 (g3.trans (by decide))) h3
  by_cases g4 : x.toInt = 4
  · exact absurd (k 4 (g4.trans (by decide))) h4
  by_cases g5 : x.toInt = 5
  · exact absurd (k 5 (g5.trans (by decide))) h5
  by_cases g6 : x.toInt = 6
  · exact absurd (k 6 (g6.trans (by decide))) h6
  omega
def scpy (σ : vS) (a b : Nat) (dp n : Nat) : vS := (σ.1, fun c => if c = b then va_cpy (σ.2 a) (σ.2 b) 0 dp n else σ.2 c)
theorem vq_cellx {cA : ClassId} {n : Nat} {g h : Nat → Int32} (e : ∀ j, j < n → g j = h j) : vp_cell cA (n, .inl g) = vp_cell cA (n, .inl h) := by
  have e2 : (fun j : Fin n => Value.int (g j.val)) = (fun j : Fin n => Value.int (h j.val)) := funext fun j => by rw [e j.val j.isLt]
  show ({ cls := cA, slots := Array.ofFn (fun j : Fin n => Value.int (g j.val)), vm := .none } : Cell) = { cls := cA, slots := Array.ofFn (fun j : Fin n => Value.int (h j.val)), vm := .none }
  rw [e2]
theorem vq_P1x {D : va_G} {cl : List vw_C} {a : Nat} {cA : ClassId} {n : Nat} {g h : Nat → Int32} {H : Heap} (e : ∀ j, j < n → g j = h j) (hP : va_P D cl [(a, .inl (cA, n, .inl g))] H) : va_P D cl [(a, .inl (cA, n, .inl h))] H := by
  intro k q hq
  match k, hq with
  | 0, hq =>
    cases hq
    have h1 : H[a]? = some (vp_cell cA (n, .inl g)) := hP 0 _ rfl
    show H[a]? = some (vp_cell cA (n, .inl h))
    rw [h1, vq_cellx e]
  | k + 1, hq => simp at hq
theorem vq_D1x {A : Nat → Prop} {a : Nat} {e e' : va_E} (hD : va_D A [(a, e)]) : va_D A [(a, e')] := by
  have h0 : A a := hD.2 0 _ rfl
  refine ⟨fun i j p q hi hj _ => ?_, fun k q hk => ?_⟩
  · have h1 := (List.getElem?_eq_some_iff.mp hi).1
    have h2 := (List.getElem?_eq_some_iff.mp hj).1
    simp at h1 h2
    omega
  · match k, hk with
    | 0, hk => cases hk; exact h0
    | k + 1, hk => simp at hk
theorem vq_keepA {q : Nat} {sz : Nat} {A : Nat → Prop} (h : va_A [] sz q) (hA : sz ≤ q → A q) : A q := by
  rcases h with ⟨k2, e2, h2⟩ | h2
  · simp at h2
  · exact hA h2
def Xw (ad : Nat → Nat) (ca : Nat → ClassId) (σ : vS) : va_W := [((ad 0), .inr (0, [.ref (ad 1), .ref (ad 2), .ref (ad 6), .ref (ad 7)])), ((ad 1), .inr (1, [.ref (ad 8), .ref (ad 9), .int (σ.1 0), .ref (ad 10), .ref (ad 11), .ref (ad 12), .ref (ad 13), .int (σ.1 1), .ref (ad 14), .ref (ad 15), .ref (ad 16), .ref (ad 17), .ref (ad 18)])), ((ad 2), .inr (2, [.ref (ad 1), .ref (ad 3), .ref (ad 4), .ref (ad 5), .int (σ.1 2), .int (σ.1 3), .int (σ.1 4), .int (σ.1 5)])), ((ad 3), .inr (3, [.ref (ad 1), .ref (ad 19), .ref (ad 20)])), ((ad 4), .inr (4, [.ref (ad 1), .ref (ad 3), .ref (ad 21), .ref (ad 22), .ref (ad 23)])), ((ad 5), .inr (5, [.ref (ad 1), .ref (ad 4), .ref (ad 24), .ref (ad 25), .ref (ad 26), .int (σ.1 6), .int (σ.1 7)])), ((ad 6), .inr (6, [.ref (ad 1), .ref (ad 27), .ref (ad 28), .ref (ad 29), .ref (ad 30), .int (σ.1 8)])), ((ad 7), .inr (7, [.ref (ad 1), .ref (ad 5), .ref (ad 6), .ref (ad 31), .ref (ad 32), .ref (ad 33), .ref (ad 34), .int (σ.1 9), .int (σ.1 10), .int (σ.1 11)])), ((ad 8), .inl (ca 8, 6, .inl (σ.2 0))), ((ad 9), .inl (ca 9, 6, .inl (σ.2 1))), ((ad 10), .inl (ca 10, 40, .inl (σ.2 2))), ((ad 11), .inl (ca 11, 10, .inl (σ.2 3))), ((ad 12), .inl (ca 12, 10, .inl (σ.2 4))), ((ad 13), .inl (ca 13, 10, .inl (σ.2 5))), ((ad 14), .inl (ca 14, 10, .inl (σ.2 6))), ((ad 15), .inl (ca 15, 160, .inl (σ.2 7))), ((ad 16), .inl (ca 16, 160, .inl (σ.2 8))), ((ad 17), .inl (ca 17, 160, .inl (σ.2 9))), ((ad 18), .inl (ca 18, 160, .inl (σ.2 10))), ((ad 19), .inl (ca 19, 160, .inl (σ.2 11))), ((ad 20), .inl (ca 20, 24, .inl (σ.2 12))), ((ad 21), .inl (ca 21, 24, .inl (σ.2 13))), ((ad 22), .inl (ca 22, 6, .inl (σ.2 14))), ((ad 23), .inl (ca 23, 24, .inl (σ.2 15))), ((ad 24), .inl (ca 24, 320, .inl (σ.2 16))), ((ad 25), .inl (ca 25, 10, .inl (σ.2 17))), ((ad 26), .inl (ca 26, 4, .inl (σ.2 18))), ((ad 27), .inl (ca 27, 40, .inl (σ.2 19))), ((ad 28), .inl (ca 28, 40, .inl (σ.2 20))), ((ad 29), .inl (ca 29, 40, .inl (σ.2 21))), ((ad 30), .inl (ca 30, 160, .inl (σ.2 22))), ((ad 31), .inl (ca 31, 4, .inl (σ.2 23))), ((ad 32), .inl (ca 32, 160, .inl (σ.2 24))), ((ad 33), .inl (ca 33, 40, .inl (σ.2 25))), ((ad 34), .inl (ca 34, 40, .inl (σ.2 26)))]
def Xt (ca : Nat → ClassId) : List (ClassId × FieldType) := [(ca 8, .int), (ca 9, .int), (ca 10, .int), (ca 11, .int), (ca 12, .int), (ca 13, .int), (ca 14, .int), (ca 15, .int), (ca 16, .int), (ca 17, .int), (ca 18, .int), (ca 19, .int), (ca 20, .int), (ca 21, .int), (ca 22, .int), (ca 23, .int), (ca 24, .int), (ca 25, .int), (ca 26, .int), (ca 27, .int), (ca 28, .int), (ca 29, .int), (ca 30, .int), (ca 31, .int), (ca 32, .int), (ca 33, .int), (ca 34, .int)]
def Mw (bd : Nat → Nat) (cb : Nat → ClassId) (σ : vS) : va_W := [((bd 0), .inr (8, [.int (σ.1 0), .int (σ.1 1), .ref (bd 1), .ref (bd 2), .int (σ.1 2), .ref (bd 3), .ref (bd 4), .ref (bd 5), .ref (bd 6), .ref (bd 7), .int (σ.1 3), .int (σ.1 4), .int (σ.1 5), .int (σ.1 6), .ref (bd 8), .ref (bd 9), .ref (bd 10), .ref (bd 11), .ref (bd 12), .ref (bd 13), .ref (bd 14), .ref (bd 15), .ref (bd 16), .ref (bd 17), .int (σ.1 7), .ref (bd 18), .ref (bd 19), .ref (bd 20), .ref (bd 21), .ref (bd 22), .ref (bd 23), .ref (bd 24), .ref (bd 25), .int (σ.1 8), .int (σ.1 9)])), ((bd 1), .inl (cb 1, 6, .inl (σ.2 0))), ((bd 2), .inl (cb 2, 24, .inl (σ.2 1))), ((bd 3), .inl (cb 3, 10, .inl (σ.2 2))), ((bd 4), .inl (cb 4, 40, .inl (σ.2 3))), ((bd 5), .inl (cb 5, 160, .inl (σ.2 4))), ((bd 6), .inl (cb 6, 160, .inl (σ.2 5))), ((bd 7), .inl (cb 7, 160, .inl (σ.2 6))), ((bd 8), .inl (cb 8, 2560, .inl (σ.2 7))), ((bd 9), .inl (cb 9, 2560, .inl (σ.2 8))), ((bd 10), .inl (cb 10, 96, .inl (σ.2 9))), ((bd 11), .inl (cb 11, 256, .inl (σ.2 10))), ((bd 12), .inl (cb 12, 24, .inl (σ.2 11))), ((bd 13), .inl (cb 13, 6, .inl (σ.2 12))), ((bd 14), .inl (cb 14, 10, .inl (σ.2 13))), ((bd 15), .inl (cb 15, 480, .inl (σ.2 14))), ((bd 16), .inl (cb 16, 16, .inl (σ.2 15))), ((bd 17), .inl (cb 17, 4, .inl (σ.2 16))), ((bd 18), .inl (cb 18, 40, .inl (σ.2 17))), ((bd 19), .inl (cb 19, 40, .inl (σ.2 18))), ((bd 20), .inl (cb 20, 120, .inl (σ.2 19))), ((bd 21), .inl (cb 21, 40, .inl (σ.2 20))), ((bd 22), .inl (cb 22, 40, .inl (σ.2 21))), ((bd 23), .inl (cb 23, 160, .inl (σ.2 22))), ((bd 24), .inl (cb 24, 160, .inl (σ.2 23))), ((bd 25), .inl (cb 25, 4, .inl (σ.2 24)))]
def Mt (cb : Nat → ClassId) : List (ClassId × FieldType) := [(cb 1, .int), (cb 2, .boolean), (cb 3, .int), (cb 4, .int), (cb 5, .int), (cb 6, .int), (cb 7, .int), (cb 8, .boolean), (cb 9, .boolean), (cb 10, .boolean), (cb 11, .boolean), (cb 12, .int), (cb 13, .int), (cb 14, .int), (cb 15, .int), (cb 16, .boolean), (cb 17, .int), (cb 18, .int), (cb 19, .int), (cb 20, .int), (cb 21, .int), (cb 22, .int), (cb 23, .boolean), (cb 24, .int), (cb 25, .int)]
