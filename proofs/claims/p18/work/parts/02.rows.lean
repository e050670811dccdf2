/-! Rows of my own: words that stay, a call by a contract whatever comes of it, contracts that throw, the catch. -/
-- which words stay true while the tables grow warmer
def vq_k (w : Cond) : Bool := (w.onTables && (w.keepsH || w.faceAtom)) || (match w with | .arrayClass _ => true | .stringRef _ _ _ => true | _ => false)
theorem vq_at {w : Cond} (hk : vq_k w = true) {args a' : Array Value} {s U : State} (hW : s.WarmedH U.vm) (h : w.before args s = true) : w.before a' U = true := by
  unfold vq_k at hk
  rw [Bool.or_eq_true] at hk
  rcases hk with hk | hk
  · simp only [Bool.and_eq_true, Bool.or_eq_true] at hk
    obtain ⟨h1, h2 | h2⟩ := hk
    · have h3 := Cond.onTables_warmH (T := U) (args' := a') hW h1 h2 h
      rwa [State.setVm_self] at h3
    · exact va_tabs h1 (rfl : (s.setVm U.vm).vm = U.vm) (Cond.faceAtom_setVm hW.alike _ h2 h)
  · match w, hk, h with
    | .arrayClass ty, _, h => exact word_at hW (Or.inr ⟨ty, rfl⟩) h
    | .stringRef o i t, _, h =>
      have h1 := Cond.stringRef_warmed hW h
      exact h1
theorem vq_all {ws : List Cond} (hk : ws.all vq_k = true) {args : Array Value} {s : State} (hts : ∀ w ∈ ws, w.before args s = true) : ∀ w ∈ ws, ∀ (a' : Array Value) (U : State), s.WarmedH U.vm → w.before a' U = true :=
  fun w hw _ _ hW => vq_at (List.all_eq_true.mp hk w hw) hW (hts w hw)
-- the two statics of Throwable that an exception's making reads
def vq_sw : List Cond := [.laysStatic "java/lang/Throwable" "UNASSIGNED_STACK" "[Ljava/lang/StackTraceElement;", .isRef (.static "java/lang/Throwable" "UNASSIGNED_STACK" "[Ljava/lang/StackTraceElement;"), .laysStatic "java/lang/Throwable" "SUPPRESSED_SENTINEL" "Ljava/util/List;", .isRef (.static "java/lang/Throwable" "SUPPRESSED_SENTINEL" "Ljava/util/List;")]
-- and that a state's exception is no argument's
def vq_st (U : State) : Prop := (∀ w ∈ vq_sw, w.before #[] U = true) ∧ va_Nc "java/lang/IllegalStateException" "java/lang/IllegalArgumentException" U
-- the cells that hold statics are as they were
def vq_kept (H H1 : Heap) : Prop := ∀ (a : Nat) (cell : Cell), H[a]? = some cell → cell.vm.isStatics = true → H1[a]? = some cell
theorem vq_lays {O n d : String} {A A' : Array Value} {s U : State} (hvm : s.vm = U.vm) (hk : vq_kept s.heap U.heap) (h : (Cond.laysStatic O n d).before A s = true) : (Cond.laysStatic O n d).before A' U = true := by
  simp only [Cond.before, Cond.holds, Cond.value, State.fieldFound?, hvm] at h ⊢
  split at h
  · rename_i c c' k i f hc hf
    try simp only [hc, hf]
    cases hs : k.statics with
    | none => simp [hs] at h
    | some a =>
      cases hh : s.heap[a]? with
      | none => simp [hs, hh] at h
      | some cell =>
        simp only [hs, hh, Option.bind_some, Option.map_some, beq_iff_eq, Option.some.injEq] at h
        have h2 := h
        simp only [Bool.and_eq_true] at h2
        have hcell := hk a cell hh h2.1.1.1.2
        simp only [hs, hcell, Option.bind_some, Option.map_some, beq_iff_eq, Option.some.injEq]
        exact h
  · simp at h
theorem vq_static {O n d : String} {A A' : Array Value} {s U : State} (hvm : s.vm = U.vm) (hk : vq_kept s.heap U.heap) {v : Value} (h : (Term.static O n d).eval A s none [] s = some v) : (Term.static O n d).eval A' U none [] U = some v := by
  have e : s.fieldNamed? O n d true = U.fieldNamed? O n d true := by simp only [State.fieldNamed?, State.fieldFound?, hvm]
  simp only [Term.eval] at h ⊢
  rw [← e]
  cases hf : s.fieldNamed? O n d true with
  | none => simp [hf] at h
  | some q =>
    obtain ⟨c, k, slot⟩ := q
    cases hs : k.statics with
    | none => simp [hf, hs] at h
    | some a =>
      cases hh : s.heap[a]? with
      | none => simp [hf, hs, hh] at h
      | some cell =>
        by_cases hst : cell.vm.isStatics = true
        · have hcell := hk a cell hh hst
          simp [hf, hs, hh, hst] at h
          simp [hs, hcell, hst, h]
        · simp [hf, hs, hh, hst] at h
theorem vq_isref {O n d : String} {A A' : Array Value} {s U : State} (hvm : s.vm = U.vm) (hk : vq_kept s.heap U.heap) (h : (Cond.isRef (.static O n d)).before A s = true) : (Cond.isRef (.static O n d)).before A' U = true := by
  simp only [Cond.before, Cond.holds, Cond.value] at h ⊢
  cases hv : (Term.static O n d).eval A s none [] s with
  | none => simp [hv] at h
  | some v =>
    rw [vq_static (A' := A') hvm hk hv]
    rw [hv] at h
    exact h
theorem vq_st.moved {s U : State} (hal : s.vm.Alike U.vm) (hk : vq_kept s.heap U.heap) (h : vq_st s) : vq_st U := by
  have key : ∀ w : Cond, w.steady = true → w.before #[] s = true → w.before #[] (s.setVm U.vm) = true := fun w hw h1 => by
    have e := Cond.value_setVm₂ (args := #[]) (o := none) hal hal w [] hw
    simp only [Cond.before, Cond.holds] at h1 ⊢
    rw [e]
    exact h1
  refine ⟨?_, h.2.moved hal⟩
  intro w hw
  have h0 := h.1 w hw
  simp only [vq_sw, List.mem_cons, List.not_mem_nil, or_false] at hw
  rcases hw with rfl | rfl | rfl | rfl
  · exact vq_lays (s := s.setVm U.vm) rfl hk (key _ rfl h0)
  · exact vq_isref (s := s.setVm U.vm) rfl hk (key _ rfl h0)
  · exact vq_lays (s := s.setVm U.vm) rfl hk (key _ rfl h0)
  · exact vq_isref (s := s.setVm U.vm) rfl hk (key _ rfl h0)
theorem vq_ns {D : va_G} {cl : List vw_C} {ws : va_W} {H : Heap} (hP : va_P D cl ws H) : ∀ q : Nat, va_A ws H.size q → ∀ cell : Cell, H[q]? = some cell → cell.vm.isStatics = false := by
  intro q hA cell hc
  rcases hA with ⟨k, e, hk⟩ | h
  · have h1 := hP k _ hk
    match e, h1 with
    | .inl (cA, x), h1 =>
      have h2 : H[q]? = some (vp_cell cA x) := h1
      cases Option.some.inj (hc.symm.trans h2)
      obtain ⟨n, f | f | f | f | f⟩ := x <;> rfl
    | .inr (ci, fs), h1 =>
      obtain ⟨r, -, cell2, q1, -, q3, -⟩ := h1
      cases Option.some.inj (hc.symm.trans q1)
      rw [q3]; rfl
  · have h2 := (Array.getElem?_eq_some_iff.mp hc).1
    exact absurd h2 (Nat.not_lt.mpr h)
theorem vq_kept.of {A : Nat → Prop} {H0 H : Heap} {locs : List Loc} (hS : va_S A H0 H locs) (hN : ∀ q : Nat, A q → ∀ cell : Cell, H0[q]? = some cell → cell.vm.isStatics = false) : vq_kept H0 H := by
  intro a cell ha hst
  have hlt := (Array.getElem?_eq_some_iff.mp ha).1
  have hnA : ¬ A a := fun h => by rw [hN a h cell ha] at hst; cases hst
  rw [hS.2.1 a hlt hnA]
  exact ha
/-- the contract of a method that throws an E, always; no old cell changes but those in A -/
def vq_TQ (E : String) (A : Nat → Prop) (mc ms : Nat) (st : State) (o : Outcome) (t : State) : Prop :=
  ∃ (x : Addr) (ce : Cell) (L : List Loc), o = .threw x ∧ st.WarmedH t.vm ∧ va_F A st t ∧ t.heap[x]? = some ce ∧ ce.vm = .none ∧ st.vm.findClass E = some ce.cls ∧ st.sameButNew ({ t with vm := st.vm } : State) L mc ms ∧ ∀ q ∈ L, A q.base
def vq_T (l : Launch) (y : MethodName) (ws : List Cond) (rm : Room) (Pc : Array Value → State → Prop) (E : String) (A : Nat → Prop) (mc ms : Nat) : Prop :=
  MetFree l y (headSpec ws rm) Pc (fun _ _ _ _ _ => True) (fun _ st o t => vq_TQ E A mc ms st o t)
def vq_MQ (below : List Frame) (E : String) (A : Nat → Prop) (s : State) (mc ms : Nat) : State → Prop := fun t => ∃ o, t.status = .running ∧ Ended t below o ∧ vq_TQ E A mc ms s o t
-- bodies: the code word stands anywhere among the words; with handlers or without
theorem vq_his {ws : List Cond} {rm : Room} {y : MethodName} {cc : ByteArray} {maxL : Nat} {ret : Option FieldType} (hw : Cond.code y cc maxL ret ∈ ws) :
    ∀ args (s : State) m, (headSpec ws rm).pre.before args s = true → s.methodNamed? y = some m → ∃ meth c, s.vm.method? m = some meth ∧ meth.code = some c ∧ c.code = cc ∧ c.maxLocals = maxL ∧ meth.sig.returnType = ret ∧ meth.locks = false := by
  intro args s m h hn
  obtain ⟨meth, c, h1, h2, h3, h4, h5, h6, -, -⟩ := Cond.code_spec hn (atoms_spec (ws := ws) h _ hw)
  exact ⟨meth, c, h1, h2, h3, h4, h5, h6⟩
theorem vq_hisH {ws : List Cond} {rm : Room} {y : MethodName} {cc : ByteArray} {maxL : Nat} {ret : Option FieldType} {hh : List (Nat × Nat × Nat × Nat)} (hw : Cond.codeWith y cc maxL ret hh ∈ ws) :
    ∀ args (s : State) m, (headSpec ws rm).pre.before args s = true → s.methodNamed? y = some m → ∃ meth c, s.vm.method? m = some meth ∧ meth.code = some c ∧ c.code = cc ∧ c.maxLocals = maxL ∧ meth.sig.returnType = ret ∧ meth.locks = false := by
  intro args s m h hn
  obtain ⟨m', meth, c, h0, h1, h2, h3, h4, -, h5, h6, -⟩ := Cond.codeWith_spec (atoms_spec (ws := ws) h _ hw)
  cases Option.some.inj (hn.symm.trans h0)
  exact ⟨meth, c, h1, h2, h3, h4, h5, h6⟩
theorem vq_ofW {l : Launch} {y : MethodName} {ws : List Cond} {rm : Room} {Pc : Array Value → State → Prop} {Qc : Array Value → State → Outcome → State → Prop} {mc ms : Nat} {free : Addr → Prop} {cc : ByteArray} {maxL : Nat} {ret : Option FieldType}
    (hy : plainName y.cls = true) (his : ∀ args (s : State) m, (headSpec ws rm).pre.before args s = true → s.methodNamed? y = some m → ∃ meth c, s.vm.method? m = some meth ∧ meth.code = some c ∧ c.code = cc ∧ c.maxLocals = maxL ∧ meth.sig.returnType = ret ∧ meth.locks = false)
    (body : ∀ p e s m args below meth c s₁, BodyLoose p l y (headSpec ws rm) cc maxL ret e s m args below meth c s₁ → c.maxLocals = maxL → Pc args s →
      W p l e (headSpec ws rm).room s m args below meth c s.heap [] 0 0 (MQ below Qc args s mc ms free) (entryFrame m args maxL)) : Met l y ws rm Pc Qc mc ms free := by
  refine MetFree.of_bodyS (code := cc) (maxLocals := maxL) (ret := ret) hy his ?_
  intro p e s m args below meth c s₁ B hml hP _
  have hh0 : s₁.heap = s.heap := by rw [B.state]; rfl
  obtain ⟨t, a1, o, b1, b2, b3⟩ := body p e s m args below meth c s₁ B hml hP s₁ hh0 (Stand.of_body B)
  exact ⟨t, o, a1, b1, b2, ⟨b3.1, b3.2⟩⟩
theorem vq_ofT {l : Launch} {y : MethodName} {ws : List Cond} {rm : Room} {Pc : Array Value → State → Prop} {E : String} {A : Nat → Prop} {mc ms : Nat} {cc : ByteArray} {maxL : Nat} {ret : Option FieldType}
    (hy : plainName y.cls = true) (his : ∀ args (s : State) m, (headSpec ws rm).pre.before args s = true → s.methodNamed? y = some m → ∃ meth c, s.vm.method? m = some meth ∧ meth.code = some c ∧ c.code = cc ∧ c.maxLocals = maxL ∧ meth.sig.returnType = ret ∧ meth.locks = false)
    (body : ∀ p e s m args below meth c s₁, BodyLoose p l y (headSpec ws rm) cc maxL ret e s m args below meth c s₁ → c.maxLocals = maxL → Pc args s →
      W p l e (headSpec ws rm).room s m args below meth c s.heap [] 0 0 (vq_MQ below E A s mc ms) (entryFrame m args maxL)) : vq_T l y ws rm Pc E A mc ms := by
  refine MetFree.of_bodyS (code := cc) (maxLocals := maxL) (ret := ret) hy his ?_
  intro p e s m args below meth c s₁ B hml hP _
  have hh0 : s₁.heap = s.heap := by rw [B.state]; rfl
  obtain ⟨t, a1, o, b1, b2, b3⟩ := body p e s m args below meth c s₁ B hml hP s₁ hh0 (Stand.of_body B)
  exact ⟨t, o, a1, b1, b2, b3⟩
theorem vq_noH {p : Program} {l : Launch} {y : MethodName} {S : Spec} {code : ByteArray} {maxL : Nat} {ret : Option FieldType} {e : Env} {s : State} {m : MethodId} {args : Array Value} {below : List Frame} {meth : Method} {c : Code} {s₁ : State}
    (B : BodyLoose p l y S code maxL ret e s m args below meth c s₁) (h : (Cond.code y code maxL ret).before args s = true) : c.exceptionTable.toList = [] := by
  obtain ⟨meth', c', hm', hc', -, -, -, -, hempty, -⟩ := Cond.code_spec B.named h
  cases B.method.symm.trans hm'
  cases (Stand.of_body B).code.symm.trans hc'
  have h0 : c.exceptionTable.size = 0 := by simpa [Array.isEmpty] using hempty
  exact List.eq_nil_of_length_eq_zero (by simpa using h0)
theorem vq_tab {L : List ExceptionTableEntry} {hh : List (Nat × Nat × Nat × Nat)} (h : L.map (fun h => (h.startPc, h.endPc, h.handlerPc, h.catchType)) = hh) : L = hh.map (fun t => ⟨t.1, t.2.1, t.2.2.1, t.2.2.2⟩) := by
  rw [← h, List.map_map]
  exact (List.map_id L).symm
theorem vq_hasH {p : Program} {l : Launch} {y : MethodName} {S : Spec} {code : ByteArray} {maxL : Nat} {ret : Option FieldType} {hh : List (Nat × Nat × Nat × Nat)} {e : Env} {s : State} {m : MethodId} {args : Array Value} {below : List Frame} {meth : Method} {c : Code} {s₁ : State}
    (B : BodyLoose p l y S code maxL ret e s m args below meth c s₁) (h : (Cond.codeWith y code maxL ret hh).before args s = true) : c.exceptionTable.toList = hh.map (fun t => ⟨t.1, t.2.1, t.2.2.1, t.2.2.2⟩) := by
  obtain ⟨m', meth', c', hn', hm', hc', -, -, htab, -, -, -⟩ := Cond.codeWith_spec h
  cases Option.some.inj (B.named.symm.trans hn')
  cases B.method.symm.trans hm'
  cases (Stand.of_body B).code.symm.trans hc'
  exact vq_tab htab
section VQ
variable {p : Program} {l : Launch} {e : Env} {R : Room} {s : State} {m : MethodId} {args : Array Value} {below : List Frame} {meth : Method} {c : Code} {T : State} {locs : List Loc} {cells slots : Nat}
/-- a call by a contract, whatever comes of it -/
theorem vq_go (X : Stand p l e R s m args below meth c T locs cells slots) {y : MethodName} {S : Spec} {P : Array Value → State → Prop} {Q : Array Value → State → Outcome → State → Prop} {maxL : Nat}
    (hM : MetFree l y S P (fun _ _ _ _ _ => True) Q) {g : JFrame} {ig : Instr} {len : Nat} {mk : MethodId} {a : Array Value} {W : Nat}
    (hg : g.method = m) (hsize : g.locals.size = c.maxLocals) (hdg : decode c.code g.pc = .ok (ig, len)) (hW : 2 * g.monitorRoom + (g.stack.map fun v => v.category).sum ≤ W)
    (hn : T.methodNamed? y = some mk) (hcode : ∃ methY cY, T.vm.method? mk = some methY ∧ methY.code = some cY ∧ cY.maxLocals = maxL)
    (hini : (Cond.initialized y.cls).before a T = true) (hpre : S.pre.before a T = true)
    (hfr : S.room.frames + 1 ≤ R.frames) (hlo : W + (maxL + 11) + S.room.locals ≤ R.locals) (hce : cells + S.room.cells ≤ R.cells) (hsl : slots + S.room.slots ≤ R.slots)
    (hP : P a (T.calling g mk a)) :
    ∃ o s₂, Steps p.tables e below (doInvoke e (T.setTop g) [] mk a).1 s₂ ∧ Ended s₂ (.java g :: T.frames.tail) o ∧ Q a (T.calling g mk a) o s₂ := by
  obtain ⟨methY, cY, hmY, hcY, hlY⟩ := hcode
  obtain ⟨kY, hkY, -⟩ := className_of_methodNamed hn
  have hinitY : kY.init = .initialized := Cond.initialized_spec (findClass_of_methodNamed hn) hkY hini
  have h : At T g.method c below := by rw [hg]; exact X.here
  have happ : S.appliesLoose y e.platform (T.calling g mk a) = true :=
    Spec.appliesLoose_calling (g := g) h hdg hn hkY hinitY (X.room_calling (g := g) (R' := S.room) hsize hmY hcY hfr (by rw [hlY]; omega) hce hsl) hpre
  obtain ⟨mid, hmid⟩ := h.above
  have hfr2 : (T.setTop g).frames = (.java g :: mid) ++ below := by rw [State.frames_setTop' g h.top, hmid]; rfl
  obtain ⟨o, s₂, hsteps, -, hend, hq⟩ := Steps.callFree hM p X.admits X.cas X.clock (acts := []) hfr2 happ hP trivial
  rw [State.frames_setTop' g h.top] at hend
  exact ⟨o, s₂, hsteps, hend, hq⟩
theorem vq_note (X : Stand p l e R s m args below meth c T locs cells slots) (g : JFrame) (a : Addr) : (T.setTop g).pushFrame (.throwing a) = T.setFrames (.throwing a :: .java g :: below) := by
  obtain ⟨g₁, hfr⟩ := X.frames_eq
  rw [State.pushFrame, State.frames_setTop _ hfr, State.setTop_of_frames _ hfr, State.setFrames_setFrames]
/-- behind a callee that has gone, by what it left: where the walk stands -/
theorem vq_back (X : Stand p l e R s m args below meth c T locs cells slots) {g : JFrame} {mk : MethodId} {a : Array Value} {s₂ : State} {L : List Loc} {k n : Nat}
    (hW₂ : (T.calling g mk a).WarmedH s₂.vm) (hsame : (T.calling g mk a).sameButNew ({ s₂ with vm := (T.calling g mk a).vm } : State) L k n) :
    Stand p l e R s m args below meth c (({ T with heap := s₂.heap, slotsUsed := s₂.slotsUsed } : State).setVm s₂.vm) (locs ++ L) (cells + k) (slots + n) ∧
      s₂ = (({ T with heap := s₂.heap, slotsUsed := s₂.slotsUsed } : State).setVm s₂.vm).setFrames s₂.frames := by
  obtain ⟨e2, q2, q3, q4, q5, q6⟩ := hsame
  have h := X.here
  have e3 : s₂ = ({ (T.calling g mk a).setFrames s₂.frames with heap := s₂.heap, slotsUsed := s₂.slotsUsed } : State).setVm s₂.vm := by
    have h1 : s₂ = ({ s₂ with vm := (T.calling g mk a).vm } : State).setVm s₂.vm := rfl
    rw [e2] at h1
    exact h1
  have hW' : T.WarmedH s₂.vm := hW₂
  obtain ⟨g₀, hg0⟩ := Option.isSome_iff_exists.mp h.top
  obtain ⟨r, hr⟩ := State.topJava?_eq_some.mp hg0
  have hsm : T.sameButNew ({ T with heap := s₂.heap, slotsUsed := s₂.slotsUsed } : State) L k n := by
    refine ⟨?_, q2, q3, q4, q5, q6⟩
    obtain ⟨t, ht, -⟩ := State.frames_cons hr
    show ({ T with heap := s₂.heap, slotsUsed := s₂.slotsUsed } : State) = { T.setFrames T.frames with heap := s₂.heap, slotsUsed := s₂.slotsUsed }
    rw [State.setFrames_self ht]
  refine ⟨⟨X.admits, X.cas, X.clock, X.frames, X.room, X.hears, X.method, X.code, (X.here.setHeapUsed s₂.heap s₂.slotsUsed).setVm hW'.alike, X.tail, State.WarmedH.trans X.warmed hW', X.limits, X.bytes, X.same.trans (hsm.setVm s.vm)⟩, ?_⟩
  refine e3.trans ?_
  rw [State.calling_eq h.top, State.setFrames_setFrames]
  rfl
/-- what is known where a callee has thrown: the note lies over the caller's frame -/
def vq_TRun (p : Program) (l : Launch) (e : Env) (R : Room) (s : State) (m : MethodId) (args : Array Value) (below : List Frame) (meth : Method) (c : Code) (H : Heap) (locs : List Loc) (cells slots mc ms : Nat) (g : JFrame) (rest : List Value) (E : String) (A1 : Nat → Prop) : Prop :=
  ∀ T : State, T.heap = H → Stand p l e R s m args below meth c T locs cells slots → ∃ (x : Addr) (ce : Cell) (T' : State) (L : List Loc), Stand p l e R s m args below meth c T' (locs ++ L) (cells + mc) (slots + ms) ∧ (∀ q ∈ L, A1 q.base) ∧ H.size ≤ T'.heap.size ∧ (∀ q : Nat, q < H.size → ¬ A1 q → T'.heap[q]? = H[q]?) ∧
    T'.heap[x]? = some ce ∧ ce.vm = .none ∧ s.vm.findClass E = some ce.cls ∧ Steps p.tables e below (T.setTop g) ((T'.setTop { g with stack := rest }).pushFrame (.throwing x))
variable {H : Heap} {cc bytes : ByteArray} {nL maxL index n mc ms : Nat} {Ts ws : List Cond} {own C E : String} {y : MethodName} {ret : Option FieldType} {rm : Room} {Pc : Array Value → State → Prop} {A1 : Nat → Prop} {b : Addr} {As rest : List Value} {g : JFrame}
theorem vq_runT (S : CallFix p m c cc nL s args Ts own) (hM : vq_T l y ws rm Pc E A1 mc ms) (cw : CallW R s args own C index y bytes maxL ret ws rm mc ms n) (hp : PreV s H C b Pc As)
    (hg : g.method = m) (hn : As.length = n) (hsize : g.locals.size = nL) (hstack : g.stack = As.reverse ++ .ref b :: rest) (hW : 2 * g.monitorRoom + (rest.map fun v => v.category).sum ≤ 8) (hdg : decode cc g.pc = .ok (.invokevirtual index, 3)) (hf : cells + mc ≤ R.cells ∧ slots + ms ≤ R.slots) :
    vq_TRun p l e R s m args below meth c H locs cells slots mc ms g rest E A1 := by
  obtain ⟨⟨hrc, hrs, hfr, hlo, hws, hcw, hcode, hini, hy, hlen, hlink⟩, hinst, hsel⟩ := cw
  obtain ⟨hblind, ⟨cellB, hcell, hobj, hcls⟩, hPc⟩ := hp
  obtain ⟨hexec, hb, hml, hown, -⟩ := S
  intro T hT X
  subst hb
  obtain ⟨mk, methM, hnamed, hmethM, hstM, habM⟩ := Cond.instanceMethod_spec hinst
  obtain ⟨methM', cM, hmethM', -, -, -, -, -, -, hsigM⟩ := Cond.code_spec hnamed hcode
  cases hmethM.symm.trans hmethM'
  obtain ⟨c2, r2, m2, q1, q2, q3, q4, kP, hkP, hkPi⟩ := Cond.selects_spec hsel
  cases hcls.symm.trans q1
  cases (State.methodFound?_of_named hnamed hy).symm.trans q2
  cases hnamed.symm.trans q3
  have hselP : selectMethod e.platform s.vm cellB.cls mk = .method mk := by rw [Launch.admits_selectMethod X.admits]; exact q4
  obtain ⟨vm₁, X₁, hstep₁⟩ := X.invokevirtual hexec hown hlink hnamed hmethM hstM hkP hkPi hy (a := b) (cell := cellB) (by rw [hT]; exact hcell)
    (fun z h => by rw [h] at hobj; cases hobj) hselP hmethM habM hkP hkPi (g := g) hg (argsL := As) (rest := rest) (hn.trans (hlen _ hsigM)) hstack hdg
  have hn₁ : (T.setVm vm₁).methodNamed? y = some mk := X₁.named hnamed
  have hw₁ : s.WarmedH (T.setVm vm₁).vm := X₁.warmed
  obtain ⟨methY, cY, hmY, hcY, -, hlY, -, -, -, -⟩ := Cond.code_spec hn₁ (hws _ hcw (Value.ref b :: As).toArray (T.setVm vm₁) hw₁)
  obtain ⟨o, s₂, hsteps, hend, x, ce, L, rfl, hW₂, hF, hce, hvm, hfc, hsame, hL⟩ := vq_go X₁ (W := 8) (maxL := maxL) (g := { g with stack := rest }) (a := (Value.ref b :: As).toArray) hM hg (hsize.trans hml.symm) hdg hW hn₁ ⟨methY, cY, hmY, hcY, hlY⟩
    (word_at hw₁ (Or.inl (by first | rfl | simp [Cond.onTables, Cond.keeps, Cond.steady])) hini) (atoms_intro fun w hw => hws w hw _ _ hw₁) hfr hlo (by rw [show (headSpec ws rm).room.cells = mc from hrc]; exact hf.1) (by rw [show (headSpec ws rm).room.slots = ms from hrs]; exact hf.2)
    (hblind _ _ _ _ (hPc (T.setVm vm₁) hT hw₁))
  obtain ⟨X', hs₂⟩ := vq_back X₁ hW₂ hsame
  have hal : s.vm.Alike vm₁ := X₁.warmed.alike
  refine ⟨x, ce, _, L, X', hL, ?_, ?_, hce, hvm, ?_, ?_⟩
  · have h1 := hF.1
    have h2 : ((T.setVm vm₁).calling { g with stack := rest } mk (Value.ref b :: As).toArray).heap.size = H.size := by rw [← hT]; rfl
    rw [h2] at h1
    exact h1
  · intro q hq hA
    have h2 : ((T.setVm vm₁).calling { g with stack := rest } mk (Value.ref b :: As).toArray).heap = H := hT
    have h1 := hF.2 q (by rw [h2]; exact hq) hA
    rw [h2] at h1
    exact h1
  · have h1 : vm₁.findClass E = some ce.cls := hfc
    rw [hal.findClass] at h1
    exact h1
  · refine hstep₁ _ fun acts => ?_
    rw [doInvoke_state]
    have h3 : s₂.frames = .throwing x :: .java { g with stack := rest } :: below := by
      have h4 : s₂.frames = .throwing x :: .java { g with stack := rest } :: (T.setVm vm₁).frames.tail := hend
      rw [h4, X₁.tail]
    rw [vq_note X', ← h3, ← hs₂]
    exact hsteps
variable {Q : State → Prop} {A A0 : Nat → Prop} {H0 : Heap} {pc : Nat} {ls : Array Slot} {st0 : List Value}
theorem vq_S {L : List Loc} {H1 : Heap} (hS : va_S A0 H0 H locs) (hA : ∀ q, A1 q → A0 q) (hL : ∀ q ∈ L, A1 q.base) (hz : H.size ≤ H1.size) (hk : ∀ q : Nat, q < H.size → ¬ A1 q → H1[q]? = H[q]?) : va_S A0 H0 H1 (locs ++ L) := by
  refine ⟨Nat.le_trans hS.1 hz, fun q hq hn => ?_, fun x hx => ?_⟩
  · rw [hk q (Nat.lt_of_lt_of_le hq hS.1) (fun h => hn (hA q h))]
    exact hS.2.1 q hq hn
  · rcases List.mem_append.mp hx with h | h
    · exact hS.2.2 x h
    · exact hA _ (hL x h)
/-- not caught here: it goes on to the caller -/
theorem vq_pass {mk1 ms1 : Nat} (hr : vq_TRun p l e R s m args below meth c H locs cells slots mk1 ms1 (F0 m pc ls st0) rest E A1) (hS : va_S A s.heap H locs) (hA : ∀ q, A1 q → A q) (hno : c.exceptionTable.toList = []) (hlocks : meth.locks = false) (hc : cells + mk1 ≤ mc) (hs : slots + ms1 ≤ ms) :
    W p l e R s m args below meth c H locs cells slots (vq_MQ below E A s mc ms) (F0 m pc ls st0) := by
  intro T hT X
  obtain ⟨x, ce, T', L, X', hL, hz, hk, hce, hvm, hfc, st⟩ := hr T hT X
  obtain ⟨st1, hrun, hend, hW, hsm⟩ := X'.leaveThrown x (g := { F0 m pc ls st0 with stack := rest }) rfl rfl rfl (by rw [hno]; intro z hz; cases hz) hlocks
  have hS' : va_S A s.heap T'.heap (locs ++ L) := vq_S hS hA hL hz hk
  exact ⟨_, st.trans st1, .threw x, hrun, hend, x, ce, locs ++ L, rfl, hW, ⟨hS'.1, hS'.2.1⟩, hce, hvm, hfc, hsm.mono hc hs, hS'.2.2⟩
theorem vq_st.use {U : State} (h : vq_st U) {a9 : Array Value} : ∀ w ∈ vq_sw, w.before a9 U = true := by
  intro w hw
  have h0 := h.1 w hw
  simp only [vq_sw, List.mem_cons, List.not_mem_nil, or_false] at hw
  rcases hw with rfl | rfl | rfl | rfl
  · exact vq_lays rfl (fun _ _ h _ => h) h0
  · exact vq_isref rfl (fun _ _ h _ => h) h0
  · exact vq_lays rfl (fun _ _ h _ => h) h0
  · exact vq_isref rfl (fun _ _ h _ => h) h0
/-- throw new E("text"): five instructions -/
theorem vq_throw (hexec : p.tables.exec = Jvm.exec) (hb : c.code = cc) (hl : l.stackTraces = false) {cls text : String} {names : List String} {ik ic is : Nat} (hown : s.vm.findClass own = some m.cls) (hcls : Bundle.fit cls = true) (hnames : ∀ n ∈ names, Bundle.fit n = true)
    (hat : ∀ a ∈ Bundle.ownAtoms own ic cls names, a.before args s = true) (hkl : (Cond.classLink own ik cls).before args s = true) (hini : (Cond.initialized cls).before args s = true) (hstr : (Cond.stringRef own is text).before args s = true)
    (hS : va_S A s.heap H locs) (hA : ∀ q, s.heap.size ≤ q → A q) (hN : ∀ q : Nat, A q → ∀ cell : Cell, s.heap[q]? = some cell → cell.vm.isStatics = false) (hno : c.exceptionTable.toList = []) (hlocks : meth.locks = false)
    (hR : cells + 1 ≤ R.cells ∧ slots + 6 ≤ R.slots ∧ cells + 1 ≤ mc ∧ slots + 6 ≤ ms ∧ names.length + 3 < R.frames ∧ (rest.map fun v => v.category).sum + (13 * (names.length + 1) + 43) ≤ R.locals) (hsz : ls.size = c.maxLocals)
    (d0 : decode cc pc = .ok (.new ik, 3)) (d3 : decode cc (pc + 3) = .ok (.dup, 1)) (d4 : decode cc (pc + 3 + 1) = .ok (.ldc is, 2)) (d6 : decode cc (pc + 3 + 1 + 2) = .ok (.invokespecial ic, 3)) (d9 : decode cc (pc + 3 + 1 + 2 + 3) = .ok (.athrow, 1)) :
    W p l e R s m args below meth c H locs cells slots (vq_MQ below cls A s mc ms) (F0 m pc ls rest) := by
  obtain ⟨hc1, hs1, hmc, hms, hfr, hlo⟩ := hR
  refine W.newc (n := 6) hexec hb hown hkl (hat (.instantiable cls 6) (by simp [Bundle.ownAtoms])) hini rfl d0 hc1 hs1 fun cC kC h1 h2 h3 h4 => ?_
  refine W.eq (g2 := F0 m (pc + 3) ls (.ref H.size :: rest)) rfl ?_
  refine lv_dup hexec hb d3 rfl ?_
  intro T hT X
  have htr : e.platform.stackTraces = false := (show e.platform.stackTraces = l.stackTraces by rw [X.admits.platform]).trans hl
  obtain ⟨k5, cf5, i5, a, -, -, -, -, -, hev⟩ := Cond.stringRef_spec hown hstr
  have st1 := X.ldcString hexec hown hstr hev (g := F0 m (pc + 3 + 1) ls (.ref H.size :: .ref H.size :: rest)) rfl (by rw [hb]; exact d4)
  have hcell : T.heap[H.size]? = some (freshCell cC kC) := by rw [hT]; simp [freshCell]
  have hcat : 2 * (F0 m (pc + 3 + 1 + 2) ls (.ref a :: .ref H.size :: .ref H.size :: rest)).monitorRoom + ((Value.ref H.size :: rest).map fun v => v.category).sum + (13 * (names.length + 1) + 42) ≤ R.locals := by
    have h0 : (F0 m (pc + 3 + 1 + 2) ls (.ref a :: .ref H.size :: .ref H.size :: rest)).monitorRoom = 0 := rfl
    have h9 : (Value.ref H.size).category = 1 := rfl
    rw [h0, List.map_cons, List.sum_cons, h9]
    omega
  obtain ⟨U, st, hrun, hend, hW, hsame, ce, hce, hO⟩ := X.ctorThrowS hexec htr hown hcls hnames hat (fun x hx cell hc => hN _ (hS.2.2 x hx) cell hc) h1 h2 hcell hS.1 (msg := .ref a) rfl (g := F0 m (pc + 3 + 1 + 2) ls (.ref a :: .ref H.size :: .ref H.size :: rest)) rfl hsz rfl rfl (rest := rest) rfl
    (by rw [hb]; exact d6) (by rw [hb]; exact d9) (by rw [hno]; intro z hz; cases hz) hfr hcat hlocks
  refine ⟨U, st1 _ st, .threw H.size, hrun, hend, H.size, ce, locs, rfl, hW, ⟨hsame.2.1, fun q hq hnA => ?_⟩, hce, hO.vm, hO.cls, hsame.mono hmc hms, hS.2.2⟩
  have hg : s.heap[q]? = some s.heap[q] := Array.getElem?_eq_getElem hq
  rw [hg]
  exact hsame.kept_off (fun i hi => hnA (hS.2.2 _ hi)) hg
-- the search for a handler, behind rows that are passed; the catch types may be resolved on the way
def vq_passed (pl : Platform) (s₀ : State) (d : ClassId) (pc : Nat) (thrown : ClassId) (z : ExceptionTableEntry) : Prop := covers z pc = false ∨ (z.catchType ≠ 0 ∧ ∃ cT, s₀.vm.ClassLinks pl d z.catchType cT ∧ s₀.vm.assignable thrown cT = false)
theorem vq_search {f : JFrame} {a : Addr} {cell : Cell} (hobj : ∀ k, cell.vm ≠ .statics k) (hk0 : ∃ k, s.vm.classes[cell.cls]? = some k) (x : ExceptionTableEntry) (suf : List ExceptionTableEntry) (hx : covers x f.pc = true) (h0 : x.catchType ≠ 0)
    {cT : ClassId} (hl : s.vm.ClassLinks e.platform f.method.cls x.catchType cT) (hfit : s.vm.assignable cell.cls cT = true) :
    ∀ (pre : List ExceptionTableEntry) (S : State), s.WarmedH S.vm → S.heap[a]? = some cell → (∀ z ∈ pre, vq_passed e.platform s f.method.cls f.pc cell.cls z) →
      ∃ vm', s.WarmedH vm' ∧ ∀ (Q : Handler → Pre) (E : CtlPost) (d : Bool) (acts : List Action), wp (findHandler.go f a (pre ++ x :: suf)) Q E e d acts S ↔ Q (.found x.handlerPc) d acts (S.setVm vm') := by
  obtain ⟨k0, hk0⟩ := hk0
  have link : ∀ (z : ExceptionTableEntry) (cZ : ClassId), covers z f.pc = true → z.catchType ≠ 0 → s.vm.ClassLinks e.platform f.method.cls z.catchType cZ → ∀ S : State, s.WarmedH S.vm → S.heap[a]? = some cell → ∀ t : List ExceptionTableEntry,
      s.WarmedH (S.vm.noted f.method.cls z.catchType (.cls cZ)) ∧ ∀ (Q : Handler → Pre) (E : CtlPost) (d : Bool) (acts : List Action), wp (findHandler.go f a (z :: t)) Q E e d acts S ↔
        (if s.vm.assignable cell.cls cZ then Q (.found z.handlerPc) d acts (S.setVm (S.vm.noted f.method.cls z.catchType (.cls cZ))) else wp (findHandler.go f a t) Q E e d acts (S.setVm (S.vm.noted f.method.cls z.catchType (.cls cZ)))) := by
    intro z cZ hz hz0 hlz S hW hcell t
    obtain ⟨dk, _, _, kt, hd, _, _, _, _, hkt, _, hopen⟩ := hlz.here
    refine ⟨hW.noted hd hopen (State.rightAt_cls hlz), fun Q E d acts => ?_⟩
    obtain ⟨kt', hkt', -⟩ := hW.alike.2.2 _ _ hkt
    obtain ⟨k0', hk0', -⟩ := hW.alike.2.2 _ _ hk0
    obtain ⟨ha, ht⟩ := (resolveClass_links e.toSetting (hW.classLinks hlz)).op (op := VmOp.resolveClass f.method.cls z.catchType) rfl
    have hal : S.vm.Alike (S.vm.noted f.method.cls z.catchType (.cls cZ)) := (Vm.Alike.refl S.vm).noted _ _ _
    obtain ⟨k1', hk1', -⟩ := hal.2.2 _ _ hk0'
    obtain ⟨k2', hk2', -⟩ := hal.2.2 _ _ hkt'
    have has : (S.vm.noted f.method.cls z.catchType (.cls cZ)).assignable cell.cls cZ = s.vm.assignable cell.cls cZ := by rw [hal.assignable, hW.alike.assignable]
    simp only [covers] at hz
    by_cases hf : s.vm.assignable cell.cls cZ = true
    · rw [hf] at has
      simp [findHandler.go, hz, hz0, ha, ht, hcell, hobj, hk1', hk2', has, hf, VmOp.dirties, VmOp.acts]
    · have hf2 : s.vm.assignable cell.cls cZ = false := by simpa using hf
      rw [hf2] at has
      simp [findHandler.go, hz, hz0, ha, ht, hcell, hobj, hk1', hk2', has, hf2, VmOp.dirties, VmOp.acts]
  intro pre
  induction pre with
  | nil =>
    intro S hW hcell _
    obtain ⟨hW', hq⟩ := link x cT hx h0 hl S hW hcell suf
    exact ⟨_, hW', fun Q E d acts => by rw [List.nil_append, hq, if_pos hfit]⟩
  | cons z zs ih =>
    intro S hW hcell hpass
    have hrest : ∀ z2 ∈ zs, vq_passed e.platform s f.method.cls f.pc cell.cls z2 := fun z2 hz2 => hpass z2 (List.mem_cons_of_mem _ hz2)
    by_cases hcov : covers z f.pc = true
    · rcases hpass z (List.mem_cons_self ..) with h | ⟨hz0, cZ, hlz, hno⟩
      · rw [h] at hcov; cases hcov
      · obtain ⟨hW', hq⟩ := link z cZ hcov hz0 hlz S hW hcell (zs ++ x :: suf)
        obtain ⟨vm', hW2, hq2⟩ := ih (S.setVm (S.vm.noted f.method.cls z.catchType (.cls cZ))) hW' hcell hrest
        exact ⟨vm', hW2, fun Q E d acts => by rw [List.cons_append, hq, if_neg (by rw [hno]; decide)]; exact hq2 Q E d acts⟩
    · obtain ⟨vm', hW2, hq2⟩ := ih S hW hcell hrest
      exact ⟨vm', hW2, fun Q E d acts => by rw [List.cons_append, W.findHandler_go_skip (by simpa using hcov)]; exact hq2 Q E d acts⟩
theorem vq_sfv (u : State) (vm' : Vm) (F G : List Frame) : ((u.setFrames F).setVm vm').setFrames G = (u.setVm vm').setFrames G := by
  have h1 : (u.setFrames F).setVm vm' = (u.setVm vm').setFrames F := rfl
  rw [h1, State.setFrames_setFrames]
/-- a callee's exception, caught by the row x of this method's own table -/
theorem vq_catch {mk1 ms1 : Nat} {name : String} (hr : vq_TRun p l e R s m args below meth c H locs cells slots mk1 ms1 (F0 m pc ls st0) rest E A1) (hS : va_S A0 H0 H locs) (hA : ∀ q, A1 q → A0 q) (hown : s.vm.findClass own = some m.cls)
    (pre : List ExceptionTableEntry) (x : ExceptionTableEntry) (suf : List ExceptionTableEntry) (hsplit : c.exceptionTable.toList = pre ++ x :: suf)
    (hpass : ∀ z ∈ pre, covers z pc = false ∨ (z.catchType ≠ 0 ∧ ∃ nm : String, (Cond.classLink own z.catchType nm).before args s = true ∧ va_Nc E nm s)) (hx : covers x pc = true) (h0 : x.catchType ≠ 0)
    (hlink : (Cond.classLink own x.catchType name).before args s = true) (hcast : (Cond.castable E name).before args s = true)
    (kk : ∀ (q : Addr) (H1 : Heap) (locs1 : List Loc), H.size ≤ H1.size → (∀ q : Nat, q < H.size → ¬ A1 q → H1[q]? = H[q]?) → va_S A0 H0 H1 locs1 → W p l e R s m args below meth c H1 locs1 (cells + mk1) (slots + ms1) Q (F0 m x.handlerPc ls [.ref q])) :
    W p l e R s m args below meth c H locs cells slots Q (F0 m pc ls st0) := by
  intro T hT X
  obtain ⟨q, ce, T', L, X', hL, hz, hk, hce, hvm, hfc, st⟩ := hr T hT X
  have hpl : e.platform.magicAccessors = ({} : Platform).magicAccessors := by rw [X.admits.platform]
  obtain ⟨c3, c4, hc3, hc4, hasg⟩ := Cond.castable_spec hcast
  cases Option.some.inj (hc3.symm.trans hfc)
  obtain ⟨c5, hc5, hcl5⟩ := Cond.classLink_spec hown hlink e.platform hpl
  cases Option.some.inj (hc4.symm.trans hc5)
  have hk0 : ∃ k, s.vm.classes[ce.cls]? = some k := by obtain ⟨k9, h9, -⟩ := Vm.findClass_spec hfc; exact ⟨k9, h9⟩
  obtain ⟨vm', hW', hq⟩ := vq_search (e := e) (s := s) (f := F0 m pc ls rest) (a := q) (cell := ce) (by rw [hvm]; intro k h; cases h) hk0 x suf hx h0 hcl5 hasg pre ((T'.setTop (F0 m pc ls rest)).pushFrame (.throwing q)) X'.warmed hce
    (fun z hz => by
      rcases hpass z hz with h | ⟨hz0, nm, hl1, a8, b8, h1, h2, h3⟩
      · exact Or.inl h
      · obtain ⟨c6, hc6, hcl6⟩ := Cond.classLink_spec hown hl1 e.platform hpl
        cases Option.some.inj (h1.symm.trans hfc)
        cases Option.some.inj (h2.symm.trans hc6)
        exact Or.inr ⟨hz0, _, hcl6, h3⟩)
  have X2 := X'.noted hW'
  obtain ⟨t, a1, b1⟩ := kk q T'.heap (locs ++ L) hz hk (vq_S hS hA hL hz hk) (T'.setVm vm') rfl X2
  refine ⟨t, st.trans ?_, b1⟩
  have h : At T' (F0 m pc ls rest).method c below := X'.here
  obtain ⟨hgo, hw⟩ := h.throwing q
  refine Steps.head hgo hw ?_
  have hfind : ∀ (Q : Handler → Pre) (E : CtlPost) (d : Bool) (acts : List Action), wp (findHandler (F0 m pc ls rest) q) Q E e d acts ((T'.setTop (F0 m pc ls rest)).pushFrame (.throwing q)) ↔ Q (.found x.handlerPc) d acts (((T'.setTop (F0 m pc ls rest)).pushFrame (.throwing q)).setVm vm') := by
    intro Q E d acts
    rw [W.findHandler_eq (meth := meth) (code := c) X'.method' X'.code, hsplit]
    exact hq Q E d acts
  have hstep : (stepThrowing e ((T'.setTop (F0 m pc ls rest)).pushFrame (.throwing q)) q (.java (F0 m pc ls rest) :: below)).Is ((((T'.setTop (F0 m pc ls rest)).pushFrame (.throwing q)).setVm vm').setFrames (.java { F0 m pc ls rest with pc := x.handlerPc, stack := [.ref q] } :: below)) [] := by
    simp only [stepThrowing, searchFrame, vmDo]
    generalize hr9 : Sem.go _ e false [] _ = res
    obtain ⟨as, rfl, ha⟩ := Sem.eq_ok_of hr9 (a := Handler.found x.handlerPc) (s' := ((T'.setTop (F0 m pc ls rest)).pushFrame (.throwing q)).setVm vm') (acts' := []) (by simp [hfind _ _ _ _])
    exact ⟨rfl, ha⟩
  rw [stepThread_throwing (frames_entered h.top _), X'.tail, hstep.1]
  obtain ⟨g₀, hfr⟩ := X2.frames_eq
  rw [State.setTop_of_frames _ hfr] at a1
  rw [vq_note X', vq_sfv]
  exact a1
-- a call's words, out of one list for all
theorem vq_cB (hk : Ts.all vq_k = true) (hts : ∀ w ∈ Ts, w.before args s = true) (n : Nat) (hrc : rm.cells = mc) (hrs : rm.slots = ms) (hR : rm.frames + 1 ≤ R.frames ∧ 8 + (maxL + 11) + rm.locals ≤ R.locals) (hcode : Cond.code y bytes maxL ret ∈ Ts) (hini : Cond.initialized y.cls ∈ Ts) (hl : Cond.methodLink own index y ∈ Ts)
    (hd : y.cls ≠ "java/lang/invoke/MethodHandle" ∧ y.cls ≠ "java/lang/invoke/VarHandle" ∧ (parseMethodDescriptor y.desc).map (fun d => d.parameters.length) = some n) : CallB R s args own index y bytes maxL ret Ts rm mc ms n := by
  refine ⟨hrc, hrs, hR.1, hR.2, vq_all hk hts, hcode, hts _ hcode, hts _ hini, ⟨hd.1, hd.2.1⟩, fun sig h => ?_, hts _ hl⟩
  have h2 := hd.2.2
  rw [h] at h2
  exact (Option.some.inj h2).symm
theorem vq_cV (hk : Ts.all vq_k = true) (hts : ∀ w ∈ Ts, w.before args s = true) (n : Nat) (hrc : rm.cells = mc) (hrs : rm.slots = ms) (hR : rm.frames + 1 ≤ R.frames ∧ 8 + (maxL + 11) + rm.locals ≤ R.locals) (hcode : Cond.code y bytes maxL ret ∈ Ts) (hini : Cond.initialized y.cls ∈ Ts) (hl : Cond.methodLink own index y ∈ Ts)
    (hin : Cond.instanceMethod y ∈ Ts) (hsel : Cond.selects C y y ∈ Ts) (hd : y.cls ≠ "java/lang/invoke/MethodHandle" ∧ y.cls ≠ "java/lang/invoke/VarHandle" ∧ (parseMethodDescriptor y.desc).map (fun d => d.parameters.length) = some n) : CallW R s args own C index y bytes maxL ret Ts rm mc ms n :=
  ⟨vq_cB hk hts n hrc hrs hR hcode hini hl hd, hts _ hin, hts _ hsel⟩
theorem vq_cI (hk : Ts.all vq_k = true) (hts : ∀ w ∈ Ts, w.before args s = true) (n : Nat) (hrc : rm.cells = mc) (hrs : rm.slots = ms) (hR : rm.frames + 1 ≤ R.frames ∧ 8 + (maxL + 11) + rm.locals ≤ R.locals) (hcode : Cond.code y bytes maxL none ∈ Ts) (hini : Cond.initialized y.cls ∈ Ts) (hl : Cond.methodLink own index y ∈ Ts)
    (hin : Cond.instanceMethod y ∈ Ts) (hnm : y.name = "<init>") (hd : y.cls ≠ "java/lang/invoke/MethodHandle" ∧ y.cls ≠ "java/lang/invoke/VarHandle" ∧ (parseMethodDescriptor y.desc).map (fun d => d.parameters.length) = some n) : CallB R s args own index y bytes maxL none Ts rm mc ms n ∧ y.name = "<init>" ∧ (Cond.instanceMethod y).before args s = true :=
  ⟨vq_cB hk hts n hrc hrs hR hcode hini hl hd, hnm, hts _ hin⟩
theorem vq_cS (hk : Ts.all vq_k = true) (hts : ∀ w ∈ Ts, w.before args s = true) (n : Nat) (hrc : rm.cells = mc) (hrs : rm.slots = ms) (hR : rm.frames + 1 ≤ R.frames ∧ 8 + (maxL + 11) + rm.locals ≤ R.locals) (hcode : Cond.code y bytes maxL ret ∈ Ts) (hini : Cond.initialized y.cls ∈ Ts) (hl : Cond.methodLink own index y ∈ Ts)
    (hin : Cond.static y ∈ Ts) (hd : y.cls ≠ "java/lang/invoke/MethodHandle" ∧ y.cls ≠ "java/lang/invoke/VarHandle" ∧ (parseMethodDescriptor y.desc).map (fun d => d.parameters.length) = some n) : CallB R s args own index y bytes maxL ret Ts rm mc ms n ∧ (Cond.static y).before args s = true :=
  ⟨vq_cB hk hts n hrc hrs hR hcode hini hl hd, hts _ hin⟩
theorem vq_cIN {host : String} (hk : Ts.all vq_k = true) (hts : ∀ w ∈ Ts, w.before args s = true) (n : Nat) (hrc : rm.cells = mc) (hrs : rm.slots = ms) (hR : rm.frames + 1 ≤ R.frames ∧ 8 + (maxL + 11) + rm.locals ≤ R.locals) (hcode : Cond.code y bytes maxL none ∈ Ts) (hini : Cond.initialized y.cls ∈ Ts) (hl : Cond.methodLinkNest own index y host ∈ Ts)
    (hin : Cond.instanceMethod y ∈ Ts) (hnm : y.name = "<init>") (hd : y.cls ≠ "java/lang/invoke/MethodHandle" ∧ y.cls ≠ "java/lang/invoke/VarHandle" ∧ (parseMethodDescriptor y.desc).map (fun d => d.parameters.length) = some n) : va_CN R s args own index y host bytes maxL none Ts rm mc ms n ∧ y.name = "<init>" ∧ (Cond.instanceMethod y).before args s = true := by
  refine ⟨⟨⟨hrc, hrs, hR.1, hR.2, vq_all hk hts, hcode⟩, hts _ hcode, hts _ hini, ⟨hd.1, hd.2.1⟩, fun sig h => ?_, hts _ hl⟩, hnm, hts _ hin⟩
  have h2 := hd.2.2
  rw [h] at h2
  exact (Option.some.inj h2).symm
/-- a static method that has handlers, and returns -/
theorem vq_runSH {Qc : Array Value → State → Outcome → State → Prop} {free : Addr → Prop} {hh : List (Nat × Nat × Nat × Nat)} (S : CallFix p m c cc nL s args Ts own) (hM : Met l y Ts rm Pc Qc mc ms free) (hk : Ts.all vq_k = true) (hrc : rm.cells = mc) (hrs : rm.slots = ms) (hR : rm.frames + 1 ≤ R.frames ∧ 8 + (maxL + 11) + rm.locals ≤ R.locals)
    (hcode : Cond.codeWith y bytes maxL ret hh ∈ Ts) (hini : Cond.initialized y.cls ∈ Ts) (hl : Cond.methodLink own index y ∈ Ts) (hstat : Cond.static y ∈ Ts) (hd : y.cls ≠ "java/lang/invoke/MethodHandle" ∧ y.cls ≠ "java/lang/invoke/VarHandle" ∧ (parseMethodDescriptor y.desc).map (fun d => d.parameters.length) = some n)
    (hp : PreS s H Pc As) (hg : g.method = m) (hn : As.length = n) (hsize : g.locals.size = nL) (hstack : g.stack = As.reverse ++ rest) (hW : 2 * g.monitorRoom + (rest.map fun v => v.category).sum ≤ 8) (hdg : decode cc g.pc = .ok (.invokestatic index, 3)) (hf : cells + mc ≤ R.cells ∧ slots + ms ≤ R.slots) :
    va_Run p l e R s m args below meth c H locs cells slots mc ms g rest (Qc As.toArray) free := by
  obtain ⟨hexec, hb, hml, hown, hts⟩ := S
  obtain ⟨hblind, hPc⟩ := hp
  have hws := vq_all hk hts
  intro T hT X
  subst hb
  obtain ⟨mk, methM, cM, hnamed, hmethM, -, -, -, -, -, -, hsigM⟩ := Cond.codeWith_spec (hts _ hcode)
  have hstatic : methM.isStatic = true := Cond.static_spec hnamed hmethM (hts _ hstat)
  obtain ⟨kP, hkP, -⟩ := className_of_methodNamed hnamed
  have hinitP : kP.init = .initialized := Cond.initialized_spec (findClass_of_methodNamed hnamed) hkP (hts _ hini)
  have hlen : As.length = methM.sig.parameters.length := by
    have h2 := hd.2.2
    rw [hsigM] at h2
    exact hn.trans (Option.some.inj h2).symm
  obtain ⟨vm₁, X₁, hstep₁⟩ := X.invokestatic hexec hown (hts _ hl) hnamed hmethM hstatic hkP hinitP ⟨hd.1, hd.2.1⟩ (g := g) hg (argsL := As) (rest := rest) hlen hstack hdg
  have hn₁ : (T.setVm vm₁).methodNamed? y = some mk := X₁.named hnamed
  have hw₁ : s.WarmedH (T.setVm vm₁).vm := X₁.warmed
  obtain ⟨mk', methY, cY, hmk', hmY, hcY, -, hlY, -, -, -, -⟩ := Cond.codeWith_spec (hws _ hcode As.toArray (T.setVm vm₁) hw₁)
  cases Option.some.inj (hn₁.symm.trans hmk')
  obtain ⟨o, s₂, hsteps, hend, hq, L, hFE, hL⟩ := vq_go X₁ (W := 8) (maxL := maxL) (g := { g with stack := rest }) (a := As.toArray) hM hg (hsize.trans hml.symm) hdg hW hn₁ ⟨methY, cY, hmY, hcY, hlY⟩
    (hws _ hini _ _ hw₁) (atoms_intro fun w hw => hws w hw _ _ hw₁) hR.1 hR.2 (by rw [show (headSpec Ts rm).room.cells = mc from hrc]; exact hf.1) (by rw [show (headSpec Ts rm).room.slots = ms from hrs]; exact hf.2)
    (hblind _ _ _ _ (hPc (T.setVm vm₁) hT hw₁))
  obtain ⟨⟨v, rfl⟩, hW₂, hsame⟩ := hFE
  obtain ⟨X', hs₂⟩ := vq_back X₁ hW₂ hsame
  obtain ⟨c₂, i₂, len₂, hc₂, hd₂, hf₂⟩ := hend
  have hW' : (T.setVm vm₁).WarmedH s₂.vm := hW₂
  have hcc : c₂ = c := by
    have h1 : s₂.code? m = (T.setVm vm₁).code? m := by rw [State.code?_eq, State.code?_eq, hW'.alike.method?]
    have h2 : s₂.code? m = some c₂ := by rw [← hg]; exact hc₂
    exact Option.some.inj (h2.symm.trans (h1.trans X₁.here.code))
  subst hcc
  have hlen2 : len₂ = 3 := by
    have h1 : decode c₂.code g.pc = .ok (i₂, len₂) := hd₂
    rw [hdg] at h1
    cases h1
    rfl
  subst hlen2
  refine ⟨v, (T.setVm vm₁).calling { g with stack := rest } mk As.toArray, s₂, _, L, hT, X', hL, rfl, rfl, hq, fun tg htg => ?_⟩
  refine hstep₁ _ fun acts => ?_
  rw [doInvoke_state]
  refine hsteps.trans ?_
  obtain ⟨g₀, hfr⟩ := X'.frames_eq
  rw [State.setTop_of_frames _ hfr] at htg
  rw [hs₂, hf₂, X₁.tail]
  exact htg
end VQ
-- the form of all my contracts: what is asked of the start, what the end gives
abbrev vq_Pre (D : va_G) (cl : List vw_C) (sz : Nat) (ws : va_W) (tys : List (ClassId × FieldType)) (U : State) : Prop := vq_st U ∧ U.heap.size = sz ∧ va_P D cl ws U.heap ∧ va_K D cl tys U ∧ va_D (fun _ => True) ws
abbrev vq_Post (D : va_G) (cl : List vw_C) (A : Nat → Prop) (ws : va_W) (tys : List (ClassId × FieldType)) (t : State) : Prop := va_P D cl ws t.heap ∧ va_K D cl tys t ∧ va_D A ws
theorem vq_blind {D : va_G} {cl : List vw_C} {sz : Nat} {ws : va_W} {tys : List (ClassId × FieldType)} {av : List Value} : FrameBlind (va_Pc av (vq_Pre D cl sz ws tys)) := by
  intro a U g mk q
  obtain ⟨q0, qs, q1, qP, qK, qD⟩ := q
  exact ⟨q0, vq_st.moved (s := U) (U := U.calling g mk a) (Vm.Alike.refl U.vm) (fun _ _ h _ => h) qs, q1, qP, va_K.moved (u := U) (U := U.calling g mk a) (Vm.Alike.refl U.vm) qK, qD⟩
theorem vq_here {D : va_G} {cl : List vw_C} {ws : va_W} {tys : List (ClassId × FieldType)} {av : List Value} {s : State} {H : Heap} {A : Nat → Prop} {locs : List Loc} (hst : vq_st s) (hS : va_S A s.heap H locs) (hN : ∀ q : Nat, A q → ∀ cell : Cell, s.heap[q]? = some cell → cell.vm.isStatics = false)
    (hP : va_P D cl ws H) (hK : va_K D cl tys s) (hD : va_D A ws) : ∀ U : State, U.heap = H → s.WarmedH U.vm → va_Pc av (vq_Pre D cl H.size ws tys) av.toArray U := by
  intro U hU hW
  subst hU
  exact ⟨rfl, vq_st.moved hW.alike (vq_kept.of hS hN) hst, rfl, hP, va_K.moved hW.alike hK, hD.weaken (fun _ _ _ _ => trivial)⟩
theorem vq_P0 {D : va_G} {cl : List vw_C} {H : Heap} : va_P D cl [] H := fun k q h => by simp at h
theorem vq_D0 {A : Nat → Prop} : va_D A [] := ⟨fun i j p q h => by simp at h, fun k q h => by simp at h⟩
theorem vq_top {p : Program} {l : Launch} {e : Env} {R : Room} {s : State} {m : MethodId} {args : Array Value} {below : List Frame} {meth : Method} {c : Code} {H : Heap} {locs : List Loc} {cells slots : Nat} {Q : State → Prop} {pc : Nat} {ls : Array Slot} {rest : List Value} {x y : Int32} (h : x = y)
    (k : W p l e R s m args below meth c H locs cells slots Q (F0 m pc ls (.int y :: rest))) : W p l e R s m args below meth c H locs cells slots Q (F0 m pc ls (.int x :: rest)) := by rw [h]; exact k
theorem vq_topl {p : Program} {l : Launch} {e : Env} {R : Room} {s : State} {m : MethodId} {args : Array Value} {below : List Frame} {meth : Method} {c : Code} {H : Heap} {locs : List Loc} {cells slots : Nat} {Q : State → Prop} {pc : Nat} {ls : Array Slot} {rest : List Value} {x y : Int64} (h : x = y)
    (k : W p l e R s m args below meth c H locs cells slots Q (F0 m pc ls (.long y :: rest))) : W p l e R s m args below meth c H locs cells slots Q (F0 m pc ls (.long x :: rest)) := by rw [h]; exact k
theorem vq_short (L : Nat) (h : L < 6) : Int32.ofNat L - 6 < 0 := by
  have h1 : L = 0 ∨ L = 1 ∨ L = 2 ∨ L = 3 ∨ L = 4 ∨ L = 5 := by omega
  rcases h1 with rfl | rfl | rfl | rfl | rfl | rfl <;> decide
theorem vq_g4 {x : Int32} (h0 : ¬ x < 0) : (x < 4 ↔ x ≤ 3) ∧ (x < 4 → vp_in x 4) := by
  have e4 : (4 : Int32).toInt = 4 := by decide
  have e3 : (3 : Int32).toInt = 3 := by decide
  have e0 : (0 : Int32).toInt = 0 := by decide
  rw [Int32.lt_iff_toInt_lt, e0] at h0
  refine ⟨?_, fun h => ?_⟩
  · rw [Int32.lt_iff_toInt_lt, Int32.le_iff_toInt_le, e4, e3]; omega
  · rw [Int32.lt_iff_toInt_lt, e4] at h
    rw [vp_in_iff]
    omega
theorem vq_f4 {x : Int32} (e0 : ¬ x = 0) (e1 : ¬ x = 1) (e2 : ¬ x = 2) : x.toInt < 0 ∨ 2 < x.toInt := by
  have k : ∀ y : Int32, x.toInt = y.toInt → x = y := fun y h => Int32.toInt_inj.mp h
  by_cases h : x.toInt < 0
  · exact Or.inl h
  · refine Or.inr ?_
    by_cases h0 : x.toInt = 0
    · exact absurd (k 0 (h0.trans (by decide))) e0
    by_cases h1 : x.toInt = 1
    · exact absurd (k 1 (h1.trans (by decide))) e1
    by_cases h2 : x.toInt = 2
    · exact absurd (k 2 (h2.trans (by decide))) e2
    omega
