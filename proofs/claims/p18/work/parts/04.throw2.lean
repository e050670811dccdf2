/-! Throwing once more, with what the state is behind it. -/
def vq_TQ2 (E : String) (A : Nat → Prop) (B : State → Prop) (mc ms : Nat) (st : State) (o : Outcome) (t : State) : Prop :=
  ∃ (x : Addr) (ce : Cell) (L : List Loc), o = .threw x ∧ st.WarmedH t.vm ∧ va_F A st t ∧ t.heap[x]? = some ce ∧ ce.vm = .none ∧ st.vm.findClass E = some ce.cls ∧ st.sameButNew ({ t with vm := st.vm } : State) L mc ms ∧ (∀ q ∈ L, A q.base) ∧ B t
def vq_T2 (l : Launch) (y : MethodName) (ws : List Cond) (rm : Room) (Pc : Array Value → State → Prop) (E : String) (A : Nat → Prop) (B : State → Prop) (mc ms : Nat) : Prop :=
  MetFree l y (headSpec ws rm) Pc (fun _ _ _ _ _ => True) (fun _ st o t => vq_TQ2 E A B mc ms st o t)
def vq_MQ2 (below : List Frame) (E : String) (A : Nat → Prop) (B : State → Prop) (s : State) (mc ms : Nat) : State → Prop := fun t => ∃ o, t.status = .running ∧ Ended t below o ∧ vq_TQ2 E A B mc ms s o t
theorem vq_ofT2 {l : Launch} {y : MethodName} {ws : List Cond} {rm : Room} {Pc : Array Value → State → Prop} {E : String} {A : Nat → Prop} {B : State → Prop} {mc ms : Nat} {cc : ByteArray} {maxL : Nat} {ret : Option FieldType}
    (hy : plainName y.cls = true) (his : ∀ args (s : State) m, (headSpec ws rm).pre.before args s = true → s.methodNamed? y = some m → ∃ meth c, s.vm.method? m = some meth ∧ meth.code = some c ∧ c.code = cc ∧ c.maxLocals = maxL ∧ meth.sig.returnType = ret ∧ meth.locks = false)
    (body : ∀ p e s m args below meth c s₁, BodyLoose p l y (headSpec ws rm) cc maxL ret e s m args below meth c s₁ → c.maxLocals = maxL → Pc args s →
      W p l e (headSpec ws rm).room s m args below meth c s.heap [] 0 0 (vq_MQ2 below E A B s mc ms) (entryFrame m args maxL)) : vq_T2 l y ws rm Pc E A B mc ms := by
  refine MetFree.of_bodyS (code := cc) (maxLocals := maxL) (ret := ret) hy his ?_
  intro p e s m args below meth c s₁ B hml hP _
  have hh0 : s₁.heap = s.heap := by rw [B.state]; rfl
  obtain ⟨t, a1, o, b1, b2, b3⟩ := body p e s m args below meth c s₁ B hml hP s₁ hh0 (Stand.of_body B)
  exact ⟨t, o, a1, b1, b2, b3⟩
theorem vq_sbn {a b : State} {F : List Frame} {L : List Loc} {k n : Nat} (h : (a.setFrames F).sameButNew b L k n) : a.sameButNew b L k n := by
  obtain ⟨e1, r⟩ := h
  rw [State.setFrames_setFrames] at e1
  exact ⟨e1, r⟩
section VQ2
variable {p : Program} {l : Launch} {e : Env} {R : Room} {s : State} {m : MethodId} {args : Array Value} {below : List Frame} {meth : Method} {c : Code} {T : State} {locs : List Loc} {cells slots : Nat}
/-- the walk, taken up anew at the point where it stands: as if the invocation had begun with this heap -/
theorem vq_anew (X : Stand p l e R s m args below meth c T locs cells slots) {k n : Nat} (hc : cells + k ≤ R.cells) (hs : slots + n ≤ R.slots) :
    Stand p l e { frames := R.frames, cells := k, slots := n, locals := R.locals } ((T.setVm s.vm).setFrames (.invoking m args :: below)) m args below meth c T [] 0 0 := by
  obtain ⟨g₀, hfr⟩ := X.frames_eq
  have hcur : (T.setVm s.vm).cur < (T.setVm s.vm).threads.size := State.cur_lt_of_frames (s := T) hfr
  obtain ⟨th, hth, -⟩ := State.frames_cons (s := T) hfr
  have hF : ((T.setVm s.vm).setFrames (.invoking m args :: below)).frames = .invoking m args :: below := State.frames_setFrames _ hcur
  have hLim : e.platform.stackLimits ((T.setVm s.vm).setFrames (.invoking m args :: below)).me = e.platform.stackLimits s.me := by rw [State.stackLimits_setFrames]; exact X.limits
  have hByt : ((T.setVm s.vm).setFrames (.invoking m args :: below)).me.stackBytes = s.me.stackBytes := by rw [State.stackBytes_setFrames]; exact X.bytes
  have hUse : ((T.setVm s.vm).setFrames (.invoking m args :: below)).localsInUse = s.localsInUse := by
    rw [State.localsInUse_invoking X.frames X.method X.code]
    exact State.localsInUse_invoking hF X.method X.code
  refine { admits := X.admits, cas := X.cas, clock := X.clock, frames := hF, room := ?_, hears := X.hears, method := X.method, code := X.code, here := X.here, tail := X.tail, warmed := X.warmed, limits := ?_, bytes := ?_, same := ?_ }
  · have h0 := X.room
    unfold State.hasRoom at h0 ⊢
    simp only [Bool.and_eq_true, decide_eq_true_eq] at h0 ⊢
    rw [hUse, hF, hLim, hByt]
    rw [X.frames] at h0
    have z1 := X.heapSize
    have z2 := X.used
    refine ⟨⟨⟨⟨h0.1.1.1.1, h0.1.1.1.2⟩, ?_⟩, ?_⟩, X.book⟩
    · have z3 := h0.1.1.2
      show T.heap.size + k ≤ e.platform.maxCells
      omega
    · have z3 := h0.1.2
      show T.slotsUsed + n ≤ e.platform.maxSlots
      omega
  · rw [hLim]; exact X.limits
  · rw [hByt]; exact X.bytes
  · have h1 : (T.setVm s.vm).sameButNew (T.setVm s.vm) [] 0 0 := State.sameButNew.refl _ (x := th) hth
    obtain ⟨-, r⟩ := h1
    refine ⟨?_, r⟩
    rw [State.setFrames_setFrames]
    show T.setVm s.vm = { (T.setVm s.vm).setFrames (T.setVm s.vm).frames with heap := T.heap, slotsUsed := T.slotsUsed }
    rw [State.setFrames_self (s := T.setVm s.vm) hth]
    rfl
variable {H : Heap} {cc bytes : ByteArray} {nL maxL index n mc ms : Nat} {Ts ws : List Cond} {own C E : String} {y : MethodName} {ret : Option FieldType} {rm : Room} {Pc : Array Value → State → Prop} {A1 : Nat → Prop} {Bc : State → Prop} {b : Addr} {As rest : List Value} {g : JFrame}
variable {Q : State → Prop} {A A0 : Nat → Prop} {H0 : Heap} {pc : Nat} {ls : Array Slot} {st0 : List Value} {B : State → Prop}
theorem vq_throw2 (hexec : p.tables.exec = Jvm.exec) (hb : c.code = cc) (hl : l.stackTraces = false) {cls text : String} {names : List String} {ik ic is : Nat} (hown : s.vm.findClass own = some m.cls) (hcls : Bundle.fit cls = true) (hnames : ∀ n ∈ names, Bundle.fit n = true)
    (hat : ∀ u : State, u.vm = s.vm → vq_st u → ∀ a ∈ Bundle.ownAtoms own ic cls names, a.before args u = true) (hst : vq_st s) (hkl : ∀ u : State, u.vm = s.vm → (Cond.classLink own ik cls).before args u = true ∧ (Cond.initialized cls).before args u = true ∧ (Cond.stringRef own is text).before args u = true)
    (hS : va_S A s.heap H locs) (hA : ∀ q, s.heap.size ≤ q → A q) (hN : ∀ q : Nat, A q → ∀ cell : Cell, s.heap[q]? = some cell → cell.vm.isStatics = false) (hno : c.exceptionTable.toList = []) (hlocks : meth.locks = false)
    (hR : cells + 1 ≤ R.cells ∧ slots + 6 ≤ R.slots ∧ cells + 1 ≤ mc ∧ slots + 6 ≤ ms ∧ names.length + 3 < R.frames ∧ (rest.map fun v => v.category).sum + (13 * (names.length + 1) + 43) ≤ R.locals) (hsz : ls.size = c.maxLocals)
    (hB : ∀ t : State, H.size ≤ t.heap.size → (∀ (q : Nat) (cell : Cell), H[q]? = some cell → t.heap[q]? = some cell) → s.WarmedH t.vm → B t)
    (d0 : decode cc pc = .ok (.new ik, 3)) (d3 : decode cc (pc + 3) = .ok (.dup, 1)) (d4 : decode cc (pc + 3 + 1) = .ok (.ldc is, 2)) (d6 : decode cc (pc + 3 + 1 + 2) = .ok (.invokespecial ic, 3)) (d9 : decode cc (pc + 3 + 1 + 2 + 3) = .ok (.athrow, 1)) :
    W p l e R s m args below meth c H locs cells slots (vq_MQ2 below cls A B s mc ms) (F0 m pc ls rest) := by
  obtain ⟨hc1, hs1, hmc, hms, hfr, hlo⟩ := hR
  intro T hT X
  subst hT
  have Y := vq_anew X hc1 hs1
  have htr : e.platform.stackTraces = false := (show e.platform.stackTraces = l.stackTraces by rw [X.admits.platform]).trans hl
  generalize hu : (T.setVm s.vm).setFrames (.invoking m args :: below) = u at Y
  have huv : u.vm = s.vm := by rw [← hu]; rfl
  have huh : u.heap = T.heap := by rw [← hu]; rfl
  have hstu : vq_st u := vq_st.moved (s := s) (U := u) (by rw [huv]; exact Vm.Alike.refl _) (by rw [huh]; exact vq_kept.of hS hN) hst
  have hwd := hat u huv hstu
  obtain ⟨k1, k2, k3⟩ := hkl u huv
  have howu : u.vm.findClass own = some m.cls := by rw [huv]; exact hown
  obtain ⟨vm1, cC, kC, h1, h2, h3, h4, Y1, st1⟩ := Y.newCold hexec howu k1 (hwd (.instantiable cls 6) (by simp [Bundle.ownAtoms])) k2 (g := F0 m pc ls rest) rfl (by rw [hb]; exact d0) (Nat.le_refl 1) (Nat.le_refl 6)
  have W1 : W p l e { frames := R.frames, cells := 1, slots := 6, locals := R.locals } u m args below meth c ((T.setVm vm1).pushCell { cls := cC, slots := kC.instanceTypes.map defaultValue, vm := .none }).heap [] (0 + 1) (0 + 6) (fun t => ∃ ce, t.status = .running ∧ Ended t below (.threw T.heap.size) ∧ u.WarmedH t.vm ∧ t.heap[T.heap.size]? = some ce ∧ ce.vm = .none ∧ u.vm.findClass cls = some ce.cls ∧ u.sameButNew ({ t with vm := u.vm } : State) [] (0 + 1) (0 + 6)) (F0 m (pc + 3) ls (.ref T.heap.size :: rest)) := by
    refine lv_dup hexec hb d3 rfl ?_
    intro T2 hT2 X2
    obtain ⟨k5, cf5, i5, a, -, -, -, -, -, hev⟩ := Cond.stringRef_spec howu k3
    have st2 := X2.ldcString hexec howu k3 hev (g := F0 m (pc + 3 + 1) ls (.ref T.heap.size :: .ref T.heap.size :: rest)) rfl (by rw [hb]; exact d4)
    have hcell : T2.heap[T.heap.size]? = some (freshCell cC kC) := by rw [hT2]; simp [State.pushCell, freshCell]
    have hcat : 2 * (F0 m (pc + 3 + 1 + 2) ls (.ref a :: .ref T.heap.size :: .ref T.heap.size :: rest)).monitorRoom + ((Value.ref T.heap.size :: rest).map fun v => v.category).sum + (13 * (names.length + 1) + 42) ≤ R.locals := by
      have h0 : (F0 m (pc + 3 + 1 + 2) ls (.ref a :: .ref T.heap.size :: .ref T.heap.size :: rest)).monitorRoom = 0 := rfl
      have h9 : (Value.ref T.heap.size).category = 1 := rfl
      rw [h0, List.map_cons, List.sum_cons, h9]
      omega
    obtain ⟨U, st, hrun, hend, hW, hsame, ce, hce, hO⟩ := X2.ctorThrowS hexec htr howu hcls hnames hwd (fun x hx => by cases hx) h1 h2 hcell (Nat.le_of_eq (by rw [huh])) (msg := .ref a) rfl (g := F0 m (pc + 3 + 1 + 2) ls (.ref a :: .ref T.heap.size :: .ref T.heap.size :: rest)) rfl hsz rfl rfl (rest := rest) rfl
      (by rw [hb]; exact d6) (by rw [hb]; exact d9) (by rw [hno]; intro z hz; cases hz) hfr hcat hlocks
    exact ⟨U, st2 _ st, ce, hrun, hend, hW, hce, hO.vm, hO.cls, hsame⟩
  obtain ⟨U, stU, ce, hrun, hend, hW, hce, hcv, hcc, hsame⟩ := W1 _ rfl Y1
  have hW' : s.WarmedH U.vm := by
    have h9 := hW
    rw [← hu] at h9
    exact h9
  have hkeep : ∀ (q : Nat) (cell : Cell), T.heap[q]? = some cell → U.heap[q]? = some cell := fun q cell hq => by
    have h9 : u.heap[q]? = some cell := by rw [huh]; exact hq
    exact hsame.kept_off (fun i hi => by cases hi) h9
  have hsize : T.heap.size ≤ U.heap.size := by
    have h9 := hsame.2.1
    rw [huh] at h9
    exact h9
  have hsm : s.sameButNew ({ U with vm := s.vm } : State) (locs ++ []) (cells + (0 + 1)) (slots + (0 + 6)) := by
    have h9 : (T.setVm s.vm).sameButNew ({ U with vm := s.vm } : State) [] (0 + 1) (0 + 6) := by
      rw [huv] at hsame
      rw [← hu] at hsame
      exact vq_sbn hsame
    exact X.same.trans h9
  rw [List.append_nil] at hsm
  refine ⟨U, st1 _ stU, .threw T.heap.size, hrun, hend, T.heap.size, ce, locs, rfl, hW', ⟨Nat.le_trans hS.1 hsize, fun q hq hnA => ?_⟩, hce, hcv, by rw [← huv]; exact hcc, hsm.mono (by omega) (by omega), hS.2.2, hB U hsize hkeep hW'⟩
  have hqT : q < T.heap.size := Nat.lt_of_lt_of_le hq hS.1
  rw [← hS.2.1 q hq hnA]
  have hg : T.heap[q]? = some T.heap[q] := Array.getElem?_eq_getElem hqT
  rw [hg]
  exact hkeep q _ hg
def vq_TRun2 (p : Program) (l : Launch) (e : Env) (R : Room) (s : State) (m : MethodId) (args : Array Value) (below : List Frame) (meth : Method) (c : Code) (H : Heap) (locs : List Loc) (cells slots mc ms : Nat) (g : JFrame) (rest : List Value) (E : String) (A1 : Nat → Prop) (Bc : State → Prop) : Prop :=
  ∀ T : State, T.heap = H → Stand p l e R s m args below meth c T locs cells slots → ∃ (x : Addr) (ce : Cell) (T' t9 : State) (L : List Loc), Stand p l e R s m args below meth c T' (locs ++ L) (cells + mc) (slots + ms) ∧ (∀ q ∈ L, A1 q.base) ∧ H.size ≤ T'.heap.size ∧ (∀ q : Nat, q < H.size → ¬ A1 q → T'.heap[q]? = H[q]?) ∧
    T'.heap[x]? = some ce ∧ ce.vm = .none ∧ s.vm.findClass E = some ce.cls ∧ t9.heap = T'.heap ∧ s.vm.Alike t9.vm ∧ Bc t9 ∧ Steps p.tables e below (T.setTop g) ((T'.setTop { g with stack := rest }).pushFrame (.throwing x))
theorem vq_runT2 (S : CallFix p m c cc nL s args Ts own) (hM : vq_T2 l y ws rm Pc E A1 Bc mc ms) (cw : CallW R s args own C index y bytes maxL ret ws rm mc ms n) (hp : PreV s H C b Pc As)
    (hg : g.method = m) (hn : As.length = n) (hsize : g.locals.size = nL) (hstack : g.stack = As.reverse ++ .ref b :: rest) (hW : 2 * g.monitorRoom + (rest.map fun v => v.category).sum ≤ 8) (hdg : decode cc g.pc = .ok (.invokevirtual index, 3)) (hf : cells + mc ≤ R.cells ∧ slots + ms ≤ R.slots) :
    vq_TRun2 p l e R s m args below meth c H locs cells slots mc ms g rest E A1 Bc := by
  obtain ⟨⟨hrc, hrs, hfr, hlo, hws, hcw, hcode, hini, hy, hlen, hlink⟩, hinst, hsel⟩ := cw
  obtain ⟨hblind, ⟨cellB, hcell, hobj, hcls⟩, hPc⟩ := hp
  obtain ⟨hexec, hb, hml, hown, -⟩ := S
  intro T hT X
  subst hb
  obtain ⟨mk, methM, hnamed, hmethM, hstM, habM⟩ := Cond.instanceMethod_spec hinst
  obtain ⟨methM', cM, hmethM', -, -, -, -, -, -, hsigM⟩ := Cond.code_spec hnamed hcode
  cases hmethM.symm.trans hmethM'
  obtain ⟨c2, r2, m2, q1, q2, q3, q4, kP, hkP, hkPi⟩ := Cond.selects_spec hsel
  cases hcls.symm.trans q1
  cases (State.methodFound?_of_named hnamed hy).symm.trans q2
  cases hnamed.symm.trans q3
  have hselP : selectMethod e.platform s.vm cellB.cls mk = .method mk := by rw [Launch.admits_selectMethod X.admits]; exact q4
  obtain ⟨vm₁, X₁, hstep₁⟩ := X.invokevirtual hexec hown hlink hnamed hmethM hstM hkP hkPi hy (a := b) (cell := cellB) (by rw [hT]; exact hcell)
    (fun z h => by rw [h] at hobj; cases hobj) hselP hmethM habM hkP hkPi (g := g) hg (argsL := As) (rest := rest) (hn.trans (hlen _ hsigM)) hstack hdg
  have hn₁ : (T.setVm vm₁).methodNamed? y = some mk := X₁.named hnamed
  have hw₁ : s.WarmedH (T.setVm vm₁).vm := X₁.warmed
  obtain ⟨methY, cY, hmY, hcY, -, hlY, -, -, -, -⟩ := Cond.code_spec hn₁ (hws _ hcw (Value.ref b :: As).toArray (T.setVm vm₁) hw₁)
  obtain ⟨o, s₂, hsteps, hend, x, ce, L, rfl, hW₂, hF, hce, hvm, hfc, hsame, hL, hBt⟩ := vq_go X₁ (W := 8) (maxL := maxL) (g := { g with stack := rest }) (a := (Value.ref b :: As).toArray) hM hg (hsize.trans hml.symm) hdg hW hn₁ ⟨methY, cY, hmY, hcY, hlY⟩
    (word_at hw₁ (Or.inl (by first | rfl | simp [Cond.onTables, Cond.keeps, Cond.steady])) hini) (atoms_intro fun w hw => hws w hw _ _ hw₁) hfr hlo (by rw [show (headSpec ws rm).room.cells = mc from hrc]; exact hf.1) (by rw [show (headSpec ws rm).room.slots = ms from hrs]; exact hf.2)
    (hblind _ _ _ _ (hPc (T.setVm vm₁) hT hw₁))
  obtain ⟨X', hs₂⟩ := vq_back X₁ hW₂ hsame
  have hal : s.vm.Alike vm₁ := X₁.warmed.alike
  refine ⟨x, ce, _, s₂, L, X', hL, ?_, ?_, hce, hvm, ?_, rfl, X'.warmed.alike, hBt, ?_⟩
  · have h1 := hF.1
    have h2 : ((T.setVm vm₁).calling { g with stack := rest } mk (Value.ref b :: As).toArray).heap.size = H.size := by rw [← hT]; rfl
    rw [h2] at h1
    exact h1
  · intro q hq hA
    have h2 : ((T.setVm vm₁).calling { g with stack := rest } mk (Value.ref b :: As).toArray).heap = H := hT
    have h1 := hF.2 q (by rw [h2]; exact hq) hA
    rw [h2] at h1
    exact h1
  · have h1 : vm₁.findClass E = some ce.cls := hfc
    rw [hal.findClass] at h1
    exact h1
  · refine hstep₁ _ fun acts => ?_
    rw [doInvoke_state]
    have h3 : s₂.frames = .throwing x :: .java { g with stack := rest } :: below := by
      have h4 : s₂.frames = .throwing x :: .java { g with stack := rest } :: (T.setVm vm₁).frames.tail := hend
      rw [h4, X₁.tail]
    rw [vq_note X', ← h3, ← hs₂]
    exact hsteps
theorem vq_pass2 {mk1 ms1 : Nat} (hr : vq_TRun2 p l e R s m args below meth c H locs cells slots mk1 ms1 (F0 m pc ls st0) rest E A1 Bc) (hS : va_S A s.heap H locs) (hA : ∀ q, A1 q → A q) (hno : c.exceptionTable.toList = []) (hlocks : meth.locks = false) (hc : cells + mk1 ≤ mc) (hs : slots + ms1 ≤ ms) (hB : ∀ t t' : State, t.heap = t'.heap → s.vm.Alike t.vm → s.vm.Alike t'.vm → Bc t → B t') :
    W p l e R s m args below meth c H locs cells slots (vq_MQ2 below E A B s mc ms) (F0 m pc ls st0) := by
  intro T hT X
  obtain ⟨x, ce, T', t9, L, X', hL, hz, hk, hce, hvm, hfc, hh9, hv9, hB9, st⟩ := hr T hT X
  obtain ⟨st1, hrun, hend, hW, hsm⟩ := X'.leaveThrown x (g := { F0 m pc ls st0 with stack := rest }) rfl rfl rfl (by rw [hno]; intro z hz; cases hz) hlocks
  have hS' : va_S A s.heap T'.heap (locs ++ L) := vq_S hS hA hL hz hk
  exact ⟨_, st.trans st1, .threw x, hrun, hend, x, ce, locs ++ L, rfl, hW, ⟨hS'.1, hS'.2.1⟩, hce, hvm, hfc, hsm.mono hc hs, hS'.2.2, hB t9 _ hh9 hv9 hW.alike hB9⟩
/-- an exception that lies over this method's own frame, caught by the row x of its table -/
theorem vq_caught {T T' : State} {name : String} {q : Addr} {ce : Cell} (X' : Stand p l e R s m args below meth c T' locs cells slots) (hce : T'.heap[q]? = some ce) (hvm : ce.vm = .none) (hfc : s.vm.findClass E = some ce.cls) (st : Steps p.tables e below (T.setTop (F0 m pc ls st0)) ((T'.setTop { F0 m pc ls st0 with stack := rest }).pushFrame (.throwing q))) (hown : s.vm.findClass own = some m.cls)
    (pre : List ExceptionTableEntry) (x : ExceptionTableEntry) (suf : List ExceptionTableEntry) (hsplit : c.exceptionTable.toList = pre ++ x :: suf)
    (hpass : ∀ z ∈ pre, covers z pc = false ∨ (z.catchType ≠ 0 ∧ ∃ nm : String, (Cond.classLink own z.catchType nm).before args s = true ∧ va_Nc E nm s)) (hx : covers x pc = true) (h0 : x.catchType ≠ 0)
    (hlink : (Cond.classLink own x.catchType name).before args s = true) (hcast : (Cond.castable E name).before args s = true)
    (hk9 : W p l e R s m args below meth c T'.heap locs cells slots Q (F0 m x.handlerPc ls [.ref q])) : ∃ t, Steps p.tables e below (T.setTop (F0 m pc ls st0)) t ∧ Q t := by
  have hpl : e.platform.magicAccessors = ({} : Platform).magicAccessors := by rw [X'.admits.platform]
  obtain ⟨c3, c4, hc3, hc4, hasg⟩ := Cond.castable_spec hcast
  cases Option.some.inj (hc3.symm.trans hfc)
  obtain ⟨c5, hc5, hcl5⟩ := Cond.classLink_spec hown hlink e.platform hpl
  cases Option.some.inj (hc4.symm.trans hc5)
  have hk0 : ∃ k, s.vm.classes[ce.cls]? = some k := by obtain ⟨k9, h9, -⟩ := Vm.findClass_spec hfc; exact ⟨k9, h9⟩
  obtain ⟨vm', hW', hq⟩ := vq_search (e := e) (s := s) (f := F0 m pc ls rest) (a := q) (cell := ce) (by rw [hvm]; intro k h; cases h) hk0 x suf hx h0 hcl5 hasg pre ((T'.setTop (F0 m pc ls rest)).pushFrame (.throwing q)) X'.warmed hce
    (fun z hz => by
      rcases hpass z hz with h | ⟨hz0, nm, hl1, a8, b8, h1, h2, h3⟩
      · exact Or.inl h
      · obtain ⟨c6, hc6, hcl6⟩ := Cond.classLink_spec hown hl1 e.platform hpl
        cases Option.some.inj (h1.symm.trans hfc)
        cases Option.some.inj (h2.symm.trans hc6)
        exact Or.inr ⟨hz0, _, hcl6, h3⟩)
  have X2 := X'.noted hW'
  obtain ⟨t, a1, b1⟩ := hk9 (T'.setVm vm') rfl X2
  refine ⟨t, st.trans ?_, b1⟩
  have h : At T' (F0 m pc ls rest).method c below := X'.here
  obtain ⟨hgo, hw⟩ := h.throwing q
  refine Steps.head hgo hw ?_
  have hfind : ∀ (Q : Handler → Pre) (E : CtlPost) (d : Bool) (acts : List Action), wp (findHandler (F0 m pc ls rest) q) Q E e d acts ((T'.setTop (F0 m pc ls rest)).pushFrame (.throwing q)) ↔ Q (.found x.handlerPc) d acts (((T'.setTop (F0 m pc ls rest)).pushFrame (.throwing q)).setVm vm') := by
    intro Q E d acts
    rw [W.findHandler_eq (meth := meth) (code := c) X'.method' X'.code, hsplit]
    exact hq Q E d acts
  have hstep : (stepThrowing e ((T'.setTop (F0 m pc ls rest)).pushFrame (.throwing q)) q (.java (F0 m pc ls rest) :: below)).Is ((((T'.setTop (F0 m pc ls rest)).pushFrame (.throwing q)).setVm vm').setFrames (.java { F0 m pc ls rest with pc := x.handlerPc, stack := [.ref q] } :: below)) [] := by
    simp only [stepThrowing, searchFrame, vmDo]
    generalize hr9 : Sem.go _ e false [] _ = res
    obtain ⟨as, rfl, ha⟩ := Sem.eq_ok_of hr9 (a := Handler.found x.handlerPc) (s' := ((T'.setTop (F0 m pc ls rest)).pushFrame (.throwing q)).setVm vm') (acts' := []) (by simp [hfind _ _ _ _])
    exact ⟨rfl, ha⟩
  rw [stepThread_throwing (frames_entered h.top _), X'.tail, hstep.1]
  obtain ⟨g₀, hfr⟩ := X2.frames_eq
  rw [State.setTop_of_frames _ hfr] at a1
  rw [vq_note X', vq_sfv]
  exact a1
theorem vq_catch2 {mk1 ms1 : Nat} {name : String} (hr : vq_TRun2 p l e R s m args below meth c H locs cells slots mk1 ms1 (F0 m pc ls st0) rest E A1 Bc) (hS : va_S A0 H0 H locs) (hA : ∀ q, A1 q → A0 q) (hown : s.vm.findClass own = some m.cls)
    (pre : List ExceptionTableEntry) (x : ExceptionTableEntry) (suf : List ExceptionTableEntry) (hsplit : c.exceptionTable.toList = pre ++ x :: suf)
    (hpass : ∀ z ∈ pre, covers z pc = false ∨ (z.catchType ≠ 0 ∧ ∃ nm : String, (Cond.classLink own z.catchType nm).before args s = true ∧ va_Nc E nm s)) (hx : covers x pc = true) (h0 : x.catchType ≠ 0)
    (hlink : (Cond.classLink own x.catchType name).before args s = true) (hcast : (Cond.castable E name).before args s = true)
    (kk : ∀ (q : Addr) (t9 : State) (H1 : Heap) (locs1 : List Loc), t9.heap = H1 → s.vm.Alike t9.vm → Bc t9 → H.size ≤ H1.size → (∀ q : Nat, q < H.size → ¬ A1 q → H1[q]? = H[q]?) → va_S A0 H0 H1 locs1 → W p l e R s m args below meth c H1 locs1 (cells + mk1) (slots + ms1) Q (F0 m x.handlerPc ls [.ref q])) :
    W p l e R s m args below meth c H locs cells slots Q (F0 m pc ls st0) := by
  intro T hT X
  obtain ⟨q, ce, T', t9, L, X', hL, hz, hk, hce, hvm, hfc, hh9, hv9, hB9, st⟩ := hr T hT X
  exact vq_caught X' hce hvm hfc st hown pre x suf hsplit hpass hx h0 hlink hcast (kk q t9 T'.heap (locs ++ L) hh9 hv9 hB9 hz hk (vq_S hS hA hL hz hk))
end VQ2
