set_option maxRecDepth 100000 in
theorem at_V_IllegalStateException_m : ∀ w ∈ Bundle.ownAtoms "VisitGrammar" 60 "java/lang/IllegalStateException" up_names, w ∈ WS ∨ w ∈ vq_sw := by decide +kernel
theorem at_V_IllegalStateException {args : Array Value} {s : State} (hts : ∀ w ∈ WS, w.before args s = true) (hst : vq_st s) : ∀ w ∈ Bundle.ownAtoms "VisitGrammar" 60 "java/lang/IllegalStateException" up_names, w.before args s = true := fun w hw => (at_V_IllegalStateException_m w hw).elim (hts w) (hst.use w)
set_option maxRecDepth 100000 in
theorem at_V_IndexOutOfBoundsException_m : ∀ w ∈ Bundle.ownAtoms "VisitGrammar" 94 "java/lang/IndexOutOfBoundsException" up_names, w ∈ WS ∨ w ∈ vq_sw := by decide +kernel
theorem at_V_IndexOutOfBoundsException {args : Array Value} {s : State} (hts : ∀ w ∈ WS, w.before args s = true) (hst : vq_st s) : ∀ w ∈ Bundle.ownAtoms "VisitGrammar" 94 "java/lang/IndexOutOfBoundsException" up_names, w.before args s = true := fun w hw => (at_V_IndexOutOfBoundsException_m w hw).elim (hts w) (hst.use w)
set_option maxRecDepth 100000 in
theorem at_V_IllegalArgumentException_m : ∀ w ∈ Bundle.ownAtoms "VisitGrammar" 49 "java/lang/IllegalArgumentException" up_names, w ∈ WS ∨ w ∈ vq_sw := by decide +kernel
theorem at_V_IllegalArgumentException {args : Array Value} {s : State} (hts : ∀ w ∈ WS, w.before args s = true) (hst : vq_st s) : ∀ w ∈ Bundle.ownAtoms "VisitGrammar" 49 "java/lang/IllegalArgumentException" up_names, w.before args s = true := fun w hw => (at_V_IllegalArgumentException_m w hw).elim (hts w) (hst.use w)
set_option maxRecDepth 100000 in
theorem at_V_UnsupportedOperationException_m : ∀ w ∈ Bundle.ownAtoms "VisitGrammar" 124 "java/lang/UnsupportedOperationException" up_names, w ∈ WS ∨ w ∈ vq_sw := by decide +kernel
theorem at_V_UnsupportedOperationException {args : Array Value} {s : State} (hts : ∀ w ∈ WS, w.before args s = true) (hst : vq_st s) : ∀ w ∈ Bundle.ownAtoms "VisitGrammar" 124 "java/lang/UnsupportedOperationException" up_names, w.before args s = true := fun w hw => (at_V_UnsupportedOperationException_m w hw).elim (hts w) (hst.use w)
