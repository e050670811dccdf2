/-! The run by itself: a path of nodes from the one at hand up to the root. -/
def pth (t : vT) (root : Nat) : List Nat → Prop
  | [] => False
  | [h] => h = root
  | h :: m :: r => tPa t h = some m ∧ h < m ∧ pth t root (m :: r)
theorem pth_le {t : vT} {root : Nat} : ∀ r h, pth t root (h :: r) → h ≤ root ∧ (∀ x, x ∈ r → h < x) ∧ (h = root → r = []) := by
  intro r
  induction r with
  | nil => intro h hp; exact ⟨Nat.le_of_eq hp, fun x hx => absurd hx List.not_mem_nil, fun _ => rfl⟩
  | cons m r ih =>
    intro h hp
    obtain ⟨h1, h2, h3⟩ := hp
    obtain ⟨i1, i2, i3⟩ := ih m h3
    refine ⟨by omega, fun x hx => ?_, fun e => by omega⟩
    rcases List.mem_cons.mp hx with e | e
    · omega
    · have := i2 x e
      omega
theorem pth_up {t : vT} {root h : Nat} {r : List Nat} (hp : pth t root (h :: r)) (hne : h ≠ root) : ∃ m r', r = m :: r' ∧ tPa t h = some m ∧ pth t root r := by
  cases r with
  | nil => exact absurd hp hne
  | cons m r' => exact ⟨m, r', rfl, hp.1, hp.2.2⟩
/-- a run: b is the number of nodes at its start, l the path, k what is done of each node's instructions -/
def RUN (g : vA) (V : vV) (t : vT) (root b : Nat) (l : List Nat) (k : Nat → Nat) : Prop := root < b ∧ b ≤ tN t ∧ pth t root l ∧ (∀ n, n < b → k n ≤ lnP g V (tPr t n)) ∧ k root < lnP g V (tPr t root) ∧ ∀ n q c, n < b → 1 ≤ q → q < gpo g (tPr t n) → tCh t n q = some c → c ≠ root → (pst g V (tPr t n) (k n)).2 q = (pst g V (tPr t c) (k c)).2 0 + (if c ∈ l then 1 else 0)
theorem rmn_v {g : vA} {V : vV} {p : Nat} {x : pS} (h : rmn g V p x = 0) {q : Nat} (hq : q < gpo g p) : vP g V p q ≤ x.2 q := by
  have h1 : smQ (fun q => vP g V p q - x.2 q) (gpo g p) = 0 := by
    unfold rmn at h
    omega
  have := (smQ_0 _).mp h1 q hq
  omega
/-- at the node at hand there is something left -/
theorem run_hand {g : vA} (hw : wfA g) {V : vV} {O : vL} (hV : HV g V) (hO : HO g V O) {t : vT} (hT : wfT g t) {root b h : Nat} {r : List Nat} {k : Nat → Nat} (hR : RUN g V t root b (h :: r) k) : h < b ∧ h ≤ root ∧ k h < lnP g V (tPr t h) := by
  obtain ⟨r1, r2, r3, r4, r5, r6⟩ := hR
  obtain ⟨p1, p2, p3⟩ := pth_le r h r3
  refine ⟨by omega, p1, ?_⟩
  by_cases e : h = root
  · rw [e]; exact r5
  · obtain ⟨m, r', e1, e2, e3⟩ := pth_up r3 e
    obtain ⟨m1, m2, q, q1, q2, q3⟩ := hT.2.2.2.2.1 h m (by omega) e2
    have hm : m ≤ root := by
      rw [e1] at e3
      exact (pth_le r' m e3).1
    have h6 := r6 m q h (by omega) q1 q2 q3 e
    rw [if_pos (List.mem_cons_self ..)] at h6
    have hpm := hT.2.1 m (by omega)
    have hph := hT.2.1 h (by omega)
    have h5 := hw.2.2.2.2.1 _ hph
    have hi := (plan_k hw hV hO hpm (k m) (r4 m (by omega))).1.2.1 q q2
    obtain ⟨c, c1, c2, c3, c4⟩ := hT.2.2.1 m q (by omega) q1 q2
    rw [q3] at c2
    cases c2
    have ev : vP g V (tPr t m) q = vP g V (tPr t h) 0 := by
      unfold vP
      rw [c4]
    have hkh := r4 h (by omega)
    have hph2 := plan_k hw hV hO hph (k h) hkh
    by_cases e9 : k h = lnP g V (tPr t h)
    · have h0 : rmn g V (tPr t h) (pst g V (tPr t h) (k h)) = 0 := by omega
      have := rmn_v h0 (show 0 < gpo g (tPr t h) by omega)
      omega
    · omega
/-- what is not the last leaving is not the last -/
theorem not_last {g : vA} (hw : wfA g) {V : vV} {O : vL} (hV : HV g V) (hO : HO g V O) {p k : Nat} (hp : p < gnp g) (hk : k < lnP g V p) (h : (pst g V p (k + 1)).2 0 = (pst g V p k).2 0) : k + 1 < lnP g V p := by
  have h5 := hw.2.2.2.2.1 p hp
  obtain ⟨a1, a2⟩ := plan_k hw hV hO hp k (by omega)
  obtain ⟨b1, b2⟩ := plan_k hw hV hO hp (k + 1) (by omega)
  by_cases e : k + 1 = lnP g V p
  · have h0 : rmn g V p (pst g V p (k + 1)) = 0 := by omega
    have h1 := rmn_v h0 (show 0 < gpo g p by omega)
    have h2 := a1.2.1 0 (by omega)
    have h3 := a1.2.2 (by omega)
    omega
  · omega
def kup (k : Nat → Nat) (h : Nat) : Nat → Nat := fun n => if n = h then k n + 1 else k n
theorem kup_h {k : Nat → Nat} {h : Nat} : kup k h h = k h + 1 := if_pos rfl
theorem kup_n {k : Nat → Nat} {h n : Nat} (e : n ≠ h) : kup k h n = k n := if_neg e
theorem run_le {g : vA} {V : vV} {t : vT} {b h : Nat} {k : Nat → Nat} (h4 : ∀ n, n < b → k n ≤ lnP g V (tPr t n)) (hk : k h < lnP g V (tPr t h)) : ∀ n, n < b → kup k h n ≤ lnP g V (tPr t n) := fun n hn => by
  by_cases e : n = h
  · rw [e, kup_h]; omega
  · rw [kup_n e]; exact h4 n hn
/-- an instruction that sets -/
theorem run_set {g : vA} (hw : wfA g) {V : vV} {O : vL} (hV : HV g V) (hO : HO g V O) {t : vT} (hT : wfT g t) {root b h : Nat} {r : List Nat} {k : Nat → Nat} (hR : RUN g V t root b (h :: r) k) (hi : sqN g V (tPr t h) (k h) < 100) : RUN g V t root b (h :: r) (kup k h) := by
  obtain ⟨a1, a2, a3⟩ := run_hand hw hV hO hT hR
  obtain ⟨r1, r2, r3, r4, r5, r6⟩ := hR
  have hp := hT.2.1 h (by omega)
  obtain ⟨n1, n2, n3⟩ := plan_at hw hV hO hp a3
  have e2 : (pst g V (tPr t h) (k h + 1)).2 = (pst g V (tPr t h) (k h)).2 := by
    rw [n3]
    unfold apx
    rw [if_pos hi]
  have ev : ∀ n, (pst g V (tPr t n) (kup k h n)).2 = (pst g V (tPr t n) (k n)).2 := fun n => by
    by_cases e : n = h
    · rw [e, kup_h, e2]
    · rw [kup_n e]
  refine ⟨r1, r2, r3, run_le r4 a3, ?_, fun n q c hn q1 q2 q3 q4 => by rw [ev, ev]; exact r6 n q c hn q1 q2 q3 q4⟩
  by_cases e : root = h
  · rw [e, kup_h]
    exact not_last hw hV hO hp a3 (by rw [e2])
  · rw [kup_n e]; exact r5
/-- an instruction that visits the child at q -/
theorem run_visit {g : vA} (hw : wfA g) {V : vV} {O : vL} (hV : HV g V) (hO : HO g V O) {t : vT} (hT : wfT g t) {root b h : Nat} {r : List Nat} {k : Nat → Nat} (hR : RUN g V t root b (h :: r) k) {q v : Nat} (hq1 : 1 ≤ q) (hq : q < gpo g (tPr t h)) (hv : v < 100) (hi : sqN g V (tPr t h) (k h) = 100 * q + v) {c : Nat} (hc : tCh t h q = some c) : RUN g V t root b (c :: h :: r) (kup k h) := by
  obtain ⟨a1, a2, a3⟩ := run_hand hw hV hO hT hR
  obtain ⟨r1, r2, r3, r4, r5, r6⟩ := hR
  obtain ⟨p1, p2, p3⟩ := pth_le r h r3
  have hp := hT.2.1 h (by omega)
  have h5 := hw.2.2.2.2.1 _ hp
  obtain ⟨c', c1, c2, c3, c4⟩ := hT.2.2.1 h q (by omega) hq1 hq
  rw [hc] at c2
  cases c2
  obtain ⟨n1, n2, n3⟩ := plan_at hw hV hO hp a3
  have e2 : (pst g V (tPr t h) (k h + 1)).2 = fun j => if j = q then (pst g V (tPr t h) (k h)).2 j + 1 else (pst g V (tPr t h) (k h)).2 j := by
    rw [n3, hi]
    unfold apx
    rw [if_neg (by omega), if_pos (by omega), show (100 * q + v) / 100 = q by omega]
  have ev0 : ∀ n, (pst g V (tPr t n) (kup k h n)).2 0 = (pst g V (tPr t n) (k n)).2 0 := fun n => by
    by_cases e : n = h
    · rw [e, kup_h, e2]
      show (if 0 = q then _ else _) = _
      rw [if_neg (by omega)]
    · rw [kup_n e]
  refine ⟨r1, r2, ⟨c3, c1, r3⟩, run_le r4 a3, ?_, fun n j d hn j1 j2 j3 j4 => ?_⟩
  · by_cases e : root = h
    · rw [e, kup_h]
      refine not_last hw hV hO hp a3 ?_
      rw [e2]
      show (if 0 = q then _ else _) = _
      rw [if_neg (by omega)]
    · rw [kup_n e]; exact r5
  · have h6 := r6 n j d hn j1 j2 j3 j4
    have hcl : c ∉ h :: r := fun h9 => by
      rcases List.mem_cons.mp h9 with e | e
      · omega
      · have := p2 c e
        omega
    rw [ev0]
    by_cases e : n = h
    · rw [e] at h6 j2 j3 ⊢
      rw [kup_h, e2]
      show (if j = q then _ else _) = _
      by_cases ej : j = q
      · rw [ej] at j3 h6 ⊢
        rw [hc] at j3
        cases j3
        rw [if_pos rfl, h6, if_neg hcl, if_pos (List.mem_cons_self ..)]
      · have hdc : d ≠ c := fun h9 => ej (hT.2.2.2.2.2 h j q c (by omega) j1 hq1 (by omega) (by omega) (by rw [← h9]; exact j3) hc)
        rw [if_neg ej, h6]
        congr 1
        by_cases hd : d ∈ h :: r
        · rw [if_pos hd, if_pos (List.mem_cons_of_mem _ hd)]
        · rw [if_neg hd, if_neg (fun h9 => (List.mem_cons.mp h9).elim hdc hd)]
    · have hdc : d ≠ c := fun h9 => by
        obtain ⟨d', d1, d2, d3, d4⟩ := hT.2.2.1 n j (by omega) j1 j2
        rw [j3] at d2
        cases d2
        rw [h9, c3] at d3
        cases d3
        exact e rfl
      rw [kup_n e, h6]
      congr 1
      by_cases hd : d ∈ h :: r
      · rw [if_pos hd, if_pos (List.mem_cons_of_mem _ hd)]
      · rw [if_neg hd, if_neg (fun h9 => (List.mem_cons.mp h9).elim hdc hd)]
/-- leaving: at a node that is not the root -/
theorem run_leave {g : vA} (hw : wfA g) {V : vV} {O : vL} (hV : HV g V) (hO : HO g V O) {t : vT} (hT : wfT g t) {root b h : Nat} {r : List Nat} {k : Nat → Nat} (hR : RUN g V t root b (h :: r) k) (hi : 1000 ≤ sqN g V (tPr t h) (k h)) : (h ≠ root → RUN g V t root b r (kup k h)) ∧ (h = root → k h + 1 ≠ lnP g V (tPr t h) → RUN g V t root b (h :: r) (kup k h)) := by
  obtain ⟨a1, a2, a3⟩ := run_hand hw hV hO hT hR
  obtain ⟨r1, r2, r3, r4, r5, r6⟩ := hR
  obtain ⟨p1, p2, p3⟩ := pth_le r h r3
  have hp := hT.2.1 h (by omega)
  obtain ⟨n1, n2, n3⟩ := plan_at hw hV hO hp a3
  have e2 : (pst g V (tPr t h) (k h + 1)).2 = fun j => if j = 0 then (pst g V (tPr t h) (k h)).2 j + 1 else (pst g V (tPr t h) (k h)).2 j := by
    rw [n3]
    unfold apx
    rw [if_neg (by omega), if_neg (by omega)]
  have evq : ∀ n j, 1 ≤ j → (pst g V (tPr t n) (kup k h n)).2 j = (pst g V (tPr t n) (k n)).2 j := fun n j hj => by
    by_cases e : n = h
    · rw [e, kup_h, e2]
      show (if j = 0 then _ else _) = _
      rw [if_neg (by omega)]
    · rw [kup_n e]
  refine ⟨fun hne => ?_, fun he hl => ?_⟩
  · obtain ⟨m, r', em, e3, e4⟩ := pth_up r3 hne
    refine ⟨r1, r2, e4, run_le r4 a3, by rw [kup_n (fun h9 => hne h9.symm)]; exact r5, fun n j d hn j1 j2 j3 j4 => ?_⟩
    have h6 := r6 n j d hn j1 j2 j3 j4
    rw [evq n j j1, h6]
    by_cases e : d = h
    · rw [e, if_pos (List.mem_cons_self ..), kup_h, e2]
      show _ = (if 0 = 0 then _ else _) + _
      rw [if_pos rfl, if_neg (fun h9 => Nat.lt_irrefl _ (p2 h h9))]
    · rw [kup_n e]
      congr 1
      by_cases hd : d ∈ r
      · rw [if_pos hd, if_pos (List.mem_cons_of_mem _ hd)]
      · rw [if_neg hd, if_neg (fun h9 => (List.mem_cons.mp h9).elim e hd)]
  · refine ⟨r1, r2, r3, run_le r4 a3, by rw [← he, kup_h]; omega, fun n j d hn j1 j2 j3 j4 => ?_⟩
    have h6 := r6 n j d hn j1 j2 j3 j4
    rw [evq n j j1, h6, kup_n (fun h9 => j4 (h9.trans he))]
/-- the start of a run -/
theorem run_start {g : vA} (hw : wfA g) {V : vV} (hV : HV g V) {t : vT} (hT : wfT g t) {root : Nat} (hr : root < tN t) : RUN g V t root (tN t) [root] (fun _ => 0) := by
  refine ⟨hr, Nat.le_refl _, rfl, fun n _ => Nat.zero_le _, (len_28 hw hV (hT.2.1 root hr)).2, fun n q c hn q1 q2 q3 q4 => ?_⟩
  rw [if_neg (fun h9 => by
    rcases List.mem_cons.mp h9 with e | e
    · exact q4 e
    · cases e)]
  rfl
/-- a node more does not touch the run -/
theorem run_node {g : vA} (hw : wfA g) {V : vV} {t : vT} (hT : wfT g t) {p : Nat} (hp : p < gnp g) {tk : Int32} {c : Nat → Option Nat} (hc : chO g t p c) {root b : Nat} {l : List Nat} {k : Nat → Nat} (hR : RUN g V t root b l k) : RUN g V (gNode t p tk c) root b l k := by
  obtain ⟨r1, r2, r3, r4, r5, r6⟩ := hR
  have pr : ∀ n, n < b → tPr (gNode t p tk c) n = tPr t n := fun n hn => if_neg (by omega)
  have ch : ∀ n q, n < b → tCh (gNode t p tk c) n q = tCh t n q := fun n q hn => if_neg (by omega)
  have hpa : ∀ l h, pth t root (h :: l) → pth (gNode t p tk c) root (h :: l) := by
    intro l
    induction l with
    | nil => intro h hh; exact hh
    | cons m l ih =>
      intro h hh
      have hm := (pth_le l m hh.2.2).1
      refine ⟨?_, hh.2.1, ih m hh.2.2⟩
      have e1 : tPa (gNode t p tk c) h = if c 1 = some h ∨ c 2 = some h ∨ c 3 = some h then some (tN t) else tPa t h := if_neg (by have := hh.2.1; omega)
      rw [e1, if_neg (fun h9 => ?_)]
      · exact hh.1
      · have e2 := hh.1
        rcases h9 with h9 | h9 | h9
        · rw [(hc.lt hw hp (by decide) (by decide) h9).2.1] at e2; cases e2
        · rw [(hc.lt hw hp (by decide) (by decide) h9).2.1] at e2; cases e2
        · rw [(hc.lt hw hp (by decide) (by decide) h9).2.1] at e2; cases e2
  have nn : tN (gNode t p tk c) = tN t + 1 := rfl
  refine ⟨r1, by omega, ?_, fun n hn => by rw [pr n hn]; exact r4 n hn, by rw [pr root r1]; exact r5, fun n q d hn q1 q2 q3 q4 => ?_⟩
  · cases l with
    | nil => exact r3
    | cons h l => exact hpa l h r3
  · rw [ch n q hn] at q3
    rw [pr n hn] at q2 ⊢
    have hd : d < b := by
      obtain ⟨d', d1, d2, _⟩ := hT.2.2.1 n q (by omega) q1 q2
      rw [q3] at d2
      cases d2
      omega
    rw [pr d hd]
    exact r6 n q d hn q1 q2 q3 q4
