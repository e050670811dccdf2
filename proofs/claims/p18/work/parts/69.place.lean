/-! The class's place and addProduction. -/
/-- k positions of the new production are placed -/
def PL (g : vA) (f : Nat → Nat) (σ0 σ : vS) (k : Nat) : Prop := σ.1 = σ0.1 ∧ (∀ a, a ≠ 2 → a ≠ 3 → a ≠ 4 → a ≠ 5 → σ.2 a = σ0.2 a) ∧ (∀ j, j < 4 * gnp g → σ.2 2 j = σ0.2 2 j) ∧ (∀ p, p ≠ gnp g → σ.2 3 p = σ0.2 3 p ∧ σ.2 4 p = σ0.2 4 p ∧ σ.2 5 p = σ0.2 5 p) ∧ (∀ q, q < k → σ.2 2 (4 * gnp g + q) = nI (f q)) ∧ (1 ≤ k → σ.2 3 (gnp g) = nI (k - 1))
  ∧ (∀ i, i < 32 → bt (σ.2 4 (gnp g)) i = (decide (i < 4 * k) && decide (i % 4 < gna g (f (i / 4)))))
  ∧ (∀ i, i < 32 → bt (σ.2 5 (gnp g)) i = (decide (i < 4 * k) && decide (i % 4 < gna g (f (i / 4))) && (gih g (f (i / 4)) (i % 4) == decide (4 ≤ i))))
theorem x_place {N : Nat} {g : vA} (hw : wfA g) {f : Nat → Nat} {σ0 σ : vS} {k : Nat} (hp : gnp g < 10) (hk : k < 4) (hf : f k < gns g) (h0 : ∀ s, s < gns g → σ0.2 0 s = nI (gna g s)) (h1 : ∀ s i, s < gns g → i < 32 → bt (σ0.2 1 s) i = gih g s i) (hPL : PL g f σ0 σ k) : Ok (f_G_place N σ (nI (gnp g)) (nI k) (nI (f k))) (fun v => PL g f σ0 v.2 (k + 1)) := by
  obtain ⟨p1, p2, p3, p4, p5, p6, p7, p8⟩ := hPL
  have h6 := hw.1
  have hn4 := hw.2.1 (f k) hf
  unfold f_G_place
  refine ok_else (nI_nm1 (by omega)) (ok_bd (bIn_nI (by omega) (by decide)) (ok_lets (fun i3 ei3 => ?_)))
  rw [nI_clamp (by omega)] at ei3
  obtain ⟨z, hz, hzb⟩ := x_all (N := N) (σ := σ) (s := f k) (n := gna g (f k)) (by omega) (by rw [p2 0 (by decide) (by decide) (by decide) (by decide)]; exact h0 (f k) hf) hn4
  refine ok_bi (ok_eq hz (P := fun q => q = (z, σ)) rfl) (fun q hq => ?_)
  rw [hq]
  dsimp only
  have hib : ∀ i, i < 32 → bt i3 i = gih g (f k) i := fun i hi => by rw [ei3, p2 1 (by decide) (by decide) (by decide) (by decide)]; exact h1 (f k) i hf hi
  have key : ∀ y : Int32, (∀ i, i < 32 → bt y i = (decide (i < gna g (f k)) && (gih g (f k) i == decide (1 ≤ k)))) → Ok (f_G_place_37 N σ (nI (gnp g)) (nI k) (nI (f k)) z y) (fun v => PL g f σ0 v.2 (k + 1)) := by
    intro y hy
    unfold f_G_place_37
    rw [show nI (gnp g) * (4 : Int32) = nI (gnp g * 4) from pk_mul (gnp g) 4, nI_add, show nI k * (4 : Int32) = nI (k * 4) from pk_mul k 4]
    refine ok_bd (bIn_nI (by omega) (by decide)) (ok_lets (fun σ7 e7 => ok_bd (bIn_nI hp (by decide)) (ok_lets (fun σ9 e9 => ok_bd (bIn_nI hp (by decide)) (ok_lets (fun i11 e11 => ok_lets (fun i12 e12 => ok_bd (bIn_nI hp (by decide)) (ok_lets (fun σ14 e14 => ok_bd (bIn_nI hp (by decide)) (ok_lets (fun i16 e16 => ok_lets (fun i17 e17 => ok_bd (bIn_nI hp (by decide)) (ok_lets (fun σ19 e19 => ok_some ?_))))))))))))))
    rw [nI_clamp (by omega)] at e7 e9 e11 e14 e16 e19
    have c4 : gnp g * 4 + k = 4 * gnp g + k := by omega
    rw [c4] at e7
    have r4 : σ19.2 4 = (sa σ9 4 (gnp g) i12).2 4 := by rw [e19, sa_2a (by decide), e14]
    have r5 : σ19.2 5 (gnp g) = i17 := by rw [e19, sa_2]
    have sh : ∀ (w : Int32) (i : Nat), i < 32 → bt (w <<< (nI (k * 4) &&& 31)) i = (decide (4 * k ≤ i) && bt w (i - 4 * k)) := by
      intro w i hi
      rw [bt_shl (by omega), decide_eq_true hi, show k * 4 = 4 * k by omega]
      by_cases h : i < 4 * k
      · rw [decide_eq_true h, decide_eq_false (show ¬ 4 * k ≤ i by omega)]; rfl
      · rw [decide_eq_false h, decide_eq_true (show 4 * k ≤ i by omega)]; rfl
    have a4 : ∀ i, i < 32 → (decide (i < 4 * k) || decide (4 * k ≤ i) && decide (i - 4 * k < gna g (f k))) = true → True := fun _ _ _ => trivial
    dsimp only
    refine ⟨by rw [e19, sa_1, e14, sa_1, e9, sa_1, e7, sa_1]; exact p1, fun a c2 c3 c4 c5 => ?_, fun j hj => ?_, fun p hpp => ⟨?_, ?_, ?_⟩, fun q hq => ?_, fun _ => ?_, fun i hi => ?_, fun i hi => ?_⟩
    · rw [e19, sa_2a c5, e14, sa_2a c4, e9, sa_2a c3, e7, sa_2a c2]; exact p2 a c2 c3 c4 c5
    · rw [e19, sa_2a (by decide), e14, sa_2a (by decide), e9, sa_2a (by decide), e7, sa_2n (by omega)]; exact p3 j hj
    · rw [e19, sa_2a (by decide), e14, sa_2a (by decide), e9, sa_2n hpp, e7, sa_2a (by decide)]; exact (p4 p hpp).1
    · rw [e19, sa_2a (by decide), e14, sa_2n hpp, e9, sa_2a (by decide), e7, sa_2a (by decide)]; exact (p4 p hpp).2.1
    · rw [e19, sa_2n hpp, e14, sa_2a (by decide), e9, sa_2a (by decide), e7, sa_2a (by decide)]; exact (p4 p hpp).2.2
    · rw [e19, sa_2a (by decide), e14, sa_2a (by decide), e9, sa_2a (by decide), e7]
      by_cases e : q = k
      · rw [e, sa_2]
      · rw [sa_2n (by omega)]; exact p5 q (by omega)
    · rw [e19, sa_2a (by decide), e14, sa_2a (by decide), e9, sa_2]; rfl
    · have o11 : i11 = σ.2 4 (gnp g) := by rw [e11, e9, sa_2a (by decide), e7, sa_2a (by decide)]
      rw [r4, sa_2, e12, bt_or, o11, p7 i hi, sh z i hi]
      by_cases h : i < 4 * k
      · rw [decide_eq_true h, decide_eq_true (show i < 4 * (k + 1) by omega), decide_eq_false (show ¬ 4 * k ≤ i by omega), Bool.false_and, Bool.or_false]
      · rw [decide_eq_false h, decide_eq_true (show 4 * k ≤ i by omega), hzb (i - 4 * k) (by omega), Bool.false_and, Bool.false_or, Bool.true_and]
        by_cases h2 : i < 4 * (k + 1)
        · rw [decide_eq_true h2, show i / 4 = k by omega, show i % 4 = i - 4 * k by omega, Bool.true_and]
        · rw [decide_eq_false h2, decide_eq_false (show ¬ i - 4 * k < gna g (f k) by omega), Bool.false_and]
    · have o16 : i16 = σ.2 5 (gnp g) := by rw [e16, e14, sa_2a (by decide), e9, sa_2a (by decide), e7, sa_2a (by decide)]
      rw [r5, e17, bt_or, o16, p8 i hi, sh y i hi]
      by_cases h : i < 4 * k
      · rw [decide_eq_true h, decide_eq_true (show i < 4 * (k + 1) by omega), decide_eq_false (show ¬ 4 * k ≤ i by omega), Bool.false_and, Bool.or_false]
      · rw [decide_eq_false h, decide_eq_true (show 4 * k ≤ i by omega), hy (i - 4 * k) (by omega), Bool.false_and, Bool.false_and, Bool.false_or, Bool.true_and]
        by_cases h2 : i < 4 * (k + 1)
        · have e9 : decide (4 ≤ i) = decide (1 ≤ k) := by
            by_cases h3 : 1 ≤ k
            · rw [decide_eq_true h3, decide_eq_true (show 4 ≤ i by omega)]
            · rw [decide_eq_false h3, decide_eq_false (show ¬ 4 ≤ i by omega)]
          rw [decide_eq_true h2, show i / 4 = k by omega, show i % 4 = i - 4 * k by omega, Bool.true_and, e9]
        · rw [decide_eq_false h2, decide_eq_false (show ¬ i - 4 * k < gna g (f k) by omega), Bool.false_and, Bool.false_and, Bool.false_and]
  refine ok_if (fun hk0 => key _ (fun i hi => ?_)) (fun hk0 => key _ (fun i hi => ?_))
  · have e0 : k = 0 := (nI_eq (a := k) (b := 0) (by omega) (by decide)).mp hk0
    rw [bt_and, hzb i hi, bt_not hi, hib i hi, e0]
    cases gih g (f 0) i <;> simp
  · have e0 : 1 ≤ k := by
      by_cases h : k = 0
      · exact absurd (by rw [h]; rfl) hk0
      · omega
    rw [hib i hi, decide_eq_true e0]
    cases h9 : gih g (f k) i
    · simp
    · rw [decide_eq_true (hw.2.2.1 (f k) i hf h9)]; rfl
