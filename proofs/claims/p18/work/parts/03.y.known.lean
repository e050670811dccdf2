theorem vq_known {args : Array Value} {s : State} (hts : ∀ w ∈ WS, w.before args s = true) : ∃ D : va_G, va_K D CL [] s := by
  obtain ⟨c0, i0, h0⟩ := u_known hts u_V (hts _ k_870)
  obtain ⟨c1, i1, h1⟩ := u_known hts u_G (hts _ k_758)
  obtain ⟨c2, i2, h2⟩ := u_known hts u_A (hts _ k_762)
  obtain ⟨c3, i3, h3⟩ := u_known hts u_E (hts _ k_740)
  obtain ⟨c4, i4, h4⟩ := u_known hts u_K (hts _ k_744)
  obtain ⟨c5, i5, h5⟩ := u_known hts u_Q (hts _ k_748)
  obtain ⟨c6, i6, h6⟩ := u_known hts u_Z (hts _ k_766)
  obtain ⟨c7, i7, h7⟩ := u_known hts u_U (hts _ k_770)
  obtain ⟨c8, i8, h8⟩ := u_known hts u_M (hts _ k_874)
  refine ⟨((fun k : Nat => match k with | 0 => c0 | 1 => c1 | 2 => c2 | 3 => c3 | 4 => c4 | 5 => c5 | 6 => c6 | 7 => c7 | _ => c8), (fun k : Nat => match k with | 0 => i0 | 1 => i1 | 2 => i2 | 3 => i3 | 4 => i4 | 5 => i5 | 6 => i6 | 7 => i7 | _ => i8)), ?_, fun k q h => by simp at h⟩
  intro c q hq
  match c, hq with
  | 0, hq => cases hq; exact h0
  | 1, hq => cases hq; exact h1
  | 2, hq => cases hq; exact h2
  | 3, hq => cases hq; exact h3
  | 4, hq => cases hq; exact h4
  | 5, hq => cases hq; exact h5
  | 6, hq => cases hq; exact h6
  | 7, hq => cases hq; exact h7
  | 8, hq => cases hq; exact h8
  | n + 9, hq => exact absurd hq (by simp [CL])
