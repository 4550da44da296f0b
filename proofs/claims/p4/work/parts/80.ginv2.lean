theorem RI.gen {tc : Nat → ClassId} {ad : Nat → Nat} {F G : Nat → va_E} {st cs : Int32} {sz : Nat → Nat} {fo fa fb : Nat → Nat → Int32} (h : RI tc ad F st cs sz fo fa fb)
    (hw : ∀ u, u < 5 → (∀ k, 7 + 7 * u ≤ k → k < 10 + 7 * u → G k = F k) ∨ WKi tc ad G st (sz u) (7 + 7 * u)) (hl : ∀ u, u < 3 → (∀ k, 39 + 3 * u ≤ k → k < 42 + 3 * u → G k = F k) ∨ ∃ ow dp : Int32, isLK tc ad G (39 + 3 * u) ow dp)
    (hc : ∀ u, u < 2 → (∀ k, 49 + 2 * u ≤ k → k < 51 + 2 * u → G k = F k) ∨ isCK tc ad G (49 + 2 * u)) (e : ∀ k, (k < 3 ∨ k = 38 ∨ k = 48 ∨ 53 ≤ k ∨ ∃ u, u < 5 ∧ 3 + 7 * u ≤ k ∧ k < 7 + 7 * u) → G k = F k) : RI tc ad G st cs sz fo fa fb := by
  obtain ⟨h1, h2, h3, h4, h5, ⟨cn, h6⟩, h7, h8⟩ := h
  refine ⟨h1.cong (e 0 (by omega)) (e 1 (by omega)) (e 2 (by omega)) (e 38 (by omega)) (e 48 (by omega)), fun u hu => (h2 u hu).cong (fun k q1 q2 => e k (Or.inr (Or.inr (Or.inr (Or.inr ⟨u, hu, q1, by omega⟩))))), fun u hu => ?_, fun u hu => ?_, fun u hu => ?_, ⟨cn, h6.cong (fun k q1 q2 => e k (by omega))⟩, h7, h8⟩
  · rcases hw u hu with hh | hh
    · obtain ⟨ph, nx, rg, hw1, hw2⟩ := h3 u hu
      exact ⟨ph, nx, rg, hw1.cong (fun k q1 q2 => hh k q1 (by omega)), hw2⟩
    · exact hh
  · rcases hl u hu with hh | hh
    · obtain ⟨ow, dp, hl⟩ := h4 u hu
      exact ⟨ow, dp, hl.cong (fun k q1 q2 => hh k q1 (by omega))⟩
    · exact hh
  · rcases hc u hu with hh | hh
    · exact (h5 u hu).cong (fun k q1 q2 => hh k q1 (by omega))
    · exact hh
