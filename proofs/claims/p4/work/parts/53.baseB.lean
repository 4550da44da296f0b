/-! SHAPES BY ANOTHER TABLE OF ADDRESSES -/
section SHA
variable {tc : Nat → ClassId} {ad bd : Nat → Nat} {F G : Nat → va_E} {b : Nat}
theorem isCK.congA (h : isCK tc ad F b) (e : ∀ k, b ≤ k → k < b + 2 → bd k = ad k) : isCK tc bd F b := ⟨by rw [e (b + 1) (by omega) (by omega)]; exact h.1, h.2⟩
theorem isPG.congA {sz : Nat} {fo fa fb : Nat → Int32} (h : isPG tc ad F b sz fo fa fb) (e : ∀ k, b ≤ k → k < b + 4 → bd k = ad k) : isPG tc bd F b sz fo fa fb := ⟨by rw [e (b + 1) (by omega) (by omega), e (b + 2) (by omega) (by omega), e (b + 3) (by omega) (by omega)]; exact h.1, h.2⟩
theorem isWK.congA {ph nx : Int32} {rg : Int64} (h : isWK tc ad F b ph nx rg) (e : ∀ k, b ≤ k → k < b + 3 → bd k = ad k) : isWK tc bd F b ph nx rg := ⟨by rw [e (b + 1) (by omega) (by omega)]; exact h.1, h.2.congA (fun k h1 h2 => e k (by omega) (by omega))⟩
theorem isLK.congA {ow dp : Int32} (h : isLK tc ad F b ow dp) (e : ∀ k, b ≤ k → k < b + 3 → bd k = ad k) : isLK tc bd F b ow dp := ⟨by rw [e (b + 1) (by omega) (by omega)]; exact h.1, h.2.congA (fun k h1 h2 => e k (by omega) (by omega))⟩
theorem isTR.congA {cn : Nat} {fc fk : Nat → Int32} (h : isTR tc ad F b cn fc fk) (e : ∀ k, b ≤ k → k < b + 3 → bd k = ad k) : isTR tc bd F b cn fc fk := ⟨by rw [e (b + 1) (by omega) (by omega), e (b + 2) (by omega) (by omega)]; exact h.1, h.2⟩
theorem isBK.congA {fr fp fw fd : Nat → Int32} (h : isBK tc ad F b fr fp fw fd) (e : ∀ k, b ≤ k → k < b + 5 → bd k = ad k) : isBK tc bd F b fr fp fw fd := ⟨by rw [e (b + 1) (by omega) (by omega), e (b + 2) (by omega) (by omega), e (b + 3) (by omega) (by omega), e (b + 4) (by omega) (by omega)]; exact h.1, h.2⟩
theorem nonB.congA (h : nonB tc ad F b) (e : ∀ k, b ≤ k → k < b + 5 → bd k = ad k) : nonB tc bd F b := by
  obtain ⟨fr, fp, fw, fd, h, r⟩ := h
  exact ⟨fr, fp, fw, fd, h.congA e, r⟩
theorem isRW.congA {st cs : Int32} (h : isRW tc ad F st cs) (e : ∀ k, k < 66 → bd k = ad k) : isRW tc bd F st cs := by
  obtain ⟨h0, ⟨g1, h1, i1⟩, ⟨g2, h2, i2⟩, ⟨g3, h3, i3⟩, ⟨g4, h4, i4⟩⟩ := h
  exact ⟨by rw [e 1 (by decide), e 2 (by decide), e 38 (by decide), e 48 (by decide), e 53 (by decide), e 56 (by decide), e 61 (by decide)]; exact h0, ⟨g1, h1, fun t ht => by rw [e _ (by omega)]; exact i1 t ht⟩, ⟨g2, h2, fun t ht => by rw [e _ (by omega)]; exact i2 t ht⟩, ⟨g3, h3, fun t ht => by rw [e _ (by omega)]; exact i3 t ht⟩, ⟨g4, h4, fun t ht => by rw [e _ (by omega)]; exact i4 t ht⟩⟩
theorem RWf.congA (h : RWf tc ad F) (e : ∀ k, k < 66 → bd k = ad k) : RWf tc bd F := by
  obtain ⟨h1, h2, h3, h4, h5, ⟨fc, fk, h6⟩, h7, h8⟩ := h
  exact ⟨h1.congA e, fun t ht => by obtain ⟨a, b, c, h⟩ := h2 t ht; exact ⟨a, b, c, h.congA (fun k q1 q2 => e k (by omega))⟩, fun t ht => (h3 t ht).congA (fun k q1 q2 => e k (by omega)), fun t ht => (h4 t ht).congA (fun k q1 q2 => e k (by omega)), fun t ht => (h5 t ht).congA (fun k q1 q2 => e k (by omega)), ⟨fc, fk, h6.congA (fun k q1 q2 => e k (by omega))⟩, h7.congA (fun k q1 q2 => e k (by omega)), h8.congA (fun k q1 q2 => e k (by omega))⟩
end SHA
theorem f67_eq {k : Nat} (hk : k < 66) : f67 k = k := if_pos hk
theorem RWf.at67 {tc : Nat → ClassId} {ad : Nat → Nat} {F : Nat → va_E} (h : RWf tc ad F) : RWf tc (fun k => ad (f67 k)) (fun k => F (f67 k)) := (h.congA (bd := fun k => ad (f67 k)) (fun k hk => by show ad (f67 k) = ad k; rw [f67_eq hk])).cong (fun k hk => by show F (f67 k) = F k; rw [f67_eq hk])
theorem h29 {L : Nat} (hL : L ≤ 5) (h : ¬ L = 5) : Int32.ofNat L - 5 < 0 := by
  rcases (by omega : L = 0 ∨ L = 1 ∨ L = 2 ∨ L = 3 ∨ L = 4) with rfl | rfl | rfl | rfl | rfl <;> decide
