/-! A PART SEEN FROM ITS OWNER -/
section UP
variable {tc : Nat → ClassId} {ad : Nat → Nat} {E1 G : Nat → va_E} {b : Nat}
theorem isCK.upA {a : Nat} (h : isCK tc (fun k => ad (b + k)) E1 a) (e : ∀ j, a ≤ j → j < a + 2 → G (b + j) = E1 j) : isCK tc ad G (b + a) := by
  obtain ⟨h0, f, h1⟩ := h
  exact ⟨(e a (by omega) (by omega)).trans h0, f, (e (a + 1) (by omega) (by omega)).trans h1⟩
theorem isCK.up (h : isCK tc (fun k => ad (b + k)) E1 0) (e : ∀ j, j < 2 → G (b + j) = E1 j) : isCK tc ad G b := h.upA (fun j _ hj => e j (by omega))
theorem isPG.up {sz : Nat} {fo fa fb : Nat → Int32} (h : isPG tc (fun k => ad (b + k)) E1 0 sz fo fa fb) (e : ∀ j, j < 4 → G (b + j) = E1 j) : isPG tc ad G b sz fo fa fb := by
  obtain ⟨h0, h1, h2, h3⟩ := h
  exact ⟨(e 0 (by omega)).trans h0, (e 1 (by omega)).trans h1, (e 2 (by omega)).trans h2, (e 3 (by omega)).trans h3⟩
theorem isWK.up {ph nx : Int32} {rg : Int64} (h : isWK tc (fun k => ad (b + k)) E1 0 ph nx rg) (e : ∀ j, j < 3 → G (b + j) = E1 j) : isWK tc ad G b ph nx rg := ⟨(e 0 (by omega)).trans h.1, h.2.upA (fun j _ hj => e j (by omega))⟩
theorem isLK.up {ow dp : Int32} (h : isLK tc (fun k => ad (b + k)) E1 0 ow dp) (e : ∀ j, j < 3 → G (b + j) = E1 j) : isLK tc ad G b ow dp := ⟨(e 0 (by omega)).trans h.1, h.2.upA (fun j _ hj => e j (by omega))⟩
theorem isTR.up {cn : Nat} {fc fk : Nat → Int32} (h : isTR tc (fun k => ad (b + k)) E1 0 cn fc fk) (e : ∀ j, j < 3 → G (b + j) = E1 j) : isTR tc ad G b cn fc fk := by
  obtain ⟨h0, h1, h2⟩ := h
  exact ⟨(e 0 (by omega)).trans h0, (e 1 (by omega)).trans h1, (e 2 (by omega)).trans h2⟩
theorem nonB.up (h : nonB tc (fun k => ad (b + k)) E1 0) (e : ∀ j, j < 5 → G (b + j) = E1 j) : nonB tc ad G b := by
  obtain ⟨fr, fp, fw, fd, ⟨h0, h1, h2, h3, h4⟩, r⟩ := h
  exact ⟨fr, fp, fw, fd, ⟨(e 0 (by omega)).trans h0, (e 1 (by omega)).trans h1, (e 2 (by omega)).trans h2, (e 3 (by omega)).trans h3, (e 4 (by omega)).trans h4⟩, r⟩
end UP
theorem nonB.upZ {tc : Nat → ClassId} {ad : Nat → Nat} {E1 G : Nat → va_E} (h : ∃ gr gp gw gd : Nat → Int32, isBK tc (fun k => ad (0 + k)) E1 0 gr gp gw gd ∧ (∀ j, j < 8 → gr j = -1) ∧ (∀ j, j < 8 → gp j = -1) ∧ (∀ j, j < 8 → gw j = -1) ∧ ∀ j, j < 40 → gd j = -1) (e : ∀ j, j < 5 → G (0 + j) = E1 j) : nonB tc ad G 0 := nonB.up (b := 0) h e
theorem MDf.back {tc : Nat → ClassId} {ad : Nat → Nat} {E E1 : Nat → va_E} {th : Int32} (h : MDf tc (fun k => ad (0 + k)) E1 th) : MDf tc ad (wU 17 (fun k => 0 + k) E E1) th := by
  obtain ⟨ic, A, J, h, r⟩ := h
  exact ⟨ic, A, J, h.back, r⟩
