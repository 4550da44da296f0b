/-! SHAPES: the parts of a RaceWatch, each from its first cell on -/
theorem wU_far {m b k : Nat} {F E1 : Nat → va_E} (h : k < b ∨ b + m ≤ k) : wU m (fun k => b + k) F E1 k = F k := wU_off (fun j hj => by show b + j ≠ k; omega)
theorem wU_own {m b : Nat} {F E1 : Nat → va_E} (j : Nat) (hj : j < m) : wU m (fun k => b + k) F E1 (b + j) = E1 j := wU_at (f := fun k => b + k) (fr_inj m b) hj
def isCK (tc : Nat → ClassId) (ad : Nat → Nat) (F : Nat → va_E) (b : Nat) : Prop := F b = .inr (0, [.ref (ad (b + 1))]) ∧ ∃ f : Nat → Int32, F (b + 1) = .inl (tc 0, 5, .inl f)
def isPG (tc : Nat → ClassId) (ad : Nat → Nat) (F : Nat → va_E) (b sz : Nat) (fo fa fb : Nat → Int32) : Prop := F b = .inr (2, [.ref (ad (b + 1)), .ref (ad (b + 2)), .ref (ad (b + 3)), .int (nI sz)]) ∧ F (b + 1) = .inl (tc 0, 12, .inl fo) ∧ F (b + 2) = .inl (tc 0, 12, .inl fa) ∧ F (b + 3) = .inl (tc 0, 12, .inl fb)
def isWK (tc : Nat → ClassId) (ad : Nat → Nat) (F : Nat → va_E) (b : Nat) (ph nx : Int32) (rg : Int64) : Prop := F b = .inr (5, [.ref (ad (b + 1)), .int ph, .int nx, .long rg]) ∧ isCK tc ad F (b + 1)
def isLK (tc : Nat → ClassId) (ad : Nat → Nat) (F : Nat → va_E) (b : Nat) (ow dp : Int32) : Prop := F b = .inr (1, [.ref (ad (b + 1)), .int ow, .int dp]) ∧ isCK tc ad F (b + 1)
def isTR (tc : Nat → ClassId) (ad : Nat → Nat) (F : Nat → va_E) (b cn : Nat) (fc fk : Nat → Int32) : Prop := F b = .inr (4, [.ref (ad (b + 1)), .ref (ad (b + 2)), .int (nI cn)]) ∧ F (b + 1) = .inl (tc 0, 200, .inl fc) ∧ F (b + 2) = .inl (tc 0, 1000, .inl fk)
def isBK (tc : Nat → ClassId) (ad : Nat → Nat) (F : Nat → va_E) (b : Nat) (fr fp fw fd : Nat → Int32) : Prop := F b = .inr (3, [.ref (ad (b + 1)), .ref (ad (b + 2)), .ref (ad (b + 3)), .ref (ad (b + 4))]) ∧ F (b + 1) = .inl (tc 0, 8, .inl fr) ∧ F (b + 2) = .inl (tc 0, 8, .inl fp) ∧ F (b + 3) = .inl (tc 0, 8, .inl fw) ∧ F (b + 4) = .inl (tc 0, 40, .inl fd)
section SHC
variable {tc : Nat → ClassId} {ad : Nat → Nat} {F G : Nat → va_E} {b : Nat}
theorem isCK.cong (h : isCK tc ad F b) (e : ∀ k, b ≤ k → k < b + 2 → G k = F k) : isCK tc ad G b := by
  obtain ⟨h0, f, h1⟩ := h
  exact ⟨by rw [e _ (by omega) (by omega)]; exact h0, f, by rw [e _ (by omega) (by omega)]; exact h1⟩
theorem isPG.cong {sz : Nat} {fo fa fb : Nat → Int32} (h : isPG tc ad F b sz fo fa fb) (e : ∀ k, b ≤ k → k < b + 4 → G k = F k) : isPG tc ad G b sz fo fa fb := by
  obtain ⟨h0, h1, h2, h3⟩ := h
  exact ⟨by rw [e _ (by omega) (by omega)]; exact h0, by rw [e _ (by omega) (by omega)]; exact h1, by rw [e _ (by omega) (by omega)]; exact h2, by rw [e _ (by omega) (by omega)]; exact h3⟩
theorem isWK.cong {ph nx : Int32} {rg : Int64} (h : isWK tc ad F b ph nx rg) (e : ∀ k, b ≤ k → k < b + 3 → G k = F k) : isWK tc ad G b ph nx rg := ⟨by rw [e _ (by omega) (by omega)]; exact h.1, h.2.cong (fun k h1 h2 => e k (by omega) (by omega))⟩
theorem isLK.cong {ow dp : Int32} (h : isLK tc ad F b ow dp) (e : ∀ k, b ≤ k → k < b + 3 → G k = F k) : isLK tc ad G b ow dp := ⟨by rw [e _ (by omega) (by omega)]; exact h.1, h.2.cong (fun k h1 h2 => e k (by omega) (by omega))⟩
theorem isTR.cong {cn : Nat} {fc fk : Nat → Int32} (h : isTR tc ad F b cn fc fk) (e : ∀ k, b ≤ k → k < b + 3 → G k = F k) : isTR tc ad G b cn fc fk := by
  obtain ⟨h0, h1, h2⟩ := h
  exact ⟨by rw [e _ (by omega) (by omega)]; exact h0, by rw [e _ (by omega) (by omega)]; exact h1, by rw [e _ (by omega) (by omega)]; exact h2⟩
theorem isBK.cong {fr fp fw fd : Nat → Int32} (h : isBK tc ad F b fr fp fw fd) (e : ∀ k, b ≤ k → k < b + 5 → G k = F k) : isBK tc ad G b fr fp fw fd := by
  obtain ⟨h0, h1, h2, h3, h4⟩ := h
  exact ⟨by rw [e _ (by omega) (by omega)]; exact h0, by rw [e _ (by omega) (by omega)]; exact h1, by rw [e _ (by omega) (by omega)]; exact h2, by rw [e _ (by omega) (by omega)]; exact h3, by rw [e _ (by omega) (by omega)]; exact h4⟩
end SHC
/-- the outer cells of a RaceWatch: the object, its four arrays -/
def isRW (tc : Nat → ClassId) (ad : Nat → Nat) (F : Nat → va_E) (st cs : Int32) : Prop := F 0 = .inr (6, [.ref (ad 1), .ref (ad 2), .ref (ad 38), .ref (ad 48), .ref (ad 53), .ref (ad 56), .ref (ad 61), .int st, .int cs]) ∧
  (∃ g : Nat → Option Nat, F 1 = .inl (tc 3, 5, .inr (.inr (.inr (.inr g)))) ∧ ∀ t, t < 5 → g t = some (ad (3 + 7 * t))) ∧ (∃ g : Nat → Option Nat, F 2 = .inl (tc 4, 5, .inr (.inr (.inr (.inr g)))) ∧ ∀ t, t < 5 → g t = some (ad (7 + 7 * t))) ∧
  (∃ g : Nat → Option Nat, F 38 = .inl (tc 5, 3, .inr (.inr (.inr (.inr g)))) ∧ ∀ t, t < 3 → g t = some (ad (39 + 3 * t))) ∧ (∃ g : Nat → Option Nat, F 48 = .inl (tc 6, 2, .inr (.inr (.inr (.inr g)))) ∧ ∀ t, t < 2 → g t = some (ad (49 + 2 * t)))
theorem isRW.cong {tc : Nat → ClassId} {ad : Nat → Nat} {F G : Nat → va_E} {st cs : Int32} (h : isRW tc ad F st cs) (e0 : G 0 = F 0) (e1 : G 1 = F 1) (e2 : G 2 = F 2) (e3 : G 38 = F 38) (e4 : G 48 = F 48) : isRW tc ad G st cs := by
  unfold isRW
  rw [e0, e1, e2, e3, e4]
  exact h
/-- any RaceWatch behind its constructor -/
def RWx (tc : Nat → ClassId) (ad : Nat → Nat) (F : Nat → va_E) (st cs : Int32) : Prop := isRW tc ad F st cs ∧ (∀ t, t < 5 → ∃ (sz : Nat) (fo fa fb : Nat → Int32), isPG tc ad F (3 + 7 * t) sz fo fa fb) ∧ (∀ t, t < 5 → ∃ (ph nx : Int32) (rg : Int64), isWK tc ad F (7 + 7 * t) ph nx rg) ∧
  (∀ t, t < 3 → ∃ ow dp : Int32, isLK tc ad F (39 + 3 * t) ow dp) ∧ (∀ t, t < 2 → isCK tc ad F (49 + 2 * t)) ∧ (∃ (cn : Nat) (fc fk : Nat → Int32), isTR tc ad F 53 cn fc fk) ∧ (∃ fr fp fw fd : Nat → Int32, isBK tc ad F 56 fr fp fw fd) ∧ (∃ fr fp fw fd : Nat → Int32, isBK tc ad F 61 fr fp fw fd)
def nonB (tc : Nat → ClassId) (ad : Nat → Nat) (F : Nat → va_E) (b : Nat) : Prop := ∃ fr fp fw fd : Nat → Int32, isBK tc ad F b fr fp fw fd ∧ (∀ j, j < 8 → fr j = -1) ∧ (∀ j, j < 8 → fp j = -1) ∧ (∀ j, j < 8 → fw j = -1) ∧ ∀ j, j < 40 → fd j = -1
theorem nonB.cong {tc : Nat → ClassId} {ad : Nat → Nat} {F G : Nat → va_E} {b : Nat} (h : nonB tc ad F b) (e : ∀ k, b ≤ k → k < b + 5 → G k = F k) : nonB tc ad G b := by
  obtain ⟨fr, fp, fw, fd, h, r⟩ := h
  exact ⟨fr, fp, fw, fd, h.cong e, r⟩
/-- a RaceWatch that is new, or cleared -/
def RWf (tc : Nat → ClassId) (ad : Nat → Nat) (F : Nat → va_E) : Prop := isRW tc ad F 0 0 ∧ (∀ t, t < 5 → ∃ fo fa fb : Nat → Int32, isPG tc ad F (3 + 7 * t) 0 fo fa fb) ∧ (∀ t, t < 5 → isWK tc ad F (7 + 7 * t) 0 0 0) ∧
  (∀ t, t < 3 → isLK tc ad F (39 + 3 * t) (-1) 0) ∧ (∀ t, t < 2 → isCK tc ad F (49 + 2 * t)) ∧ (∃ fc fk : Nat → Int32, isTR tc ad F 53 0 fc fk) ∧ nonB tc ad F 56 ∧ nonB tc ad F 61
theorem RWf.x {tc : Nat → ClassId} {ad : Nat → Nat} {F : Nat → va_E} (h : RWf tc ad F) : RWx tc ad F 0 0 := by
  obtain ⟨h1, h2, h3, h4, h5, ⟨fc, fk, h6⟩, ⟨a1, a2, a3, a4, h7, -⟩, ⟨b1, b2, b3, b4, h8, -⟩⟩ := h
  exact ⟨h1, fun t ht => ⟨0, h2 t ht⟩, fun t ht => ⟨0, 0, 0, h3 t ht⟩, fun t ht => ⟨-1, 0, h4 t ht⟩, h5, ⟨0, fc, fk, h6⟩, ⟨a1, a2, a3, a4, h7⟩, ⟨b1, b2, b3, b4, h8⟩⟩
def addOk (st : Int32) (sz : Nat → Nat) (t op a : Int32) : Bool := decide (st = 0) && (wi t 5 && (decide (sz t.toNatClampNeg < 12) && (wi op 13 && nmd op a)))
