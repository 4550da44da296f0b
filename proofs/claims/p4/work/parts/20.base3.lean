/-! THE REFERENCE'S CELLS: the object, its sixteen arrays -/
def isMD (tc : Nat → ClassId) (ad : Nat → Nat) (F : Nat → va_E) (th st ic cn : Int32) (A : Nat → Nat → Int32) (J : Nat → Int64) : Prop :=
  F 0 = .inr (7, [.int th, .int st, .int ic, .ref (ad 1), .ref (ad 2), .ref (ad 3), .ref (ad 4), .ref (ad 5), .ref (ad 6), .ref (ad 7), .ref (ad 8), .ref (ad 9), .int cn, .ref (ad 10), .ref (ad 11), .ref (ad 12), .ref (ad 13), .ref (ad 14), .ref (ad 15), .ref (ad 16)]) ∧
  F 1 = .inl (tc 0, 5, .inl (A 1)) ∧ F 2 = .inl (tc 0, 60, .inl (A 2)) ∧ F 3 = .inl (tc 0, 60, .inl (A 3)) ∧ F 4 = .inl (tc 0, 60, .inl (A 4)) ∧ F 5 = .inl (tc 0, 5, .inl (A 5)) ∧ F 6 = .inl (tc 0, 5, .inl (A 6)) ∧ F 7 = .inl (tc 0, 5, .inl (A 7)) ∧
  F 8 = .inl (tc 0, 3, .inl (A 8)) ∧ F 9 = .inl (tc 0, 3, .inl (A 9)) ∧ F 10 = .inl (tc 0, 200, .inl (A 10)) ∧ F 11 = .inl (tc 0, 200, .inl (A 11)) ∧ F 12 = .inl (tc 0, 200, .inl (A 12)) ∧ F 13 = .inl (tc 2, 200, .inl (A 13)) ∧ F 14 = .inl (tc 1, 800, .inr (.inl J)) ∧ F 15 = .inl (tc 0, 8, .inl (A 15)) ∧ F 16 = .inl (tc 0, 8, .inl (A 16))
/-- the reference, new or cleared -/
def MDf (tc : Nat → ClassId) (ad : Nat → Nat) (F : Nat → va_E) (th : Int32) : Prop := ∃ (ic : Int32) (A : Nat → Nat → Int32) (J : Nat → Int64), isMD tc ad F th 0 ic 0 A J ∧ (∀ t, t < 5 → A 1 t = 0) ∧ (∀ t, t < 8 → A 15 t = -1) ∧ (∀ t, t < 8 → A 16 t = -1) ∧ (∀ t, t < 3 → A 8 t = -1) ∧ (∀ t, t < 3 → A 9 t = 0)
/-! BAD PROGRAMS -/
def badI (ow : Int32) (n : Nat) (o a b : Int32) : Bool := (decide (o = 12) && !(wi b n)) || (decide (o = 6 ∨ o = 7) && decide (a = ow ∨ a = 0))
theorem bad_1 {ow o a b : Int32} {n : Nat} (h : o = 12) (hw : wi b n = false) : badI ow n o a b = true := by simp [badI, h, hw]
theorem bad_2 {ow o a b : Int32} {n : Nat} (h : o = 6 ∨ o = 7) (h2 : a = ow ∨ a = 0) : badI ow n o a b = true := by simp [badI, h, h2]
theorem bad_n {ow o a b : Int32} {n : Nat} (h12 : o = 12 → wi b n = true) (h67 : (o = 6 ∨ o = 7) → ¬ a = ow ∧ ¬ a = 0) : badI ow n o a b = false := by
  have e1 : (decide (o = 12) && !(wi b n)) = false := by
    by_cases h : o = 12
    · rw [h12 h]; simp
    · simp [h]
  have e2 : (decide (o = 6 ∨ o = 7) && decide (a = ow ∨ a = 0)) = false := by
    by_cases h : o = 6 ∨ o = 7
    · obtain ⟨q1, q2⟩ := h67 h; simp [q1, q2]
    · simp [h]
  simp only [badI, e1, e2, Bool.or_false]
def pgBad (ow : Int32) (sz : Nat) (fo fa fb : Nat → Int32) : Bool := (List.range sz).any fun n => badI ow n (fo n) (fa n) (fb n)
theorem any_t {P : Nat → Bool} {n i : Nat} (hi : i < n) (h : P i = true) : (List.range n).any P = true := List.any_eq_true.mpr ⟨i, List.mem_range.mpr hi, h⟩
theorem any_f {P : Nat → Bool} {n : Nat} (h : ∀ i, i < n → P i = false) : (List.range n).any P = false := by
  rw [Bool.eq_false_iff]
  intro q
  obtain ⟨i, h1, h2⟩ := List.any_eq_true.mp q
  rw [h i (List.mem_range.mp h1)] at h2
  cases h2
def allBad (sz : Nat → Nat) (fo fa fb : Nat → Nat → Int32) : Bool := ((List.range 5).any fun t => pgBad (nI t) (sz t) (fo t) (fa t) (fb t)) || decide (sz 0 = 0)
theorem wi_lt {b : Int32} {n : Nat} (hn : n < 2 ^ 31) (h1 : ¬ b < 0) (h2 : b < nI n) : wi b n = true := wi_t (N := nI n) (nI_toInt hn) h1 (fun q => by rw [Int32.lt_iff_toInt_lt] at h2; rw [Int32.le_iff_toInt_le] at q; omega)
theorem wi_nlt {b : Int32} {n : Nat} (hn : n < 2 ^ 31) (h2 : ¬ b < nI n) : wi b n = false := wi_f2 (N := nI n) (nI_toInt hn) (by rw [Int32.lt_iff_toInt_lt] at h2; rw [Int32.le_iff_toInt_le]; omega)
theorem isMD.back {tc : Nat → ClassId} {ad : Nat → Nat} {E E1 : Nat → va_E} {th st ic cn : Int32} {A : Nat → Nat → Int32} {J : Nat → Int64} (h : isMD tc (fun k => ad (0 + k)) E1 th st ic cn A J) : isMD tc ad (wU 17 (fun k => 0 + k) E E1) th st ic cn A J := by
  have e : ∀ k, k < 17 → wU 17 (fun k => 0 + k) E E1 k = E1 k := fun k hk => by
    have := wU_own (m := 17) (b := 0) (F := E) (E1 := E1) k hk
    rwa [Nat.zero_add] at this
  simp only [Nat.zero_add] at h
  unfold isMD
  rw [e 0 (by decide), e 1 (by decide), e 2 (by decide), e 3 (by decide), e 4 (by decide), e 5 (by decide), e 6 (by decide), e 7 (by decide), e 8 (by decide), e 9 (by decide), e 10 (by decide), e 11 (by decide), e 12 (by decide), e 13 (by decide), e 14 (by decide), e 15 (by decide), e 16 (by decide)]
  exact h
