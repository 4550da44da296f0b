/-! NUMBERS: 0 .. n-1 by a Bool; booleans as ints -/
def wi (t : Int32) (n : Nat) : Bool := decide (0 ≤ t.toInt ∧ t.toInt < n)
def bi (b : Bool) : Int32 := if b = true then 1 else 0
theorem bi_t {b : Bool} (h : ¬ bi b = 0) : b = true := by cases b <;> simp_all [bi]
theorem bi_f {b : Bool} (h : bi b = 0) : b = false := by cases b <;> simp_all [bi]
theorem bi_n (b : Bool) : narrow .boolean (.int (bi b)) = .int (bi b) := by cases b <;> decide
theorem wi_of {t : Int32} {n : Nat} (hn : n < 2 ^ 31) (h : wi t n = true) : ∃ j, j < n ∧ t = nI j := vp_in_of (vp_in_iff.mpr (by simpa [wi] using h)) hn
theorem wi_nI {j n : Nat} (hj : j < n) (hn : n < 2 ^ 31) : wi (nI j) n = true := by
  have := nI_toInt (n := j) (by omega)
  simp [wi, this]
  omega
theorem wi_t {t N : Int32} {n : Nat} (hN : N.toInt = n) (h1 : ¬ t < 0) (h2 : ¬ N ≤ t) : wi t n = true := by
  rw [Int32.lt_iff_toInt_lt, Int32.toInt_zero] at h1
  rw [Int32.le_iff_toInt_le, hN] at h2
  simp [wi]
  omega
theorem wi_f1 {t : Int32} {n : Nat} (h1 : t < 0) : wi t n = false := by
  rw [Int32.lt_iff_toInt_lt, Int32.toInt_zero] at h1
  simp [wi]
  omega
theorem wi_f2 {t N : Int32} {n : Nat} (hN : N.toInt = n) (h2 : N ≤ t) : wi t n = false := by
  rw [Int32.le_iff_toInt_le, hN] at h2
  simp [wi]
  omega
/-- what a names for the op o -/
def nmd (o a : Int32) : Bool := if o = 0 ∨ o = 1 then wi a 8 else if o = 2 ∨ o = 3 then wi a 3 else if o = 4 ∨ o = 5 then wi a 2 else if o = 6 ∨ o = 7 then wi a 5 else true
theorem sw8 {x : Int32} (h : ¬ (x.toInt < 0 ∨ 7 < x.toInt)) : x = 0 ∨ x = 1 ∨ x = 2 ∨ x = 3 ∨ x = 4 ∨ x = 5 ∨ x = 6 ∨ x = 7 := by
  have h1 : ∃ j, j < 8 ∧ x = nI j := vp_in_of (vp_in_iff.mpr ⟨by omega, by omega⟩) (by decide)
  obtain ⟨j, hj, rfl⟩ := h1
  have : j = 0 ∨ j = 1 ∨ j = 2 ∨ j = 3 ∨ j = 4 ∨ j = 5 ∨ j = 6 ∨ j = 7 := by omega
  rcases this with rfl | rfl | rfl | rfl | rfl | rfl | rfl | rfl <;> decide
theorem nmd_hi {x a : Int32} (h : 7 < x.toInt) : nmd x a = true := by
  have h' : ∀ k : Int32, k.toInt ≤ 7 → x ≠ k := fun k hk e => by rw [e] at h; omega
  simp [nmd, h' 0 (by decide), h' 1 (by decide), h' 2 (by decide), h' 3 (by decide), h' 4 (by decide), h' 5 (by decide), h' 6 (by decide), h' 7 (by decide)]
theorem nmd_ne {x a : Int32} (h0 : ¬ x = 0) (h1 : ¬ x = 1) (h2 : ¬ x = 2) (h3 : ¬ x = 3) (h4 : ¬ x = 4) (h5 : ¬ x = 5) (h6 : ¬ x = 6) (h7 : ¬ x = 7) : nmd x a = true := by simp [nmd, h0, h1, h2, h3, h4, h5, h6, h7]
theorem wi13_lo {x : Int32} (h : x.toInt < 0) : wi x 13 = false := by simp [wi]; omega
theorem wi13_hi {x : Int32} (h1 : ¬ x < 8) (h2 : ¬ 12 < x) : wi x 13 = true := by
  rw [Int32.lt_iff_toInt_lt] at h1 h2
  have e1 : (8 : Int32).toInt = 8 := by decide
  have e2 : (12 : Int32).toInt = 12 := by decide
  simp [wi]; omega
theorem wi13_b {x : Int32} (h : 12 < x) : wi x 13 = false := by
  rw [Int32.lt_iff_toInt_lt] at h
  have e2 : (12 : Int32).toInt = 12 := by decide
  simp [wi]; omega
theorem wi_sw {x : Int32} (h : x.toInt < 0 ∨ 7 < x.toInt) (h1 : x < 8) : x.toInt < 0 := by
  rw [Int32.lt_iff_toInt_lt] at h1
  have e1 : (8 : Int32).toInt = 8 := by decide
  omega
theorem wi_sw2 {x : Int32} (h : x.toInt < 0 ∨ 7 < x.toInt) (h1 : ¬ x < 8) : 7 < x.toInt := by
  rw [Int32.lt_iff_toInt_lt] at h1
  have e1 : (8 : Int32).toInt = 8 := by decide
  omega
theorem wi_0 (k : Int32) : wi k 0 = false := by
  have : ¬ (0 ≤ k.toInt ∧ k.toInt < ((0 : Nat) : Int)) := by omega
  exact decide_eq_false this
theorem z_eq {k : Int32} (h1 : ¬ k < 0) (h2 : k ≤ nI 0) : k = 0 := by
  apply Int32.toInt_inj.mp
  rw [Int32.lt_iff_toInt_lt, Int32.toInt_zero] at h1
  rw [Int32.le_iff_toInt_le] at h2
  have : (nI 0).toInt = 0 := by decide
  have h0 : (0 : Int32).toInt = 0 := by decide
  omega
theorem z_ne1 {k : Int32} (h1 : k < 0) : ¬ k = 0 := fun h => by rw [h] at h1; exact absurd h1 (by decide)
theorem z_ne2 {k : Int32} (h1 : ¬ k ≤ nI 0) : ¬ k = 0 := fun h => by rw [h] at h1; exact h1 (by decide)
