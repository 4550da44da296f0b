/-! the reference's isBad: its flags -/
theorem flagA {v1 : Int32} {a b c : Bool} (hv : v1 = bi (a || b)) (h : ¬ v1 = 0) : (1 : Int32) = bi (a || (b || c)) := by
  rw [hv] at h
  have h2 := bi_t h
  rw [← Bool.or_assoc, h2]; rfl
theorem flagB {v1 v5 : Int32} {a b x y : Bool} (_hv : v1 = bi (a || b)) (e5 : v5 = bi x) (h : ¬ v5 = 0) : (1 : Int32) = bi (a || (b || (x || y))) := by
  rw [e5] at h
  rw [bi_t h, Bool.true_or, Bool.or_true, Bool.or_true]; rfl
theorem flagC {v1 v6 : Int32} {a b x y : Bool} (_hv : v1 = bi (a || b)) (e6 : v6 = bi y) (h : ¬ v6 = 0) : (1 : Int32) = bi (a || (b || (x || y))) := by
  rw [e6] at h
  rw [bi_t h, Bool.or_true, Bool.or_true, Bool.or_true]; rfl
theorem flagD {v1 v5 v6 : Int32} {a b x y : Bool} (hv : v1 = bi (a || b)) (e5 : v5 = bi x) (e6 : v6 = bi y) (h1 : v1 = 0) (h5 : v5 = 0) (h6 : v6 = 0) : (0 : Int32) = bi (a || (b || (x || y))) := by
  rw [hv] at h1; rw [e5] at h5; rw [e6] at h6
  rw [← Bool.or_assoc, bi_f h1, bi_f h5, bi_f h6]; rfl
theorem awayN1 {o b : Int32} {k : Nat} (h : ¬ o = 12) : (0 : Int32) = bi (decide (o = 12) && !(wi b k)) := by rw [decide_eq_false h]; rfl
theorem awayN2 {o b : Int32} {k : Nat} (h : wi b k = true) : (0 : Int32) = bi (decide (o = 12) && !(wi b k)) := by rw [h, Bool.not_true, Bool.and_false]; rfl
theorem awayY {o b : Int32} {k : Nat} (h : o = 12) (h2 : wi b k = false) : (1 : Int32) = bi (decide (o = 12) && !(wi b k)) := by rw [h2, decide_eq_true h]; rfl
theorem oddN1 {o a t : Int32} (h : ¬ (o = 6 ∨ o = 7)) : (0 : Int32) = bi (decide (o = 6 ∨ o = 7) && decide (a = t ∨ a = 0)) := by rw [decide_eq_false h]; rfl
theorem oddN2 {o a t : Int32} (h : ¬ (a = t ∨ a = 0)) : (0 : Int32) = bi (decide (o = 6 ∨ o = 7) && decide (a = t ∨ a = 0)) := by rw [decide_eq_false h, Bool.and_false]; rfl
theorem oddY {o a t : Int32} (h : o = 6 ∨ o = 7) (h2 : a = t ∨ a = 0) : (1 : Int32) = bi (decide (o = 6 ∨ o = 7) && decide (a = t ∨ a = 0)) := by rw [decide_eq_true h, decide_eq_true h2]; rfl
theorem outB {sz : Nat → Nat} {fo fa fb : Nat → Nat → Int32} {i : Nat} : ((decide (sz 0 = 0) || orT (fun t => pgBad (nI t) (sz t) (fo t) (fa t) (fb t)) i) || orT (fun n => badI (nI i) n (fo i n) (fa i n) (fb i n)) (sz i)) = (decide (sz 0 = 0) || orT (fun t => pgBad (nI t) (sz t) (fo t) (fa t) (fb t)) (i + 1)) := by
  rw [Bool.or_assoc, orT_any (fun n => badI (nI i) n (fo i n) (fa i n) (fb i n))]; rfl
theorem allB {sz : Nat → Nat} {fo fa fb : Nat → Nat → Int32} : (decide (sz 0 = 0) || orT (fun t => pgBad (nI t) (sz t) (fo t) (fa t) (fb t)) 5) = allBad sz fo fa fb := by
  rw [orT_any, Bool.or_comm]; rfl
theorem nI_eq0 {n : Nat} (h : n < 2 ^ 31) (e : nI n = 0) : n = 0 := (nI_eq h (by decide)).mp e
theorem flag0t {sz : Nat → Nat} {P : Nat → Bool} (h : sz 0 = 0) : (1 : Int32) = bi (decide (sz 0 = 0) || orT P 0) := by rw [decide_eq_true h]; rfl
theorem flag0f {sz : Nat → Nat} {P : Nat → Bool} (h : ¬ sz 0 = 0) : (0 : Int32) = bi (decide (sz 0 = 0) || orT P 0) := by rw [decide_eq_false h]; rfl
