/-! the reference's place behind a step -/
/-- place and status behind plain: another place of thread t -/
theorem plainK {sz : Nat → Nat} {fo fa fb : Nat → Nat → Int32} {A : Nat → Nat → Int32} {j k : Nat} {nx : Int32} (hk : k < sz j) (hs : sz j ≤ 12) (h1 : A 1 j = nI (sz j)) (ek : A 6 j = nI k) (o2 : A 2 (12 * j + k) = fo j k) (o4 : A 4 (12 * j + k) = fb j k) (hb : allBad sz fo fa fb = false) (hj : j < 5) (h : nx = A 6 j + 1 ∨ nx = A 4 (12 * j + k) ∧ A 2 (12 * j + k) = 12) : nx < A 1 j → ∃ q, q < sz j ∧ nx = nI q := by
  intro hlt
  rw [h1] at hlt
  rcases h with h | ⟨h, h12⟩
  · rw [ek, nI_1] at h
    subst h
    exact ⟨k + 1, (nI_ltI (by omega) (by omega)).mp hlt, rfl⟩
  · rw [o4] at h
    obtain ⟨q, hq, e⟩ := wi_of (by omega) (nb12 (nbI hb hj hk) (o2.symm.trans h12))
    exact ⟨q, by omega, h.trans e⟩
theorem stepA {sz : Nat → Nat} {A : Nat → Nat → Int32} {rg : Nat → Int32} {nx v : Int32} {j : Nat} {st : Int32} (_hj : j < 5) (q5 : ∀ t, t < 5 → (A 5 t = 1 → ∃ k, k < sz t ∧ A 6 t = nI k) ∧ (A 5 t = 0 → A 6 t = 0)) (h1 : v = 1 → nx < A 1 j) (h2 : ¬ v = 0) (h : nx < A 1 j → ∃ q, q < sz j ∧ nx = nI q) :
    ¬ st = 0 → ∀ t, t < 5 → ((va_up (va_up (va_up A 7 rg) 6 (upd (A 6) j nx)) 5 (upd (A 5) j v)) 5 t = 1 → ∃ k, k < sz t ∧ (va_up (va_up (va_up A 7 rg) 6 (upd (A 6) j nx)) 5 (upd (A 5) j v)) 6 t = nI k) ∧ ((va_up (va_up (va_up A 7 rg) 6 (upd (A 6) j nx)) 5 (upd (A 5) j v)) 5 t = 0 → (va_up (va_up (va_up A 7 rg) 6 (upd (A 6) j nx)) 5 (upd (A 5) j v)) 6 t = 0) := by
  intro _ t ht
  rw [va_up_self, va_up_ne _ _ (show 6 ≠ 5 by decide), va_up_self]
  by_cases hh : t = j
  · subst hh
    rw [pk_us, pk_us]
    exact ⟨fun e => h (h1 e), fun e => absurd e h2⟩
  · rw [pk_un hh, pk_un hh]
    exact q5 t ht
theorem stepB {sz : Nat → Nat} {A B : Nat → Nat → Int32} {v op x : Int32} {j k : Nat} {st : Int32} (_hk : k < sz j) (q1 : ∀ t, t < 5 → A 1 t = nI (sz t)) (hs5 : ∀ t, t < 5 → sz t ≤ 12) (q5 : ∀ t, t < 5 → (A 5 t = 1 → ∃ k, k < sz t ∧ A 6 t = nI k) ∧ (A 5 t = 0 → A 6 t = 0)) (n1 : ∀ k, (k < 5 ∨ k = 6) → B k = A k) (n5 : ∀ u, B 5 u = A 5 u ∨ (op = 6 ∧ x = nI u ∧ (B 5 u = 1 → 0 < A 1 u) ∧ ¬ B 5 u = 0))
    (h6 : op = 6 → ∀ u, u < 5 → x = nI u → A 5 u = 0) (h1 : v = 1 → nI (k + 1) < B 1 j) (h2 : ¬ v = 0) :
    ¬ st = 0 → ∀ t, t < 5 → ((va_up (va_up B 6 (upd (B 6) j (nI (k + 1)))) 5 (upd (B 5) j v)) 5 t = 1 → ∃ q, q < sz t ∧ (va_up (va_up B 6 (upd (B 6) j (nI (k + 1)))) 5 (upd (B 5) j v)) 6 t = nI q) ∧ ((va_up (va_up B 6 (upd (B 6) j (nI (k + 1)))) 5 (upd (B 5) j v)) 5 t = 0 → (va_up (va_up B 6 (upd (B 6) j (nI (k + 1)))) 5 (upd (B 5) j v)) 6 t = 0) := by
  intro _ t ht
  rw [va_up_self, va_up_ne _ _ (show 6 ≠ 5 by decide), va_up_self]
  have hst := hs5 t ht
  by_cases hh : t = j
  · subst hh
    rw [pk_us, pk_us]
    refine ⟨fun e => ?_, fun e => absurd e h2⟩
    have h := h1 e
    rw [n1 1 (by decide), q1 t ht] at h
    exact ⟨k + 1, (nI_ltI (by omega) (by omega)).mp h, rfl⟩
  · rw [pk_un hh, pk_un hh, n1 6 (by decide)]
    rcases n5 t with e | ⟨e6, ex, p1, p0⟩
    · rw [e]; exact q5 t ht
    · refine ⟨fun e => ⟨0, ?_, (q5 t ht).2 (h6 e6 t ht ex)⟩, fun e => absurd e p0⟩
      have h := p1 e
      rw [q1 t ht] at h
      rcases Nat.eq_zero_or_pos (sz t) with h0 | h0
      · rw [h0] at h; exact absurd h (by decide)
      · exact h0
