/-! THE CLASS'S INVARIANT: what keeps every call from going astray -/
def BKi (tc : Nat → ClassId) (ad : Nat → Nat) (F : Nat → va_E) (b cn : Nat) : Prop := ∃ fr fp fw fd : Nat → Int32, isBK tc ad F b fr fp fw fd ∧ (∀ j, j < 8 → okI cn (fw j)) ∧ ∀ j, j < 40 → okI cn (fd j)
def TRi (tc : Nat → ClassId) (ad : Nat → Nat) (F : Nat → va_E) (cn : Nat) : Prop := cn ≤ 200 ∧ (∃ fc fk : Nat → Int32, isTR tc ad F 53 cn fc fk ∧ ∀ k, k < cn → ∃ t, t < 5 ∧ fc k &&& 7 = nI t) ∧ BKi tc ad F 56 cn ∧ BKi tc ad F 61 cn
def WKi (tc : Nat → ClassId) (ad : Nat → Nat) (F : Nat → va_E) (st : Int32) (sz b : Nat) : Prop := ∃ (ph nx : Int32) (rg : Int64), isWK tc ad F b ph nx rg ∧ (st = 0 → ph = 0 ∧ nx = 0) ∧ (ph = 1 → ∃ k, k < sz ∧ nx = nI k)
def pgOk (sz : Nat → Nat) (fo fa : Nat → Nat → Int32) : Prop := ∀ t, t < 5 → sz t ≤ 12 ∧ ∀ k, k < sz t → wi (fo t k) 13 = true ∧ nmd (fo t k) (fa t k) = true
def RI (tc : Nat → ClassId) (ad : Nat → Nat) (F : Nat → va_E) (st cs : Int32) (sz : Nat → Nat) (fo fa fb : Nat → Nat → Int32) : Prop := isRW tc ad F st cs ∧ (∀ t, t < 5 → isPG tc ad F (3 + 7 * t) (sz t) (fo t) (fa t) (fb t)) ∧ (∀ t, t < 5 → WKi tc ad F st (sz t) (7 + 7 * t)) ∧ (∀ t, t < 3 → ∃ ow dp : Int32, isLK tc ad F (39 + 3 * t) ow dp) ∧ (∀ t, t < 2 → isCK tc ad F (49 + 2 * t)) ∧ (∃ cn, TRi tc ad F cn) ∧ pgOk sz fo fa ∧ (¬ st = 0 → allBad sz fo fa fb = false)
section GL
variable {p : Program} {l : Launch} {e : Env} {R : Room} {s : State} {m : MethodId} {args : Array Value} {below : List Frame} {meth : Method} {c : Code} {H : Heap} {locs : List Loc} {cells slots : Nat} {Q : State → Prop}
variable {cc : ByteArray} {nL pc n : Nat} {own : String} {D : va_G} {tc : Nat → ClassId} {ad : Nat → Nat} {E : Nat → va_E} {A : Nat → Prop} {H0 : Heap} {ls : Array Slot} {rest st0 As : List Value}
theorem x_lX {m2 : Nat} {f : Nat → Nat} {a : Array Value} (hr : XRun p l e R s m args below meth c H locs cells slots 0 0 pc ls st0 rest (CtQ D m2 (fun k => ad (f k)) (fun o E' => ∃ r : Int64, o = .returned (some (.long r)) ∧ E' = (fun k => E (f k))) a) (Aw m2 (fun k => ad (f k)))) (hD : va_D A (wW n ad E)) (hP : va_P D vwCl (wW n ad E) H) (hS : va_S A H0 H locs) (hf : ∀ k, k < m2 → f k < n) (hi : ∀ i j, i < m2 → j < m2 → f i = f j → i = j)
    (kk : ∀ (r : Int64) (H1 : Heap) (locs1 : List Loc), va_D A (wW n ad E) → va_P D vwCl (wW n ad E) H1 → va_S A H0 H1 locs1 → W p l e R s m args below meth c H1 locs1 cells slots Q (F0 m (pc + 3) ls (.long r :: rest))) :
    W p l e R s m args below meth c H locs cells slots Q (F0 m pc ls st0) := by
  refine x_l hr hD hP hS hf hi (fun o E1 h => by obtain ⟨r, h1, -⟩ := h; exact ⟨r, h1⟩) (fun r E1 H1 locs1 hp h1 h2 h3 => ?_)
  obtain ⟨r', hr', he⟩ := hp
  rw [wU_same he] at h1 h2
  exact kk r H1 locs1 h1 h2 h3
end GL
/-- the sum of the programs' sizes, as the program adds them -/
def sumT (sz : Nat → Nat) : Nat → Int32
  | 0 => 0
  | i + 1 => sumT sz i + nI (sz i)
/-- all cells but n from b on are as they were -/
def Far (b n : Nat) (F G : Nat → va_E) : Prop := ∀ q, q < b ∨ b + n ≤ q → G q = F q
theorem Far.cong {b n : Nat} {F G0 G : Nat → va_E} (h : Far b n F G0) (e : ∀ k, (k < b ∨ b + n ≤ k) → True → G k = G0 k) : Far b n F G := fun q hq => (e q hq trivial).trans (h q hq)
theorem BKi.cong {tc : Nat → ClassId} {ad : Nat → Nat} {F G : Nat → va_E} {b cn : Nat} (h : BKi tc ad F b cn) (e : ∀ k, b ≤ k → k < b + 5 → G k = F k) : BKi tc ad G b cn := by
  obtain ⟨fr, fp, fw, fd, h, r⟩ := h
  exact ⟨fr, fp, fw, fd, h.cong e, r⟩
theorem TRi.cong {tc : Nat → ClassId} {ad : Nat → Nat} {F G : Nat → va_E} {cn : Nat} (h : TRi tc ad F cn) (e : ∀ k, 53 ≤ k → k < 66 → G k = F k) : TRi tc ad G cn := by
  obtain ⟨h0, ⟨fc, fk, h1, h2⟩, h3, h4⟩ := h
  exact ⟨h0, ⟨fc, fk, h1.cong (fun k q1 q2 => e k (by omega) (by omega)), h2⟩, h3.cong (fun k q1 q2 => e k (by omega) (by omega)), h4.cong (fun k q1 q2 => e k (by omega) (by omega))⟩
theorem RI.wk {tc : Nat → ClassId} {ad : Nat → Nat} {F G : Nat → va_E} {st cs : Int32} {sz : Nat → Nat} {fo fa fb : Nat → Nat → Int32} (h : RI tc ad F st cs sz fo fa fb) {t : Nat} (ht : t < 5) (hw : WKi tc ad G st (sz t) (7 + 7 * t)) (e : Far (7 + 7 * t) 3 F G) : RI tc ad G st cs sz fo fa fb := by
  obtain ⟨h1, h2, h3, h4, h5, ⟨cn, h6⟩, h7, h8⟩ := h
  refine ⟨h1.cong (e 0 (by omega)) (e 1 (by omega)) (e 2 (by omega)) (e 38 (by omega)) (e 48 (by omega)), fun u hu => (h2 u hu).cong (fun k q1 q2 => e k (by omega)), fun u hu => ?_, fun u hu => ?_, fun u hu => (h5 u hu).cong (fun k q1 q2 => e k (by omega)), ⟨cn, h6.cong (fun k q1 q2 => e k (by omega))⟩, h7, h8⟩
  · by_cases hh : u = t
    · rw [hh]; exact hw
    · obtain ⟨ph, nx, rg, hw1, hw2⟩ := h3 u hu
      exact ⟨ph, nx, rg, hw1.cong (fun k q1 q2 => e k (by omega)), hw2⟩
  · obtain ⟨ow, dp, hl⟩ := h4 u hu
    exact ⟨ow, dp, hl.cong (fun k q1 q2 => e k (by omega))⟩
theorem goOk {a b : Nat} (ha : a < 2 ^ 31) (hb : b < 2 ^ 31) (h : (if nI a < nI b then (1 : Int32) else 2) = 1) : ∃ k, k < b ∧ nI a = nI k := by
  by_cases hh : nI a < nI b
  · exact ⟨a, (nI_ltI ha hb).mp hh, rfl⟩
  · rw [if_neg hh] at h; exact absurd h (by decide)
theorem nbI {sz : Nat → Nat} {fo fa fb : Nat → Nat → Int32} (h : allBad sz fo fa fb = false) {t k : Nat} (ht : t < 5) (hk : k < sz t) : badI (nI t) k (fo t k) (fa t k) (fb t k) = false := by
  unfold allBad at h
  have h1 := (Bool.or_eq_false_iff.mp h).1
  have h2 : pgBad (nI t) (sz t) (fo t) (fa t) (fb t) = false := by
    cases hb : pgBad (nI t) (sz t) (fo t) (fa t) (fb t) with
    | false => rfl
    | true => rw [any_t ht hb] at h1; cases h1
  cases hb : badI (nI t) k (fo t k) (fa t k) (fb t k) with
  | false => rfl
  | true => unfold pgBad at h2; rw [any_t hk hb] at h2; cases h2
theorem nb12 {ow o a b : Int32} {n : Nat} (h : badI ow n o a b = false) (h12 : o = 12) : wi b n = true := by
  cases hw : wi b n with
  | true => rfl
  | false => rw [bad_1 h12 hw] at h; cases h
theorem nb67 {ow o a b : Int32} {n : Nat} (h : badI ow n o a b = false) (h67 : o = 6 ∨ o = 7) : ¬ a = ow ∧ ¬ a = 0 := by
  refine ⟨fun q => ?_, fun q => ?_⟩
  · rw [bad_2 h67 (Or.inl q)] at h; cases h
  · rw [bad_2 h67 (Or.inr q)] at h; cases h
theorem op12 {o : Int32} (hw : wi o 13 = true) (he : ¬ (¬ o < 0 ∧ ¬ 9 < o)) (h10 : ¬ o = 10) (h11 : ¬ o = 11) : o = 12 := by
  obtain ⟨j, hj, rfl⟩ := wi_of (by decide) hw
  rcases (by omega : j = 0 ∨ j = 1 ∨ j = 2 ∨ j = 3 ∨ j = 4 ∨ j = 5 ∨ j = 6 ∨ j = 7 ∨ j = 8 ∨ j = 9 ∨ j = 10 ∨ j = 11 ∨ j = 12) with rfl | rfl | rfl | rfl | rfl | rfl | rfl | rfl | rfl | rfl | rfl | rfl | rfl
  all_goals first | rfl | exact absurd rfl h10 | exact absurd rfl h11 | exact absurd ⟨by decide, by decide⟩ he
