/-! FRAMEWORK: worlds as functions: cell k of n lies at ad k and holds E k -/
def wW (n : Nat) (ad : Nat → Nat) (E : Nat → va_E) : va_W := (List.range n).map (fun k => (ad k, E k))
theorem wW_get {n : Nat} {ad : Nat → Nat} {E : Nat → va_E} {k : Nat} {e : va_E} (hk : k < n) (he : E k = e) : (wW n ad E)[k]? = some (ad k, e) := by
  subst he
  simp [wW, List.getElem?_map, List.getElem?_range hk]
theorem wW_inv {n : Nat} {ad : Nat → Nat} {E : Nat → va_E} {k : Nat} {q : Nat × va_E} (h : (wW n ad E)[k]? = some q) : k < n ∧ q = (ad k, E k) := by
  by_cases hk : k < n
  · rw [wW_get hk rfl] at h
    exact ⟨hk, (Option.some.inj h).symm⟩
  · have hl : (wW n ad E).length = n := by simp [wW]
    rw [List.getElem?_eq_none (by omega)] at h
    cases h
theorem wW_set {n : Nat} {ad : Nat → Nat} {E : Nat → va_E} {k : Nat} {e : va_E} : (wW n ad E).set k (ad k, e) = wW n ad (va_up E k e) := by
  apply List.ext_getElem?
  intro j
  have hl : ∀ E' : Nat → va_E, (wW n ad E').length = n := fun E' => by simp [wW]
  by_cases hj : j < n
  · rw [wW_get hj rfl]
    by_cases hjk : j = k
    · subst hjk
      rw [List.getElem?_set_self (by rw [hl]; exact hj), va_up_self]
    · rw [List.getElem?_set_ne (Ne.symm hjk), wW_get hj rfl, va_up_ne _ _ hjk]
  · rw [List.getElem?_eq_none (by rw [List.length_set, hl]; omega), List.getElem?_eq_none (by rw [hl]; omega)]
theorem wW_D {A : Nat → Prop} {n : Nat} {ad : Nat → Nat} {E E' : Nat → va_E} (h : va_D A (wW n ad E)) : va_D A (wW n ad E') := by
  refine ⟨fun i j x y hi hj hxy => ?_, fun k q hk => ?_⟩
  · obtain ⟨h1, rfl⟩ := wW_inv hi
    obtain ⟨h2, rfl⟩ := wW_inv hj
    exact h.1 i j _ _ (wW_get h1 rfl) (wW_get h2 rfl) hxy
  · obtain ⟨h1, rfl⟩ := wW_inv hk
    exact h.2 k (ad k, E k) (wW_get h1 rfl)
theorem wW_inj {A : Nat → Prop} {n : Nat} {ad : Nat → Nat} {E : Nat → va_E} (h : va_D A (wW n ad E)) {i j : Nat} (hi : i < n) (hj : j < n) (e : ad i = ad j) : i = j := h.1 i j _ _ (wW_get hi rfl) (wW_get hj rfl) e
theorem wW_in {A : Nat → Prop} {n : Nat} {ad : Nat → Nat} {E : Nat → va_E} (h : va_D A (wW n ad E)) {i : Nat} (hi : i < n) : A (ad i) := h.2 i _ (wW_get hi rfl)
theorem wW_cut {D : va_G} {cl : List vw_C} {n m : Nat} {ad : Nat → Nat} {E : Nat → va_E} {H : Heap} {f : Nat → Nat} (hP : va_P D cl (wW n ad E) H) (hf : ∀ k, k < m → f k < n) : va_P D cl (wW m (fun k => ad (f k)) (fun k => E (f k))) H := by
  intro k q hk
  obtain ⟨h1, rfl⟩ := wW_inv hk
  exact hP (f k) _ (wW_get (hf k h1) rfl)
theorem wW_cutD {A : Nat → Prop} {n m : Nat} {ad : Nat → Nat} {E : Nat → va_E} {f : Nat → Nat} (hD : va_D A (wW n ad E)) (hf : ∀ k, k < m → f k < n) (hi : ∀ i j, i < m → j < m → f i = f j → i = j) : va_D A (wW m (fun k => ad (f k)) (fun k => E (f k))) := by
  refine ⟨fun i j x y hx hy hxy => ?_, fun k q hk => ?_⟩
  · obtain ⟨h1, rfl⟩ := wW_inv hx
    obtain ⟨h2, rfl⟩ := wW_inv hy
    exact hi i j h1 h2 (wW_inj hD (hf i h1) (hf j h2) hxy)
  · obtain ⟨h1, rfl⟩ := wW_inv hk
    exact wW_in hD (hf k h1)
theorem wW_free {A : Nat → Prop} {n m : Nat} {ad : Nat → Nat} {E E1 : Nat → va_E} {f : Nat → Nat} {H0 H : Heap} {locs : List Loc} (hD : va_D A (wW n ad E)) (hS : va_S A H0 H locs) (hA : ∀ q, H0.size ≤ q → A q) (hf : ∀ k, k < m → f k < n) : ∀ q, va_A (wW m (fun k => ad (f k)) E1) H.size q → A q := by
  intro q h
  rcases h with ⟨k, e, h⟩ | h
  · obtain ⟨h1, h2⟩ := wW_inv h
    have h3 : q = ad (f k) := congrArg Prod.fst h2
    rw [h3]
    exact wW_in hD (hf k h1)
  · exact hA q (Nat.le_trans hS.1 h)
/-- the world behind a call: the callee's cells as it left them, the others as they were -/
def wU (m : Nat) (f : Nat → Nat) (E E1 : Nat → va_E) : Nat → va_E := fun j => match (List.range m).find? (fun k => f k == j) with
  | some k => E1 k
  | none => E j
theorem wU_at {m : Nat} {f : Nat → Nat} {E E1 : Nat → va_E} (hi : ∀ i j, i < m → j < m → f i = f j → i = j) {k : Nat} (hk : k < m) : wU m f E E1 (f k) = E1 k := by
  unfold wU
  cases hfd : (List.range m).find? (fun x => f x == f k) with
  | none =>
    have := List.find?_eq_none.mp hfd k (List.mem_range.mpr hk)
    simp at this
  | some j =>
    have h1 := List.find?_some hfd
    have h2 := List.mem_range.mp (List.mem_of_find?_eq_some hfd)
    have h3 : f j = f k := by simpa using h1
    rw [hi j k h2 hk h3]
theorem wU_off {m : Nat} {f : Nat → Nat} {E E1 : Nat → va_E} {j : Nat} (h : ∀ k, k < m → f k ≠ j) : wU m f E E1 j = E j := by
  unfold wU
  cases hfd : (List.range m).find? (fun x => f x == j) with
  | none => rfl
  | some k =>
    have h1 := List.find?_some hfd
    have h2 := List.mem_range.mp (List.mem_of_find?_eq_some hfd)
    exact absurd (by simpa using h1) (h k h2)
theorem wW_back {A : Nat → Prop} {D : va_G} {cl : List vw_C} {n m : Nat} {ad : Nat → Nat} {E E1 : Nat → va_E} {H H1 : Heap} {f : Nat → Nat} (hP : va_P D cl (wW n ad E) H) (hD : va_D A (wW n ad E)) (hf : ∀ k, k < m → f k < n) (hi : ∀ i j, i < m → j < m → f i = f j → i = j)
    (hk : ∀ q : Nat, q < H.size → ¬ va_A (wW m (fun k => ad (f k)) (fun k => E (f k))) H.size q → H1[q]? = H[q]?) (hP1 : va_P D cl (wW m (fun k => ad (f k)) E1) H1) : va_P D cl (wW n ad (wU m f E E1)) H1 := by
  intro k q hq
  obtain ⟨h1, rfl⟩ := wW_inv hq
  by_cases hc : ∃ j, j < m ∧ f j = k
  · obtain ⟨j, hj, rfl⟩ := hc
    rw [wU_at hi hj]
    exact hP1 j _ (wW_get hj rfl)
  · rw [wU_off (fun j hj he => hc ⟨j, hj, he⟩)]
    have h2 := hP k _ (wW_get h1 rfl)
    refine h2.kept (hk (ad k) h2.lt ?_)
    intro ha
    rcases ha with ⟨k2, e, h⟩ | h
    · obtain ⟨h3, h4⟩ := wW_inv h
      have h5 : ad k = ad (f k2) := congrArg Prod.fst h4
      exact hc ⟨k2, h3, (wW_inj hD h1 (hf k2 h3) h5).symm⟩
    · have := h2.lt
      have h' : H.size ≤ ad k := h
      omega



