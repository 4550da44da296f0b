/-! THE LAW'S WORLD: 84 cells from the heap's end on: 0 .. 65 the RaceWatch, 66 .. 82 the reference, 83 the array out -/
theorem seqL {sz : Nat} (n : Nat) (E' : Nat → va_E) : va_D (fun q => sz ≤ q) (wW n (fun k => sz + k) E') := by
  refine ⟨fun i j x y hi hj hxy => ?_, fun k q hk => ?_⟩
  · obtain ⟨h1, rfl⟩ := wW_inv hi
    obtain ⟨h2, rfl⟩ := wW_inv hj
    have e : sz + i = sz + j := hxy
    omega
  · obtain ⟨h1, rfl⟩ := wW_inv hk
    show sz ≤ sz + k
    omega
theorem RWf.cong {tc : Nat → ClassId} {ad : Nat → Nat} {F G : Nat → va_E} (h : RWf tc ad F) (e : ∀ k, k < 66 → G k = F k) : RWf tc ad G := by
  obtain ⟨h1, h2, h3, h4, h5, ⟨fc, fk, h6⟩, h7, h8⟩ := h
  exact ⟨h1.cong (e 0 (by omega)) (e 1 (by omega)) (e 2 (by omega)) (e 38 (by omega)) (e 48 (by omega)), fun t ht => by obtain ⟨a, b, c, h⟩ := h2 t ht; exact ⟨a, b, c, h.cong (fun k q1 q2 => e k (by omega))⟩, fun t ht => (h3 t ht).cong (fun k q1 q2 => e k (by omega)), fun t ht => (h4 t ht).cong (fun k q1 q2 => e k (by omega)), fun t ht => (h5 t ht).cong (fun k q1 q2 => e k (by omega)), ⟨fc, fk, h6.cong (fun k q1 q2 => e k (by omega))⟩, h7.cong (fun k q1 q2 => e k (by omega)), h8.cong (fun k q1 q2 => e k (by omega))⟩
theorem isMD.cong {tc : Nat → ClassId} {ad : Nat → Nat} {F G : Nat → va_E} {th st ic cn : Int32} {A : Nat → Nat → Int32} {J : Nat → Int64} (h : isMD tc ad F th st ic cn A J) (e : ∀ k, k < 17 → G k = F k) : isMD tc ad G th st ic cn A J := by
  unfold isMD
  rw [e 0 (by decide), e 1 (by decide), e 2 (by decide), e 3 (by decide), e 4 (by decide), e 5 (by decide), e 6 (by decide), e 7 (by decide), e 8 (by decide), e 9 (by decide), e 10 (by decide), e 11 (by decide), e 12 (by decide), e 13 (by decide), e 14 (by decide), e 15 (by decide), e 16 (by decide)]
  exact h
theorem MDf.cong {tc : Nat → ClassId} {ad : Nat → Nat} {F G : Nat → va_E} {th : Int32} (h : MDf tc ad F th) (e : ∀ k, k < 17 → G k = F k) : MDf tc ad G th := by
  obtain ⟨ic, A, J, h, r⟩ := h
  exact ⟨ic, A, J, h.cong e, r⟩
/-- the places of the law's helpers: the RaceWatch, then out -/
def f67 (k : Nat) : Nat := if k < 66 then k else 83
theorem f67_lt : ∀ k, k < 67 → f67 k < 84 := fun k hk => by unfold f67; split <;> omega
theorem f67_inj : ∀ i j, i < 67 → j < 67 → f67 i = f67 j → i = j := fun i j hi hj h => by unfold f67 at h; split at h <;> split at h <;> omega
section LT
variable {p : Program} {l : Launch} {e : Env} {R : Room} {s : State} {m : MethodId} {args : Array Value} {below : List Frame} {meth : Method} {c : Code} {H : Heap} {locs : List Loc} {cells slots : Nat} {Q : State → Prop}
variable {cc : ByteArray} {nL pc n : Nat} {own : String} {D : va_G} {tc : Nat → ClassId} {ad : Nat → Nat} {E : Nat → va_E} {A : Nat → Prop} {H0 : Heap} {ls : Array Slot} {rest st0 As : List Value} {post : Outcome → (Nat → va_E) → State → Prop} {sz : Nat}
theorem x_iT {m2 : Nat} {f : Nat → Nat} {a : Array Value} {v : Int32} (hr : XRun p l e R s m args below meth c H locs cells slots 1 6 pc ls st0 rest (CtTQ D m2 (fun k => ad (f k)) sz (fun o E' _ => o = .returned (some (.int v)) ∧ E' = fun k => E (f k)) a) (fun q => Aw m2 (fun k => ad (f k)) q ∨ sz ≤ q)) (hsz : H.size = sz) (hA : ∀ q, H0.size ≤ q → A q) (hD : va_D A (wW n ad E)) (hP : va_P D vwCl (wW n ad E) H) (hS : va_S A H0 H locs) (hf : ∀ k, k < m2 → f k < n) (hi : ∀ i j, i < m2 → j < m2 → f i = f j → i = j)
    (kk : ∀ (H1 : Heap) (locs1 : List Loc), va_D A (wW n ad E) → va_P D vwCl (wW n ad E) H1 → va_S A H0 H1 locs1 → W p l e R s m args below meth c H1 locs1 (cells + 1) (slots + 6) Q (F0 m (pc + 3) ls (.int v :: rest))) :
    W p l e R s m args below meth c H locs cells slots Q (F0 m pc ls st0) := by
  refine x_tgo hr hsz hA hD hP hS hf hi (fun o E1 t locs1 hp h1 h2 h3 T' hT hvm X' => ?_)
  obtain ⟨rfl, he⟩ := hp
  rw [wU_same he] at h1 h2
  obtain ⟨t2, a1, b1⟩ := kk t.heap locs1 h1 h2 h3 T' hT X'
  exact ⟨_, fun v hv => (by cases hv; rfl), fun x hx => (by cases hx), t2, a1, b1⟩
end LT
theorem ret_i {r v : Int32} (h : Outcome.returned (some (Value.int r)) = .returned (some (.int v))) : r = v := by injection h with h; injection h with h; injection h
theorem ret_l {r v : Int64} (h : Outcome.returned (some (Value.long r)) = .returned (some (.long v))) : r = v := by injection h with h; injection h with h; injection h
theorem sw16 (x : Int32) : ∃ j, j < 16 ∧ x &&& 15 = nI j := pk_andE x 4 (by decide)
