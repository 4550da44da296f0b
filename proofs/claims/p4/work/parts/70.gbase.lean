/-! GENERAL OBJECTS (p2, p4): two groups of cells side by side -/
def fj (a b1 b2 k : Nat) : Nat := if k < a then b1 + k else b2 + (k - a)
theorem fj_lt (a c n b1 b2 : Nat) (h1 : b1 + a ≤ n) (h2 : b2 + c ≤ n) : ∀ k, k < a + c → fj a b1 b2 k < n := fun k hk => by unfold fj; split <;> omega
theorem fj_inj (a c b1 b2 : Nat) (h : b1 + a ≤ b2 ∨ b2 + c ≤ b1) : ∀ i j, i < a + c → j < a + c → fj a b1 b2 i = fj a b1 b2 j → i = j := fun i j hi hj e => by unfold fj at e; split at e <;> split at e <;> omega
theorem fj_1 {a b1 b2 k : Nat} (h : k < a) : fj a b1 b2 k = b1 + k := if_pos h
theorem fj_2 {a b1 b2 k : Nat} : fj a b1 b2 (a + k) = b2 + k := by unfold fj; rw [if_neg (by omega)]; omega
theorem wU_fj1 {a c b1 b2 : Nat} {F E1 : Nat → va_E} (h : b1 + a ≤ b2 ∨ b2 + c ≤ b1) (k : Nat) (hk : k < a) : wU (a + c) (fj a b1 b2) F E1 (b1 + k) = E1 k := by
  have := wU_at (E := F) (E1 := E1) (fj_inj a c b1 b2 h) (k := k) (by omega)
  rwa [fj_1 hk] at this
theorem wU_fj2 {a c b1 b2 : Nat} {F E1 : Nat → va_E} (h : b1 + a ≤ b2 ∨ b2 + c ≤ b1) (k : Nat) (hk : k < c) : wU (a + c) (fj a b1 b2) F E1 (b2 + k) = E1 (a + k) := by
  have := wU_at (E := F) (E1 := E1) (fj_inj a c b1 b2 h) (k := a + k) (by omega)
  rwa [fj_2] at this
theorem wU_fjo {a c b1 b2 q : Nat} {F E1 : Nat → va_E} (h1 : q < b1 ∨ b1 + a ≤ q) (h2 : q < b2 ∨ b2 + c ≤ q) : wU (a + c) (fj a b1 b2) F E1 q = F q := wU_off (fun j hj => by unfold fj; split <;> omega)
section QX0
variable {p : Program} {l : Launch} {e : Env} {R : Room} {s : State} {m : MethodId} {args : Array Value} {below : List Frame} {meth : Method} {c : Code} {H : Heap} {locs : List Loc} {cells slots : Nat} {Q : State → Prop}
variable {cc : ByteArray} {nL pc n : Nat} {own : String} {D : va_G} {tc : Nat → ClassId} {ad : Nat → Nat} {E : Nat → va_E} {A : Nat → Prop} {H0 : Heap} {ls : Array Slot} {rest st0 As : List Value} {post : Outcome → (Nat → va_E) → Prop}
theorem x_iX0 {m2 : Nat} {f : Nat → Nat} {a : Array Value} {pr : Int32 → Prop} (hr : XRun p l e R s m args below meth c H locs cells slots 0 0 pc ls st0 rest (CtQ D m2 (fun k => ad (f k)) (fun o E' => ∃ r : Int32, o = .returned (some (.int r)) ∧ E' = (fun k => E (f k)) ∧ pr r) a) (fun _ => False)) (hD : va_D A (wW n ad E)) (hP : va_P D vwCl (wW n ad E) H) (hS : va_S A H0 H locs) (hf : ∀ k, k < m2 → f k < n) (hi : ∀ i j, i < m2 → j < m2 → f i = f j → i = j)
    (kk : ∀ (r : Int32) (H1 : Heap), pr r → va_D A (wW n ad E) → va_P D vwCl (wW n ad E) H1 → va_S A H0 H1 locs → W p l e R s m args below meth c H1 locs cells slots Q (F0 m (pc + 3) ls (.int r :: rest))) :
    W p l e R s m args below meth c H locs cells slots Q (F0 m pc ls st0) := by
  intro T hT X
  obtain ⟨o, st₀, t, T', L, h0, X', hL, e1, e2, ⟨⟨E1, ⟨r, rfl, he, hpr⟩, hP1⟩, hz, hk⟩, hret, hthr⟩ := hr T hT X
  have hLn : L = [] := by
    cases L with
    | nil => rfl
    | cons q L => exact (hL q List.mem_cons_self).elim
  subst hLn
  rw [List.append_nil] at X'
  rw [h0] at hz hk
  have hsub : ∀ q, Aw m2 (fun k => ad (f k)) q → A q := fun q ⟨k, h1, h2⟩ => by rw [h2]; exact wW_in hD (hf k h1)
  have hPn : va_P D vwCl (wW n ad E) t.heap := by
    have := wW_back (E1 := E1) hP hD hf hi (fun q h1 h2 => hk q h1 (fun ⟨k, h3, h4⟩ => h2 (Or.inl ⟨k, E (f k), by rw [wW_get h3 rfl, h4]⟩))) hP1
    rwa [wU_same he] at this
  have hSn : va_S A H0 T'.heap locs := ⟨Nat.le_trans hS.1 (by rw [e1]; exact hz), fun q h1 h2 => by rw [e1, hk q (Nat.lt_of_lt_of_le h1 hS.1) (fun z => h2 (hsub q z))]; exact hS.2.1 q h1 h2, hS.2.2⟩
  obtain ⟨t2, a1, b1⟩ := kk r T'.heap hpr hD (by rw [e1]; exact hPn) hSn T' rfl X'
  exact ⟨t2, hret _ rfl t2 a1, b1⟩
end QX0
/-! ranges -/
/-- none, or one of the cn events -/
def okI (cn : Nat) (x : Int32) : Prop := x = -1 ∨ ∃ k, k < cn ∧ x = nI k
theorem okI.mono {a b : Nat} {x : Int32} (h : okI a x) (hab : a ≤ b) : okI b x := h.elim Or.inl (fun ⟨k, h1, h2⟩ => Or.inr ⟨k, by omega, h2⟩)
theorem okI.gt {cn : Nat} {x y : Int32} (hx : okI cn x) (hy : okI cn y) (hc : cn < 2 ^ 31) (h : ¬ x ≤ y) : ∃ k, k < cn ∧ x = nI k := by
  rcases hx with rfl | h1
  · exfalso
    rcases hy with rfl | ⟨k, hk, rfl⟩
    · exact h (by decide)
    · exact h (by rw [Int32.le_iff_toInt_le, nI_toInt (by omega)]; have : (-1 : Int32).toInt = -1 := by decide
                  omega)
  · exact h1
theorem mul5 (a t : Nat) : nI a * 5 + nI t = nI (a * 5 + t) := by
  rw [show (5 : Int32) = nI 5 from rfl, show nI a * nI 5 = nI (a * 5) from (Int32.ofNat_mul a 5).symm, nI_add]
theorem okU {cn N k : Nat} {f : Nat → Int32} {x : Int32} (h : ∀ j, j < N → okI cn (f j)) (hx : okI cn x) : ∀ j, j < N → okI cn (upd f k x j) := fun j hj => by
  by_cases e : j = k
  · rw [e, pk_us]; exact hx
  · rw [pk_un e]; exact h j hj
section QCP
variable {p : Program} {l : Launch} {e : Env} {R : Room} {s : State} {m : MethodId} {args : Array Value} {below : List Frame} {meth : Method} {c : Code} {H : Heap} {locs : List Loc} {cells slots : Nat} {Q : State → Prop}
variable {cc : ByteArray} {nL pc n : Nat} {own : String} {D : va_G} {tc : Nat → ClassId} {ad : Nat → Nat} {E : Nat → va_E} {A : Nat → Prop} {H0 : Heap} {ls : Array Slot} {rest : List Value}
/-- System.arraycopy between two arrays of ints: what the target holds behind it is left open -/
theorem q_copy {index k0 k1 n0 n1 dp : Nat} {f g : Nat → Int32} {v len : Int32} (X : Cx p s m args c cc nL own D tc) (hlink : Cond.methodLink own index arraycopyName ∈ WS) (hnat : Cond.native arraycopyName ∈ WS) (hstat : Cond.static arraycopyName ∈ WS) (hini : Cond.initialized "java/lang/System" ∈ WS)
    (hD : va_D A (wW n ad E)) (hP : va_P D vwCl (wW n ad E) H) (hS : va_S A H0 H locs) (hk0 : k0 < n) (hk1 : k1 < n) (hE0 : E k0 = .inl (tc 0, n0, .inl f)) (hE1 : E k1 = .inl (tc 0, n1, .inl g)) (hv : v = nI dp) (hdp : dp < 2 ^ 31) (h3 : ¬ len < 0) (h4 : 0 + len.toNatClampNeg ≤ n0) (h5 : dp + len.toNatClampNeg ≤ n1)
    (hsz : ls.size = nL) (hframes : 1 ≤ R.frames) (hlocals : (rest.map fun v => v.category).sum + (nativeFrameWords "java/lang/System" "arraycopy" 5 + 11) ≤ R.locals) (hdg : decode cc pc = .ok (.invokestatic index, 3))
    (kk : ∀ (g2 : Nat → Int32) (H1 : Heap) (locs1 : List Loc), va_D A (wW n ad (va_up E k1 (.inl (tc 0, n1, .inl g2)))) → va_P D vwCl (wW n ad (va_up E k1 (.inl (tc 0, n1, .inl g2)))) H1 → va_S A H0 H1 locs1 → W p l e R s m args below meth c H1 locs1 cells slots Q (F0 m (pc + 3) ls rest)) : W p l e R s m args below meth c H locs cells slots Q (F0 m pc ls (.int len :: .int v :: .ref (ad k1) :: .int 0 :: .ref (ad k0) :: rest)) := by
  have hts := X.2.2.2.2.1
  subst hv
  refine va_copyi X.1 X.2.1 (by rw [X.2.2.1]; exact hsz.symm) X.2.2.2.1 (hts _ hlink) (hts _ hnat) (hts _ hstat) (hts _ hini) X.2.2.2.2.2 hP hD hS k0 k1 0 0 (wW_get hk0 hE0) (wW_get hk1 hE1) rfl rfl rfl (by decide) (nI_pos hdp) h3 h4 (by rw [nI_clamp hdp]; exact h5) (fun _ _ => rfl) hframes hlocals hdg (fun H1 locs1 h1 h2 h3 => ?_)
  rw [wW_set] at h1 h2
  exact kk _ H1 locs1 h2 h1 h3
end QCP
theorem mul5' (a : Nat) : nI a * 5 = nI (a * 5) := by rw [show (5 : Int32) = nI 5 from rfl]; exact (Int32.ofNat_mul a 5).symm
theorem mul4 (j : Nat) : 4 * nI j = nI (4 * j) := by rw [show (4 : Int32) = nI 4 from rfl]; exact (Int32.ofNat_mul 4 j).symm
theorem div64 (i : Nat) (hi : i < 200) : nI i / 64 = nI (i / 64) := by
  revert hi
  have h : ∀ i : Fin 200, nI i.val / 64 = nI (i.val / 64) := by decide +kernel
  exact fun hi => h ⟨i, hi⟩
theorem dn1 {x : Int32} {r : Nat} (h : x + 1 = nI (r + 1)) : x = nI r := by
  have e := congrArg (fun y => y - 1) h
  simpa [nI_pred, Int32.add_sub_cancel] using e
theorem dn2 (r : Nat) : nI r + (-1) + 1 = nI r := by rw [Int32.add_assoc]; exact Int32.add_zero _
theorem dn0 (r : Nat) : nI r - 1 + 1 = nI r := Int32.sub_add_cancel _ _
theorem dnx {x : Int32} (h : x + 1 = nI 0) : x < 0 := by
  have e := congrArg (fun y => y - 1) h
  have e2 : x = nI 0 - 1 := by simpa [Int32.add_sub_cancel] using e
  rw [e2]; decide
