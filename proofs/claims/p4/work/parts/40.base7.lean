/-! CONSTRUCTORS: new cells come one behind another: ad 1, ad 2 .. are the heap's next places -/
def rmN (d g ms : Nat) : Room := { frames := d, cells := g, slots := ms, locals := 32 * d }
def CtNP (D : va_G) (tc : Nat → ClassId) (g : Nat) (ad : Nat → Nat) (E : Nat → va_E) (av : List Value) : Array Value → State → Prop := fun v U => CtP D tc 1 ad E av v U ∧ ∀ j, j < g → ad (1 + j) = U.heap.size + j
def CtNQ (D : va_G) (g : Nat) (ad : Nat → Nat) (post : (Nat → va_E) → Prop) : Array Value → State → Outcome → State → Prop := fun _ st o t => (o = .returned none ∧ ∃ E', post E' ∧ va_P D vwCl (wW (1 + g) ad E') t.heap) ∧ va_F (Aw (1 + g) ad) st t
def CtN (l : Launch) (D : va_G) (tc : Nat → ClassId) (y : MethodName) (d g ms : Nat) (ad : Nat → Nat) (E : Nat → va_E) (av : List Value) (post : (Nat → va_E) → Prop) : Prop :=
  MetX l y WS (rmN d g ms) (CtNP D tc g ad E av) (CtNQ D g ad post) g ms (Aw (1 + g) ad)
theorem seqD {g : Nat} {ad : Nat → Nat} {sz : Nat} (h0 : ad 0 < sz) (hs : ∀ j, j < g → ad (1 + j) = sz + j) : ∀ n, n ≤ 1 + g → ∀ E' : Nat → va_E, va_D (Aw (1 + g) ad) (wW n ad E') := by
  have key : ∀ i, i < 1 + g → (i = 0 ∧ ad i < sz) ∨ (0 < i ∧ ad i = sz + (i - 1)) := fun i hi => by
    rcases Nat.eq_zero_or_pos i with h | h
    · subst h; exact Or.inl ⟨rfl, h0⟩
    · refine Or.inr ⟨h, ?_⟩
      have := hs (i - 1) (by omega)
      rwa [show 1 + (i - 1) = i by omega] at this
  intro n hn E'
  refine ⟨fun i j x y hi hj hxy => ?_, fun k q hk => ?_⟩
  · obtain ⟨h1, rfl⟩ := wW_inv hi
    obtain ⟨h2, rfl⟩ := wW_inv hj
    have e : ad i = ad j := hxy
    rcases key i (by omega) with ⟨a1, a2⟩ | ⟨a1, a2⟩ <;> rcases key j (by omega) with ⟨b1, b2⟩ | ⟨b1, b2⟩ <;> omega
  · obtain ⟨h1, rfl⟩ := wW_inv hk
    exact ⟨k, by omega, rfl⟩
theorem CtN.ofW {l : Launch} {D : va_G} {tc : Nat → ClassId} {y : MethodName} {d g ms : Nat} {ad : Nat → Nat} {E : Nat → va_E} {av : List Value} {post : (Nat → va_E) → Prop} {cc : ByteArray} {maxL : Nat} {ret : Option FieldType} {own : String}
    (hy : plainName y.cls = true) (ho : y.cls = own) (hn : y.name = "<init>") (hw : Cond.code y cc maxL ret ∈ WS) (hlen : (lg_sl av).length ≤ maxL)
    (body : ∀ (p : Program) (e : Env) (s : State) (m : MethodId) (args : Array Value) (below : List Frame) (meth : Method) (c : Code) (ls : Array Slot), Cx p s m args c cc maxL own D tc → meth.locks = false → meth.sig.returnType = ret → meth.name = "<init>" → (∀ j, j < g → ad (1 + j) = s.heap.size + j) → (∀ n, n ≤ 1 + g → ∀ E' : Nat → va_E, va_D (Aw (1 + g) ad) (wW n ad E')) → va_P D vwCl (wW 1 ad E) s.heap → va_S (Aw (1 + g) ad) s.heap s.heap [] → lv_has ls maxL (lv_args 0 av) →
      W p l e (rmN d g ms) s m args below meth c s.heap [] 0 0 (XQ below (CtNQ D g ad post) args s g ms (Aw (1 + g) ad)) (F0 m 0 ls [])) : CtN l D tc y d g ms ad E av post := by
  refine MetX.ofW hy hw ?_
  intro p e s m args below meth c s₁ B hml hP
  obtain ⟨⟨rfl, hP, hK, hD⟩, hs⟩ := hP
  rw [lg_entry_eq]
  have h0 : ad 0 < s.heap.size := (hP 0 _ (wW_get (by decide) rfl)).lt
  exact body p e s m _ below meth c _ ⟨B.exec, B.bytes, hml, (by rw [← ho]; exact findClass_of_methodNamed B.named), atoms_spec (ws := WS) B.pre, hK⟩ B.notSynchronized B.returns (by rw [(name_of_methodNamed B.named B.method).1]; exact hn) hs (seqD h0 hs) hP va_S.rf (lv_entry av hlen)
theorem wW_push {n : Nat} {ad : Nat → Nat} {E : Nat → va_E} {e : va_E} : wW (n + 1) ad (va_up E n e) = wW n ad E ++ [(ad n, e)] := by
  simp only [wW, List.range_succ, List.map_append, List.map_cons, List.map_nil, va_up_self]
  congr 1
  apply List.map_congr_left
  intro k hk
  rw [va_up_ne _ _ (Nat.ne_of_lt (List.mem_range.mp hk))]
section CN
variable {p : Program} {l : Launch} {e : Env} {R : Room} {s : State} {m : MethodId} {args : Array Value} {below : List Frame} {meth : Method} {c : Code} {H : Heap} {locs : List Loc} {cells slots : Nat} {Q : State → Prop}
variable {cc : ByteArray} {nL pc n : Nat} {own : String} {D : va_G} {tc : Nat → ClassId} {ad : Nat → Nat} {E : Nat → va_E} {A : Nat → Prop} {ls : Array Slot} {rest st0 As : List Value} {post : (Nat → va_E) → Prop} {g ms : Nat}
theorem W.sized {f : JFrame} (hlow : s.heap.size + cells ≤ H.size) (k : H.size = s.heap.size + cells → W p l e R s m args below meth c H locs cells slots Q f) : W p l e R s m args below meth c H locs cells slots Q f := fun T hT X => k (by have := X.heapSize; rw [hT] at this; omega) T hT X
theorem n_low (hP : va_P D vwCl (wW (1 + cells) ad E) H) (hS : va_S A s.heap H locs) (hs : ∀ j, j < cells → ad (1 + j) = s.heap.size + j) : s.heap.size + cells ≤ H.size := by
  rcases Nat.eq_zero_or_pos cells with h | h
  · rw [h]; exact hS.1
  · have h1 := (hP (1 + (cells - 1)) _ (wW_get (by omega) rfl)).lt
    have h2 : (ad (1 + (cells - 1)), E (1 + (cells - 1))).1 = ad (1 + (cells - 1)) := rfl
    rw [h2, hs (cells - 1) (by omega)] at h1
    omega
theorem n_push {v : va_E} {H1 : Heap} (hP : va_P D vwCl (wW n ad E) H) (hS : va_S A s.heap H locs) (ha : ad n = H.size) (hA : A (ad n)) (hat : va_at D vwCl (ad n, v) H1) (hz : H1.size = H.size + 1) (ho : ∀ q, q < H.size → H1[q]? = H[q]?) : va_P D vwCl (wW (n + 1) ad (va_up E n v)) H1 ∧ va_S A s.heap H1 locs := by
  refine ⟨?_, Nat.le_trans hS.1 (by omega), fun x h1 h2 => (ho x (Nat.lt_of_lt_of_le h1 hS.1)).trans (hS.2.1 x h1 h2), hS.2.2⟩
  rw [wW_push]
  refine va_P.app (hP.kept (fun k x hx => ho x.1 ((hP k x hx).lt))) (fun k x hx => ?_)
  have h0 : k < 1 := (List.getElem?_eq_some_iff.mp hx).1
  rw [show k = 0 by omega] at hx
  cases hx
  exact hat
theorem q_newI {v : Int32} (N : Nat) (X : Cx p s m args c cc nL own D tc) (hw : Cond.arrayClass .int ∈ WS) (hP : va_P D vwCl (wW (1 + cells) ad E) H) (hS : va_S A s.heap H locs) (hs : ∀ j, j < cells + 1 → ad (1 + j) = s.heap.size + j) (hA : A (ad (1 + cells))) (hv : v = nI N) (hN : N ≤ 1000) (hc : cells + 1 ≤ R.cells) (hsl : slots + N ≤ R.slots) (hdg : decode cc pc = .ok (.newarray .int, 2))
    (kk : ∀ H1 : Heap, va_P D vwCl (wW (1 + cells + 1) ad (va_up E (1 + cells) (.inl (tc 0, N, .inl (fun _ => 0))))) H1 → va_S A s.heap H1 locs → W p l e R s m args below meth c H1 locs (cells + 1) (slots + N) Q (F0 m (pc + 2) ls (.ref (ad (1 + cells)) :: rest))) : W p l e R s m args below meth c H locs cells slots Q (F0 m pc ls (.int v :: rest)) := by
  refine W.sized (n_low hP hS (fun j hj => hs j (by omega))) (fun hz => ?_)
  have ha : ad (1 + cells) = H.size := by rw [hs cells (by omega)]; omega
  subst hv
  refine va_newaK (atype := .int) X.1 X.2.1 (show (Cond.arrayClass (newarray.typeOf .int)).before args s = true from X.2.2.2.2.1 _ hw) rfl hdg rfl (nI_pos (by omega)) (nI_clamp (by omega)) (by show N * 4 ≤ _; omega) hc hsl ha.symm (fun H1 cA h1 h2 h3 h4 h5 => ?_)
  have hcA : cA = tc 0 := Option.some.inj (h5.symm.trans (X.2.2.2.2.2.2 0 _ rfl).2)
  subst hcA
  obtain ⟨q1, q2⟩ := n_push (v := .inl (tc 0, N, .inl (fun _ => 0))) hP hS ha hA (show H1[ad (1 + cells)]? = some (vp_cell _ _) from h1) (by omega) (fun q hq => h3 q (by omega))
  exact kk H1 q1 q2
theorem q_newJ {v : Int32} (N : Nat) (X : Cx p s m args c cc nL own D tc) (hw : Cond.arrayClass .long ∈ WS) (hP : va_P D vwCl (wW (1 + cells) ad E) H) (hS : va_S A s.heap H locs) (hs : ∀ j, j < cells + 1 → ad (1 + j) = s.heap.size + j) (hA : A (ad (1 + cells))) (hv : v = nI N) (hN : N ≤ 1000) (hc : cells + 1 ≤ R.cells) (hsl : slots + N ≤ R.slots) (hdg : decode cc pc = .ok (.newarray .long, 2))
    (kk : ∀ H1 : Heap, va_P D vwCl (wW (1 + cells + 1) ad (va_up E (1 + cells) (.inl (tc 1, N, .inr (.inl (fun _ => 0)))))) H1 → va_S A s.heap H1 locs → W p l e R s m args below meth c H1 locs (cells + 1) (slots + N) Q (F0 m (pc + 2) ls (.ref (ad (1 + cells)) :: rest))) : W p l e R s m args below meth c H locs cells slots Q (F0 m pc ls (.int v :: rest)) := by
  refine W.sized (n_low hP hS (fun j hj => hs j (by omega))) (fun hz => ?_)
  have ha : ad (1 + cells) = H.size := by rw [hs cells (by omega)]; omega
  subst hv
  refine va_newaK (atype := .long) X.1 X.2.1 (show (Cond.arrayClass (newarray.typeOf .long)).before args s = true from X.2.2.2.2.1 _ hw) rfl hdg rfl (nI_pos (by omega)) (nI_clamp (by omega)) (by show N * 8 ≤ _; omega) hc hsl ha.symm (fun H1 cA h1 h2 h3 h4 h5 => ?_)
  have hcA : cA = tc 1 := Option.some.inj (h5.symm.trans (X.2.2.2.2.2.2 1 _ rfl).2)
  subst hcA
  obtain ⟨q1, q2⟩ := n_push (v := .inl (tc 1, N, .inr (.inl (fun _ => 0)))) hP hS ha hA (show H1[ad (1 + cells)]? = some (vp_cell _ _) from h1) (by omega) (fun q hq => h3 q (by omega))
  exact kk H1 q1 q2
theorem q_newZ {v : Int32} (N : Nat) (X : Cx p s m args c cc nL own D tc) (hw : Cond.arrayClass .boolean ∈ WS) (hP : va_P D vwCl (wW (1 + cells) ad E) H) (hS : va_S A s.heap H locs) (hs : ∀ j, j < cells + 1 → ad (1 + j) = s.heap.size + j) (hA : A (ad (1 + cells))) (hv : v = nI N) (hN : N ≤ 1000) (hc : cells + 1 ≤ R.cells) (hsl : slots + N ≤ R.slots) (hdg : decode cc pc = .ok (.newarray .boolean, 2))
    (kk : ∀ H1 : Heap, va_P D vwCl (wW (1 + cells + 1) ad (va_up E (1 + cells) (.inl (tc 2, N, .inl (fun _ => 0))))) H1 → va_S A s.heap H1 locs → W p l e R s m args below meth c H1 locs (cells + 1) (slots + N) Q (F0 m (pc + 2) ls (.ref (ad (1 + cells)) :: rest))) : W p l e R s m args below meth c H locs cells slots Q (F0 m pc ls (.int v :: rest)) := by
  refine W.sized (n_low hP hS (fun j hj => hs j (by omega))) (fun hz => ?_)
  have ha : ad (1 + cells) = H.size := by rw [hs cells (by omega)]; omega
  subst hv
  refine va_newaK (atype := .boolean) X.1 X.2.1 (show (Cond.arrayClass (newarray.typeOf .boolean)).before args s = true from X.2.2.2.2.1 _ hw) rfl hdg rfl (nI_pos (by omega)) (nI_clamp (by omega)) (by show N * 1 ≤ _; omega) hc hsl ha.symm (fun H1 cA h1 h2 h3 h4 h5 => ?_)
  have hcA : cA = tc 2 := Option.some.inj (h5.symm.trans (X.2.2.2.2.2.2 2 _ rfl).2)
  subst hcA
  obtain ⟨q1, q2⟩ := n_push (v := .inl (tc 2, N, .inl (fun _ => 0))) hP hS ha hA (show H1[ad (1 + cells)]? = some (vp_cell _ _) from h1) (by omega) (fun q hq => h3 q (by omega))
  exact kk H1 q1 q2
theorem q_newQ {v : Int32} {C : String} {ix : Nat} (N t0 : Nat) {cA0 : ClassId} (X : Cx p s m args c cc nL own D tc) (hw : Cond.classLink own ix C ∈ WS) (hov : Cond.arrayOver (.object C) ∈ WS) (ht : (TY tc)[t0]? = some (cA0, .object C)) (hP : va_P D vwCl (wW (1 + cells) ad E) H) (hS : va_S A s.heap H locs) (hs : ∀ j, j < cells + 1 → ad (1 + j) = s.heap.size + j) (hA : A (ad (1 + cells))) (hv : v = nI N) (hN : N ≤ 1000) (hc : cells + 1 ≤ R.cells) (hsl : slots + N ≤ R.slots) (hdg : decode cc pc = .ok (.anewarray ix, 3))
    (kk : ∀ H1 : Heap, va_P D vwCl (wW (1 + cells + 1) ad (va_up E (1 + cells) (.inl (cA0, N, .inr (.inr (.inr (.inr (fun _ => none)))))))) H1 → va_S A s.heap H1 locs → W p l e R s m args below meth c H1 locs (cells + 1) (slots + N) Q (F0 m (pc + 3) ls (.ref (ad (1 + cells)) :: rest))) : W p l e R s m args below meth c H locs cells slots Q (F0 m pc ls (.int v :: rest)) := by
  refine W.sized (n_low hP hS (fun j hj => hs j (by omega))) (fun hz => ?_)
  have ha : ad (1 + cells) = H.size := by rw [hs cells (by omega)]; omega
  subst hv
  have hcl : (nI N).toNatClampNeg = N := nI_clamp (by omega)
  refine W.anew X.1 X.2.1 X.2.2.2.1 (X.2.2.2.2.1 _ hw) (X.2.2.2.2.1 _ hov) rfl hdg rfl (nI_pos (by omega)) (by rw [hcl]; omega) hc (by rw [hcl]; exact hsl) (fun cA kA comp f1 f2 f3 f4 => ?_)
  rw [hcl]
  obtain ⟨-, kB, cB, r1, r2, r3, r4⟩ := X.2.2.2.2.2.2 t0 _ ht
  have hcA : cA = cA0 := Option.some.inj (f1.symm.trans r4)
  subst hcA
  generalize hH1 : H.push ({ cls := cA, slots := Array.replicate N .null, vm := .none } : Cell) = H1
  have z1 : H1.size = H.size + 1 := by rw [← hH1, Array.size_push]
  have e1 : H1[H.size]? = some (arrV cA N (fun _ => .null)) := by rw [← hH1, Array.getElem?_push_size, ← arrV_new]
  have o1 : ∀ q : Nat, q < H.size → H1[q]? = H[q]? := fun q hq => by rw [← hH1, Array.getElem?_push, if_neg (Nat.ne_of_lt hq)]
  obtain ⟨q1, q2⟩ := n_push (v := .inl (cA, N, .inr (.inr (.inr (.inr (fun _ => none)))))) hP hS ha hA (show H1[ad (1 + cells)]? = some (vp_cell _ _) by rw [ha, vp_cell_q]; exact e1) z1 o1
  have k1 := kk H1 q1 q2
  rw [ha] at k1
  exact k1
theorem q_newO {C : String} {T : u_T} {N ci ix : Nat} {fs : List Value} (ty0 : Nat → FieldType) (X : Cx p s m args c cc nL own D tc) (hin : ∀ w ∈ u_ws C T N, w ∈ WS) (hty : ∀ k, k < N → parseFieldDescriptor (T k).2.2.1 = some (ty0 k)) (hcl : Cond.classLink own ix C ∈ WS) (hinst : Cond.instantiable C N ∈ WS) (hini : Cond.initialized C ∈ WS) (hci : vwCl[ci]? = some (C, T, N)) (hfs : ∀ j, j < N → defaultValue (ty0 j) = vp_V fs j)
    (hP : va_P D vwCl (wW (1 + cells) ad E) H) (hS : va_S A s.heap H locs) (hs : ∀ j, j < cells + 1 → ad (1 + j) = s.heap.size + j) (hA : A (ad (1 + cells))) (hc : cells + 1 ≤ R.cells) (hsl : slots + N ≤ R.slots) (hdg : decode cc pc = .ok (.new ix, 3))
    (kk : ∀ H1 : Heap, va_P D vwCl (wW (1 + cells + 1) ad (va_up E (1 + cells) (.inr (ci, fs)))) H1 → va_S A s.heap H1 locs → W p l e R s m args below meth c H1 locs (cells + 1) (slots + N) Q (F0 m (pc + 3) ls (.ref (ad (1 + cells)) :: rest))) : W p l e R s m args below meth c H locs cells slots Q (F0 m pc ls rest) := by
  refine W.sized (n_low hP hS (fun j hj => hs j (by omega))) (fun hz => ?_)
  have ha : ad (1 + cells) = H.size := by rw [hs cells (by omega)]; omega
  have hts := X.2.2.2.2.1
  have hKn := X.2.2.2.2.2.1 ci _ hci
  refine W.newcK X.1 X.2.1 X.2.2.2.1 (hts _ hcl) (hts _ hinst) (hts _ hini) rfl hdg hc hsl hKn.2.1 rfl fun H1 kC hkC e1 z1 o1 => ?_
  obtain ⟨q1, q2⟩ := n_push (v := .inr (ci, fs)) hP hS ha hA (by rw [ha]; exact ⟨_, hci, (u_born ty0 hts hin hKn hkC e1 hty).to hfs⟩) (by omega) o1
  have k1 := kk H1 q1 q2
  rw [ha] at k1
  exact k1
theorem q_aast {k N t0 qk ci : Nat} {r : vw_C} {f : Nat → Option Nat} {vs : List Value} {i : Int32} {cA : ClassId} (j : Nat) (X : Cx p s m args c cc nL own D tc) (hD : va_D A (wW n ad E)) (hP : va_P D vwCl (wW n ad E) H) (hS : va_S A s.heap H locs) (hk : k < n) (hE : E k = .inl (cA, N, .inr (.inr (.inr (.inr f))))) (ht : (TY tc)[t0]? = some (cA, .object r.1)) (hqk : qk < n) (hV : E qk = .inr (ci, vs)) (hc : vwCl[ci]? = some r) (hi : i = nI j) (hj : j < N) (hN : N < 2 ^ 31) (hdg : decode cc pc = .ok (.aastore, 1))
    (kk : ∀ (H1 : Heap) (locs1 : List Loc), va_D A (wW n ad (va_up E k (.inl (cA, N, .inr (.inr (.inr (.inr (va_up f j (some (ad qk)))))))))) → va_P D vwCl (wW n ad (va_up E k (.inl (cA, N, .inr (.inr (.inr (.inr (va_up f j (some (ad qk)))))))))) H1 → va_S A s.heap H1 locs1 → W p l e R s m args below meth c H1 locs1 cells slots Q (F0 m (pc + 1) ls rest)) : W p l e R s m args below meth c H locs cells slots Q (F0 m pc ls (.ref (ad qk) :: .int i :: .ref (ad k) :: rest)) := by
  subst hi
  refine va_astq (D := D) X.1 X.2.1 X.2.2.2.2.2 hP hD hS k t0 qk ci (wW_get hk hE) ht (wW_get hqk hV) hc (vp_in_nI hj hN) hdg (fun H1 locs1 h1 h2 h3 => ?_)
  rw [nI_clamp (by omega), wW_set] at h1 h2
  exact kk H1 locs1 h2 h1 h3
theorem q_vretN (X : Cx p s m args c cc nL own D tc) (hlk : meth.locks = false) (hr : meth.sig.returnType = none) (hP : va_P D vwCl (wW (1 + g) ad E) H) (hS : va_S (Aw (1 + g) ad) s.heap H locs) (hdg : decode cc pc = .ok (.return_, 1)) (hp : post E) :
    W p l e R s m args below meth c H locs g ms (XQ below (CtNQ D g ad post) args s g ms (Aw (1 + g) ad)) (F0 m pc ls []) :=
  W.mono (fun _ h => XQ.ofM h) (W.vret X.1 X.2.1 hr (fun t ht _ => ⟨⟨rfl, E, hp, by rw [ht]; exact hP⟩, hS.F ht⟩) hS.2.2 hdg hlk)
theorem ctN_blind {ad : Nat → Nat} {E : Nat → va_E} {av : List Value} : FrameBlind (CtNP D tc g ad E av) := fun a U g mk h => ⟨ct_blind a U g mk h.1, h.2⟩
/-- behind a constructor's call: its object is the last cell, what it made lies behind it -/
theorem x_n {a : Array Value} {b : Nat} (hr : H.size = s.heap.size + cells → XRun p l e R s m args below meth c H locs cells slots g ms pc ls st0 rest (CtNQ D g (fun k => ad (b + k)) post a) (Aw (1 + g) (fun k => ad (b + k)))) (hb : b = cells) (hP : va_P D vwCl (wW (1 + cells) ad E) H) (hS : va_S A s.heap H locs) (hs : ∀ j, j < cells + g → ad (1 + j) = s.heap.size + j) (hDD : ∀ n, n ≤ 1 + cells + g → ∀ E' : Nat → va_E, va_D A (wW n ad E'))
    (kk : ∀ (E1 : Nat → va_E) (H1 : Heap) (locs1 : List Loc), post E1 → va_P D vwCl (wW (1 + cells + g) ad (wU (1 + g) (fun k => b + k) E E1)) H1 → va_S A s.heap H1 locs1 → W p l e R s m args below meth c H1 locs1 (cells + g) (slots + ms) Q (F0 m (pc + 3) ls rest)) :
    W p l e R s m args below meth c H locs cells slots Q (F0 m pc ls st0) := by
  refine W.sized (n_low hP hS (fun j hj => hs j (by omega))) (fun hz => ?_)
  intro T hT X
  obtain ⟨o, st₀, t, T', L, h0, X', hL, e1, e2, ⟨⟨rfl, E1, hp, hP1⟩, hzz, hk⟩, hret, hthr⟩ := hr hz T hT X
  rw [h0] at hzz hk
  have hDb := hDD (1 + cells + g) (Nat.le_refl _) E
  have hsub : ∀ q, Aw (1 + g) (fun k => ad (b + k)) q → A q := fun q ⟨k, h1, h2⟩ => by rw [h2]; exact wW_in hDb (by omega)
  have hPn : va_P D vwCl (wW (1 + cells + g) ad (wU (1 + g) (fun k => b + k) E E1)) t.heap := by
    intro k q hq
    obtain ⟨h1, rfl⟩ := wW_inv hq
    by_cases hc : b ≤ k
    · have e : wU (1 + g) (fun k => b + k) E E1 k = E1 (k - b) := by
        have := wU_own (m := 1 + g) (b := b) (F := E) (E1 := E1) (k - b) (by omega)
        rwa [show b + (k - b) = k by omega] at this
      rw [e]
      have := hP1 (k - b) _ (wW_get (by omega) rfl)
      have e2 : ad (b + (k - b)) = ad k := by rw [show b + (k - b) = k by omega]
      rw [e2] at this
      exact this
    · rw [wU_far (by omega)]
      have h2 := hP k _ (wW_get (by omega) rfl)
      refine h2.kept (hk (ad k) h2.lt ?_)
      rintro ⟨j, h3, h4⟩
      have := wW_inj hDb h1 (show b + j < 1 + cells + g by omega) h4
      omega
  have hSn : va_S A s.heap T'.heap (locs ++ L) := ⟨Nat.le_trans hS.1 (by rw [e1]; exact hzz), fun q h1 h2 => by rw [e1, hk q (Nat.lt_of_lt_of_le h1 hS.1) (fun z => h2 (hsub q z))]; exact hS.2.1 q h1 h2, fun q hq => by
    rcases List.mem_append.mp hq with h | h
    · exact hS.2.2 q h
    · exact hsub _ (hL q h)⟩
  obtain ⟨t2, a1, b1⟩ := kk E1 T'.heap (locs ++ L) hp (by rw [e1]; exact hPn) hSn T' rfl X'
  exact ⟨t2, hret _ rfl t2 a1, b1⟩
theorem ctN_pre {b : Nat} {av : List Value} (X : Cx p s m args c cc nL own D tc) (hb : b = cells) (hP : va_P D vwCl (wW (1 + cells) ad E) H) (hs : ∀ j, j < cells + g → ad (1 + j) = s.heap.size + j) (hz : H.size = s.heap.size + cells) :
    ∀ U : State, U.heap = H → s.WarmedH U.vm → CtNP D tc g (fun k => ad (b + k)) (fun k => E (b + k)) av av.toArray U := fun U hU hW =>
  ⟨⟨rfl, by rw [hU]; exact wW_cut (f := fun k => b + k) hP (fun k hk => by show b + k < _; omega), va_K.moved hW.alike X.2.2.2.2.2, fun i j x y hi hj _ => by
      obtain ⟨h1, -⟩ := wW_inv hi
      obtain ⟨h2, -⟩ := wW_inv hj
      omega, fun k q hk => by
      obtain ⟨h1, rfl⟩ := wW_inv hk
      exact ⟨k, h1, rfl⟩⟩, fun j hj => by
    show ad (b + (1 + j)) = U.heap.size + j
    rw [hU, hz, show b + (1 + j) = 1 + (cells + j) by omega, hs (cells + j) (by omega)]
    omega⟩
end CN
