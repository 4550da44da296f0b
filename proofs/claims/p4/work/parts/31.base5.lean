set_option maxRecDepth 20000 in
theorem own_IAE : ∀ a ∈ Bundle.ownAtoms0 R_RW 93 "java/lang/IllegalArgumentException" nmsRT, (a ∈ tables_1 ∧ stW a = true) ∨ a ∈ thw := by decide +kernel
set_option maxRecDepth 20000 in
theorem own_IOB : ∀ a ∈ Bundle.ownAtoms0 R_RW 104 "java/lang/IndexOutOfBoundsException" nmsRT, (a ∈ tables_1 ∧ stW a = true) ∨ a ∈ thw := by decide +kernel
/-- nothing that was there has changed -/
theorem same_nil {s U : State} {k n : Nat} (h : s.sameButNew ({ U with vm := s.vm } : State) [] k n) : ∀ (q : Nat) (c0 : Cell), s.heap[q]? = some c0 → U.heap[q]? = some c0 := by
  intro q c0 hq
  obtain ⟨c', h1, h2, h3, h4⟩ := h.2.2.2.2.2 q c0 hq
  have e : c'.slots = c0.slots := by
    apply Array.ext_getElem?
    intro i
    exact h4 i (by simp)
  have h1' : U.heap[q]? = some c' := h1
  rw [h1', h2, e]
section QT
variable {p : Program} {l : Launch} {e : Env} {R : Room} {s : State} {m : MethodId} {args : Array Value} {below : List Frame} {meth : Method} {c : Code} {H : Heap} {locs : List Loc} {cells slots : Nat} {Q : State → Prop}
variable {cc : ByteArray} {nL pc n : Nat} {own : String} {D : va_G} {tc : Nat → ClassId} {ad : Nat → Nat} {E : Nat → va_E} {A : Nat → Prop} {H0 : Heap} {ls : Array Slot} {rest st0 As : List Value}
/-- throw new X(): new, dup, invokespecial, athrow, where nothing was written before -/
theorem q_throw {cls : String} {ix ic : Nat} {Qc : Array Value → State → Outcome → State → Prop} {free : Addr → Prop} (X : Cx p s m args c cc nL own D tc) (hlk : meth.locks = false) (hf : l.flags = pinnedFlags ++ [noTraceFlag])
    (hat : ∀ a ∈ Bundle.ownAtoms0 own ic cls nmsRT, a.before args s = true) (hcls : Bundle.fit cls = true) (hcl : Cond.classLink own ix cls ∈ WS) (hinst : Cond.instantiable cls 6 ∈ WS) (hini : Cond.initialized cls ∈ WS) (hno : c.exceptionTable.isEmpty = true) (hS : va_S A s.heap H [])
    (hd0 : decode cc pc = .ok (.new ix, 3)) (hd1 : decode cc (pc + 3) = .ok (.dup, 1)) (hd2 : decode cc (pc + 3 + 1) = .ok (.invokespecial ic, 3)) (hd3 : decode cc (pc + 3 + 1 + 3) = .ok (.athrow, 1)) (hsz : ls.size = nL) (hR1 : 1 ≤ R.cells) (hR2 : 6 ≤ R.slots) (hRf : 5 < R.frames) (hRl : 81 ≤ R.locals)
    (hq : ∀ (t : State) (a : Nat) (cell : Cell), s.WarmedH t.vm → (∀ (q : Nat) (c0 : Cell), s.heap[q]? = some c0 → t.heap[q]? = some c0) → s.heap.size ≤ t.heap.size → s.heap.size ≤ a → t.heap[a]? = some cell → cell.vm = .none → s.vm.findClass cls = some cell.cls → Qc args s (.threw a) t) :
    W p l e R s m args below meth c H [] 0 0 (XQ below Qc args s 1 6 free) (F0 m pc ls []) := by
  have hts := X.2.2.2.2.1
  refine W.newc X.1 X.2.1 X.2.2.2.1 (hts _ hcl) (hts _ hinst) (hts _ hini) rfl hd0 (by omega) (by omega) (fun cC kC h1 h2 h3 h4 => ?_)
  show W p l e R s m args below meth c _ [] _ _ _ (F0 m (pc + 3) ls [.ref H.size])
  refine lv_dup X.1 X.2.1 hd1 rfl ?_
  intro T hT XX
  have htr : e.platform.stackTraces = false := Launch.traces_off hf XX.admits
  have hcell : T.heap[H.size]? = some (freshCell cC kC) := by rw [hT]; simp [freshCell]
  obtain ⟨U, st, hrun, hend, hWU, hsame, ce, hce, hown⟩ := XX.ctorThrow0 X.1 htr (names := nmsRT) X.2.2.2.1 hcls (by decide) hat (fun x hx => by cases hx) h1 h2 hcell hS.1 (g := F0 m (pc + 3 + 1) ls [.ref H.size, .ref H.size]) rfl (hsz.trans X.2.2.1.symm) rfl rfl (rest := []) rfl (by rw [X.2.1]; exact hd2) (by rw [X.2.1]; exact hd3) (covers_of_empty hno _)
    (by show 2 + 3 < _; omega) (by show 2 * 0 + (1 + 0) + (13 * (2 + 1) + 41) ≤ _; omega) hlk
  exact ⟨U, st, .threw H.size, hrun, hend, hq U H.size ce hWU (same_nil hsame) hsame.2.1 hS.1 hce hown.vm hown.cls, [], ⟨hWU, hsame⟩, fun q h => by cases h⟩
end QT
def rmT (d : Nat) : Room := { frames := d, cells := 1, slots := 6, locals := 32 * d }
def CtTQ (D : va_G) (n : Nat) (ad : Nat → Nat) (sz : Nat) (post : Outcome → (Nat → va_E) → State → Prop) : Array Value → State → Outcome → State → Prop := fun _ st o t => (∃ E', post o E' t ∧ va_P D vwCl (wW n ad E') t.heap) ∧ va_F (fun q => Aw n ad q ∨ sz ≤ q) st t
def CtTP (D : va_G) (tc : Nat → ClassId) (n : Nat) (ad : Nat → Nat) (E : Nat → va_E) (av : List Value) (sz : Nat) (ex : State → Prop) : Array Value → State → Prop := fun v U => U.heap.size = sz ∧ CtP D tc n ad E av v U ∧ TH U ∧ ex U
/-- a method that makes at most one cell (what it throws) -/
def CtT (l : Launch) (D : va_G) (tc : Nat → ClassId) (y : MethodName) (d n : Nat) (ad : Nat → Nat) (E : Nat → va_E) (av : List Value) (sz : Nat) (ex : State → Prop) (post : Outcome → (Nat → va_E) → State → Prop) : Prop :=
  MetX l y WS (rmT d) (CtTP D tc n ad E av sz ex) (CtTQ D n ad sz post) 1 6 (fun q => Aw n ad q ∨ sz ≤ q)
theorem CtT.ofW {l : Launch} {D : va_G} {tc : Nat → ClassId} {y : MethodName} {d n : Nat} {ad : Nat → Nat} {E : Nat → va_E} {av : List Value} {sz : Nat} {ex : State → Prop} {post : Outcome → (Nat → va_E) → State → Prop} {cc : ByteArray} {maxL : Nat} {ret : Option FieldType} {own : String}
    (hy : plainName y.cls = true) (ho : y.cls = own) (hw : Cond.code y cc maxL ret ∈ WS) (hlen : (lg_sl av).length ≤ maxL)
    (body : ∀ (p : Program) (e : Env) (s : State) (m : MethodId) (args : Array Value) (below : List Frame) (meth : Method) (c : Code) (ls : Array Slot), Cx p s m args c cc maxL own D tc → meth.locks = false → meth.sig.returnType = ret → c.exceptionTable.isEmpty = true → s.heap.size = sz → TH s → ex s → va_D (Aw n ad) (wW n ad E) → va_P D vwCl (wW n ad E) s.heap → va_S (Aw n ad) s.heap s.heap [] → lv_has ls maxL (lv_args 0 av) →
      W p l e (rmT d) s m args below meth c s.heap [] 0 0 (XQ below (CtTQ D n ad sz post) args s 1 6 (fun q => Aw n ad q ∨ sz ≤ q)) (F0 m 0 ls [])) : CtT l D tc y d n ad E av sz ex post := by
  refine MetX.ofW hy hw ?_
  intro p e s m args below meth c s₁ B hml hP
  obtain ⟨hsz, ⟨rfl, hP, hK, hD⟩, hT, hex⟩ := hP
  rw [lg_entry_eq]
  have hts := atoms_spec (ws := WS) B.pre
  exact body p e s m _ below meth c _ ⟨B.exec, B.bytes, hml, (by rw [← ho]; exact findClass_of_methodNamed B.named), hts, hK⟩ B.notSynchronized B.returns (B.noHandlers (hts _ hw)) hsz hT hex hD hP va_S.rf (lv_entry av hlen)
def isThr (C : String) (x sz : Nat) (t : State) : Prop := ∃ cell : Cell, t.heap[x]? = some cell ∧ cell.vm = .none ∧ t.vm.findClass C = some cell.cls ∧ sz ≤ x
section QT2
variable {p : Program} {l : Launch} {e : Env} {R : Room} {s : State} {m : MethodId} {args : Array Value} {below : List Frame} {meth : Method} {c : Code} {H : Heap} {locs : List Loc} {cells slots : Nat} {Q : State → Prop}
variable {cc : ByteArray} {nL pc n : Nat} {own : String} {D : va_G} {tc : Nat → ClassId} {ad : Nat → Nat} {E : Nat → va_E} {A : Nat → Prop} {H0 : Heap} {ls : Array Slot} {rest st0 As : List Value} {post : Outcome → (Nat → va_E) → State → Prop} {sz : Nat}
/-- its end by a throw: the world is as at the entry -/
theorem q_thr (cls : String) {ix ic d : Nat} (X : Cx p s m args c cc nL own D tc) (hlk : meth.locks = false) (hf : l.flags = pinnedFlags ++ [noTraceFlag]) (hat : ∀ a ∈ Bundle.ownAtoms0 own ic cls nmsRT, a.before args s = true) (hcls : Bundle.fit cls = true) (hcl : Cond.classLink own ix cls ∈ WS) (hinst : Cond.instantiable cls 6 ∈ WS) (hini : Cond.initialized cls ∈ WS) (hno : c.exceptionTable.isEmpty = true) (hS : va_S A s.heap H []) (hsz0 : s.heap.size = sz) (hP : va_P D vwCl (wW n ad E) s.heap)
    (hd0 : decode cc pc = .ok (.new ix, 3)) (hd1 : decode cc (pc + 3) = .ok (.dup, 1)) (hd2 : decode cc (pc + 3 + 1) = .ok (.invokespecial ic, 3)) (hd3 : decode cc (pc + 3 + 1 + 3) = .ok (.athrow, 1)) (hsz : ls.size = nL) (hd : 5 < d)
    (hp : ∀ (t : State) (x : Nat), isThr cls x sz t → post (.threw x) E t) :
    W p l e (rmT d) s m args below meth c H [] 0 0 (XQ below (CtTQ D n ad sz post) args s 1 6 (fun q => Aw n ad q ∨ sz ≤ q)) (F0 m pc ls []) := by
  refine q_throw X hlk hf hat hcls hcl hinst hini hno hS hd0 hd1 hd2 hd3 hsz (Nat.le_refl _) (Nat.le_refl _) hd (by show 81 ≤ 32 * d; omega) (fun t a cell hW hk hz ha hc hv hfc => ?_)
  refine ⟨⟨E, hp t a ⟨cell, hc, hv, by rw [hW.alike.findClass]; exact hfc, by omega⟩, hP.kept (fun k q hq => ?_)⟩, hz, fun q h1 _ => ?_⟩
  · obtain ⟨h1, rfl⟩ := wW_inv hq
    have h2 := (hP k _ hq).lt
    rw [Array.getElem?_eq_getElem h2]
    exact hk _ _ (Array.getElem?_eq_getElem h2)
  · rw [Array.getElem?_eq_getElem h1]
    exact hk _ _ (Array.getElem?_eq_getElem h1)
end QT2
/-! readers that write nothing at all: no place is free -/
def Ct0 (l : Launch) (D : va_G) (tc : Nat → ClassId) (y : MethodName) (d n : Nat) (ad : Nat → Nat) (E : Nat → va_E) (av : List Value) (post : Outcome → (Nat → va_E) → Prop) : Prop :=
  MetX l y WS (rmD d) (CtP D tc n ad E av) (CtQ D n ad post) 0 0 (fun _ => False)
theorem Ct0.ofW {l : Launch} {D : va_G} {tc : Nat → ClassId} {y : MethodName} {d n : Nat} {ad : Nat → Nat} {E : Nat → va_E} {av : List Value} {post : Outcome → (Nat → va_E) → Prop} {cc : ByteArray} {maxL : Nat} {ret : Option FieldType} {own : String}
    (hy : plainName y.cls = true) (ho : y.cls = own) (hw : Cond.code y cc maxL ret ∈ WS) (hlen : (lg_sl av).length ≤ maxL)
    (body : ∀ (p : Program) (e : Env) (s : State) (m : MethodId) (args : Array Value) (below : List Frame) (meth : Method) (c : Code) (ls : Array Slot), Cx p s m args c cc maxL own D tc → meth.locks = false → meth.sig.returnType = ret → va_D (Aw n ad) (wW n ad E) → va_P D vwCl (wW n ad E) s.heap → va_S (Aw n ad) s.heap s.heap [] → lv_has ls maxL (lv_args 0 av) →
      W p l e (rmD d) s m args below meth c s.heap [] 0 0 (XQ below (CtQ D n ad post) args s 0 0 (fun _ => False)) (F0 m 0 ls [])) : Ct0 l D tc y d n ad E av post := by
  refine MetX.ofW hy hw ?_
  intro p e s m args below meth c s₁ B hml hP
  obtain ⟨rfl, hP, hK, hD⟩ := hP
  rw [lg_entry_eq]
  exact body p e s m _ below meth c _ ⟨B.exec, B.bytes, hml, (by rw [← ho]; exact findClass_of_methodNamed B.named), atoms_spec (ws := WS) B.pre, hK⟩ B.notSynchronized B.returns hD hP va_S.rf (lv_entry av hlen)
section QZ
variable {p : Program} {l : Launch} {e : Env} {R : Room} {s : State} {m : MethodId} {args : Array Value} {below : List Frame} {meth : Method} {c : Code} {H : Heap} {locs : List Loc} {cells slots : Nat} {Q : State → Prop}
variable {cc : ByteArray} {nL pc n : Nat} {own : String} {D : va_G} {tc : Nat → ClassId} {ad : Nat → Nat} {E : Nat → va_E} {A : Nat → Prop} {H0 : Heap} {ls : Array Slot} {rest st0 As : List Value} {post : Outcome → (Nat → va_E) → Prop}
theorem q_zret0 {v : Int32} (X : Cx p s m args c cc nL own D tc) (hlk : meth.locks = false) (hr : meth.sig.returnType = some .boolean) (hn : narrow .boolean (.int v) = .int v) (hP : va_P D vwCl (wW n ad E) H) (hS : va_S (Aw n ad) s.heap H []) (hdg : decode cc pc = .ok (.ireturn, 1)) (hp : post (.returned (some (.int v))) E) :
    W p l e R s m args below meth c H [] 0 0 (XQ below (CtQ D n ad post) args s 0 0 (fun _ => False)) (F0 m pc ls [.int v]) :=
  W.mono (fun _ h => XQ.ofM h) (W.zret X.1 X.2.1 hr hn (fun t ht _ => ⟨⟨E, hp, by rw [ht]; exact hP⟩, hS.F ht⟩) (fun q h => by cases h) hdg hlk)
theorem x_iE0 {m2 : Nat} {f : Nat → Nat} {a : Array Value} {v : Int32} (hr : XRun p l e R s m args below meth c H locs cells slots 0 0 pc ls st0 rest (CtQ D m2 (fun k => ad (f k)) (fun o E' => o = .returned (some (.int v)) ∧ E' = fun k => E (f k)) a) (fun _ => False)) (hD : va_D A (wW n ad E)) (hP : va_P D vwCl (wW n ad E) H) (hS : va_S A H0 H locs) (hf : ∀ k, k < m2 → f k < n) (hi : ∀ i j, i < m2 → j < m2 → f i = f j → i = j)
    (kk : ∀ H1 : Heap, va_D A (wW n ad E) → va_P D vwCl (wW n ad E) H1 → va_S A H0 H1 locs → W p l e R s m args below meth c H1 locs cells slots Q (F0 m (pc + 3) ls (.int v :: rest))) :
    W p l e R s m args below meth c H locs cells slots Q (F0 m pc ls st0) := by
  intro T hT X
  obtain ⟨o, st₀, t, T', L, h0, X', hL, e1, e2, ⟨⟨E1, ⟨rfl, he⟩, hP1⟩, hz, hk⟩, hret, hthr⟩ := hr T hT X
  have hLn : L = [] := by
    cases L with
    | nil => rfl
    | cons q L => exact (hL q List.mem_cons_self).elim
  subst hLn
  rw [List.append_nil] at X'
  rw [h0] at hz hk
  have hsub : ∀ q, Aw m2 (fun k => ad (f k)) q → A q := fun q ⟨k, h1, h2⟩ => by rw [h2]; exact wW_in hD (hf k h1)
  have hPn : va_P D vwCl (wW n ad E) t.heap := by
    have := wW_back (E1 := E1) hP hD hf hi (fun q h1 h2 => hk q h1 (fun ⟨k, h3, h4⟩ => h2 (Or.inl ⟨k, E (f k), by rw [wW_get h3 rfl, h4]⟩))) hP1
    rwa [wU_same he] at this
  have hSn : va_S A H0 T'.heap locs := ⟨Nat.le_trans hS.1 (by rw [e1]; exact hz), fun q h1 h2 => by rw [e1, hk q (Nat.lt_of_lt_of_le h1 hS.1) (fun z => h2 (hsub q z))]; exact hS.2.1 q h1 h2, hS.2.2⟩
  obtain ⟨t2, a1, b1⟩ := kk T'.heap hD (by rw [e1]; exact hPn) hSn T' rfl X'
  exact ⟨t2, hret _ rfl t2 a1, b1⟩
end QZ
