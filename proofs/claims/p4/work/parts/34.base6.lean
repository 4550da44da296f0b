/-! METHODS WITH HANDLERS: the law's start and step -/
theorem MetX.ofWW {l : Launch} {y : MethodName} {ws : List Cond} {rm : Room} {Pc : Array Value → State → Prop} {Qc : Array Value → State → Outcome → State → Prop} {mc ms : Nat} {free : Addr → Prop} {cc : ByteArray} {maxL : Nat} {ret : Option FieldType} {hh : List (Nat × Nat × Nat × Nat)}
    (hy : plainName y.cls = true) (hw : Cond.codeWith y cc maxL ret hh ∈ ws)
    (body : ∀ p e s m args below meth c s₁, BodyLoose p l y (headSpec ws rm) cc maxL ret e s m args below meth c s₁ → c.maxLocals = maxL → c.exceptionTable.toList.map (fun h => (h.startPc, h.endPc, h.handlerPc, h.catchType)) = hh → Pc args s →
      W p l e (headSpec ws rm).room s m args below meth c s.heap [] 0 0 (XQ below Qc args s mc ms free) (entryFrame m args maxL)) : MetX l y ws rm Pc Qc mc ms free := by
  refine MetFree.of_bodyS (code := cc) (maxLocals := maxL) (ret := ret) hy ?_ ?_
  · intro args s m h hn
    obtain ⟨m9, meth, c, hn9, h1, h2, h3, h4, -, h5, h6, -⟩ := Cond.codeWith_spec (atoms_spec (ws := ws) h _ hw)
    cases hn.symm.trans hn9
    exact ⟨meth, c, h1, h2, h3, h4, h5, h6⟩
  · intro p e s m args below meth c s₁ B hml hP _
    have hh0 : s₁.heap = s.heap := by rw [B.state]; rfl
    have htab : c.exceptionTable.toList.map (fun h => (h.startPc, h.endPc, h.handlerPc, h.catchType)) = hh := by
      obtain ⟨m9, meth9, c9, hn9, h1, h2, -, -, h7, -⟩ := Cond.codeWith_spec (atoms_spec (ws := ws) B.pre _ hw)
      cases B.named.symm.trans hn9
      cases B.method.symm.trans h1
      cases (Stand.of_body B).code.symm.trans h2
      exact h7
    obtain ⟨t, a1, o, b1, b2, b3⟩ := body p e s m args below meth c s₁ B hml htab hP s₁ hh0 (Stand.of_body B)
    exact ⟨t, o, a1, b1, b2, ⟨b3.1, b3.2⟩⟩
theorem go_one {e : Env} {s U : State} {f : JFrame} {a : Addr} {args : Array Value} {own nm C : String} {ct : Nat} {cell : Cell} {x : ExceptionTableEntry} {t : List ExceptionTableEntry} (hWU : s.WarmedH U.vm) (hpl : e.platform.magicAccessors = ({} : Platform).magicAccessors) (hown : s.vm.findClass own = some f.method.cls)
    (hl : (Cond.classLink own ct nm).before args s = true) (hcell : U.heap[a]? = some cell) (hvm : cell.vm = .none) (hC : s.vm.findClass C = some cell.cls) (hx : covers x f.pc = true) (hct : x.catchType = ct) (h0 : ct ≠ 0) :
    ∃ (vm1 : Vm) (cN : ClassId), s.WarmedH vm1 ∧ s.vm.findClass nm = some cN ∧ ∀ (Q : Handler → Pre) (E : CtlPost) (d : Bool) (acts : List Action), wp (findHandler.go f a (x :: t)) Q E e d acts U ↔ if s.vm.assignable cell.cls cN = true then Q (.found x.handlerPc) d acts (U.setVm vm1) else wp (findHandler.go f a t) Q E e d acts (U.setVm vm1) := by
  obtain ⟨cN, hfc, hcl⟩ := Cond.classLink_spec hown hl e.platform hpl
  obtain ⟨hg₁, hwarm₁, hready₁⟩ := State.classEntry (e := e) hWU hcl
  subst hct
  refine ⟨U.vm.noted f.method.cls x.catchType (.cls cN), cN, hwarm₁, hfc, fun Q E d acts => ?_⟩
  have h := go_cold (t := t) (Q := Q) (E := E) (d := d) (acts := acts) hx h0 hg₁ hcell (fun k => by rw [hvm]; intro q; cases q) (Vm.classAt_of_findClass (name := C) (by rw [hwarm₁.alike.findClass]; exact hC)) (Vm.classAt_of_findClass (name := nm) (by rw [hwarm₁.alike.findClass]; exact hfc)) (by no_record)
  rw [hwarm₁.alike.assignable] at h
  exact h
section XH
variable {p : Program} {l : Launch} {e : Env} {R : Room} {s : State} {m : MethodId} {args : Array Value} {below : List Frame} {meth : Method} {c : Code} {H : Heap} {locs : List Loc} {cells slots : Nat} {Q : State → Prop}
variable {cc : ByteArray} {nL pc n : Nat} {own : String} {D : va_G} {tc : Nat → ClassId} {ad : Nat → Nat} {E : Nat → va_E} {A : Nat → Prop} {H0 : Heap} {ls : Array Slot} {rest st0 As : List Value} {post : Outcome → (Nat → va_E) → State → Prop} {sz : Nat}
theorem ctT_blind {n : Nat} {ad : Nat → Nat} {E : Nat → va_E} {av : List Value} {ex : State → Prop} (hex : ∀ u U : State, u.vm.Alike U.vm → ex u → ex U) : FrameBlind (CtTP D tc n ad E av sz ex) := fun a U g mk h => ⟨h.1, ct_blind a U g mk h.2.1, h.2.2.1.moved (Vm.Alike.refl U.vm) (fun _ _ => rfl), hex U _ (Vm.Alike.refl U.vm) h.2.2.2⟩
theorem ctT_pre {m2 : Nat} {f : Nat → Nat} {av : List Value} {ex : State → Prop} (hex : ∀ u U : State, u.vm.Alike U.vm → ex u → ex U) (hex0 : ex s) (hTH : TH s) (hsame : ∀ q, q < s.heap.size → H[q]? = s.heap[q]?) (hsz : H.size = sz) (X : Cx p s m args c cc nL own D tc) (hP : va_P D vwCl (wW n ad E) H) (hD : va_D A (wW n ad E)) (hf : ∀ k, k < m2 → f k < n) (hi : ∀ i j, i < m2 → j < m2 → f i = f j → i = j) :
    ∀ U : State, U.heap = H → s.WarmedH U.vm → CtTP D tc m2 (fun k => ad (f k)) (fun k => E (f k)) av sz ex av.toArray U := fun U hU hW =>
  ⟨by rw [hU]; exact hsz, ct_pre X hP hD hf hi U hU hW, hTH.moved hW.alike (fun q hq => by rw [hU]; exact hsame q hq), hex s U hW.alike hex0⟩
/-- behind a call of a method that makes one cell -/
theorem x_tgo {m2 : Nat} {f : Nat → Nat} {a : Array Value} (hr : XRun p l e R s m args below meth c H locs cells slots 1 6 pc ls st0 rest (CtTQ D m2 (fun k => ad (f k)) sz post a) (fun q => Aw m2 (fun k => ad (f k)) q ∨ sz ≤ q)) (hsz : H.size = sz) (hA : ∀ q, H0.size ≤ q → A q) (hD : va_D A (wW n ad E)) (hP : va_P D vwCl (wW n ad E) H) (hS : va_S A H0 H locs) (hf : ∀ k, k < m2 → f k < n) (hi : ∀ i j, i < m2 → j < m2 → f i = f j → i = j)
    (kk : ∀ (o : Outcome) (E1 : Nat → va_E) (t : State) (locs1 : List Loc), post o E1 t → va_D A (wW n ad (wU m2 f E E1)) → va_P D vwCl (wW n ad (wU m2 f E E1)) t.heap → va_S A H0 t.heap locs1 →
      ∀ T' : State, T'.heap = t.heap → T'.vm = t.vm → Stand p l e R s m args below meth c T' locs1 (cells + 1) (slots + 6) → ∃ g2 : State, (∀ v, o = .returned v → g2 = T'.setTop (F0 m (pc + 3) ls (v.toList ++ rest))) ∧ (∀ x, o = .threw x → g2 = (T'.setTop (F0 m pc ls rest)).pushFrame (.throwing x)) ∧ ∃ t, Steps p.tables e below g2 t ∧ Q t) :
    W p l e R s m args below meth c H locs cells slots Q (F0 m pc ls st0) := by
  intro T hT X
  obtain ⟨o, st₀, t, T', L, h0, X', hL, e1, e2, ⟨⟨E1, hp, hP1⟩, hz, hk⟩, hret, hthr⟩ := hr T hT X
  rw [h0] at hz hk
  have hsub : ∀ q, Aw m2 (fun k => ad (f k)) q ∨ sz ≤ q → A q := fun q h => by
    rcases h with ⟨k, h1, h2⟩ | h
    · rw [h2]; exact wW_in hD (hf k h1)
    · exact hA q (by have := hS.1; omega)
  have hPn : va_P D vwCl (wW n ad (wU m2 f E E1)) t.heap := wW_back hP hD hf hi (fun q h1 h2 => hk q h1 (fun h => h.elim (fun ⟨k, h3, h4⟩ => h2 (Or.inl ⟨k, E (f k), by rw [wW_get h3 rfl, h4]⟩)) (fun h => by omega))) hP1
  have hSn : va_S A H0 t.heap (locs ++ L) := ⟨Nat.le_trans hS.1 hz, fun q h1 h2 => by rw [hk q (Nat.lt_of_lt_of_le h1 hS.1) (fun z => h2 (hsub q z))]; exact hS.2.1 q h1 h2, fun q hq => by
    rcases List.mem_append.mp hq with h | h
    · exact hS.2.2 q h
    · exact hsub _ (hL q h)⟩
  obtain ⟨g2, g3, g4, t2, a1, b1⟩ := kk o E1 t (locs ++ L) hp (wW_D hD) hPn hSn T' e1 e2 X'
  cases o with
  | returned v => exact ⟨t2, hret v rfl t2 (by rw [← g3 v rfl]; exact a1), b1⟩
  | threw x => exact ⟨t2, hthr x rfl t2 (by rw [← g4 x rfl]; exact a1), b1⟩
theorem x_catch {m2 : Nat} {f : Nat → Nat} {a : Array Value} {C : String} {hpc : Nat} (hr : XRun p l e R s m args below meth c H locs cells slots 1 6 pc ls st0 rest (CtTQ D m2 (fun k => ad (f k)) sz post a) (fun q => Aw m2 (fun k => ad (f k)) q ∨ sz ≤ q)) (hsz : H.size = sz) (hA : ∀ q, H0.size ≤ q → A q) (hD : va_D A (wW n ad E)) (hP : va_P D vwCl (wW n ad E) H) (hS : va_S A H0 H locs) (hf : ∀ k, k < m2 → f k < n) (hi : ∀ i j, i < m2 → j < m2 → f i = f j → i = j)
    (ho : ∀ o E1 t, post o E1 t → E1 = (fun k => E (f k)) ∧ ∃ x, o = .threw x ∧ isThr C x sz t)
    (hfind : ∀ (T : State) (locs1 : List Loc) (x : Nat) (cell : Cell), Stand p l e R s m args below meth c T locs1 (cells + 1) (slots + 6) → T.heap[x]? = some cell → cell.vm = .none → s.vm.findClass C = some cell.cls → ∃ vm1 : Vm, s.WarmedH vm1 ∧ FindsC e ((T.setTop (F0 m pc ls rest)).pushFrame (.throwing x)) (F0 m pc ls rest) x (.found hpc) (((T.setTop (F0 m pc ls rest)).pushFrame (.throwing x)).setVm vm1))
    (kk : ∀ (x : Nat) (H1 : Heap) (locs1 : List Loc), va_D A (wW n ad E) → va_P D vwCl (wW n ad E) H1 → va_S A H0 H1 locs1 → W p l e R s m args below meth c H1 locs1 (cells + 1) (slots + 6) Q (F0 m hpc ls [.ref x])) :
    W p l e R s m args below meth c H locs cells slots Q (F0 m pc ls st0) := by
  refine x_tgo hr hsz hA hD hP hS hf hi (fun o E1 t locs1 hp h1 h2 h3 T' hT hvm X' => ?_)
  obtain ⟨he, x, rfl, cell, hc, hv, hfc, -⟩ := ho o E1 t hp
  rw [wU_same he] at h1 h2
  obtain ⟨vm1, hW1, hF⟩ := hfind T' locs1 x cell X' (by rw [hT]; exact hc) hv (by rw [← X'.warmed.alike.findClass, hvm]; exact hfc)
  obtain ⟨t2, a1, b1⟩ := kk x t.heap locs1 h1 h2 h3 (T'.setVm vm1) hT (X'.noted hW1)
  exact ⟨_, fun v hv => (by cases hv), fun x hx => (by cases hx; rfl), t2, Steps.caughtC (g := F0 m pc ls rest) X'.here hF a1, b1⟩
/-- the first handler's class is the thrown one's -/
theorem fd1 {T : State} {locs1 : List Loc} {k1 k2 x : Nat} {cell : Cell} {C : String} {a1 b1 p1 ct : Nat} {tl : List (Nat × Nat × Nat × Nat)} {g : JFrame} (hg : g.method = m) (XX : Stand p l e R s m args below meth c T locs1 k1 k2) (X : Cx p s m args c cc nL own D tc) (htab : c.exceptionTable.toList.map (fun h => (h.startPc, h.endPc, h.handlerPc, h.catchType)) = (a1, b1, p1, ct) :: tl)
    (hpc : a1 ≤ g.pc ∧ g.pc < b1) (h0 : ct ≠ 0) (hl : Cond.classLink own ct C ∈ WS) (hca : Cond.castable C C ∈ WS) (hc : T.heap[x]? = some cell) (hv : cell.vm = .none) (hC : s.vm.findClass C = some cell.cls) :
    ∃ vm1 : Vm, s.WarmedH vm1 ∧ FindsC e ((T.setTop g).pushFrame (.throwing x)) g x (.found p1) (((T.setTop g).pushFrame (.throwing x)).setVm vm1) := by
  have hpl : e.platform.magicAccessors = ({} : Platform).magicAccessors := by rw [XX.admits.platform]
  have hvmS : ((T.setTop g).pushFrame (.throwing x)).vm = T.vm := Stand.throwing_vm T g x
  have hhS : ((T.setTop g).pushFrame (.throwing x)).heap = T.heap := Stand.throwing_heap T g x
  obtain ⟨x1, es, hes, hx1, -⟩ := List.map_eq_cons_iff.mp htab
  simp only [Prod.mk.injEq] at hx1
  obtain ⟨e1, e2, e3, e4⟩ := hx1
  obtain ⟨vm1, cN, hW1, hfN, hgo⟩ := go_one (e := e) (s := s) (U := (T.setTop g).pushFrame (.throwing x)) (f := g) (a := x) (args := args) (own := own) (nm := C) (C := C) (ct := ct) (x := x1) (t := es) (by rw [hvmS]; exact XX.warmed) hpl (by rw [hg]; exact X.2.2.2.1) (X.2.2.2.2.1 _ hl) (by rw [hhS]; exact hc) hv hC (by simp [covers, e1, e2, hpc.1, hpc.2]) e4 h0
  obtain ⟨cA, cB, q1, q2, q3⟩ := Cond.castable_spec (X.2.2.2.2.1 _ hca)
  cases hC.symm.trans q1
  cases hfN.symm.trans q2
  refine ⟨vm1, hW1, fun Q E d acts => ?_⟩
  rw [W.findHandler_eq (meth := meth) (code := c) (by rw [hvmS, hg]; exact XX.method') XX.code, hes, hgo, if_pos q3, e3]
/-- the second's -/
theorem fd2 {T : State} {locs1 : List Loc} {k1 k2 x : Nat} {cell : Cell} {C N1 : String} {a1 b1 p1 c1 a2 b2 p2 c2 : Nat} {tl : List (Nat × Nat × Nat × Nat)} {g : JFrame} (hg : g.method = m) (XX : Stand p l e R s m args below meth c T locs1 k1 k2) (X : Cx p s m args c cc nL own D tc) (htab : c.exceptionTable.toList.map (fun h => (h.startPc, h.endPc, h.handlerPc, h.catchType)) = (a1, b1, p1, c1) :: (a2, b2, p2, c2) :: tl)
    (hpc : a1 ≤ g.pc ∧ g.pc < b1) (hpc2 : a2 ≤ g.pc ∧ g.pc < b2) (h0 : c1 ≠ 0) (h02 : c2 ≠ 0) (hl : Cond.classLink own c1 N1 ∈ WS) (hn : va_Nc C N1 s) (hl2 : Cond.classLink own c2 C ∈ WS) (hca : Cond.castable C C ∈ WS) (hc : T.heap[x]? = some cell) (hv : cell.vm = .none) (hC : s.vm.findClass C = some cell.cls) :
    ∃ vm1 : Vm, s.WarmedH vm1 ∧ FindsC e ((T.setTop g).pushFrame (.throwing x)) g x (.found p2) (((T.setTop g).pushFrame (.throwing x)).setVm vm1) := by
  have hpl : e.platform.magicAccessors = ({} : Platform).magicAccessors := by rw [XX.admits.platform]
  have hvmS : ((T.setTop g).pushFrame (.throwing x)).vm = T.vm := Stand.throwing_vm T g x
  have hhS : ((T.setTop g).pushFrame (.throwing x)).heap = T.heap := Stand.throwing_heap T g x
  obtain ⟨x1, es, hes, hx1, hes2⟩ := List.map_eq_cons_iff.mp htab
  obtain ⟨x2, es2, hes3, hx2, -⟩ := List.map_eq_cons_iff.mp hes2
  simp only [Prod.mk.injEq] at hx1 hx2
  obtain ⟨e1, e2, e3, e4⟩ := hx1
  obtain ⟨f1, f2, f3, f4⟩ := hx2
  subst hes3
  obtain ⟨vm1, cN, hW1, hfN, hgo⟩ := go_one (e := e) (s := s) (U := (T.setTop g).pushFrame (.throwing x)) (f := g) (a := x) (args := args) (own := own) (nm := N1) (C := C) (ct := c1) (x := x1) (t := x2 :: es2) (by rw [hvmS]; exact XX.warmed) hpl (by rw [hg]; exact X.2.2.2.1) (X.2.2.2.2.1 _ hl) (by rw [hhS]; exact hc) hv hC (by simp [covers, e1, e2, hpc.1, hpc.2]) e4 h0
  obtain ⟨vm2, cM, hW2, hfM, hgo2⟩ := go_one (e := e) (s := s) (U := ((T.setTop g).pushFrame (.throwing x)).setVm vm1) (f := g) (a := x) (args := args) (own := own) (nm := C) (C := C) (ct := c2) (x := x2) (t := es2) hW1 hpl (by rw [hg]; exact X.2.2.2.1) (X.2.2.2.2.1 _ hl2) (by show ((T.setTop g).pushFrame (.throwing x)).heap[x]? = _; rw [hhS]; exact hc) hv hC (by simp [covers, f1, f2, hpc2.1, hpc2.2]) f4 h02
  obtain ⟨cA, cB, q1, q2, q3⟩ := Cond.castable_spec (X.2.2.2.2.1 _ hca)
  cases hC.symm.trans q1
  cases hfM.symm.trans q2
  obtain ⟨cA', cB', r1, r2, r3⟩ := hn
  cases hC.symm.trans r1
  cases hfN.symm.trans r2
  refine ⟨vm2, hW2, fun Q E d acts => ?_⟩
  rw [W.findHandler_eq (meth := meth) (code := c) (by rw [hvmS, hg]; exact XX.method') XX.code, hes, hgo, if_neg (by rw [r3]; decide), hgo2, if_pos q3, f3]
  rfl
end XH
