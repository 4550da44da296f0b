/-! CALLS: a run of a callee by its contract (it returns or throws), then what goes on behind it -/
section XC
variable {p : Program} {l : Launch} {e : Env} {R : Room} {s : State} {m : MethodId} {args : Array Value} {below : List Frame} {meth : Method} {c : Code} {H : Heap} {locs : List Loc} {cells slots : Nat} {Q : State → Prop}
variable {cc : ByteArray} {nL pc n : Nat} {own : String} {D : va_G} {tc : Nat → ClassId} {ad : Nat → Nat} {E : Nat → va_E} {A : Nat → Prop} {H0 : Heap} {ls : Array Slot} {rest st0 As : List Value} {post : Outcome → (Nat → va_E) → Prop}
variable {y : MethodName} {bytes : ByteArray} {maxL mc ms index : Nat} {ret : Option FieldType} {rm : Room} {Pc : Array Value → State → Prop} {Qc : Array Value → State → Outcome → State → Prop} {free : Addr → Prop} {C host : String} {b : Nat}
def XRun (p : Program) (l : Launch) (e : Env) (R : Room) (s : State) (m : MethodId) (args : Array Value) (below : List Frame) (meth : Method) (c : Code) (H : Heap) (locs : List Loc) (cells slots mc ms pc : Nat) (ls : Array Slot) (st0 rest : List Value) (Qa : State → Outcome → State → Prop) (free : Addr → Prop) : Prop :=
  ∀ T : State, T.heap = H → Stand p l e R s m args below meth c T locs cells slots → ∃ (o : Outcome) (st₀ t T' : State) (L : List Loc), st₀.heap = H ∧ Stand p l e R s m args below meth c T' (locs ++ L) (cells + mc) (slots + ms) ∧ (∀ q ∈ L, free q.base) ∧ T'.heap = t.heap ∧ T'.vm = t.vm ∧ Qa st₀ o t ∧
    (∀ v, o = .returned v → ∀ tg, Steps p.tables e below (T'.setTop (F0 m (pc + 3) ls (v.toList ++ rest))) tg → Steps p.tables e below (T.setTop (F0 m pc ls st0)) tg) ∧
    (∀ x, o = .threw x → ∀ tg, Steps p.tables e below ((T'.setTop (F0 m pc ls rest)).pushFrame (.throwing x)) tg → Steps p.tables e below (T.setTop (F0 m pc ls st0)) tg)
theorem x_core {mk : MethodId} {vm₁ : Vm} {T : State} {ig : Instr} {a : Array Value} (X : Cx p s m args c cc nL own D tc) (hM : MetX l y WS rm Pc Qc mc ms free) (hrc : rm.cells = mc) (hrs : rm.slots = ms) (hfr : rm.frames + 1 ≤ R.frames) (hlo : 8 + (maxL + 11) + rm.locals ≤ R.locals)
    (hcode : Cond.code y bytes maxL ret ∈ WS) (hini : Cond.initialized y.cls ∈ WS) (hnamed : s.methodNamed? y = some mk) (hPc : ∀ U : State, U.heap = H → s.WarmedH U.vm → Pc a U) (hblind : FrameBlind Pc)
    (hsz : ls.size = nL) (hW : (rest.map fun v => v.category).sum ≤ 8) (hdg : decode cc pc = .ok (ig, 3)) (hf : cells + mc ≤ R.cells ∧ slots + ms ≤ R.slots) (hT : T.heap = H)
    (X₁ : Stand p l e R s m args below meth c (T.setVm vm₁) locs cells slots)
    (hstep₁ : ∀ tg, (∀ acts, Steps p.tables e below (doInvoke e ((T.setVm vm₁).setTop (F0 m pc ls rest)) acts mk a).1 tg) → Steps p.tables e below (T.setTop (F0 m pc ls st0)) tg) :
    ∃ (o : Outcome) (st₀ t T' : State) (L : List Loc), st₀.heap = H ∧ Stand p l e R s m args below meth c T' (locs ++ L) (cells + mc) (slots + ms) ∧ (∀ q ∈ L, free q.base) ∧ T'.heap = t.heap ∧ T'.vm = t.vm ∧ Qc a st₀ o t ∧
    (∀ v, o = .returned v → ∀ tg, Steps p.tables e below (T'.setTop (F0 m (pc + 3) ls (v.toList ++ rest))) tg → Steps p.tables e below (T.setTop (F0 m pc ls st0)) tg) ∧
    (∀ x, o = .threw x → ∀ tg, Steps p.tables e below ((T'.setTop (F0 m pc ls rest)).pushFrame (.throwing x)) tg → Steps p.tables e below (T.setTop (F0 m pc ls st0)) tg) := by
  obtain ⟨hx, hb, hml, ho, hts, hK⟩ := X
  obtain ⟨o, t, T', L, XB, e1, e2, hq, hL, hret, hthr⟩ := MetX.go (W := 8) (bytes := bytes) (maxL := maxL) (ret := ret) hM hrc hrs hfr hlo X₁ (g := F0 m pc ls rest) (ig := ig) (len := 3) (mk := mk) (a := a) rfl (hsz.trans hml.symm) (by rw [hb]; exact hdg) (lv_room hW) (X₁.named hnamed)
    (atoms_intro (ws_warm X₁.warmed hts)) (ws_warm X₁.warmed hts _ hcode) (ws_warm X₁.warmed hts _ hini) hf.1 hf.2 (hblind _ _ _ _ (hPc _ hT X₁.warmed))
  refine ⟨o, _, t, T', L, ?_, XB, hL, e1, e2, hq, fun v hv tg hs => hstep₁ _ fun acts => ?_, fun x hx' tg hs => hstep₁ _ fun acts => ?_⟩
  · exact hT
  · rw [doInvoke_state]; exact (hret v hv).trans hs
  · rw [doInvoke_state]; exact (hthr x hx').trans hs
theorem x_len {sig : ClassFile.MethodDescriptor} (hlen : (parseMethodDescriptor y.desc).map (fun d => d.parameters.length) = some As.length) (h : parseMethodDescriptor y.desc = some sig) : As.length = sig.parameters.length := by
  rw [h] at hlen
  exact (Option.some.inj hlen).symm
abbrev Ry (y : MethodName) (n : Nat) : Prop := (y.cls ≠ "java/lang/invoke/MethodHandle" ∧ y.cls ≠ "java/lang/invoke/VarHandle") ∧ (parseMethodDescriptor y.desc).map (fun d => d.parameters.length) = some n
theorem x_runV (X : Cx p s m args c cc nL own D tc) (hM : MetX l y WS rm Pc Qc mc ms free) (hrc : rm.cells = mc) (hrs : rm.slots = ms) (hfr : rm.frames + 1 ≤ R.frames) (hlo : 8 + (maxL + 11) + rm.locals ≤ R.locals)
    (hcode : Cond.code y bytes maxL ret ∈ WS) (hini : Cond.initialized y.cls ∈ WS) (hlink : Cond.methodLink own index y ∈ WS) (hinst : Cond.instanceMethod y ∈ WS) (hsel : Cond.selects C y y ∈ WS) (hy : Ry y As.length)
    (hcell : ∃ cellB : Cell, H[b]? = some cellB ∧ cellB.vm.isStatics = false ∧ s.vm.findClass C = some cellB.cls) (hPc : ∀ U : State, U.heap = H → s.WarmedH U.vm → Pc (Value.ref b :: As).toArray U) (hblind : FrameBlind Pc)
    (hsz : ls.size = nL) (hW : (rest.map fun v => v.category).sum ≤ 8) (hdg : decode cc pc = .ok (.invokevirtual index, 3)) (hf : cells + mc ≤ R.cells ∧ slots + ms ≤ R.slots) :
    XRun p l e R s m args below meth c H locs cells slots mc ms pc ls (As.reverse ++ .ref b :: rest) rest (Qc (Value.ref b :: As).toArray) free := by
  intro T hT XX
  have hts := X.2.2.2.2.1
  obtain ⟨mk, methM, hnamed, hmethM, hstM, habM⟩ := Cond.instanceMethod_spec (hts _ hinst)
  obtain ⟨methM', cM, hmethM', -, -, -, -, -, -, hsigM⟩ := Cond.code_spec hnamed (hts _ hcode)
  cases hmethM.symm.trans hmethM'
  obtain ⟨c2, r2, m2, q1, q2, q3, q4, kP, hkP, hkPi⟩ := Cond.selects_spec (hts _ hsel)
  obtain ⟨cellB, hcB, hoB, hclB⟩ := hcell
  cases hclB.symm.trans q1
  cases (State.methodFound?_of_named hnamed hy.1).symm.trans q2
  cases hnamed.symm.trans q3
  have hselP : selectMethod e.platform s.vm cellB.cls mk = .method mk := by rw [Launch.admits_selectMethod XX.admits]; exact q4
  obtain ⟨vm₁, X₁, hstep₁⟩ := XX.invokevirtual X.1 X.2.2.2.1 (hts _ hlink) hnamed hmethM hstM hkP hkPi hy.1 (a := b) (cell := cellB) (by rw [hT]; exact hcB)
    (fun z h => by rw [h] at hoB; cases hoB) hselP hmethM habM hkP hkPi (g := F0 m pc ls (As.reverse ++ .ref b :: rest)) rfl (argsL := As) (rest := rest) (x_len hy.2 hsigM) rfl (by rw [X.2.1]; exact hdg)
  exact x_core X hM hrc hrs hfr hlo hcode hini hnamed hPc hblind hsz hW hdg hf hT X₁ hstep₁
theorem x_runVN (X : Cx p s m args c cc nL own D tc) (hM : MetX l y WS rm Pc Qc mc ms free) (hrc : rm.cells = mc) (hrs : rm.slots = ms) (hfr : rm.frames + 1 ≤ R.frames) (hlo : 8 + (maxL + 11) + rm.locals ≤ R.locals)
    (hcode : Cond.code y bytes maxL ret ∈ WS) (hini : Cond.initialized y.cls ∈ WS) (hlink : Cond.methodLinkNest own index y host ∈ WS) (hinst : Cond.instanceMethod y ∈ WS) (hsel : Cond.selects C y y ∈ WS) (hy : Ry y As.length)
    (hcell : ∃ cellB : Cell, H[b]? = some cellB ∧ cellB.vm.isStatics = false ∧ s.vm.findClass C = some cellB.cls) (hPc : ∀ U : State, U.heap = H → s.WarmedH U.vm → Pc (Value.ref b :: As).toArray U) (hblind : FrameBlind Pc)
    (hsz : ls.size = nL) (hW : (rest.map fun v => v.category).sum ≤ 8) (hdg : decode cc pc = .ok (.invokevirtual index, 3)) (hf : cells + mc ≤ R.cells ∧ slots + ms ≤ R.slots) :
    XRun p l e R s m args below meth c H locs cells slots mc ms pc ls (As.reverse ++ .ref b :: rest) rest (Qc (Value.ref b :: As).toArray) free := by
  intro T hT XX
  have hts := X.2.2.2.2.1
  obtain ⟨mk, methM, hnamed, hmethM, hstM, habM⟩ := Cond.instanceMethod_spec (hts _ hinst)
  obtain ⟨methM', cM, hmethM', -, -, -, -, -, -, hsigM⟩ := Cond.code_spec hnamed (hts _ hcode)
  cases hmethM.symm.trans hmethM'
  obtain ⟨c2, r2, m2, q1, q2, q3, q4, kP, hkP, hkPi⟩ := Cond.selects_spec (hts _ hsel)
  obtain ⟨cellB, hcB, hoB, hclB⟩ := hcell
  cases hclB.symm.trans q1
  cases (State.methodFound?_of_named hnamed hy.1).symm.trans q2
  cases hnamed.symm.trans q3
  have hselP : selectMethod e.platform s.vm cellB.cls mk = .method mk := by rw [Launch.admits_selectMethod XX.admits]; exact q4
  obtain ⟨vm₁, X₁, hstep₁⟩ := XX.invokevirtualNest X.1 X.2.2.2.1 (hts _ hlink) hnamed hmethM hstM hkP hkPi hy.1 (a := b) (cell := cellB) (by rw [hT]; exact hcB)
    (fun z h => by rw [h] at hoB; cases hoB) hselP hmethM habM hkP hkPi (g := F0 m pc ls (As.reverse ++ .ref b :: rest)) rfl (argsL := As) (rest := rest) (x_len hy.2 hsigM) rfl (by rw [X.2.1]; exact hdg)
  exact x_core X hM hrc hrs hfr hlo hcode hini hnamed hPc hblind hsz hW hdg hf hT X₁ hstep₁
theorem x_runS (X : Cx p s m args c cc nL own D tc) (hM : MetX l y WS rm Pc Qc mc ms free) (hrc : rm.cells = mc) (hrs : rm.slots = ms) (hfr : rm.frames + 1 ≤ R.frames) (hlo : 8 + (maxL + 11) + rm.locals ≤ R.locals)
    (hcode : Cond.code y bytes maxL ret ∈ WS) (hini : Cond.initialized y.cls ∈ WS) (hlink : Cond.methodLink own index y ∈ WS) (hstat : Cond.static y ∈ WS) (hy : Ry y As.length)
    (hPc : ∀ U : State, U.heap = H → s.WarmedH U.vm → Pc As.toArray U) (hblind : FrameBlind Pc)
    (hsz : ls.size = nL) (hW : (rest.map fun v => v.category).sum ≤ 8) (hdg : decode cc pc = .ok (.invokestatic index, 3)) (hf : cells + mc ≤ R.cells ∧ slots + ms ≤ R.slots) :
    XRun p l e R s m args below meth c H locs cells slots mc ms pc ls (As.reverse ++ rest) rest (Qc As.toArray) free := by
  intro T hT XX
  have hts := X.2.2.2.2.1
  obtain ⟨mk, hnamed⟩ := Cond.code_named (hts _ hcode)
  obtain ⟨methM, cM, hmethM, -, -, -, -, -, -, hsigM⟩ := Cond.code_spec hnamed (hts _ hcode)
  have hstatic : methM.isStatic = true := Cond.static_spec hnamed hmethM (hts _ hstat)
  obtain ⟨kP, hkP, -⟩ := className_of_methodNamed hnamed
  have hinitP : kP.init = .initialized := Cond.initialized_spec (findClass_of_methodNamed hnamed) hkP (hts _ hini)
  obtain ⟨vm₁, X₁, hstep₁⟩ := XX.invokestatic X.1 X.2.2.2.1 (hts _ hlink) hnamed hmethM hstatic hkP hinitP hy.1 (g := F0 m pc ls (As.reverse ++ rest)) rfl (argsL := As) (rest := rest) (x_len hy.2 hsigM) rfl (by rw [X.2.1]; exact hdg)
  exact x_core X hM hrc hrs hfr hlo hcode hini hnamed hPc hblind hsz hW hdg hf hT X₁ hstep₁
theorem x_runI (X : Cx p s m args c cc nL own D tc) (hM : MetX l y WS rm Pc Qc mc ms free) (hrc : rm.cells = mc) (hrs : rm.slots = ms) (hfr : rm.frames + 1 ≤ R.frames) (hlo : 8 + (maxL + 11) + rm.locals ≤ R.locals)
    (hcode : Cond.code y bytes maxL none ∈ WS) (hini : Cond.initialized y.cls ∈ WS) (hlink : Cond.methodLink own index y ∈ WS) (hinst : Cond.instanceMethod y ∈ WS) (hy1 : y.name = "<init>") (hy : Ry y As.length)
    (hPc : ∀ U : State, U.heap = H → s.WarmedH U.vm → Pc (Value.ref b :: As).toArray U) (hblind : FrameBlind Pc)
    (hsz : ls.size = nL) (hW : (rest.map fun v => v.category).sum ≤ 8) (hdg : decode cc pc = .ok (.invokespecial index, 3)) (hf : cells + mc ≤ R.cells ∧ slots + ms ≤ R.slots) :
    XRun p l e R s m args below meth c H locs cells slots mc ms pc ls (As.reverse ++ .ref b :: rest) rest (Qc (Value.ref b :: As).toArray) free := by
  intro T hT XX
  have hts := X.2.2.2.2.1
  have hpl : e.platform.magicAccessors = ({} : Platform).magicAccessors := by rw [XX.admits.platform]
  obtain ⟨mk, methM, cM, kP, vm₁, hnamed, hmethM, hcodeM, -, hlocalsM, -, hkP, -, hW₁, hstep₁⟩ := Steps.initColdArgs (e := e) XX.here X.1 XX.warmed hpl X.2.2.2.1 hy1 hy.1 (hts _ hlink) (hts _ hinst) (hts _ hcode) (f := F0 m pc ls (As.reverse ++ .ref b :: rest)) rfl (fun sig h => x_len hy.2 h) rfl (by rw [X.2.1]; exact hdg)
  exact x_core X hM hrc hrs hfr hlo hcode hini hnamed hPc hblind hsz hW hdg hf hT (XX.noted hW₁) hstep₁
theorem x_runIN (X : Cx p s m args c cc nL own D tc) (hM : MetX l y WS rm Pc Qc mc ms free) (hrc : rm.cells = mc) (hrs : rm.slots = ms) (hfr : rm.frames + 1 ≤ R.frames) (hlo : 8 + (maxL + 11) + rm.locals ≤ R.locals)
    (hcode : Cond.code y bytes maxL none ∈ WS) (hini : Cond.initialized y.cls ∈ WS) (hlink : Cond.methodLinkNest own index y host ∈ WS) (hinst : Cond.instanceMethod y ∈ WS) (hy1 : y.name = "<init>") (hy : Ry y As.length)
    (hPc : ∀ U : State, U.heap = H → s.WarmedH U.vm → Pc (Value.ref b :: As).toArray U) (hblind : FrameBlind Pc)
    (hsz : ls.size = nL) (hW : (rest.map fun v => v.category).sum ≤ 8) (hdg : decode cc pc = .ok (.invokespecial index, 3)) (hf : cells + mc ≤ R.cells ∧ slots + ms ≤ R.slots) :
    XRun p l e R s m args below meth c H locs cells slots mc ms pc ls (As.reverse ++ .ref b :: rest) rest (Qc (Value.ref b :: As).toArray) free := by
  intro T hT XX
  have hts := X.2.2.2.2.1
  have hpl : e.platform.magicAccessors = ({} : Platform).magicAccessors := by rw [XX.admits.platform]
  obtain ⟨mk, methM, cM, kP, vm₁, hnamed, hmethM, hcodeM, -, hlocalsM, -, hkP, -, hW₁, hstep₁⟩ := Steps.initColdArgsNest (e := e) XX.here X.1 XX.warmed hpl X.2.2.2.1 hy1 hy.1 (hts _ hlink) (hts _ hinst) (hts _ hcode) (f := F0 m pc ls (As.reverse ++ .ref b :: rest)) rfl (fun sig h => x_len hy.2 h) rfl (by rw [X.2.1]; exact hdg)
  exact x_core X hM hrc hrs hfr hlo hcode hini hnamed hPc hblind hsz hW hdg hf hT (XX.noted hW₁) hstep₁
-- what goes on behind a call of a method that makes nothing (m2 cells, the callee's k-th is the caller's f k-th)
theorem ct_blind {n : Nat} {ad : Nat → Nat} {E : Nat → va_E} {av : List Value} : FrameBlind (CtP D tc n ad E av) := fun a U g mk h => ⟨h.1, h.2.1, va_K.moved (u := U) (U := U.calling g mk a) (Vm.Alike.refl U.vm) h.2.2.1, h.2.2.2⟩
theorem ct_pre {m2 : Nat} {f : Nat → Nat} {av : List Value} (X : Cx p s m args c cc nL own D tc) (hP : va_P D vwCl (wW n ad E) H) (hD : va_D A (wW n ad E)) (hf : ∀ k, k < m2 → f k < n) (hi : ∀ i j, i < m2 → j < m2 → f i = f j → i = j) :
    ∀ U : State, U.heap = H → s.WarmedH U.vm → CtP D tc m2 (fun k => ad (f k)) (fun k => E (f k)) av av.toArray U := fun U hU hW =>
  ⟨rfl, by rw [hU]; exact wW_cut hP hf, va_K.moved hW.alike X.2.2.2.2.2, (wW_cutD hD hf hi).1, fun k q hk => by
    obtain ⟨h1, rfl⟩ := wW_inv hk
    exact ⟨k, h1, rfl⟩⟩
theorem x_go {m2 : Nat} {f : Nat → Nat} {a : Array Value} (hr : XRun p l e R s m args below meth c H locs cells slots 0 0 pc ls st0 rest (CtQ D m2 (fun k => ad (f k)) post a) (Aw m2 (fun k => ad (f k)))) (hD : va_D A (wW n ad E)) (hP : va_P D vwCl (wW n ad E) H) (hS : va_S A H0 H locs) (hf : ∀ k, k < m2 → f k < n) (hi : ∀ i j, i < m2 → j < m2 → f i = f j → i = j)
    (kk : ∀ (o : Outcome) (E1 : Nat → va_E) (H1 : Heap) (locs1 : List Loc), post o E1 → va_D A (wW n ad (wU m2 f E E1)) → va_P D vwCl (wW n ad (wU m2 f E E1)) H1 → va_S A H0 H1 locs1 →
      ∀ T' : State, T'.heap = H1 → Stand p l e R s m args below meth c T' locs1 cells slots → ∃ g2 : State, (∀ v, o = .returned v → g2 = T'.setTop (F0 m (pc + 3) ls (v.toList ++ rest))) ∧ (∀ x, o = .threw x → g2 = (T'.setTop (F0 m pc ls rest)).pushFrame (.throwing x)) ∧ ∃ t, Steps p.tables e below g2 t ∧ Q t) :
    W p l e R s m args below meth c H locs cells slots Q (F0 m pc ls st0) := by
  intro T hT X
  obtain ⟨o, st₀, t, T', L, h0, X', hL, e1, e2, ⟨⟨E1, hp, hP1⟩, hz, hk⟩, hret, hthr⟩ := hr T hT X
  rw [h0] at hz hk
  have hsub : ∀ q, Aw m2 (fun k => ad (f k)) q → A q := fun q ⟨k, h1, h2⟩ => by rw [h2]; exact wW_in hD (hf k h1)
  have hPn : va_P D vwCl (wW n ad (wU m2 f E E1)) t.heap := wW_back hP hD hf hi (fun q h1 h2 => hk q h1 (fun ⟨k, h3, h4⟩ => h2 (Or.inl ⟨k, E (f k), by rw [wW_get h3 rfl, h4]⟩))) hP1
  have hSn : va_S A H0 T'.heap (locs ++ L) := ⟨Nat.le_trans hS.1 (by rw [e1]; exact hz), fun q h1 h2 => by rw [e1, hk q (Nat.lt_of_lt_of_le h1 hS.1) (fun z => h2 (hsub q z))]; exact hS.2.1 q h1 h2, fun q hq => by
    rcases List.mem_append.mp hq with h | h
    · exact hS.2.2 q h
    · exact hsub _ (hL q h)⟩
  obtain ⟨g2, g3, g4, t2, a1, b1⟩ := kk o E1 T'.heap (locs ++ L) hp (wW_D hD) (by rw [e1]; exact hPn) hSn T' rfl X'
  cases o with
  | returned v => exact ⟨t2, hret v rfl t2 (by rw [← g3 v rfl]; exact a1), b1⟩
  | threw x => exact ⟨t2, hthr x rfl t2 (by rw [← g4 x rfl]; exact a1), b1⟩
theorem x_i {m2 : Nat} {f : Nat → Nat} {a : Array Value} (hr : XRun p l e R s m args below meth c H locs cells slots 0 0 pc ls st0 rest (CtQ D m2 (fun k => ad (f k)) post a) (Aw m2 (fun k => ad (f k)))) (hD : va_D A (wW n ad E)) (hP : va_P D vwCl (wW n ad E) H) (hS : va_S A H0 H locs) (hf : ∀ k, k < m2 → f k < n) (hi : ∀ i j, i < m2 → j < m2 → f i = f j → i = j)
    (ho : ∀ o E1, post o E1 → ∃ r : Int32, o = .returned (some (.int r)))
    (kk : ∀ (r : Int32) (E1 : Nat → va_E) (H1 : Heap) (locs1 : List Loc), post (.returned (some (.int r))) E1 → va_D A (wW n ad (wU m2 f E E1)) → va_P D vwCl (wW n ad (wU m2 f E E1)) H1 → va_S A H0 H1 locs1 → W p l e R s m args below meth c H1 locs1 cells slots Q (F0 m (pc + 3) ls (.int r :: rest))) :
    W p l e R s m args below meth c H locs cells slots Q (F0 m pc ls st0) := by
  refine x_go hr hD hP hS hf hi (fun o E1 H1 locs1 hp h1 h2 h3 T' hT X' => ?_)
  obtain ⟨r, rfl⟩ := ho o E1 hp
  obtain ⟨t, a1, b1⟩ := kk r E1 H1 locs1 hp h1 h2 h3 T' hT X'
  exact ⟨_, fun v hv => (by cases hv; rfl), fun x hx => (by cases hx), t, a1, b1⟩
theorem x_l {m2 : Nat} {f : Nat → Nat} {a : Array Value} (hr : XRun p l e R s m args below meth c H locs cells slots 0 0 pc ls st0 rest (CtQ D m2 (fun k => ad (f k)) post a) (Aw m2 (fun k => ad (f k)))) (hD : va_D A (wW n ad E)) (hP : va_P D vwCl (wW n ad E) H) (hS : va_S A H0 H locs) (hf : ∀ k, k < m2 → f k < n) (hi : ∀ i j, i < m2 → j < m2 → f i = f j → i = j)
    (ho : ∀ o E1, post o E1 → ∃ r : Int64, o = .returned (some (.long r)))
    (kk : ∀ (r : Int64) (E1 : Nat → va_E) (H1 : Heap) (locs1 : List Loc), post (.returned (some (.long r))) E1 → va_D A (wW n ad (wU m2 f E E1)) → va_P D vwCl (wW n ad (wU m2 f E E1)) H1 → va_S A H0 H1 locs1 → W p l e R s m args below meth c H1 locs1 cells slots Q (F0 m (pc + 3) ls (.long r :: rest))) :
    W p l e R s m args below meth c H locs cells slots Q (F0 m pc ls st0) := by
  refine x_go hr hD hP hS hf hi (fun o E1 H1 locs1 hp h1 h2 h3 T' hT X' => ?_)
  obtain ⟨r, rfl⟩ := ho o E1 hp
  obtain ⟨t, a1, b1⟩ := kk r E1 H1 locs1 hp h1 h2 h3 T' hT X'
  exact ⟨_, fun v hv => (by cases hv; rfl), fun x hx => (by cases hx), t, a1, b1⟩
theorem x_v {m2 : Nat} {f : Nat → Nat} {a : Array Value} (hr : XRun p l e R s m args below meth c H locs cells slots 0 0 pc ls st0 rest (CtQ D m2 (fun k => ad (f k)) post a) (Aw m2 (fun k => ad (f k)))) (hD : va_D A (wW n ad E)) (hP : va_P D vwCl (wW n ad E) H) (hS : va_S A H0 H locs) (hf : ∀ k, k < m2 → f k < n) (hi : ∀ i j, i < m2 → j < m2 → f i = f j → i = j)
    (ho : ∀ o E1, post o E1 → o = .returned none)
    (kk : ∀ (E1 : Nat → va_E) (H1 : Heap) (locs1 : List Loc), post (.returned none) E1 → va_D A (wW n ad (wU m2 f E E1)) → va_P D vwCl (wW n ad (wU m2 f E E1)) H1 → va_S A H0 H1 locs1 → W p l e R s m args below meth c H1 locs1 cells slots Q (F0 m (pc + 3) ls rest)) :
    W p l e R s m args below meth c H locs cells slots Q (F0 m pc ls st0) := by
  refine x_go hr hD hP hS hf hi (fun o E1 H1 locs1 hp h1 h2 h3 T' hT X' => ?_)
  have hq := ho o E1 hp
  subst hq
  obtain ⟨t, a1, b1⟩ := kk E1 H1 locs1 hp h1 h2 h3 T' hT X'
  exact ⟨_, fun v hv => (by cases hv; rfl), fun x hx => (by cases hx), t, a1, b1⟩
theorem x_r {m2 : Nat} {f : Nat → Nat} {a : Array Value} (hr : XRun p l e R s m args below meth c H locs cells slots 0 0 pc ls st0 rest (CtQ D m2 (fun k => ad (f k)) post a) (Aw m2 (fun k => ad (f k)))) (hD : va_D A (wW n ad E)) (hP : va_P D vwCl (wW n ad E) H) (hS : va_S A H0 H locs) (hf : ∀ k, k < m2 → f k < n) (hi : ∀ i j, i < m2 → j < m2 → f i = f j → i = j)
    (ho : ∀ o E1, post o E1 → ∃ r : Nat, o = .returned (some (.ref r)))
    (kk : ∀ (r : Nat) (E1 : Nat → va_E) (H1 : Heap) (locs1 : List Loc), post (.returned (some (.ref r))) E1 → va_D A (wW n ad (wU m2 f E E1)) → va_P D vwCl (wW n ad (wU m2 f E E1)) H1 → va_S A H0 H1 locs1 → W p l e R s m args below meth c H1 locs1 cells slots Q (F0 m (pc + 3) ls (.ref r :: rest))) :
    W p l e R s m args below meth c H locs cells slots Q (F0 m pc ls st0) := by
  refine x_go hr hD hP hS hf hi (fun o E1 H1 locs1 hp h1 h2 h3 T' hT X' => ?_)
  obtain ⟨r, rfl⟩ := ho o E1 hp
  obtain ⟨t, a1, b1⟩ := kk r E1 H1 locs1 hp h1 h2 h3 T' hT X'
  exact ⟨_, fun v hv => (by cases hv; rfl), fun x hx => (by cases hx), t, a1, b1⟩
end XC
-- readers, with their answer known
section XR
variable {p : Program} {l : Launch} {e : Env} {R : Room} {s : State} {m : MethodId} {args : Array Value} {below : List Frame} {meth : Method} {c : Code} {H : Heap} {locs : List Loc} {cells slots : Nat} {Q : State → Prop}
variable {cc : ByteArray} {nL pc n : Nat} {own : String} {D : va_G} {tc : Nat → ClassId} {ad : Nat → Nat} {E : Nat → va_E} {A : Nat → Prop} {H0 : Heap} {ls : Array Slot} {rest st0 As : List Value} {post : Outcome → (Nat → va_E) → Prop}
theorem wU_same {m2 : Nat} {f : Nat → Nat} {E E1 : Nat → va_E} (h : E1 = fun k => E (f k)) : wU m2 f E E1 = E := by
  funext j
  unfold wU
  cases hfd : (List.range m2).find? (fun x => f x == j) with
  | none => rfl
  | some k =>
    have h1 := List.find?_some hfd
    have h3 : f k = j := by simpa using h1
    show E1 k = E j
    rw [h, ← h3]
theorem x_iE {m2 : Nat} {f : Nat → Nat} {a : Array Value} {v : Int32} (hr : XRun p l e R s m args below meth c H locs cells slots 0 0 pc ls st0 rest (CtQ D m2 (fun k => ad (f k)) (fun o E' => o = .returned (some (.int v)) ∧ E' = fun k => E (f k)) a) (Aw m2 (fun k => ad (f k)))) (hD : va_D A (wW n ad E)) (hP : va_P D vwCl (wW n ad E) H) (hS : va_S A H0 H locs) (hf : ∀ k, k < m2 → f k < n) (hi : ∀ i j, i < m2 → j < m2 → f i = f j → i = j)
    (kk : ∀ (H1 : Heap) (locs1 : List Loc), va_D A (wW n ad E) → va_P D vwCl (wW n ad E) H1 → va_S A H0 H1 locs1 → W p l e R s m args below meth c H1 locs1 cells slots Q (F0 m (pc + 3) ls (.int v :: rest))) :
    W p l e R s m args below meth c H locs cells slots Q (F0 m pc ls st0) := by
  refine x_i hr hD hP hS hf hi (fun o E1 h => ⟨v, h.1⟩) (fun r E1 H1 locs1 hp h1 h2 h3 => ?_)
  rw [wU_same hp.2] at h1 h2
  have hv : r = v := by have := hp.1; injection this with this; injection this with this; injection this
  rw [hv]
  exact kk H1 locs1 h1 h2 h3
theorem x_lE {m2 : Nat} {f : Nat → Nat} {a : Array Value} {v : Int64} (hr : XRun p l e R s m args below meth c H locs cells slots 0 0 pc ls st0 rest (CtQ D m2 (fun k => ad (f k)) (fun o E' => o = .returned (some (.long v)) ∧ E' = fun k => E (f k)) a) (Aw m2 (fun k => ad (f k)))) (hD : va_D A (wW n ad E)) (hP : va_P D vwCl (wW n ad E) H) (hS : va_S A H0 H locs) (hf : ∀ k, k < m2 → f k < n) (hi : ∀ i j, i < m2 → j < m2 → f i = f j → i = j)
    (kk : ∀ (H1 : Heap) (locs1 : List Loc), va_D A (wW n ad E) → va_P D vwCl (wW n ad E) H1 → va_S A H0 H1 locs1 → W p l e R s m args below meth c H1 locs1 cells slots Q (F0 m (pc + 3) ls (.long v :: rest))) :
    W p l e R s m args below meth c H locs cells slots Q (F0 m pc ls st0) := by
  refine x_l hr hD hP hS hf hi (fun o E1 h => ⟨v, h.1⟩) (fun r E1 H1 locs1 hp h1 h2 h3 => ?_)
  rw [wU_same hp.2] at h1 h2
  have hv : r = v := by have := hp.1; injection this with this; injection this with this; injection this
  rw [hv]
  exact kk H1 locs1 h1 h2 h3
theorem x_rE {m2 : Nat} {f : Nat → Nat} {a : Array Value} {v : Nat} (hr : XRun p l e R s m args below meth c H locs cells slots 0 0 pc ls st0 rest (CtQ D m2 (fun k => ad (f k)) (fun o E' => o = .returned (some (.ref v)) ∧ E' = fun k => E (f k)) a) (Aw m2 (fun k => ad (f k)))) (hD : va_D A (wW n ad E)) (hP : va_P D vwCl (wW n ad E) H) (hS : va_S A H0 H locs) (hf : ∀ k, k < m2 → f k < n) (hi : ∀ i j, i < m2 → j < m2 → f i = f j → i = j)
    (kk : ∀ (H1 : Heap) (locs1 : List Loc), va_D A (wW n ad E) → va_P D vwCl (wW n ad E) H1 → va_S A H0 H1 locs1 → W p l e R s m args below meth c H1 locs1 cells slots Q (F0 m (pc + 3) ls (.ref v :: rest))) :
    W p l e R s m args below meth c H locs cells slots Q (F0 m pc ls st0) := by
  refine x_r hr hD hP hS hf hi (fun o E1 h => ⟨v, h.1⟩) (fun r E1 H1 locs1 hp h1 h2 h3 => ?_)
  rw [wU_same hp.2] at h1 h2
  have hv : r = v := by have := hp.1; injection this with this; injection this with this; injection this
  rw [hv]
  exact kk H1 locs1 h1 h2 h3
/-- the receiver of a call -/
theorem x_recv {k ci : Nat} {fs : List Value} {C : String} {T : u_T} {N : Nat} (X : Cx p s m args c cc nL own D tc) (hP : va_P D vwCl (wW n ad E) H) (hk : k < n) (hE : E k = .inr (ci, fs)) (hc : vwCl[ci]? = some (C, T, N)) :
    ∃ cellB : Cell, H[ad k]? = some cellB ∧ cellB.vm.isStatics = false ∧ s.vm.findClass C = some cellB.cls := by
  obtain ⟨r, h1, cell, q1, q2, q3, -⟩ := hP k _ (wW_get hk hE)
  have hr : r = (C, T, N) := Option.some.inj (h1.symm.trans hc)
  subst hr
  have hKn := X.2.2.2.2.2.1 ci _ hc
  exact ⟨cell, q1, by rw [q3]; rfl, by rw [q2]; exact hKn.2.1⟩
theorem fr_lt (d n : Nat) (b : Nat) (h : b + d ≤ n) : ∀ k, k < d → (fun k => b + k) k < n := fun k hk => by show b + k < n; omega
theorem fr_inj (d b : Nat) : ∀ i j, i < d → j < d → (fun k => b + k) i = (fun k => b + k) j → i = j := fun i j _ _ h => by have h' : b + i = b + j := h; omega
end XR
section XS
variable {p : Program} {l : Launch} {e : Env} {R : Room} {s : State} {m : MethodId} {args : Array Value} {below : List Frame} {meth : Method} {c : Code} {H : Heap} {locs : List Loc} {cells slots : Nat} {Q : State → Prop}
variable {cc : ByteArray} {nL pc n : Nat} {own : String} {D : va_G} {tc : Nat → ClassId} {ad : Nat → Nat} {E : Nat → va_E} {A : Nat → Prop} {H0 : Heap} {ls : Array Slot} {rest st0 As : List Value}
theorem x_iX {m2 : Nat} {f : Nat → Nat} {a : Array Value} {pr : Int32 → Prop} (hr : XRun p l e R s m args below meth c H locs cells slots 0 0 pc ls st0 rest (CtQ D m2 (fun k => ad (f k)) (fun o E' => ∃ r : Int32, o = .returned (some (.int r)) ∧ E' = (fun k => E (f k)) ∧ pr r) a) (Aw m2 (fun k => ad (f k)))) (hD : va_D A (wW n ad E)) (hP : va_P D vwCl (wW n ad E) H) (hS : va_S A H0 H locs) (hf : ∀ k, k < m2 → f k < n) (hi : ∀ i j, i < m2 → j < m2 → f i = f j → i = j)
    (kk : ∀ (r : Int32) (H1 : Heap) (locs1 : List Loc), pr r → va_D A (wW n ad E) → va_P D vwCl (wW n ad E) H1 → va_S A H0 H1 locs1 → W p l e R s m args below meth c H1 locs1 cells slots Q (F0 m (pc + 3) ls (.int r :: rest))) :
    W p l e R s m args below meth c H locs cells slots Q (F0 m pc ls st0) := by
  refine x_i hr hD hP hS hf hi (fun o E1 h => by obtain ⟨r, h1, -⟩ := h; exact ⟨r, h1⟩) (fun r E1 H1 locs1 hp h1 h2 h3 => ?_)
  obtain ⟨r', hr', he, hp⟩ := hp
  rw [wU_same he] at h1 h2
  have hv : r = r' := by injection hr' with this; injection this with this; injection this
  rw [hv]
  exact kk r' H1 locs1 hp h1 h2 h3
end XS
