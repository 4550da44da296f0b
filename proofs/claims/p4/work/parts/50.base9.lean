theorem MetX.goY {l : Launch} {R : Room} {p : Program} {e : Env} {below : List Frame} {s : State} {sargs : Array Value} {y : MethodName} {len W : Nat} {ws : List Cond} {rm : Room} {Pc : Array Value → State → Prop} {Qc : Array Value → State → Outcome → State → Prop} {mc ms : Nat} {free : Addr → Prop} {maxL : Nat}
    (hM : MetX l y ws rm Pc Qc mc ms free) (hrc : rm.cells = mc) (hrs : rm.slots = ms) (hframes : rm.frames + 1 ≤ R.frames) (hlocals : W + (maxL + 11) + rm.locals ≤ R.locals)
    {m : MethodId} {meth : Method} {c : Code} {U : State} {Ls : List Loc} {c0 s0 : Nat} (X : Stand p l e R s m sargs below meth c U Ls c0 s0) {g : JFrame} {ig : Instr} {mk : MethodId} {a : Array Value}
    (hg : g.method = m) (hsize : g.locals.size = c.maxLocals) (hdg : decode c.code g.pc = .ok (ig, len)) (hW : 2 * g.monitorRoom + (g.stack.map fun v => v.category).sum ≤ W) (hn : U.methodNamed? y = some mk)
    (h1 : (headSpec ws rm).pre.before a U = true) (hY : ∃ (methY : Method) (cY : Code), U.vm.method? mk = some methY ∧ methY.code = some cY ∧ cY.maxLocals = maxL) (h3 : (Cond.initialized y.cls).before a U = true) (h4 : c0 + mc ≤ R.cells) (h5 : s0 + ms ≤ R.slots) (hP : Pc a (U.calling g mk a)) :
    ∃ (o : Outcome) (t B : State) (L : List Loc), Stand p l e R s m sargs below meth c B (Ls ++ L) (c0 + mc) (s0 + ms) ∧ B.heap = t.heap ∧ B.vm = t.vm ∧ Qc a (U.calling g mk a) o t ∧ (∀ q ∈ L, free q.base) ∧
      (∀ v, o = .returned v → Steps p.tables e below (doInvoke e (U.setTop g) [] mk a).1 (B.setTop { g with pc := g.pc + len, stack := v.toList ++ g.stack })) ∧
      (∀ x, o = .threw x → Steps p.tables e below (doInvoke e (U.setTop g) [] mk a).1 ((B.setTop g).pushFrame (.throwing x))) := by
  obtain ⟨methY, cY, hmY, hcY, hlY⟩ := hY
  obtain ⟨kY, hkY, -⟩ := className_of_methodNamed hn
  have hinitY : kY.init = .initialized := Cond.initialized_spec (findClass_of_methodNamed hn) hkY h3
  have h : At U g.method c below := by rw [hg]; exact X.here
  have happ : (headSpec ws rm).appliesLoose y e.platform (U.calling g mk a) = true :=
    Spec.appliesLoose_calling (g := g) h hdg hn hkY hinitY
      (X.room_calling (g := g) (R' := (headSpec ws rm).room) hsize hmY hcY hframes (by rw [hlY]; show _ + _ + rm.locals ≤ _; omega) (by show c0 + rm.cells ≤ _; omega) (by show s0 + rm.slots ≤ _; omega)) h1
  obtain ⟨mid, hmid⟩ := h.above
  have hfr : (U.setTop g).frames = (.java g :: mid) ++ below := by rw [State.frames_setTop' g h.top, hmid]; rfl
  obtain ⟨o, s₂, hsteps, -, hend, hq⟩ := Steps.callFree hM p X.admits X.cas X.clock (acts := []) hfr happ hP trivial
  rw [State.frames_setTop' g h.top] at hend
  have hq : Qc a (U.calling g mk a) o s₂ ∧ ∃ L, TEnd (U.calling g mk a) s₂ L mc ms ∧ ∀ q ∈ L, free q.base := hq
  obtain ⟨hq', L, hfe, hL⟩ := hq
  obtain ⟨hW₂, e2, q2, q3, q4, q5, q6⟩ := id hfe
  have e3 : s₂ = ({ (U.calling g mk a).setFrames s₂.frames with heap := s₂.heap, slotsUsed := s₂.slotsUsed } : State).setVm s₂.vm := by
    have : s₂ = ({ s₂ with vm := (U.calling g mk a).vm } : State).setVm s₂.vm := rfl
    rw [e2] at this
    exact this
  have hW' : U.WarmedH s₂.vm := hW₂
  obtain ⟨g₀, hg0⟩ := Option.isSome_iff_exists.mp h.top
  obtain ⟨r, hr⟩ := State.topJava?_eq_some.mp hg0
  have hr' : (({ U with heap := s₂.heap, slotsUsed := s₂.slotsUsed } : State).setVm s₂.vm).frames = .java g₀ :: r := hr
  have hsame : U.sameButNew ({ U with heap := s₂.heap, slotsUsed := s₂.slotsUsed } : State) L mc ms := by
    refine ⟨?_, q2, q3, q4, q5, q6⟩
    obtain ⟨t, ht, -⟩ := State.frames_cons hr
    show ({ U with heap := s₂.heap, slotsUsed := s₂.slotsUsed } : State) = { U.setFrames U.frames with heap := s₂.heap, slotsUsed := s₂.slotsUsed }
    rw [State.setFrames_self ht]
  subst hg
  refine ⟨o, s₂, (({ U with heap := s₂.heap, slotsUsed := s₂.slotsUsed } : State).setVm s₂.vm), L,
    ⟨X.admits, X.cas, X.clock, X.frames, X.room, X.hears, X.method, X.code, (X.here.setHeapUsed s₂.heap s₂.slotsUsed).setVm hW'.alike, X.tail, State.WarmedH.trans X.warmed hW', X.limits, X.bytes, X.same.trans (hsame.setVm s.vm)⟩,
    rfl, rfl, hq', hL, ?_, ?_⟩
  · intro v ho
    subst ho
    obtain ⟨c₂, i₂, len₂, hc₂, hd₂, hf₂⟩ := hend
    have hcc : c₂ = c := by
      have h1 : s₂.code? g.method = U.code? g.method := by
        rw [State.code?_eq, State.code?_eq, hW'.alike.method?]
      exact Option.some.inj (hc₂.symm.trans (h1.trans h.code))
    subst hcc
    have hlen : len₂ = len := by rw [hdg] at hd₂; cases hd₂; rfl
    subst hlen
    have hs₂ : s₂ = (({ U with heap := s₂.heap, slotsUsed := s₂.slotsUsed } : State).setVm s₂.vm).setTop { g with pc := g.pc + len₂, stack := v.toList ++ g.stack } := by
      refine e3.trans ?_
      rw [hf₂, State.calling_eq h.top, State.setFrames_setFrames, State.setTop_of_frames _ hr', hr]
      rfl
    rw [← hs₂]
    exact hsteps
  · intro x ho
    subst ho
    have hf₂ : s₂.frames = .throwing x :: .java g :: U.frames.tail := hend
    have hs₂ : s₂ = ((({ U with heap := s₂.heap, slotsUsed := s₂.slotsUsed } : State).setVm s₂.vm).setTop g).pushFrame (.throwing x) := by
      refine e3.trans ?_
      rw [hf₂, State.calling_eq h.top, State.setFrames_setFrames, State.pushFrame, State.frames_setTop _ hr', State.setTop_of_frames _ hr', State.setFrames_setFrames, hr]
      rfl
    rw [← hs₂]
    exact hsteps
section L1
variable {p : Program} {l : Launch} {e : Env} {R : Room} {s : State} {m : MethodId} {args : Array Value} {below : List Frame} {meth : Method} {c : Code} {H : Heap} {locs : List Loc} {cells slots : Nat} {Q : State → Prop}
variable {cc : ByteArray} {nL pc n : Nat} {own : String} {D : va_G} {tc : Nat → ClassId} {ad : Nat → Nat} {E : Nat → va_E} {A : Nat → Prop} {H0 : Heap} {ls : Array Slot} {rest st0 As : List Value}
variable {y : MethodName} {bytes : ByteArray} {maxL mc ms index : Nat} {ret : Option FieldType} {rm : Room} {Pc : Array Value → State → Prop} {Qc : Array Value → State → Outcome → State → Prop} {free : Addr → Prop} {C host : String} {b : Nat}
theorem x_coreW {mk : MethodId} {vm₁ : Vm} {T : State} {ig : Instr} {a : Array Value} {hh : List (Nat × Nat × Nat × Nat)} (X : Cx p s m args c cc nL own D tc) (hM : MetX l y WS rm Pc Qc mc ms free) (hrc : rm.cells = mc) (hrs : rm.slots = ms) (hfr : rm.frames + 1 ≤ R.frames) (hlo : 8 + (maxL + 11) + rm.locals ≤ R.locals)
    (hcode : Cond.codeWith y bytes maxL ret hh ∈ WS) (hini : Cond.initialized y.cls ∈ WS) (hnamed : s.methodNamed? y = some mk) (hPc : ∀ U : State, U.heap = H → s.WarmedH U.vm → Pc a U) (hblind : FrameBlind Pc)
    (hsz : ls.size = nL) (hW : (rest.map fun v => v.category).sum ≤ 8) (hdg : decode cc pc = .ok (ig, 3)) (hf : cells + mc ≤ R.cells ∧ slots + ms ≤ R.slots) (hT : T.heap = H)
    (X₁ : Stand p l e R s m args below meth c (T.setVm vm₁) locs cells slots)
    (hstep₁ : ∀ tg, (∀ acts, Steps p.tables e below (doInvoke e ((T.setVm vm₁).setTop (F0 m pc ls rest)) acts mk a).1 tg) → Steps p.tables e below (T.setTop (F0 m pc ls st0)) tg) :
    ∃ (o : Outcome) (st₀ t T' : State) (L : List Loc), st₀.heap = H ∧ Stand p l e R s m args below meth c T' (locs ++ L) (cells + mc) (slots + ms) ∧ (∀ q ∈ L, free q.base) ∧ T'.heap = t.heap ∧ T'.vm = t.vm ∧ Qc a st₀ o t ∧
    (∀ v, o = .returned v → ∀ tg, Steps p.tables e below (T'.setTop (F0 m (pc + 3) ls (v.toList ++ rest))) tg → Steps p.tables e below (T.setTop (F0 m pc ls st0)) tg) ∧
    (∀ x, o = .threw x → ∀ tg, Steps p.tables e below ((T'.setTop (F0 m pc ls rest)).pushFrame (.throwing x)) tg → Steps p.tables e below (T.setTop (F0 m pc ls st0)) tg) := by
  obtain ⟨hx, hb, hml, ho, hts, hK⟩ := X
  obtain ⟨o, t, T', L, XB, e1, e2, hq, hL, hret, hthr⟩ := MetX.goY (W := 8) (maxL := maxL) hM hrc hrs hfr hlo X₁ (g := F0 m pc ls rest) (ig := ig) (len := 3) (mk := mk) (a := a) rfl (hsz.trans hml.symm) (by rw [hb]; exact hdg) (lv_room hW) (X₁.named hnamed)
    (atoms_intro (ws_warm X₁.warmed hts)) (by obtain ⟨m9, methY, cY, hn9, hmY, hcY, -, hlY, -⟩ := Cond.codeWith_spec (ws_warm (a' := a) X₁.warmed hts _ hcode); cases hn9.symm.trans (X₁.named hnamed); exact ⟨methY, cY, hmY, hcY, hlY⟩) (ws_warm X₁.warmed hts _ hini) hf.1 hf.2 (hblind _ _ _ _ (hPc _ hT X₁.warmed))
  refine ⟨o, _, t, T', L, ?_, XB, hL, e1, e2, hq, fun v hv tg hs => hstep₁ _ fun acts => ?_, fun x hx' tg hs => hstep₁ _ fun acts => ?_⟩
  · exact hT
  · rw [doInvoke_state]; exact (hret v hv).trans hs
  · rw [doInvoke_state]; exact (hthr x hx').trans hs
theorem x_runSW {hh : List (Nat × Nat × Nat × Nat)} (X : Cx p s m args c cc nL own D tc) (hM : MetX l y WS rm Pc Qc mc ms free) (hrc : rm.cells = mc) (hrs : rm.slots = ms) (hfr : rm.frames + 1 ≤ R.frames) (hlo : 8 + (maxL + 11) + rm.locals ≤ R.locals)
    (hcode : Cond.codeWith y bytes maxL ret hh ∈ WS) (hini : Cond.initialized y.cls ∈ WS) (hlink : Cond.methodLink own index y ∈ WS) (hstat : Cond.static y ∈ WS) (hy : Ry y As.length)
    (hPc : ∀ U : State, U.heap = H → s.WarmedH U.vm → Pc As.toArray U) (hblind : FrameBlind Pc)
    (hsz : ls.size = nL) (hW : (rest.map fun v => v.category).sum ≤ 8) (hdg : decode cc pc = .ok (.invokestatic index, 3)) (hf : cells + mc ≤ R.cells ∧ slots + ms ≤ R.slots) :
    XRun p l e R s m args below meth c H locs cells slots mc ms pc ls (As.reverse ++ rest) rest (Qc As.toArray) free := by
  intro T hT XX
  have hts := X.2.2.2.2.1
  obtain ⟨mk, methM, cM, hnamed, hmethM, -, -, -, -, -, -, hsigM⟩ := Cond.codeWith_spec (hts _ hcode)
  have hstatic : methM.isStatic = true := Cond.static_spec hnamed hmethM (hts _ hstat)
  obtain ⟨kP, hkP, -⟩ := className_of_methodNamed hnamed
  have hinitP : kP.init = .initialized := Cond.initialized_spec (findClass_of_methodNamed hnamed) hkP (hts _ hini)
  obtain ⟨vm₁, X₁, hstep₁⟩ := XX.invokestatic X.1 X.2.2.2.1 (hts _ hlink) hnamed hmethM hstatic hkP hinitP hy.1 (g := F0 m pc ls (As.reverse ++ rest)) rfl (argsL := As) (rest := rest) (x_len hy.2 hsigM) rfl (by rw [X.2.1]; exact hdg)
  exact x_coreW X hM hrc hrs hfr hlo hcode hini hnamed hPc hblind hsz hW hdg hf hT X₁ hstep₁
end L1
section L0
variable {p : Program} {l : Launch} {e : Env} {R : Room} {s : State} {m : MethodId} {args : Array Value} {below : List Frame} {meth : Method} {c : Code} {H : Heap} {locs : List Loc} {cells slots : Nat} {Q : State → Prop}
variable {cc : ByteArray} {nL pc n : Nat} {own : String} {D : va_G} {tc : Nat → ClassId} {ad : Nat → Nat} {E : Nat → va_E} {A : Nat → Prop} {ls : Array Slot} {rest st0 As : List Value} {post : (Nat → va_E) → Prop} {g ms : Nat}
theorem n_low0 (hP : va_P D vwCl (wW cells ad E) H) (hS : va_S A s.heap H locs) (hs : ∀ j, j < cells → ad j = s.heap.size + j) : s.heap.size + cells ≤ H.size := by
  rcases Nat.eq_zero_or_pos cells with h | h
  · rw [h]; exact hS.1
  · have h1 := (hP (cells - 1) _ (wW_get (by omega) rfl)).lt
    have h2 : (ad (cells - 1), E (cells - 1)).1 = ad (cells - 1) := rfl
    rw [h2, hs (cells - 1) (by omega)] at h1
    omega
theorem q_newJ0 {v : Int32} (N : Nat) (X : Cx p s m args c cc nL own D tc) (hw : Cond.arrayClass .long ∈ WS) (hP : va_P D vwCl (wW cells ad E) H) (hS : va_S A s.heap H locs) (hs : ∀ j, j < cells + 1 → ad j = s.heap.size + j) (hA : A (ad cells)) (hv : v = nI N) (hN : N ≤ 1000) (hc : cells + 1 ≤ R.cells) (hsl : slots + N ≤ R.slots) (hdg : decode cc pc = .ok (.newarray .long, 2))
    (kk : ∀ H1 : Heap, va_P D vwCl (wW (cells + 1) ad (va_up E cells (.inl (tc 1, N, .inr (.inl (fun _ => 0)))))) H1 → va_S A s.heap H1 locs → W p l e R s m args below meth c H1 locs (cells + 1) (slots + N) Q (F0 m (pc + 2) ls (.ref (ad cells) :: rest))) : W p l e R s m args below meth c H locs cells slots Q (F0 m pc ls (.int v :: rest)) := by
  refine W.sized (n_low0 hP hS (fun j hj => hs j (by omega))) (fun hz => ?_)
  have ha : ad cells = H.size := by rw [hs cells (by omega)]; omega
  subst hv
  refine va_newaK (atype := .long) X.1 X.2.1 (show (Cond.arrayClass (newarray.typeOf .long)).before args s = true from X.2.2.2.2.1 _ hw) rfl hdg rfl (nI_pos (by omega)) (nI_clamp (by omega)) (by show N * 8 ≤ _; omega) hc hsl ha.symm (fun H1 cA h1 h2 h3 h4 h5 => ?_)
  have hcA : cA = tc 1 := Option.some.inj (h5.symm.trans (X.2.2.2.2.2.2 1 _ rfl).2)
  subst hcA
  obtain ⟨q1, q2⟩ := n_push (v := .inl (tc 1, N, .inr (.inl (fun _ => 0)))) hP hS ha hA (show H1[ad cells]? = some (vp_cell _ _) from h1) (by omega) (fun q hq => h3 q (by omega))
  exact kk H1 q1 q2
theorem q_newO0 {C : String} {T : u_T} {N ci ix : Nat} {fs : List Value} (ty0 : Nat → FieldType) (X : Cx p s m args c cc nL own D tc) (hin : ∀ w ∈ u_ws C T N, w ∈ WS) (hty : ∀ k, k < N → parseFieldDescriptor (T k).2.2.1 = some (ty0 k)) (hcl : Cond.classLink own ix C ∈ WS) (hinst : Cond.instantiable C N ∈ WS) (hini : Cond.initialized C ∈ WS) (hci : vwCl[ci]? = some (C, T, N)) (hfs : ∀ j, j < N → defaultValue (ty0 j) = vp_V fs j)
    (hP : va_P D vwCl (wW cells ad E) H) (hS : va_S A s.heap H locs) (hs : ∀ j, j < cells + 1 → ad j = s.heap.size + j) (hA : A (ad cells)) (hc : cells + 1 ≤ R.cells) (hsl : slots + N ≤ R.slots) (hdg : decode cc pc = .ok (.new ix, 3))
    (kk : ∀ H1 : Heap, va_P D vwCl (wW (cells + 1) ad (va_up E cells (.inr (ci, fs)))) H1 → va_S A s.heap H1 locs → W p l e R s m args below meth c H1 locs (cells + 1) (slots + N) Q (F0 m (pc + 3) ls (.ref (ad cells) :: rest))) : W p l e R s m args below meth c H locs cells slots Q (F0 m pc ls rest) := by
  refine W.sized (n_low0 hP hS (fun j hj => hs j (by omega))) (fun hz => ?_)
  have ha : ad cells = H.size := by rw [hs cells (by omega)]; omega
  have hts := X.2.2.2.2.1
  have hKn := X.2.2.2.2.2.1 ci _ hci
  refine W.newcK X.1 X.2.1 X.2.2.2.1 (hts _ hcl) (hts _ hinst) (hts _ hini) rfl hdg hc hsl hKn.2.1 rfl fun H1 kC hkC e1 z1 o1 => ?_
  obtain ⟨q1, q2⟩ := n_push (v := .inr (ci, fs)) hP hS ha hA (by rw [ha]; exact ⟨_, hci, (u_born ty0 hts hin hKn hkC e1 hty).to hfs⟩) (by omega) o1
  have k1 := kk H1 q1 q2
  rw [ha] at k1
  exact k1
/-- behind a constructor's call: its object is the last cell, what it made lies behind it -/
theorem x_n0 {a : Array Value} {b : Nat} (hr : H.size = s.heap.size + cells → XRun p l e R s m args below meth c H locs cells slots g ms pc ls st0 rest (CtNQ D g (fun k => ad (b + k)) post a) (Aw (1 + g) (fun k => ad (b + k)))) (hb : b + 1 = cells) (hP : va_P D vwCl (wW cells ad E) H) (hS : va_S A s.heap H locs) (hs : ∀ j, j < cells + g → ad j = s.heap.size + j) (hDD : ∀ n, n ≤ cells + g → ∀ E' : Nat → va_E, va_D A (wW n ad E'))
    (kk : ∀ (E1 : Nat → va_E) (H1 : Heap) (locs1 : List Loc), post E1 → va_P D vwCl (wW (cells + g) ad (wU (1 + g) (fun k => b + k) E E1)) H1 → va_S A s.heap H1 locs1 → W p l e R s m args below meth c H1 locs1 (cells + g) (slots + ms) Q (F0 m (pc + 3) ls rest)) :
    W p l e R s m args below meth c H locs cells slots Q (F0 m pc ls st0) := by
  refine W.sized (n_low0 hP hS (fun j hj => hs j (by omega))) (fun hz => ?_)
  intro T hT X
  obtain ⟨o, st₀, t, T', L, h0, X', hL, e1, e2, ⟨⟨rfl, E1, hp, hP1⟩, hzz, hk⟩, hret, hthr⟩ := hr hz T hT X
  rw [h0] at hzz hk
  have hDb := hDD (cells + g) (Nat.le_refl _) E
  have hsub : ∀ q, Aw (1 + g) (fun k => ad (b + k)) q → A q := fun q ⟨k, h1, h2⟩ => by rw [h2]; exact wW_in hDb (by omega)
  have hPn : va_P D vwCl (wW (cells + g) ad (wU (1 + g) (fun k => b + k) E E1)) t.heap := by
    intro k q hq
    obtain ⟨h1, rfl⟩ := wW_inv hq
    by_cases hc : b ≤ k
    · have e : wU (1 + g) (fun k => b + k) E E1 k = E1 (k - b) := by
        have := wU_own (m := 1 + g) (b := b) (F := E) (E1 := E1) (k - b) (by omega)
        rwa [show b + (k - b) = k by omega] at this
      rw [e]
      have := hP1 (k - b) _ (wW_get (by omega) rfl)
      have e2 : ad (b + (k - b)) = ad k := by rw [show b + (k - b) = k by omega]
      rw [e2] at this
      exact this
    · rw [wU_far (by omega)]
      have h2 := hP k _ (wW_get (by omega) rfl)
      refine h2.kept (hk (ad k) h2.lt ?_)
      rintro ⟨j, h3, h4⟩
      have := wW_inj hDb h1 (show b + j < cells + g by omega) h4
      omega
  have hSn : va_S A s.heap T'.heap (locs ++ L) := ⟨Nat.le_trans hS.1 (by rw [e1]; exact hzz), fun q h1 h2 => by rw [e1, hk q (Nat.lt_of_lt_of_le h1 hS.1) (fun z => h2 (hsub q z))]; exact hS.2.1 q h1 h2, fun q hq => by
    rcases List.mem_append.mp hq with h | h
    · exact hS.2.2 q h
    · exact hsub _ (hL q h)⟩
  obtain ⟨t2, a1, b1⟩ := kk E1 T'.heap (locs ++ L) hp (by rw [e1]; exact hPn) hSn T' rfl X'
  exact ⟨t2, hret _ rfl t2 a1, b1⟩
theorem ctN_pre0 {b : Nat} {av : List Value} (X : Cx p s m args c cc nL own D tc) (hb : b + 1 = cells) (hP : va_P D vwCl (wW cells ad E) H) (hs : ∀ j, j < cells + g → ad j = s.heap.size + j) (hz : H.size = s.heap.size + cells) :
    ∀ U : State, U.heap = H → s.WarmedH U.vm → CtNP D tc g (fun k => ad (b + k)) (fun k => E (b + k)) av av.toArray U := fun U hU hW =>
  ⟨⟨rfl, by rw [hU]; exact wW_cut (f := fun k => b + k) hP (fun k hk => by show b + k < _; omega), va_K.moved hW.alike X.2.2.2.2.2, fun i j x y hi hj _ => by
      obtain ⟨h1, -⟩ := wW_inv hi
      obtain ⟨h2, -⟩ := wW_inv hj
      omega, fun k q hk => by
      obtain ⟨h1, rfl⟩ := wW_inv hk
      exact ⟨k, h1, rfl⟩⟩, fun j hj => by
    show ad (b + (1 + j)) = U.heap.size + j
    rw [hU, hz, show b + (1 + j) = cells + j by omega, hs (cells + j) (by omega)]
    omega⟩
end L0
theorem ar_P {args : Array Value} {s : State} {ty : FieldType} (h : (Cond.arrayClass ty).before args s = true) (hp : ∀ C, ty ≠ .object C) : ∃ cA : ClassId, ArrOfT s cA ty ∧ va_RA s cA ty := by
  obtain ⟨c, k, comp, h1, h2, h3⟩ := Cond.arrayClass_spec h
  refine ⟨c, fun n z => ⟨fun k h => (by cases h), k, h2, comp, h3⟩, ?_⟩
  cases ty with
  | object C => exact absurd rfl (hp C)
  | _ => exact h1
theorem ar_O {args : Array Value} {s : State} {C : String} (h : (Cond.arrayOver (.object C)).before args s = true) : ∃ cA : ClassId, ArrOfT s cA (.object C) ∧ va_RA s cA (.object C) := by
  obtain ⟨comp, c, k, h1, h2, h3, h4, h5⟩ := Cond.arrayOver_spec h
  exact ⟨c, fun n z => ⟨fun k h => (by cases h), k, h3, comp, h4⟩, k, comp, h3, h4, h1, h5⟩
