/-! CONTRACTS OVER FUNCTIONAL WORLDS, AND THE ROWS OF A WALK OVER THEM -/
def stW (w : Cond) : Bool := goodWord w || (match w with
  | .fieldLinkNest .. => true
  | .methodLinkNest .. => true
  | .arrayOver (.object _) => true
  | _ => false) || (w.onTables && w.faceAtom)
def WS : List Cond := lw_tbl.filter stW
theorem st_warm {w : Cond} (h : stW w = true) {args a' : Array Value} {s U : State} (hW : s.WarmedH U.vm) (hb : w.before args s = true) : w.before a' U = true := by
  unfold stW at h
  rw [Bool.or_eq_true, Bool.or_eq_true] at h
  rcases h with (h | h) | h
  · exact word_at hW (good_of_word h) hb
  · cases w <;> first | (cases h; done) | exact va_Nw.use rfl (va_Nw.warmF hW (va_Nw.of rfl hb)) | exact va_Nw.use rfl (va_Nw.warmM hW (va_Nw.of rfl hb)) | (rename_i ty; cases ty <;> first | (cases h; done) | exact va_AO.use (va_AO.moved hW.alike (va_AO.of hb)))
  · rw [Bool.and_eq_true] at h
    exact va_tabs h.1 (rfl : (s.setVm U.vm).vm = U.vm) (Cond.faceAtom_setVm (args := args) hW.alike w h.2 hb)
theorem ws_warm {args a' : Array Value} {s U : State} (hW : s.WarmedH U.vm) (h : ∀ w ∈ WS, w.before args s = true) : ∀ w ∈ WS, w.before a' U = true := fun w hw => st_warm (List.mem_filter.mp hw).2 hW (h w hw)
theorem ws_in {w : Cond} (h : w ∈ lw_tbl) (hs : stW w = true) : w ∈ WS := List.mem_filter.mpr ⟨h, hs⟩
/-- the array classes: int, long, boolean, Program, Worker, Lock, Clock -/
def TY (tc : Nat → ClassId) : List (ClassId × FieldType) := [(tc 0, .int), (tc 1, .long), (tc 2, .boolean), (tc 3, .object R_Program), (tc 4, .object R_Worker), (tc 5, .object R_Lock), (tc 6, .object R_Clock)]
def rmD (d : Nat) : Room := { frames := d, cells := 0, slots := 0, locals := 32 * d }
abbrev Cx (p : Program) (s : State) (m : MethodId) (args : Array Value) (c : Code) (cc : ByteArray) (nL : Nat) (own : String) (D : va_G) (tc : Nat → ClassId) : Prop :=
  p.tables.exec = Jvm.exec ∧ c.code = cc ∧ c.maxLocals = nL ∧ s.vm.findClass own = some m.cls ∧ (∀ w ∈ WS, w.before args s = true) ∧ va_K D vwCl (TY tc) s
def Aw (n : Nat) (ad : Nat → Nat) : Nat → Prop := fun q => ∃ k, k < n ∧ q = ad k
def CtP (D : va_G) (tc : Nat → ClassId) (n : Nat) (ad : Nat → Nat) (E : Nat → va_E) (av : List Value) : Array Value → State → Prop := fun v U => v = av.toArray ∧ va_P D vwCl (wW n ad E) U.heap ∧ va_K D vwCl (TY tc) U ∧ va_D (Aw n ad) (wW n ad E)
def CtQ (D : va_G) (n : Nat) (ad : Nat → Nat) (post : Outcome → (Nat → va_E) → Prop) : Array Value → State → Outcome → State → Prop := fun _ st o t => (∃ E', post o E' ∧ va_P D vwCl (wW n ad E') t.heap) ∧ va_F (Aw n ad) st t
/-- a method that makes nothing: at a world of n cells at ad with E, arguments av: it ends, and 'post outcome E2'; no other cell changes -/
def Ct (l : Launch) (D : va_G) (tc : Nat → ClassId) (y : MethodName) (d n : Nat) (ad : Nat → Nat) (E : Nat → va_E) (av : List Value) (post : Outcome → (Nat → va_E) → Prop) : Prop :=
  MetX l y WS (rmD d) (CtP D tc n ad E av) (CtQ D n ad post) 0 0 (Aw n ad)
theorem Ct.ofW {l : Launch} {D : va_G} {tc : Nat → ClassId} {y : MethodName} {d n : Nat} {ad : Nat → Nat} {E : Nat → va_E} {av : List Value} {post : Outcome → (Nat → va_E) → Prop} {cc : ByteArray} {maxL : Nat} {ret : Option FieldType} {own : String}
    (hy : plainName y.cls = true) (ho : y.cls = own) (hw : Cond.code y cc maxL ret ∈ WS) (hlen : (lg_sl av).length ≤ maxL)
    (body : ∀ (p : Program) (e : Env) (s : State) (m : MethodId) (args : Array Value) (below : List Frame) (meth : Method) (c : Code) (ls : Array Slot), Cx p s m args c cc maxL own D tc → meth.locks = false → meth.sig.returnType = ret → va_D (Aw n ad) (wW n ad E) → va_P D vwCl (wW n ad E) s.heap → va_S (Aw n ad) s.heap s.heap [] → lv_has ls maxL (lv_args 0 av) →
      W p l e (rmD d) s m args below meth c s.heap [] 0 0 (XQ below (CtQ D n ad post) args s 0 0 (Aw n ad)) (F0 m 0 ls [])) : Ct l D tc y d n ad E av post := by
  refine MetX.ofW hy hw ?_
  intro p e s m args below meth c s₁ B hml hP
  obtain ⟨rfl, hP, hK, hD⟩ := hP
  rw [lg_entry_eq]
  exact body p e s m _ below meth c _ ⟨B.exec, B.bytes, hml, (by rw [← ho]; exact findClass_of_methodNamed B.named), atoms_spec (ws := WS) B.pre, hK⟩ B.notSynchronized B.returns hD hP va_S.rf (lv_entry av hlen)
section CR
variable {p : Program} {l : Launch} {e : Env} {R : Room} {s : State} {m : MethodId} {args : Array Value} {below : List Frame} {meth : Method} {c : Code} {H : Heap} {locs : List Loc} {cells slots : Nat} {Q : State → Prop}
variable {cc : ByteArray} {nL pc n : Nat} {own : String} {D : va_G} {tc : Nat → ClassId} {ad : Nat → Nat} {E : Nat → va_E} {A : Nat → Prop} {H0 : Heap} {ls : Array Slot} {rest : List Value} {post : Outcome → (Nat → va_E) → Prop}
theorem q_iret {v : Int32} (X : Cx p s m args c cc nL own D tc) (hlk : meth.locks = false) (hr : meth.sig.returnType = some .int) (hP : va_P D vwCl (wW n ad E) H) (hS : va_S (Aw n ad) s.heap H locs) (hdg : decode cc pc = .ok (.ireturn, 1)) (hp : post (.returned (some (.int v))) E) :
    W p l e R s m args below meth c H locs 0 0 (XQ below (CtQ D n ad post) args s 0 0 (Aw n ad)) (F0 m pc ls [.int v]) :=
  W.mono (fun _ h => XQ.ofM h) (W.iret X.1 X.2.1 hr (fun t ht _ => ⟨⟨E, hp, by rw [ht]; exact hP⟩, hS.F ht⟩) hS.2.2 hdg hlk)
theorem q_zret {v : Int32} (X : Cx p s m args c cc nL own D tc) (hlk : meth.locks = false) (hr : meth.sig.returnType = some .boolean) (hn : narrow .boolean (.int v) = .int v) (hP : va_P D vwCl (wW n ad E) H) (hS : va_S (Aw n ad) s.heap H locs) (hdg : decode cc pc = .ok (.ireturn, 1)) (hp : post (.returned (some (.int v))) E) :
    W p l e R s m args below meth c H locs 0 0 (XQ below (CtQ D n ad post) args s 0 0 (Aw n ad)) (F0 m pc ls [.int v]) :=
  W.mono (fun _ h => XQ.ofM h) (W.zret X.1 X.2.1 hr hn (fun t ht _ => ⟨⟨E, hp, by rw [ht]; exact hP⟩, hS.F ht⟩) hS.2.2 hdg hlk)
theorem q_vret (X : Cx p s m args c cc nL own D tc) (hlk : meth.locks = false) (hr : meth.sig.returnType = none) (hP : va_P D vwCl (wW n ad E) H) (hS : va_S (Aw n ad) s.heap H locs) (hdg : decode cc pc = .ok (.return_, 1)) (hp : post (.returned none) E) :
    W p l e R s m args below meth c H locs 0 0 (XQ below (CtQ D n ad post) args s 0 0 (Aw n ad)) (F0 m pc ls []) :=
  W.mono (fun _ h => XQ.ofM h) (W.vret X.1 X.2.1 hr (fun t ht _ => ⟨⟨E, hp, by rw [ht]; exact hP⟩, hS.F ht⟩) hS.2.2 hdg hlk)
theorem q_lret {v : Int64} (X : Cx p s m args c cc nL own D tc) (hlk : meth.locks = false) (hr : meth.sig.returnType = some .long) (hP : va_P D vwCl (wW n ad E) H) (hS : va_S (Aw n ad) s.heap H locs) (hdg : decode cc pc = .ok (.lreturn, 1)) (hp : post (.returned (some (.long v))) E) :
    W p l e R s m args below meth c H locs 0 0 (XQ below (CtQ D n ad post) args s 0 0 (Aw n ad)) (F0 m pc ls [.long v]) :=
  W.mono (fun _ h => XQ.ofM h) (W.lret X.1 X.2.1 hr (fun t ht _ => ⟨⟨E, hp, by rw [ht]; exact hP⟩, hS.F ht⟩) hS.2.2 hdg hlk)
theorem q_aret {a : Nat} {C : String} (X : Cx p s m args c cc nL own D tc) (hlk : meth.locks = false) (hr : meth.sig.returnType = some (.object C)) (hP : va_P D vwCl (wW n ad E) H) (hS : va_S (Aw n ad) s.heap H locs) (hdg : decode cc pc = .ok (.areturn, 1)) (hp : post (.returned (some (.ref a))) E) :
    W p l e R s m args below meth c H locs 0 0 (XQ below (CtQ D n ad post) args s 0 0 (Aw n ad)) (F0 m pc ls [.ref a]) :=
  W.mono (fun _ h => XQ.ofM h) (W.aret X.1 X.2.1 hr (Or.inl ⟨C, rfl⟩) (Or.inr ⟨a, rfl⟩) (fun t ht _ => ⟨⟨E, hp, by rw [ht]; exact hP⟩, hS.F ht⟩) hS.2.2 hdg hlk)
-- fields
theorem q_get {ref C : String} {T : u_T} {N ci index k : Nat} {fs : List Value} {v : Value} (X : Cx p s m args c cc nL own D tc) (hP : va_P D vwCl (wW n ad E) H) (hk : k < n) (hE : E k = .inr (ci, fs)) (hc : vwCl[ci]? = some (C, T, N)) (hin : ∀ w ∈ u_ws C T N, w ∈ WS) (j : Nat) (hj : j < N) (hlink : Cond.fieldLink own index ref (T j).2.1 (T j).2.2.1 ∈ WS) (hsame : ref = (T j).1) (hv : fs[j]? = some v) (hdg : decode cc pc = .ok (.getfield index, 3))
    (kk : W p l e R s m args below meth c H locs cells slots Q (F0 m (pc + 3) ls (v :: rest))) : W p l e R s m args below meth c H locs cells slots Q (F0 m pc ls (.ref (ad k) :: rest)) :=
  va_get (D := D) X.1 X.2.1 X.2.2.2.2.1 hin X.2.2.2.1 X.2.2.2.2.2 hP k (wW_get hk hE) hc j hj (X.2.2.2.2.1 _ hlink) (fun _ h => by rw [hsame]; exact h) hv hdg kk
theorem q_getN {ref C host : String} {T : u_T} {N ci index k : Nat} {fs : List Value} {v : Value} (X : Cx p s m args c cc nL own D tc) (hP : va_P D vwCl (wW n ad E) H) (hk : k < n) (hE : E k = .inr (ci, fs)) (hc : vwCl[ci]? = some (C, T, N)) (hin : ∀ w ∈ u_ws C T N, w ∈ WS) (j : Nat) (hj : j < N) (hlink : Cond.fieldLinkNest own index ref (T j).2.1 (T j).2.2.1 host ∈ WS) (hsame : ref = (T j).1) (hv : fs[j]? = some v) (hdg : decode cc pc = .ok (.getfield index, 3))
    (kk : W p l e R s m args below meth c H locs cells slots Q (F0 m (pc + 3) ls (v :: rest))) : W p l e R s m args below meth c H locs cells slots Q (F0 m pc ls (.ref (ad k) :: rest)) :=
  va_getN (D := D) X.1 X.2.1 X.2.2.2.2.1 hin X.2.2.2.1 X.2.2.2.2.2 hP k (wW_get hk hE) hc j hj (X.2.2.2.2.1 _ hlink) (fun _ h => by rw [hsame]; exact h) hv hdg kk
theorem q_put {ref C : String} {T : u_T} {N ci index k : Nat} {fs : List Value} {v : Value} {ty : FieldType} (ty0 : Nat → FieldType) (X : Cx p s m args c cc nL own D tc) (hD : va_D A (wW n ad E)) (hP : va_P D vwCl (wW n ad E) H) (hS : va_S A H0 H locs) (hk : k < n) (hE : E k = .inr (ci, fs)) (hc : vwCl[ci]? = some (C, T, N)) (hin : ∀ w ∈ u_ws C T N, w ∈ WS)
    (hty : ∀ k, k < N → parseFieldDescriptor (T k).2.2.1 = some (ty0 k)) (hnm : ∀ a, a < N → ∀ b, b < N → a ≠ b → (T a).2.1 ≠ (T b).2.1) (j : Nat) (hj : j < N) (hlink : Cond.fieldLink own index ref (T j).2.1 (T j).2.2.1 ∈ WS) (hsame : ref = (T j).1) (hfin : (T j).2.2.2 = false) (hd : parseFieldDescriptor (T j).2.2.1 = some ty) (hn : narrow ty v = v) (hfit : fits ty v = true) (hl : j < fs.length) (hdg : decode cc pc = .ok (.putfield index, 3))
    (kk : ∀ (H1 : Heap) (locs1 : List Loc), va_D A (wW n ad (va_up E k (.inr (ci, fs.set j v)))) → va_P D vwCl (wW n ad (va_up E k (.inr (ci, fs.set j v)))) H1 → va_S A H0 H1 locs1 → W p l e R s m args below meth c H1 locs1 cells slots Q (F0 m (pc + 3) ls rest)) : W p l e R s m args below meth c H locs cells slots Q (F0 m pc ls (v :: .ref (ad k) :: rest)) :=
  va_put (D := D) X.1 X.2.1 X.2.2.2.2.1 hin ty0 hty hnm X.2.2.2.1 X.2.2.2.2.2 hP hD hS k (wW_get hk hE) hc j hj (X.2.2.2.2.1 _ hlink) (fun _ h => by rw [hsame]; exact h) hfin hd hn hfit hl hdg (fun H1 locs1 h1 h2 h3 => kk H1 locs1 (by rw [← wW_set]; exact h2) (by rw [← wW_set]; exact h1) h3)
theorem q_putN {ref C host : String} {T : u_T} {N ci index k : Nat} {fs : List Value} {v : Value} {ty : FieldType} (ty0 : Nat → FieldType) (X : Cx p s m args c cc nL own D tc) (hD : va_D A (wW n ad E)) (hP : va_P D vwCl (wW n ad E) H) (hS : va_S A H0 H locs) (hk : k < n) (hE : E k = .inr (ci, fs)) (hc : vwCl[ci]? = some (C, T, N)) (hin : ∀ w ∈ u_ws C T N, w ∈ WS)
    (hty : ∀ k, k < N → parseFieldDescriptor (T k).2.2.1 = some (ty0 k)) (hnm : ∀ a, a < N → ∀ b, b < N → a ≠ b → (T a).2.1 ≠ (T b).2.1) (j : Nat) (hj : j < N) (hlink : Cond.fieldLinkNest own index ref (T j).2.1 (T j).2.2.1 host ∈ WS) (hsame : ref = (T j).1) (hfin : (T j).2.2.2 = false) (hd : parseFieldDescriptor (T j).2.2.1 = some ty) (hn : narrow ty v = v) (hfit : fits ty v = true) (hl : j < fs.length) (hdg : decode cc pc = .ok (.putfield index, 3))
    (kk : ∀ (H1 : Heap) (locs1 : List Loc), va_D A (wW n ad (va_up E k (.inr (ci, fs.set j v)))) → va_P D vwCl (wW n ad (va_up E k (.inr (ci, fs.set j v)))) H1 → va_S A H0 H1 locs1 → W p l e R s m args below meth c H1 locs1 cells slots Q (F0 m (pc + 3) ls rest)) : W p l e R s m args below meth c H locs cells slots Q (F0 m pc ls (v :: .ref (ad k) :: rest)) :=
  va_putN (D := D) X.1 X.2.1 X.2.2.2.2.1 hin ty0 hty hnm X.2.2.2.1 X.2.2.2.2.2 hP hD hS k (wW_get hk hE) hc j hj (X.2.2.2.2.1 _ hlink) (fun _ h => by rw [hsame]; exact h) hfin hd hn hfit hl hdg (fun H1 locs1 h1 h2 h3 => kk H1 locs1 (by rw [← wW_set]; exact h2) (by rw [← wW_set]; exact h1) h3)
theorem q_putF {ref C : String} {T : u_T} {N ci index k : Nat} {fs : List Value} {v : Value} {ty : FieldType} (ty0 : Nat → FieldType) (X : Cx p s m args c cc nL own D tc) (hD : va_D A (wW n ad E)) (hP : va_P D vwCl (wW n ad E) H) (hS : va_S A H0 H locs) (hk : k < n) (hE : E k = .inr (ci, fs)) (hc : vwCl[ci]? = some (C, T, N)) (hin : ∀ w ∈ u_ws C T N, w ∈ WS)
    (hty : ∀ k, k < N → parseFieldDescriptor (T k).2.2.1 = some (ty0 k)) (hnm : ∀ a, a < N → ∀ b, b < N → a ≠ b → (T a).2.1 ≠ (T b).2.1) (j : Nat) (hj : j < N) (hlink : Cond.fieldLink own index ref (T j).2.1 (T j).2.2.1 ∈ WS) (hsame : ref = (T j).1) (hfin : (T j).2.2.2 = true) (hin2 : meth.name = "<init>") (hdecl : (T j).1 = own) (hd : parseFieldDescriptor (T j).2.2.1 = some ty) (hn : narrow ty v = v) (hfit : fits ty v = true) (hl : j < fs.length) (hdg : decode cc pc = .ok (.putfield index, 3))
    (kk : ∀ (H1 : Heap) (locs1 : List Loc), va_D A (wW n ad (va_up E k (.inr (ci, fs.set j v)))) → va_P D vwCl (wW n ad (va_up E k (.inr (ci, fs.set j v)))) H1 → va_S A H0 H1 locs1 → W p l e R s m args below meth c H1 locs1 cells slots Q (F0 m (pc + 3) ls rest)) : W p l e R s m args below meth c H locs cells slots Q (F0 m pc ls (v :: .ref (ad k) :: rest)) :=
  va_putF (D := D) X.1 X.2.1 X.2.2.2.2.1 hin ty0 hty hnm X.2.2.2.1 X.2.2.2.2.2 hP hD hS k (wW_get hk hE) hc j hj (X.2.2.2.2.1 _ hlink) (fun _ h => by rw [hsame]; exact h) hfin hin2 hdecl hd hn hfit hl hdg (fun H1 locs1 h1 h2 h3 => kk H1 locs1 (by rw [← wW_set]; exact h2) (by rw [← wW_set]; exact h1) h3)
-- arrays: the place by its number
theorem q_iald {k N : Nat} {f : Nat → Int32} {i : Int32} (j : Nat) (X : Cx p s m args c cc nL own D tc) (hP : va_P D vwCl (wW n ad E) H) (hk : k < n) (hE : E k = .inl (tc 0, N, .inl f)) (hi : i = nI j) (hj : j < N) (hN : N < 2 ^ 31) (hdg : decode cc pc = .ok (.iaload, 1))
    (kk : W p l e R s m args below meth c H locs cells slots Q (F0 m (pc + 1) ls (.int (f j) :: rest))) : W p l e R s m args below meth c H locs cells slots Q (F0 m pc ls (.int i :: .ref (ad k) :: rest)) := by
  subst hi
  refine va_iald (D := D) X.1 X.2.1 X.2.2.2.2.2 hP k 0 (wW_get hk hE) rfl (vp_in_nI hj hN) hdg ?_
  rw [nI_clamp (by omega)]
  exact kk
theorem q_lald {k N : Nat} {f : Nat → Int64} {i : Int32} (j : Nat) (X : Cx p s m args c cc nL own D tc) (hP : va_P D vwCl (wW n ad E) H) (hk : k < n) (hE : E k = .inl (tc 1, N, .inr (.inl f))) (hi : i = nI j) (hj : j < N) (hN : N < 2 ^ 31) (hdg : decode cc pc = .ok (.laload, 1))
    (kk : W p l e R s m args below meth c H locs cells slots Q (F0 m (pc + 1) ls (.long (f j) :: rest))) : W p l e R s m args below meth c H locs cells slots Q (F0 m pc ls (.int i :: .ref (ad k) :: rest)) := by
  subst hi
  refine va_lald (D := D) X.1 X.2.1 X.2.2.2.2.2 hP k 1 (wW_get hk hE) rfl (vp_in_nI hj hN) hdg ?_
  rw [nI_clamp (by omega)]
  exact kk
theorem q_zald {k N : Nat} {f : Nat → Int32} {i : Int32} (j : Nat) (X : Cx p s m args c cc nL own D tc) (hP : va_P D vwCl (wW n ad E) H) (hk : k < n) (hE : E k = .inl (tc 2, N, .inl f)) (hi : i = nI j) (hj : j < N) (hN : N < 2 ^ 31) (hdg : decode cc pc = .ok (.baload, 1))
    (kk : W p l e R s m args below meth c H locs cells slots Q (F0 m (pc + 1) ls (.int (f j) :: rest))) : W p l e R s m args below meth c H locs cells slots Q (F0 m pc ls (.int i :: .ref (ad k) :: rest)) := by
  subst hi
  refine va_zald (D := D) X.1 X.2.1 X.2.2.2.2.2 hP k 2 (wW_get hk hE) rfl (vp_in_nI hj hN) hdg ?_
  rw [nI_clamp (by omega)]
  exact kk
theorem q_aald {k N t0 : Nat} {C : String} {cA : ClassId} {f : Nat → Option Nat} {i : Int32} {q : Nat} (j : Nat) (X : Cx p s m args c cc nL own D tc) (hP : va_P D vwCl (wW n ad E) H) (hk : k < n) (hE : E k = .inl (cA, N, .inr (.inr (.inr (.inr f))))) (ht : (TY tc)[t0]? = some (cA, .object C)) (hi : i = nI j) (hj : j < N) (hN : N < 2 ^ 31) (hq : f j = some q) (hdg : decode cc pc = .ok (.aaload, 1))
    (kk : W p l e R s m args below meth c H locs cells slots Q (F0 m (pc + 1) ls (.ref q :: rest))) : W p l e R s m args below meth c H locs cells slots Q (F0 m pc ls (.int i :: .ref (ad k) :: rest)) := by
  subst hi
  refine va_aldq (D := D) X.1 X.2.1 X.2.2.2.2.2 hP k t0 (wW_get hk hE) ht (vp_in_nI hj hN) hdg ?_
  rw [nI_clamp (by omega), hq]
  exact kk
theorem q_iast {k N : Nat} {f : Nat → Int32} {i x : Int32} (j : Nat) (X : Cx p s m args c cc nL own D tc) (hD : va_D A (wW n ad E)) (hP : va_P D vwCl (wW n ad E) H) (hS : va_S A H0 H locs) (hk : k < n) (hE : E k = .inl (tc 0, N, .inl f)) (hi : i = nI j) (hj : j < N) (hN : N < 2 ^ 31) (hdg : decode cc pc = .ok (.iastore, 1))
    (kk : ∀ (H1 : Heap) (locs1 : List Loc), va_D A (wW n ad (va_up E k (.inl (tc 0, N, .inl (upd f j x))))) → va_P D vwCl (wW n ad (va_up E k (.inl (tc 0, N, .inl (upd f j x))))) H1 → va_S A H0 H1 locs1 → W p l e R s m args below meth c H1 locs1 cells slots Q (F0 m (pc + 1) ls rest)) : W p l e R s m args below meth c H locs cells slots Q (F0 m pc ls (.int x :: .int i :: .ref (ad k) :: rest)) := by
  subst hi
  refine va_iast (D := D) X.1 X.2.1 X.2.2.2.2.2 hP hD hS k 0 (wW_get hk hE) rfl (vp_in_nI hj hN) hdg (fun H1 locs1 h1 h2 h3 => ?_)
  rw [nI_clamp (by omega), wW_set] at h1 h2
  exact kk H1 locs1 h2 h1 h3
theorem q_last {k N : Nat} {f : Nat → Int64} {i : Int32} {x : Int64} (j : Nat) (X : Cx p s m args c cc nL own D tc) (hD : va_D A (wW n ad E)) (hP : va_P D vwCl (wW n ad E) H) (hS : va_S A H0 H locs) (hk : k < n) (hE : E k = .inl (tc 1, N, .inr (.inl f))) (hi : i = nI j) (hj : j < N) (hN : N < 2 ^ 31) (hdg : decode cc pc = .ok (.lastore, 1))
    (kk : ∀ (H1 : Heap) (locs1 : List Loc), va_D A (wW n ad (va_up E k (.inl (tc 1, N, .inr (.inl (vp_updL f j x)))))) → va_P D vwCl (wW n ad (va_up E k (.inl (tc 1, N, .inr (.inl (vp_updL f j x)))))) H1 → va_S A H0 H1 locs1 → W p l e R s m args below meth c H1 locs1 cells slots Q (F0 m (pc + 1) ls rest)) : W p l e R s m args below meth c H locs cells slots Q (F0 m pc ls (.long x :: .int i :: .ref (ad k) :: rest)) := by
  subst hi
  refine va_last (D := D) X.1 X.2.1 X.2.2.2.2.2 hP hD hS k 1 (wW_get hk hE) rfl (vp_in_nI hj hN) hdg (fun H1 locs1 h1 h2 h3 => ?_)
  rw [nI_clamp (by omega), wW_set] at h1 h2
  exact kk H1 locs1 h2 h1 h3
theorem q_zast {k N : Nat} {f : Nat → Int32} {i x : Int32} (j : Nat) (X : Cx p s m args c cc nL own D tc) (hD : va_D A (wW n ad E)) (hP : va_P D vwCl (wW n ad E) H) (hS : va_S A H0 H locs) (hk : k < n) (hE : E k = .inl (tc 2, N, .inl f)) (hi : i = nI j) (hj : j < N) (hN : N < 2 ^ 31) (hdg : decode cc pc = .ok (.bastore, 1))
    (kk : ∀ (H1 : Heap) (locs1 : List Loc), va_D A (wW n ad (va_up E k (.inl (tc 2, N, .inl (upd f j (vp_nar .boolean x)))))) → va_P D vwCl (wW n ad (va_up E k (.inl (tc 2, N, .inl (upd f j (vp_nar .boolean x)))))) H1 → va_S A H0 H1 locs1 → W p l e R s m args below meth c H1 locs1 cells slots Q (F0 m (pc + 1) ls rest)) : W p l e R s m args below meth c H locs cells slots Q (F0 m pc ls (.int x :: .int i :: .ref (ad k) :: rest)) := by
  subst hi
  refine va_zast (D := D) X.1 X.2.1 X.2.2.2.2.2 hP hD hS k 2 (wW_get hk hE) rfl (vp_in_nI hj hN) hdg (fun H1 locs1 h1 h2 h3 => ?_)
  rw [nI_clamp (by omega), wW_set] at h1 h2
  exact kk H1 locs1 h2 h1 h3
end CR
