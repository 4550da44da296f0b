/-! METHODS THAT THROW -/
def TH (U : State) : Prop := (Cond.laysStatic "java/lang/Throwable" "UNASSIGNED_STACK" "[Ljava/lang/StackTraceElement;").before #[] U = true ∧ (Cond.laysStatic "java/lang/Throwable" "SUPPRESSED_SENTINEL" "Ljava/util/List;").before #[] U = true ∧
  (Cond.isRef (.static "java/lang/Throwable" "UNASSIGNED_STACK" "[Ljava/lang/StackTraceElement;")).before #[] U = true ∧ (Cond.isRef (.static "java/lang/Throwable" "SUPPRESSED_SENTINEL" "Ljava/util/List;")).before #[] U = true
theorem TH1 {s U : State} (hvm : s.vm.Alike U.vm) (hh : ∀ q, q < s.heap.size → U.heap[q]? = s.heap[q]?) {O f d : String} (h : (Cond.laysStatic O f d).before #[] s = true) : (Cond.laysStatic O f d).before #[] U = true := by
  obtain ⟨c, k, i, fd, a, cell, hc, hi, hst, ha, hcell, hs, hcls, hlt, hty⟩ := Cond.laysStatic_spec h
  obtain ⟨k', hi', hek⟩ := State.fieldFound?_setVm (s := s) hvm hi
  have hi2 : U.fieldFound? O f d = some (c, k', i, fd) := hi'
  exact Cond.laysStatic_of (s := U) (by rw [hvm.findClass]; exact hc) hi2 hst (by rw [hek]; exact ha) (by rw [hh a (Array.getElem?_eq_some_iff.mp hcell).1]; exact hcell) hs hcls hlt (by rw [hek]; exact hty)
theorem TH2 {s U : State} (hvm : s.vm.Alike U.vm) (hh : ∀ q, q < s.heap.size → U.heap[q]? = s.heap[q]?) {O f d : String} (h : (Cond.laysStatic O f d).before #[] s = true) (h2 : (Cond.isRef (.static O f d)).before #[] s = true) : (Cond.isRef (.static O f d)).before #[] U = true := by
  obtain ⟨c, k, i, fd, a, cell, hc, hi, hst, ha, hcell, hs, hcls, hlt, hty⟩ := Cond.laysStatic_spec h
  obtain ⟨k', hi', hek⟩ := State.fieldFound?_setVm (s := s) hvm hi
  have hi2 : U.fieldFound? O f d = some (c, k', i, fd) := hi'
  have ha' : k'.statics = some a := by rw [hek]; exact ha
  have hcell' : U.heap[a]? = some cell := by rw [hh a (Array.getElem?_eq_some_iff.mp hcell).1]; exact hcell
  have e1 : (Term.static O f d).eval #[] s none [] s = cell.slots[fd.slot]? := by simp [Term.eval, State.fieldNamed?, hi, hst, ha, hcell, hs]
  have e2 : (Term.static O f d).eval #[] U none [] U = cell.slots[fd.slot]? := by simp [Term.eval, State.fieldNamed?, hi2, hst, ha', hcell', hs]
  simp only [Cond.before, Cond.holds, Cond.value, e1, e2] at h2 ⊢
  exact h2
theorem TH.moved {s U : State} (hvm : s.vm.Alike U.vm) (hh : ∀ q, q < s.heap.size → U.heap[q]? = s.heap[q]?) (h : TH s) : TH U := ⟨TH1 hvm hh h.1, TH1 hvm hh h.2.1, TH2 hvm hh h.1 h.2.2.1, TH2 hvm hh h.2.1 h.2.2.2⟩
def thw : List Cond := [.laysStatic "java/lang/Throwable" "UNASSIGNED_STACK" "[Ljava/lang/StackTraceElement;", .laysStatic "java/lang/Throwable" "SUPPRESSED_SENTINEL" "Ljava/util/List;", .isRef (.static "java/lang/Throwable" "UNASSIGNED_STACK" "[Ljava/lang/StackTraceElement;"), .isRef (.static "java/lang/Throwable" "SUPPRESSED_SENTINEL" "Ljava/util/List;")]
theorem TH.at {s : State} {args : Array Value} (h : TH s) {w : Cond} (hw : w ∈ thw) : w.before args s = true := by
  simp only [thw, List.mem_cons, List.not_mem_nil, or_false] at hw
  rcases hw with rfl | rfl | rfl | rfl
  · exact h.1
  · exact h.2.1
  · exact h.2.2.1
  · exact h.2.2.2
def nmsRT : List String := ["java/lang/RuntimeException", "java/lang/Exception"]
theorem own_of {own cls : String} {ic : Nat} {args : Array Value} {s : State} (hc : ∀ a ∈ Bundle.ownAtoms0 own ic cls nmsRT, (a ∈ tables_1 ∧ stW a = true) ∨ a ∈ thw) (hts : ∀ w ∈ WS, w.before args s = true) (hT : TH s) : ∀ a ∈ Bundle.ownAtoms0 own ic cls nmsRT, a.before args s = true := fun a ha => by
  rcases hc a ha with ⟨h1, h2⟩ | h
  · exact hts a (ws_in (List.mem_append_right _ h1) h2)
  · exact hT.at h
set_option maxRecDepth 20000 in
theorem own_ISE : ∀ a ∈ Bundle.ownAtoms0 R_RW 87 "java/lang/IllegalStateException" nmsRT, (a ∈ tables_1 ∧ stW a = true) ∨ a ∈ thw := by decide +kernel
theorem pick3 {P : Nat → (Nat → Int32) → (Nat → Int32) → (Nat → Int32) → Prop} {n : Nat} (h : ∀ t, t < n → ∃ fo fa fb : Nat → Int32, P t fo fa fb) : ∃ fo fa fb : Nat → Nat → Int32, ∀ t, t < n → P t (fo t) (fa t) (fb t) := by
  have h2 : ∀ t, ∃ q : (Nat → Int32) × (Nat → Int32) × (Nat → Int32), t < n → P t q.1 q.2.1 q.2.2 := fun t => by
    by_cases ht : t < n
    · obtain ⟨a, b, c, h'⟩ := h t ht
      exact ⟨(a, b, c), fun _ => h'⟩
    · exact ⟨(fun _ => 0, fun _ => 0, fun _ => 0), fun q => absurd q ht⟩
  exact ⟨fun t => (Classical.choose (h2 t)).1, fun t => (Classical.choose (h2 t)).2.1, fun t => (Classical.choose (h2 t)).2.2, fun t ht => Classical.choose_spec (h2 t) ht⟩
