theorem dLW_start_0 : decode cLW_start 0 = .ok (.aload_n 2, 1) := by decide +kernel
theorem dLW_start_1 : decode cLW_start 1 = .ok (.iconst 0, 1) := by decide +kernel
theorem dLW_start_2 : decode cLW_start 2 = .ok (.aload_n 0, 1) := by decide +kernel
theorem dLW_start_3 : decode cLW_start 3 = .ok (.iload_n 1, 1) := by decide +kernel
theorem dLW_start_4 : decode cLW_start 4 = .ok (.invokevirtual 7, 3) := by decide +kernel
theorem dLW_start_7 : decode cLW_start 7 = .ok (.i2l, 1) := by decide +kernel
theorem dLW_start_8 : decode cLW_start 8 = .ok (.lastore, 1) := by decide +kernel
theorem dLW_start_9 : decode cLW_start 9 = .ok (.goto 9, 3) := by decide +kernel
theorem dLW_start_12 : decode cLW_start 12 = .ok (.astore_n 3, 1) := by decide +kernel
theorem dLW_start_13 : decode cLW_start 13 = .ok (.iconst 1, 1) := by decide +kernel
theorem dLW_start_14 : decode cLW_start 14 = .ok (.ireturn, 1) := by decide +kernel
theorem dLW_start_15 : decode cLW_start 15 = .ok (.astore_n 3, 1) := by decide +kernel
theorem dLW_start_16 : decode cLW_start 16 = .ok (.iconst 2, 1) := by decide +kernel
theorem dLW_start_17 : decode cLW_start 17 = .ok (.ireturn, 1) := by decide +kernel
theorem dLW_start_18 : decode cLW_start 18 = .ok (.iconst 0, 1) := by decide +kernel
theorem dLW_start_19 : decode cLW_start 19 = .ok (.ireturn, 1) := by decide +kernel
theorem dLW_step_0 : decode cLW_step 0 = .ok (.aload_n 2, 1) := by decide +kernel
theorem dLW_step_1 : decode cLW_step 1 = .ok (.iconst 0, 1) := by decide +kernel
theorem dLW_step_2 : decode cLW_step 2 = .ok (.aload_n 0, 1) := by decide +kernel
theorem dLW_step_3 : decode cLW_step 3 = .ok (.iload_n 1, 1) := by decide +kernel
theorem dLW_step_4 : decode cLW_step 4 = .ok (.invokevirtual 17, 3) := by decide +kernel
theorem dLW_step_7 : decode cLW_step 7 = .ok (.i2l, 1) := by decide +kernel
theorem dLW_step_8 : decode cLW_step 8 = .ok (.lastore, 1) := by decide +kernel
theorem dLW_step_9 : decode cLW_step 9 = .ok (.goto 12, 3) := by decide +kernel
theorem dLW_step_12 : decode cLW_step 12 = .ok (.astore_n 3, 1) := by decide +kernel
theorem dLW_step_13 : decode cLW_step 13 = .ok (.iconst 1, 1) := by decide +kernel
theorem dLW_step_14 : decode cLW_step 14 = .ok (.ireturn, 1) := by decide +kernel
theorem dLW_step_15 : decode cLW_step 15 = .ok (.astore_n 3, 1) := by decide +kernel
theorem dLW_step_16 : decode cLW_step 16 = .ok (.iconst 2, 1) := by decide +kernel
theorem dLW_step_17 : decode cLW_step 17 = .ok (.ireturn, 1) := by decide +kernel
theorem dLW_step_18 : decode cLW_step 18 = .ok (.astore_n 3, 1) := by decide +kernel
theorem dLW_step_19 : decode cLW_step 19 = .ok (.iconst 3, 1) := by decide +kernel
theorem dLW_step_20 : decode cLW_step 20 = .ok (.ireturn, 1) := by decide +kernel
theorem dLW_step_21 : decode cLW_step 21 = .ok (.iconst 0, 1) := by decide +kernel
theorem dLW_step_22 : decode cLW_step 22 = .ok (.ireturn, 1) := by decide +kernel
section QI
variable {p : Program} {l : Launch} {e : Env} {R : Room} {s : State} {m : MethodId} {args : Array Value} {below : List Frame} {meth : Method} {c : Code} {H : Heap} {locs : List Loc}
variable {cc : ByteArray} {nL pc n : Nat} {own : String} {D : va_G} {tc : Nat → ClassId} {ad : Nat → Nat} {E : Nat → va_E} {ls : Array Slot} {post : Outcome → (Nat → va_E) → State → Prop} {sz : Nat}
theorem q_iretT {v : Int32} (X : Cx p s m args c cc nL own D tc) (hlk : meth.locks = false) (hr : meth.sig.returnType = some .int) (hP : va_P D vwCl (wW n ad E) H) (hS : va_S (fun q => Aw n ad q ∨ sz ≤ q) s.heap H locs) (hdg : decode cc pc = .ok (.ireturn, 1)) (hp : ∀ t, post (.returned (some (.int v))) E t) :
    W p l e R s m args below meth c H locs 1 6 (XQ below (CtTQ D n ad sz post) args s 1 6 (fun q => Aw n ad q ∨ sz ≤ q)) (F0 m pc ls [.int v]) :=
  W.mono (fun _ h => XQ.ofM h) (W.iret X.1 X.2.1 hr (fun t ht _ => ⟨⟨E, hp t, by rw [ht]; exact hP⟩, hS.F ht⟩) hS.2.2 hdg hlk)
end QI
set_option maxHeartbeats 4000000 in
set_option maxRecDepth 100000 in
theorem c1_LW_start (l : Launch) (hfl : l.flags = pinnedFlags ++ [noTraceFlag]) (D : va_G) (tc : Nat → ClassId) (ad : Nat → Nat) (E : Nat → va_E) (a1 : Int32) (g : Nat → Int64) (sz9 : Nat) (hF : RWf tc ad E) (hO : E 66 = .inl (tc 1, 1, .inr (.inl g))) : CtT l D tc yLW_start 7 67 ad E [.ref (ad 0), .int a1, .ref (ad 66)] sz9 (va_Nc "java/lang/IllegalArgumentException" "java/lang/IllegalStateException") (fun o E2 t9 => o = .returned (some (.int 2)) ∧ E2 = E) := by
  refine MetX.ofWW (cc := cLW_start) (maxL := 4) (ret := some .int) (by decide) w_271 ?_
  intro p e s m args below meth c s₁ B hml htab hP
  obtain ⟨hsz9, ⟨rfl, hP, hK, hD⟩, hTH, hex⟩ := hP
  rw [lg_entry_eq]
  have hts := atoms_spec (ws := WS) B.pre
  have X : Cx p s m _ c cLW_start 4 R_LW D tc := ⟨B.exec, B.bytes, hml, findClass_of_methodNamed B.named, hts, hK⟩
  have hlk := B.notSynchronized
  have hr := B.returns
  have hx := X.1
  have hb := X.2.1
  have hD : va_D (fun q => Aw 67 ad q ∨ sz9 ≤ q) (wW 67 ad E) := hD.weaken (fun _ _ _ h => Or.inl h)
  have hA : ∀ q, s.heap.size ≤ q → (Aw 67 ad q ∨ sz9 ≤ q) := fun q h => Or.inr (by omega)
  have hS : va_S (fun q => Aw 67 ad q ∨ sz9 ≤ q) s.heap s.heap [] := va_S.rf
  have hl := lv_entry [Value.ref (ad 0), .int a1, .ref (ad 66)] (n := 4) (Nat.le_of_ble_eq_true rfl)
  generalize (lg_sl [Value.ref (ad 0), .int a1, .ref (ad 66)] ++ List.replicate (4 - (lg_sl [Value.ref (ad 0), .int a1, .ref (ad 66)]).length) Slot.unset).toArray = ls at hl ⊢
  have hl : lv_has ls 4 [(0, .ref (ad 0)), (1, .int a1), (2, .ref (ad 66))] := hl
  have h0 := hF.1.1
  refine lv_aload_n hx hb dLW_start_0 rfl (lv_at hl 2 rfl) ?_
  refine lv_iconst (v := 0) hx hb dLW_start_1 (by decide) ?_
  refine lv_aload_n hx hb dLW_start_2 rfl (lv_at hl 0 rfl) ?_
  refine lv_iload_n hx hb dLW_start_3 rfl (lv_at hl 1 rfl) ?_
  refine x_catch (f := fun k => 0 + k) (C := "java/lang/IllegalArgumentException") (hpc := 15) (x_runV (C := R_RW) (b := ad 0) (As := [.int a1]) (rest := [.int 0, .ref (ad 66)]) X (c1_RW_start l hfl D tc (fun k => ad (0 + k)) (fun k => E (0 + k)) a1 sz9 (by simpa only [Nat.zero_add] using hF)) rfl rfl (by decide) (by decide) w_277 w_1 w_274 w_275 w_276 ry_RW_start (x_recv X hP (by omega) h0 rfl) (ctT_pre (ex := fun _ => True) (fun _ _ _ _ => trivial) trivial hTH (fun _ _ => rfl) hsz9 X hP hD (fr_lt 66 67 0 (by omega)) (fr_inj 66 0)) (ctT_blind (fun _ _ _ _ => trivial)) hl.1 (Nat.le_of_ble_eq_true rfl) dLW_start_4 ⟨Nat.le_refl _, Nat.le_refl _⟩) hsz9 hA hD hP hS (fr_lt 66 67 0 (by omega)) (fr_inj 66 0) (fun o E1 t h => ⟨h.1, h.2⟩) (fun T locs1 x cell XX hc hv hC => fd2 rfl XX X htab ⟨Nat.le_of_ble_eq_true rfl, Nat.le_of_ble_eq_true rfl⟩ ⟨Nat.le_of_ble_eq_true rfl, Nat.le_of_ble_eq_true rfl⟩ (by decide) (by decide) w_272 hex w_273 w_341 hc hv hC) (fun x H locs hD hP hS => ?_)
  · refine lv_astore_n hx hb dLW_start_15 rfl hl (by decide) rfl (fun ls hl => ?_)
    refine lv_iconst (v := 2) hx hb dLW_start_16 (by decide) ?_
    exact q_iretT X hlk hr hP hS dLW_start_17 (fun t => ⟨rfl, rfl⟩)
set_option maxHeartbeats 4000000 in
set_option maxRecDepth 100000 in
theorem c1_LW_step (l : Launch) (hfl : l.flags = pinnedFlags ++ [noTraceFlag]) (D : va_G) (tc : Nat → ClassId) (ad : Nat → Nat) (E : Nat → va_E) (a1 : Int32) (g : Nat → Int64) (sz9 : Nat) (hF : RWf tc ad E) (hO : E 66 = .inl (tc 1, 1, .inr (.inl g))) : CtT l D tc yLW_step 7 67 ad E [.ref (ad 0), .int a1, .ref (ad 66)] sz9 (va_Nc "java/lang/IllegalStateException" "java/lang/IndexOutOfBoundsException") (fun o E2 t9 => o = .returned (some (.int (if wi a1 5 = true then 2 else 1))) ∧ E2 = E) := by
  refine MetX.ofWW (cc := cLW_step) (maxL := 4) (ret := some .int) (by decide) w_359 ?_
  intro p e s m args below meth c s₁ B hml htab hP
  obtain ⟨hsz9, ⟨rfl, hP, hK, hD⟩, hTH, hex⟩ := hP
  rw [lg_entry_eq]
  have hts := atoms_spec (ws := WS) B.pre
  have X : Cx p s m _ c cLW_step 4 R_LW D tc := ⟨B.exec, B.bytes, hml, findClass_of_methodNamed B.named, hts, hK⟩
  have hlk := B.notSynchronized
  have hr := B.returns
  have hx := X.1
  have hb := X.2.1
  have hD : va_D (fun q => Aw 67 ad q ∨ sz9 ≤ q) (wW 67 ad E) := hD.weaken (fun _ _ _ h => Or.inl h)
  have hA : ∀ q, s.heap.size ≤ q → (Aw 67 ad q ∨ sz9 ≤ q) := fun q h => Or.inr (by omega)
  have hS : va_S (fun q => Aw 67 ad q ∨ sz9 ≤ q) s.heap s.heap [] := va_S.rf
  have hl := lv_entry [Value.ref (ad 0), .int a1, .ref (ad 66)] (n := 4) (Nat.le_of_ble_eq_true rfl)
  generalize (lg_sl [Value.ref (ad 0), .int a1, .ref (ad 66)] ++ List.replicate (4 - (lg_sl [Value.ref (ad 0), .int a1, .ref (ad 66)]).length) Slot.unset).toArray = ls at hl ⊢
  have hl : lv_has ls 4 [(0, .ref (ad 0)), (1, .int a1), (2, .ref (ad 66))] := hl
  have h0 := hF.1.1
  refine lv_aload_n hx hb dLW_step_0 rfl (lv_at hl 2 rfl) ?_
  refine lv_iconst (v := 0) hx hb dLW_step_1 (by decide) ?_
  refine lv_aload_n hx hb dLW_step_2 rfl (lv_at hl 0 rfl) ?_
  refine lv_iload_n hx hb dLW_step_3 rfl (lv_at hl 1 rfl) ?_
  by_cases hw : wi a1 5 = true
  · refine x_catch (f := fun k => 0 + k) (C := "java/lang/IllegalStateException") (hpc := 15) (x_runV (C := R_RW) (b := ad 0) (As := [.int a1]) (rest := [.int 0, .ref (ad 66)]) X (c1_RW_step l hfl D tc (fun k => ad (0 + k)) (fun k => E (0 + k)) a1 sz9 (by simpa only [Nat.zero_add] using hF)) rfl rfl (by decide) (by decide) w_365 w_1 w_362 w_363 w_364 ry_RW_step (x_recv X hP (by omega) h0 rfl) (ctT_pre (ex := fun _ => True) (fun _ _ _ _ => trivial) trivial hTH (fun _ _ => rfl) hsz9 X hP hD (fr_lt 66 67 0 (by omega)) (fr_inj 66 0)) (ctT_blind (fun _ _ _ _ => trivial)) hl.1 (Nat.le_of_ble_eq_true rfl) dLW_step_4 ⟨Nat.le_refl _, Nat.le_refl _⟩) hsz9 hA hD hP hS (fr_lt 66 67 0 (by omega)) (fr_inj 66 0) (fun o E1 t h => ⟨h.1, by rw [if_pos hw] at h; exact h.2⟩) (fun T locs1 x cell XX hc hv hC => fd2 rfl XX X htab ⟨Nat.le_of_ble_eq_true rfl, Nat.le_of_ble_eq_true rfl⟩ ⟨Nat.le_of_ble_eq_true rfl, Nat.le_of_ble_eq_true rfl⟩ (by decide) (by decide) w_360 hex w_272 w_280 hc hv hC) (fun x H locs hD hP hS => ?_)
    refine lv_astore_n hx hb dLW_step_15 rfl hl (by decide) rfl (fun ls hl => ?_)
    refine lv_iconst (v := 2) hx hb dLW_step_16 (by decide) ?_
    exact q_iretT X hlk hr hP hS dLW_step_17 (fun t => ⟨by rw [if_pos hw], rfl⟩)
  · refine x_catch (f := fun k => 0 + k) (C := "java/lang/IndexOutOfBoundsException") (hpc := 12) (x_runV (C := R_RW) (b := ad 0) (As := [.int a1]) (rest := [.int 0, .ref (ad 66)]) X (c1_RW_step l hfl D tc (fun k => ad (0 + k)) (fun k => E (0 + k)) a1 sz9 (by simpa only [Nat.zero_add] using hF)) rfl rfl (by decide) (by decide) w_365 w_1 w_362 w_363 w_364 ry_RW_step (x_recv X hP (by omega) h0 rfl) (ctT_pre (ex := fun _ => True) (fun _ _ _ _ => trivial) trivial hTH (fun _ _ => rfl) hsz9 X hP hD (fr_lt 66 67 0 (by omega)) (fr_inj 66 0)) (ctT_blind (fun _ _ _ _ => trivial)) hl.1 (Nat.le_of_ble_eq_true rfl) dLW_step_4 ⟨Nat.le_refl _, Nat.le_refl _⟩) hsz9 hA hD hP hS (fr_lt 66 67 0 (by omega)) (fr_inj 66 0) (fun o E1 t h => ⟨h.1, by rw [if_neg hw] at h; exact h.2⟩) (fun T locs1 x cell XX hc hv hC => fd1 rfl XX X htab ⟨Nat.le_of_ble_eq_true rfl, Nat.le_of_ble_eq_true rfl⟩ (by decide) w_360 w_368 hc hv hC) (fun x H locs hD hP hS => ?_)
    refine lv_astore_n hx hb dLW_step_12 rfl hl (by decide) rfl (fun ls hl => ?_)
    refine lv_iconst (v := 1) hx hb dLW_step_13 (by decide) ?_
    exact q_iretT X hlk hr hP hS dLW_step_14 (fun t => ⟨by rw [if_neg hw], rfl⟩)
