set_option maxHeartbeats 4000000 in
set_option maxRecDepth 100000 in
theorem g_LW_start (l : Launch) (hfl : l.flags = pinnedFlags ++ [noTraceFlag]) (D : va_G) (tc : Nat → ClassId) (ad : Nat → Nat) (E : Nat → va_E) (st cs : Int32) (sz : Nat → Nat) (fo fa fb : Nat → Nat → Int32) (a1 : Int32) (g : Nat → Int64) (sz9 : Nat) (hI : RI tc ad E st cs sz fo fa fb) (hcb : narrow .boolean (.int a1) = .int a1 ∧ fits .boolean (.int a1) = true) (hO : E 66 = .inl (tc 1, 1, .inr (.inl g))) : CtT l D tc yLW_start 7 67 ad E [.ref (ad 0), .int a1, .ref (ad 66)] sz9 (va_Nc "java/lang/IllegalArgumentException" "java/lang/IllegalStateException") (fun o E2 t9 => ∃ r : Int32, o = .returned (some (.int r)) ∧ ∃ g2 : Nat → Int64, E2 66 = .inl (tc 1, 1, .inr (.inl g2)) ∧ ((¬ st = 0 ∧ r = 1 ∧ RI tc ad E2 st cs sz fo fa fb) ∨ (st = 0 ∧ allBad sz fo fa fb = true ∧ r = 2 ∧ RI tc ad E2 st cs sz fo fa fb) ∨ (st = 0 ∧ allBad sz fo fa fb = false ∧ r = 0 ∧ RI tc ad E2 1 a1 sz fo fa fb ∧ g2 0 = Int32.toInt64 (sumT sz 5)))) := by
  refine MetX.ofWW (cc := cLW_start) (maxL := 4) (ret := some .int) (by decide) w_271 ?_
  intro p e s m args below meth c s₁ B hml htab hP
  obtain ⟨hsz9, ⟨rfl, hP, hK, hD⟩, hTH, hex⟩ := hP
  rw [lg_entry_eq]
  have hts := atoms_spec (ws := WS) B.pre
  have X : Cx p s m _ c cLW_start 4 R_LW D tc := ⟨B.exec, B.bytes, hml, findClass_of_methodNamed B.named, hts, hK⟩
  have hlk := B.notSynchronized
  have hr := B.returns
  have hx := X.1
  have hb := X.2.1
  have hD : va_D (fun q => Aw 67 ad q ∨ sz9 ≤ q) (wW 67 ad E) := hD.weaken (fun _ _ _ h => Or.inl h)
  have hA : ∀ q, s.heap.size ≤ q → (Aw 67 ad q ∨ sz9 ≤ q) := fun q h => Or.inr (by omega)
  have hS : va_S (fun q => Aw 67 ad q ∨ sz9 ≤ q) s.heap s.heap [] := va_S.rf
  have hl := lv_entry [Value.ref (ad 0), .int a1, .ref (ad 66)] (n := 4) (Nat.le_of_ble_eq_true rfl)
  generalize (lg_sl [Value.ref (ad 0), .int a1, .ref (ad 66)] ++ List.replicate (4 - (lg_sl [Value.ref (ad 0), .int a1, .ref (ad 66)]).length) Slot.unset).toArray = ls at hl ⊢
  have hl : lv_has ls 4 [(0, .ref (ad 0)), (1, .int a1), (2, .ref (ad 66))] := hl
  have h0 := hI.1.1
  refine lv_aload_n hx hb dLW_start_0 rfl (lv_at hl 2 rfl) ?_
  refine lv_iconst (v := 0) hx hb dLW_start_1 (by decide) ?_
  refine lv_aload_n hx hb dLW_start_2 rfl (lv_at hl 0 rfl) ?_
  refine lv_iload_n hx hb dLW_start_3 rfl (lv_at hl 1 rfl) ?_
  refine x_try (f := fun k => 0 + k) (x_runV (C := R_RW) (b := ad 0) (As := [.int a1]) (rest := [.int 0, .ref (ad 66)]) X (g_RW_start l hfl D tc (fun k => ad (0 + k)) (fun k => E (0 + k)) st cs sz fo fa fb a1 sz9 (by simpa only [Nat.zero_add] using hI) hcb) rfl rfl (by decide) (by decide) w_277 w_1 w_274 w_275 w_276 ry_RW_start (x_recv X hP (by omega) h0 rfl) (ctT_pre (ex := fun _ => True) (fun _ _ _ _ => trivial) trivial hTH (fun _ _ => rfl) hsz9 X hP hD (fr_lt 66 67 0 (by omega)) (fr_inj 66 0)) (ctT_blind (fun _ _ _ _ => trivial)) hl.1 (Nat.le_of_ble_eq_true rfl) dLW_start_4 ⟨Nat.le_refl _, Nat.le_refl _⟩) hsz9 hA hD hP hS (fr_lt 66 67 0 (by omega)) (fr_inj 66 0) (fun x E1 t h => ?_) (fun v E1 t locs h hD hP hS => ?_)
  · rcases h with ⟨hst, he, x9, ex, hq⟩ | ⟨hst, hbad, he, x9, ex, hq⟩ | ⟨-, -, ex, -⟩
    · cases ex
      refine ⟨"java/lang/IllegalStateException", 12, he, hq, fun T locs1 cell XX hc hv hC => fd1 rfl XX X htab ⟨Nat.le_of_ble_eq_true rfl, Nat.le_of_ble_eq_true rfl⟩ (by decide) w_272 w_280 hc hv hC, fun H locs hD hP hS => ?_⟩
      refine lv_astore_n hx hb dLW_start_12 rfl hl (by decide) rfl (fun ls hl => ?_)
      refine lv_iconst (v := 1) hx hb dLW_start_13 (by decide) ?_
      exact q_iretT X hlk hr hP hS dLW_start_14 (fun t => ⟨1, rfl, g, hO, Or.inl ⟨hst, rfl, hI⟩⟩)
    · cases ex
      refine ⟨"java/lang/IllegalArgumentException", 15, he, hq, fun T locs1 cell XX hc hv hC => fd2 rfl XX X htab ⟨Nat.le_of_ble_eq_true rfl, Nat.le_of_ble_eq_true rfl⟩ ⟨Nat.le_of_ble_eq_true rfl, Nat.le_of_ble_eq_true rfl⟩ (by decide) (by decide) w_272 hex w_273 w_341 hc hv hC, fun H locs hD hP hS => ?_⟩
      refine lv_astore_n hx hb dLW_start_15 rfl hl (by decide) rfl (fun ls hl => ?_)
      refine lv_iconst (v := 2) hx hb dLW_start_16 (by decide) ?_
      exact q_iretT X hlk hr hP hS dLW_start_17 (fun t => ⟨2, rfl, g, hO, Or.inr (Or.inl ⟨hst, hbad, rfl, hI⟩)⟩)
    · cases ex
  · rcases h with ⟨-, -, x9, ex, -⟩ | ⟨-, -, -, x9, ex, -⟩ | ⟨hst, hbad, ex, hI1⟩
    · cases ex
    · cases ex
    · cases ex
      refine W.eq (g2 := F0 m 7 ls [.int (sumT sz 5), .int 0, .ref (ad 66)]) rfl ?_
      generalize g1 : wU 66 (fun k => 0 + k) E E1 = F at hD hP
      have hIF : RI tc ad F 1 a1 sz fo fa fb := by rw [← g1]; exact RI.back hI1
      have hOF : F 66 = .inl (tc 1, 1, .inr (.inl g)) := by rw [← g1, wU_far (by omega)]; exact hO
      refine lv_i2l hx hb dLW_start_7 rfl ?_
      refine q_last 0 X hD hP hS (by omega) hOF rfl (by decide) (by decide) dLW_start_8 (fun H locs hD hP hS => ?_)
      generalize g2 : va_up F 66 (.inl (tc 1, 1, .inr (.inl (vp_updL g 0 (Int32.toInt64 (sumT sz 5)))))) = F2 at hD hP
      have hO2 : F2 66 = .inl (tc 1, 1, .inr (.inl (vp_updL g 0 (Int32.toInt64 (sumT sz 5))))) := by rw [← g2]; exact va_up_self _ _ _
      have hI2 : RI tc ad F2 1 a1 sz fo fa fb := hIF.cong (fun k hk => by rw [← g2, va_up_ne _ _ (by omega)])
      refine lv_goto (tgt := 18) hx hb dLW_start_9 rfl ?_
      refine lv_iconst (v := 0) hx hb dLW_start_18 (by decide) ?_
      exact q_iretT X hlk hr hP hS dLW_start_19 (fun t => ⟨0, rfl, _, hO2, Or.inr (Or.inr ⟨hst, hbad, rfl, hI2, by simp [vp_updL]⟩)⟩)
set_option maxHeartbeats 4000000 in
set_option maxRecDepth 100000 in
theorem g_LW_step (l : Launch) (hfl : l.flags = pinnedFlags ++ [noTraceFlag]) (D : va_G) (tc : Nat → ClassId) (ad : Nat → Nat) (E : Nat → va_E) (st cs : Int32) (sz : Nat → Nat) (fo fa fb : Nat → Nat → Int32) (a1 : Int32) (g : Nat → Int64) (sz9 : Nat) (hI : RI tc ad E st cs sz fo fa fb) (hO : E 66 = .inl (tc 1, 1, .inr (.inl g))) : CtT l D tc yLW_step 7 67 ad E [.ref (ad 0), .int a1, .ref (ad 66)] sz9 (fun U => va_Nc "java/lang/IllegalStateException" "java/lang/IndexOutOfBoundsException" U ∧ va_Nc "java/lang/UnsupportedOperationException" "java/lang/IndexOutOfBoundsException" U ∧ va_Nc "java/lang/UnsupportedOperationException" "java/lang/IllegalStateException" U) (fun o E2 t9 => ∃ r : Int32, o = .returned (some (.int r)) ∧ (∃ g2 : Nat → Int64, E2 66 = .inl (tc 1, 1, .inr (.inl g2))) ∧ RI tc ad E2 st cs sz fo fa fb) := by
  refine MetX.ofWW (cc := cLW_step) (maxL := 4) (ret := some .int) (by decide) w_359 ?_
  intro p e s m args below meth c s₁ B hml htab hP
  obtain ⟨hsz9, ⟨rfl, hP, hK, hD⟩, hTH, hex⟩ := hP
  rw [lg_entry_eq]
  have hts := atoms_spec (ws := WS) B.pre
  have X : Cx p s m _ c cLW_step 4 R_LW D tc := ⟨B.exec, B.bytes, hml, findClass_of_methodNamed B.named, hts, hK⟩
  have hlk := B.notSynchronized
  have hr := B.returns
  have hx := X.1
  have hb := X.2.1
  have hD : va_D (fun q => Aw 67 ad q ∨ sz9 ≤ q) (wW 67 ad E) := hD.weaken (fun _ _ _ h => Or.inl h)
  have hA : ∀ q, s.heap.size ≤ q → (Aw 67 ad q ∨ sz9 ≤ q) := fun q h => Or.inr (by omega)
  have hS : va_S (fun q => Aw 67 ad q ∨ sz9 ≤ q) s.heap s.heap [] := va_S.rf
  have hl := lv_entry [Value.ref (ad 0), .int a1, .ref (ad 66)] (n := 4) (Nat.le_of_ble_eq_true rfl)
  generalize (lg_sl [Value.ref (ad 0), .int a1, .ref (ad 66)] ++ List.replicate (4 - (lg_sl [Value.ref (ad 0), .int a1, .ref (ad 66)]).length) Slot.unset).toArray = ls at hl ⊢
  have hl : lv_has ls 4 [(0, .ref (ad 0)), (1, .int a1), (2, .ref (ad 66))] := hl
  have h0 := hI.1.1
  refine lv_aload_n hx hb dLW_step_0 rfl (lv_at hl 2 rfl) ?_
  refine lv_iconst (v := 0) hx hb dLW_step_1 (by decide) ?_
  refine lv_aload_n hx hb dLW_step_2 rfl (lv_at hl 0 rfl) ?_
  refine lv_iload_n hx hb dLW_step_3 rfl (lv_at hl 1 rfl) ?_
  refine x_try (f := fun k => 0 + k) (x_runV (C := R_RW) (b := ad 0) (As := [.int a1]) (rest := [.int 0, .ref (ad 66)]) X (g_RW_step l hfl D tc (fun k => ad (0 + k)) (fun k => E (0 + k)) st cs sz fo fa fb a1 sz9 (by simpa only [Nat.zero_add] using hI)) rfl rfl (by decide) (by decide) w_365 w_1 w_362 w_363 w_364 ry_RW_step (x_recv X hP (by omega) h0 rfl) (ctT_pre (ex := fun _ => True) (fun _ _ _ _ => trivial) trivial hTH (fun _ _ => rfl) hsz9 X hP hD (fr_lt 66 67 0 (by omega)) (fr_inj 66 0)) (ctT_blind (fun _ _ _ _ => trivial)) hl.1 (Nat.le_of_ble_eq_true rfl) dLW_step_4 ⟨Nat.le_refl _, Nat.le_refl _⟩) hsz9 hA hD hP hS (fr_lt 66 67 0 (by omega)) (fr_inj 66 0) (fun x E1 t h => ?_) (fun v E1 t locs h hD hP hS => ?_)
  · rcases h with ⟨he, x9, ex, hq | hq | hq⟩ | ⟨⟨r, ex⟩, -⟩
    · cases ex
      refine ⟨"java/lang/IndexOutOfBoundsException", 12, he, hq, fun T locs1 cell XX hc hv hC => fd1 rfl XX X htab ⟨Nat.le_of_ble_eq_true rfl, Nat.le_of_ble_eq_true rfl⟩ (by decide) w_360 w_368 hc hv hC, fun H locs hD hP hS => ?_⟩
      refine lv_astore_n hx hb dLW_step_12 rfl hl (by decide) rfl (fun ls hl => ?_)
      refine lv_iconst (v := 1) hx hb dLW_step_13 (by decide) ?_
      exact q_iretT X hlk hr hP hS dLW_step_14 (fun t => ⟨1, rfl, ⟨g, hO⟩, hI⟩)
    · cases ex
      refine ⟨"java/lang/IllegalStateException", 15, he, hq, fun T locs1 cell XX hc hv hC => fd2 rfl XX X htab ⟨Nat.le_of_ble_eq_true rfl, Nat.le_of_ble_eq_true rfl⟩ ⟨Nat.le_of_ble_eq_true rfl, Nat.le_of_ble_eq_true rfl⟩ (by decide) (by decide) w_360 hex.1 w_272 w_280 hc hv hC, fun H locs hD hP hS => ?_⟩
      refine lv_astore_n hx hb dLW_step_15 rfl hl (by decide) rfl (fun ls hl => ?_)
      refine lv_iconst (v := 2) hx hb dLW_step_16 (by decide) ?_
      exact q_iretT X hlk hr hP hS dLW_step_17 (fun t => ⟨2, rfl, ⟨g, hO⟩, hI⟩)
    · cases ex
      refine ⟨"java/lang/UnsupportedOperationException", 18, he, hq, fun T locs1 cell XX hc hv hC => fd3 rfl XX X htab ⟨Nat.le_of_ble_eq_true rfl, Nat.le_of_ble_eq_true rfl⟩ ⟨Nat.le_of_ble_eq_true rfl, Nat.le_of_ble_eq_true rfl⟩ ⟨Nat.le_of_ble_eq_true rfl, Nat.le_of_ble_eq_true rfl⟩ (by decide) (by decide) (by decide) w_360 hex.2.1 w_272 hex.2.2 w_361 w_401 hc hv hC, fun H locs hD hP hS => ?_⟩
      refine lv_astore_n hx hb dLW_step_18 rfl hl (by decide) rfl (fun ls hl => ?_)
      refine lv_iconst (v := 3) hx hb dLW_step_19 (by decide) ?_
      exact q_iretT X hlk hr hP hS dLW_step_20 (fun t => ⟨3, rfl, ⟨g, hO⟩, hI⟩)
    · cases ex
  · rcases h with ⟨-, x9, ex, -⟩ | ⟨⟨r, ex⟩, hI1⟩
    · cases ex
    · cases ex
      refine W.eq (g2 := F0 m 7 ls [.int r, .int 0, .ref (ad 66)]) rfl ?_
      generalize g1 : wU 66 (fun k => 0 + k) E E1 = F at hD hP
      have hIF : RI tc ad F st cs sz fo fa fb := by rw [← g1]; exact RI.back hI1
      have hOF : F 66 = .inl (tc 1, 1, .inr (.inl g)) := by rw [← g1, wU_far (by omega)]; exact hO
      refine lv_i2l hx hb dLW_step_7 rfl ?_
      refine q_last 0 X hD hP hS (by omega) hOF rfl (by decide) (by decide) dLW_step_8 (fun H locs hD hP hS => ?_)
      generalize g2 : va_up F 66 (.inl (tc 1, 1, .inr (.inl (vp_updL g 0 (Int32.toInt64 r))))) = F2 at hD hP
      have hO2 : F2 66 = .inl (tc 1, 1, .inr (.inl (vp_updL g 0 (Int32.toInt64 r)))) := by rw [← g2]; exact va_up_self _ _ _
      have hI2 : RI tc ad F2 st cs sz fo fa fb := hIF.cong (fun k hk => by rw [← g2, va_up_ne _ _ (by omega)])
      refine lv_goto (tgt := 21) hx hb dLW_step_9 rfl ?_
      refine lv_iconst (v := 0) hx hb dLW_step_21 (by decide) ?_
      exact q_iretT X hlk hr hP hS dLW_step_22 (fun t => ⟨0, rfl, ⟨_, hO2⟩, hI2⟩)
