
set_option maxHeartbeats 4000000 in
set_option maxRecDepth 100000 in
theorem g_RW_start (l : Launch) (hfl : l.flags = pinnedFlags ++ [noTraceFlag]) (D : va_G) (tc : Nat → ClassId) (ad : Nat → Nat) (E : Nat → va_E) (st cs : Int32) (sz : Nat → Nat) (fo fa fb : Nat → Nat → Int32) (cb : Int32) (sz9 : Nat) (hI : RI tc ad E st cs sz fo fa fb) (hcb : narrow .boolean (.int cb) = .int cb ∧ fits .boolean (.int cb) = true) : CtT l D tc yRW_start 6 66 ad E [.ref (ad 0), .int cb] sz9 (fun _ => True) (fun o E2 t9 => (¬ st = 0 ∧ E2 = E ∧ ∃ x, o = .threw x ∧ isThr "java/lang/IllegalStateException" x sz9 t9) ∨ (st = 0 ∧ allBad sz fo fa fb = true ∧ E2 = E ∧ ∃ x, o = .threw x ∧ isThr "java/lang/IllegalArgumentException" x sz9 t9) ∨ (st = 0 ∧ allBad sz fo fa fb = false ∧ o = .returned (some (.int (sumT sz 5))) ∧ RI tc ad E2 1 cb sz fo fa fb)) := by
  refine CtT.ofW (cc := cRW_start) (maxL := 2) (ret := (some .int)) (own := R_RW) (by decide) rfl w_277 (Nat.le_of_ble_eq_true rfl) ?_
  intro p e s m args below meth c ls X hlk hr hno hsz9 hTH hex hD hP hS hl
  have hx := X.1
  have hb := X.2.1
  have hP0 := hP
  have hl : lv_has ls 2 [(0, .ref (ad 0)), (1, .int cb)] := hl
  have hI0 := hI
  obtain ⟨hR, hpg, hwk, hlo, hck, ⟨cn, htr⟩, hok, hnb⟩ := hI
  have hR0 := hR
  obtain ⟨rh0, ⟨ra1, rh1, rx1⟩, ⟨ra2, rh2, rx2⟩, ⟨ra3, rh3, rx3⟩, ⟨ra4, rh4, rx4⟩⟩ := hR
  obtain ⟨ph, nx, rg, ⟨w0, w1, wf, w2⟩, hw1, hw2⟩ := hwk 0 (by decide)
  have far0 : FarS E E := fun _ _ => rfl
  refine lv_aload_n hx hb dRW_start_0 rfl (lv_at hl 0 rfl) ?_
  refine g_RW_54 X hP (by omega) (rh0) rfl dRW_start_1 ?_
  refine lv_if_eq (tgt := 15) hx hb dRW_start_4 rfl (fun h4 => ?_) (fun h4 => ?_)
  · refine lv_aload_n hx hb dRW_start_15 rfl (lv_at hl 0 rfl) ?_
    refine x_iE0 (f := fun k => 0 + k) (x_runV (C := R_RW) (As := []) (rest := []) X (c0_RW_areBad l D tc (fun k => ad (0 + k)) (fun k => E (0 + k)) st cs sz fo fa fb (by simpa only [Nat.zero_add] using hR0) (fun t ht => by simpa only [Nat.zero_add] using hpg t ht) (fun t ht => (hok t ht).1)) rfl rfl (by decide) (by decide) w_334 w_1 w_331 w_333 sel_RW_areBad ry_RW_areBad (x_recv X hP (by omega) (rh0) rfl) (ct_pre X hP hD (fr_lt 66 66 0 (by omega)) (fr_inj 66 0)) ct_blind hl.1 (Nat.le_of_ble_eq_true rfl) dRW_start_16 ⟨Nat.zero_le _, Nat.zero_le _⟩) hD hP hS (fr_lt 66 66 0 (by omega)) (fr_inj 66 0) (fun H hD hP hS => ?_)
    refine lv_if_eq (tgt := 30) hx hb dRW_start_19 rfl (fun h19 => ?_) (fun h19 => ?_)
    · refine lv_aload_n hx hb dRW_start_30 rfl (lv_at hl 0 rfl) ?_
      refine lv_iconst (v := 1) hx hb dRW_start_31 (by decide) ?_
      refine p_RW_54 X hD hP hS (by omega) (rh0) (by decide) rfl (Nat.le_of_ble_eq_true rfl) dRW_start_32 (fun H locs hD hP hS => ?_)
      have hP : va_P D vwCl (wW 66 ad (va_up E 0 (.inr (6, [.ref (ad 1), .ref (ad 2), .ref (ad 38), .ref (ad 48), .ref (ad 53), .ref (ad 56), .ref (ad 61), .int 1, .int cs])))) H := hP
      have hD : va_D (Aw 66 ad) (wW 66 ad (va_up E 0 (.inr (6, [.ref (ad 1), .ref (ad 2), .ref (ad 38), .ref (ad 48), .ref (ad 53), .ref (ad 56), .ref (ad 61), .int 1, .int cs])))) := hD
      generalize g2 : va_up E 0 (.inr (6, [.ref (ad 1), .ref (ad 2), .ref (ad 38), .ref (ad 48), .ref (ad 53), .ref (ad 56), .ref (ad 61), .int 1, .int cs])) = E1 at hD hP
      have f3 : E1 0 = .inr (6, [.ref (ad 1), .ref (ad 2), .ref (ad 38), .ref (ad 48), .ref (ad 53), .ref (ad 56), .ref (ad 61), .int 1, .int cs]) := by rw [← g2]; exact va_up_self _ _ _
      have f4 : E1 1 = .inl (tc 3, 5, .inr (.inr (.inr (.inr ra1)))) := by rw [← g2, va_up_ne _ _ (by omega)]; exact rh1
      have f5 : E1 2 = .inl (tc 4, 5, .inr (.inr (.inr (.inr ra2)))) := by rw [← g2, va_up_ne _ _ (by omega)]; exact rh2
      have f6 : E1 38 = .inl (tc 5, 3, .inr (.inr (.inr (.inr ra3)))) := by rw [← g2, va_up_ne _ _ (by omega)]; exact rh3
      have f7 : E1 48 = .inl (tc 6, 2, .inr (.inr (.inr (.inr ra4)))) := by rw [← g2, va_up_ne _ _ (by omega)]; exact rh4
      have f8 : E1 (7 + 7 * 0) = .inr (5, [.ref (ad (7 + 7 * 0 + 1)), .int ph, .int nx, .long rg]) := by rw [← g2, va_up_ne _ _ (by omega)]; exact w0
      have f9 : E1 (7 + 7 * 0 + 1) = .inr (0, [.ref (ad (7 + 7 * 0 + 1 + 1))]) := by rw [← g2, va_up_ne _ _ (by omega)]; exact w1
      have f10 : E1 (7 + 7 * 0 + 1 + 1) = .inl (tc 0, 5, .inl wf) := by rw [← g2, va_up_ne _ _ (by omega)]; exact w2
      have f11 := far0.cong (G := E1) (fun k q1 q2 => by rw [← g2, va_up_ne _ _ (by omega)])
      refine lv_aload_n hx hb dRW_start_35 rfl (lv_at hl 0 rfl) ?_
      refine lv_iload_n hx hb dRW_start_36 rfl (lv_at hl 1 rfl) ?_
      refine p_RW_58 X hD hP hS (by omega) (f3) hcb.1 hcb.2 (Nat.le_of_ble_eq_true rfl) dRW_start_37 (fun H locs hD hP hS => ?_)
      have hP : va_P D vwCl (wW 66 ad (va_up E1 0 (.inr (6, [.ref (ad 1), .ref (ad 2), .ref (ad 38), .ref (ad 48), .ref (ad 53), .ref (ad 56), .ref (ad 61), .int 1, .int cb])))) H := hP
      have hD : va_D (Aw 66 ad) (wW 66 ad (va_up E1 0 (.inr (6, [.ref (ad 1), .ref (ad 2), .ref (ad 38), .ref (ad 48), .ref (ad 53), .ref (ad 56), .ref (ad 61), .int 1, .int cb])))) := hD
      generalize g13 : va_up E1 0 (.inr (6, [.ref (ad 1), .ref (ad 2), .ref (ad 38), .ref (ad 48), .ref (ad 53), .ref (ad 56), .ref (ad 61), .int 1, .int cb])) = E12 at hD hP
      have f14 : E12 0 = .inr (6, [.ref (ad 1), .ref (ad 2), .ref (ad 38), .ref (ad 48), .ref (ad 53), .ref (ad 56), .ref (ad 61), .int 1, .int cb]) := by rw [← g13]; exact va_up_self _ _ _
      have f15 : E12 1 = .inl (tc 3, 5, .inr (.inr (.inr (.inr ra1)))) := by rw [← g13, va_up_ne _ _ (by omega)]; exact f4
      have f16 : E12 2 = .inl (tc 4, 5, .inr (.inr (.inr (.inr ra2)))) := by rw [← g13, va_up_ne _ _ (by omega)]; exact f5
      have f17 : E12 38 = .inl (tc 5, 3, .inr (.inr (.inr (.inr ra3)))) := by rw [← g13, va_up_ne _ _ (by omega)]; exact f6
      have f18 : E12 48 = .inl (tc 6, 2, .inr (.inr (.inr (.inr ra4)))) := by rw [← g13, va_up_ne _ _ (by omega)]; exact f7
      have f19 : E12 (7 + 7 * 0) = .inr (5, [.ref (ad (7 + 7 * 0 + 1)), .int ph, .int nx, .long rg]) := by rw [← g13, va_up_ne _ _ (by omega)]; exact f8
      have f20 : E12 (7 + 7 * 0 + 1) = .inr (0, [.ref (ad (7 + 7 * 0 + 1 + 1))]) := by rw [← g13, va_up_ne _ _ (by omega)]; exact f9
      have f21 : E12 (7 + 7 * 0 + 1 + 1) = .inl (tc 0, 5, .inl wf) := by rw [← g13, va_up_ne _ _ (by omega)]; exact f10
      have f22 := f11.cong (G := E12) (fun k q1 q2 => by rw [← g13, va_up_ne _ _ (by omega)])
      refine lv_aload_n hx hb dRW_start_40 rfl (lv_at hl 0 rfl) ?_
      refine g_RW_17 X hP (by omega) (f14) rfl dRW_start_41 ?_
      refine lv_iconst (v := 0) hx hb dRW_start_44 (by decide) ?_
      refine q_aald (t0 := 4) 0 X hP (by omega) (f16) rfl (rfl) (by decide) (by decide) (rx2 0 (by omega)) dRW_start_45 ?_
      refine lv_iconst (v := 1) hx hb dRW_start_46 (by decide) ?_
      refine p_RW_94 X hD hP hS (by omega) (f19) rfl rfl (Nat.le_of_ble_eq_true rfl) dRW_start_47 (fun H locs hD hP hS => ?_)
      have hP : va_P D vwCl (wW 66 ad (va_up E12 (7 + 7 * 0) (.inr (5, [.ref (ad (7 + 7 * 0 + 1)), .int 1, .int nx, .long rg])))) H := hP
      have hD : va_D (Aw 66 ad) (wW 66 ad (va_up E12 (7 + 7 * 0) (.inr (5, [.ref (ad (7 + 7 * 0 + 1)), .int 1, .int nx, .long rg])))) := hD
      generalize g24 : va_up E12 (7 + 7 * 0) (.inr (5, [.ref (ad (7 + 7 * 0 + 1)), .int 1, .int nx, .long rg])) = E23 at hD hP
      have f25 : E23 0 = .inr (6, [.ref (ad 1), .ref (ad 2), .ref (ad 38), .ref (ad 48), .ref (ad 53), .ref (ad 56), .ref (ad 61), .int 1, .int cb]) := by rw [← g24, va_up_ne _ _ (by omega)]; exact f14
      have f26 : E23 1 = .inl (tc 3, 5, .inr (.inr (.inr (.inr ra1)))) := by rw [← g24, va_up_ne _ _ (by omega)]; exact f15
      have f27 : E23 2 = .inl (tc 4, 5, .inr (.inr (.inr (.inr ra2)))) := by rw [← g24, va_up_ne _ _ (by omega)]; exact f16
      have f28 : E23 38 = .inl (tc 5, 3, .inr (.inr (.inr (.inr ra3)))) := by rw [← g24, va_up_ne _ _ (by omega)]; exact f17
      have f29 : E23 48 = .inl (tc 6, 2, .inr (.inr (.inr (.inr ra4)))) := by rw [← g24, va_up_ne _ _ (by omega)]; exact f18
      have f30 : E23 (7 + 7 * 0) = .inr (5, [.ref (ad (7 + 7 * 0 + 1)), .int 1, .int nx, .long rg]) := by rw [← g24]; exact va_up_self _ _ _
      have f31 : E23 (7 + 7 * 0 + 1) = .inr (0, [.ref (ad (7 + 7 * 0 + 1 + 1))]) := by rw [← g24, va_up_ne _ _ (by omega)]; exact f20
      have f32 : E23 (7 + 7 * 0 + 1 + 1) = .inl (tc 0, 5, .inl wf) := by rw [← g24, va_up_ne _ _ (by omega)]; exact f21
      have f33 := f22.cong (G := E23) (fun k q1 q2 => by rw [← g24, va_up_ne _ _ (by omega)])
      refine lv_aload_n hx hb dRW_start_50 rfl (lv_at hl 0 rfl) ?_
      have hI2 : RI tc ad E23 1 cb sz fo fa fb := hI0.start (bi_f h19) ⟨f25, ⟨_, f26, rx1⟩, ⟨_, f27, rx2⟩, ⟨_, f28, rx3⟩, ⟨_, f29, rx4⟩⟩ ⟨f30, f31, _, f32⟩ (hw1 h4).2 f33
      refine x_iE (f := fun k => 0 + k) (x_runV (C := R_RW) (As := []) (rest := []) X (g_RW_instructions l D tc (fun k => ad (0 + k)) (fun k => E23 (0 + k)) 1 cb sz fo fa fb (by simpa only [Nat.zero_add] using hI2.1) (by simpa only [Nat.zero_add] using hI2.2.1)) rfl rfl (by decide) (by decide) w_356 w_1 w_353 w_355 sel_RW_instructions ry_RW_instructions (x_recv X hP (by omega) (f25) rfl) (ct_pre X hP hD (fr_lt 66 66 0 (by omega)) (fr_inj 66 0)) ct_blind hl.1 (Nat.le_of_ble_eq_true rfl) dRW_start_51 ⟨Nat.zero_le _, Nat.zero_le _⟩) hD hP hS (fr_lt 66 66 0 (by omega)) (fr_inj 66 0) (fun H locs hD hP hS => ?_)
      exact q_iretU X hlk hr hP hS dRW_start_54 (fun t9 => Or.inr (Or.inr ⟨h4, bi_f h19, rfl, hI2⟩))
    · exact q_thr "java/lang/IllegalArgumentException" X hlk hfl (own_of own_IAE X.2.2.2.2.1 hTH) (by decide) w_339 w_340 w_14 hno hS hsz9 hP0 dRW_start_22 dRW_start_25 dRW_start_26 dRW_start_29 hl.1 (by decide) (fun t x hx => Or.inr (Or.inl ⟨h4, bi_t h19, rfl, x, rfl, hx⟩))
  · exact q_thr "java/lang/IllegalStateException" X hlk hfl (own_of own_ISE X.2.2.2.2.1 hTH) (by decide) w_278 w_279 w_13 hno hS hsz9 hP0 dRW_start_7 dRW_start_10 dRW_start_11 dRW_start_14 hl.1 (by decide) (fun t x hx => Or.inl ⟨h4, rfl, x, rfl, hx⟩)
set_option maxHeartbeats 4000000 in
set_option maxRecDepth 100000 in
theorem g_RW_step (l : Launch) (hfl : l.flags = pinnedFlags ++ [noTraceFlag]) (D : va_G) (tc : Nat → ClassId) (ad : Nat → Nat) (E : Nat → va_E) (st cs : Int32) (sz : Nat → Nat) (fo fa fb : Nat → Nat → Int32) (t1 : Int32) (sz9 : Nat) (hI : RI tc ad E st cs sz fo fa fb) : CtT l D tc yRW_step 6 66 ad E [.ref (ad 0), .int t1] sz9 (fun _ => True) (fun o E2 t9 => (E2 = E ∧ ∃ x, o = .threw x ∧ (isThr "java/lang/IndexOutOfBoundsException" x sz9 t9 ∨ isThr "java/lang/IllegalStateException" x sz9 t9 ∨ isThr "java/lang/UnsupportedOperationException" x sz9 t9)) ∨ ((∃ r : Int32, o = .returned (some (.int r))) ∧ RI tc ad E2 st cs sz fo fa fb)) := by
  refine CtT.ofW (cc := cRW_step) (maxL := 4) (ret := (some .int)) (own := R_RW) (by decide) rfl w_365 (Nat.le_of_ble_eq_true rfl) ?_
  intro p e s m args below meth c ls X hlk hr hno hsz9 hTH hex hD hP hS hl
  have hx := X.1
  have hb := X.2.1
  have hP0 := hP
  have hl : lv_has ls 4 [(0, .ref (ad 0)), (1, .int t1)] := hl
  have hI0 := hI
  obtain ⟨hR, hpg, hwk, hlo, hck, ⟨cn, htr⟩, hok, hnb⟩ := hI
  obtain ⟨hcn, ⟨fc, fk, ⟨tt0, tt1, tt2⟩, hfc⟩, -, -⟩ := id htr
  have hR0 := hR
  obtain ⟨rh0, ⟨ra1, rh1, rx1⟩, ⟨ra2, rh2, rx2⟩, ⟨ra3, rh3, rx3⟩, ⟨ra4, rh4, rx4⟩⟩ := hR
  refine lv_iload_n hx hb dRW_step_0 rfl (lv_at hl 1 rfl) ?_
  refine x_iE0 (f := fun k => 0 + k) (x_runS (As := [.int t1]) (rest := []) X (c0_RW_isThread l D tc (fun k => ad (0 + k)) (fun k => E (0 + k)) t1) rfl rfl (by decide) (by decide) w_157 w_1 w_155 w_156 ry_RW_isThread (ct_pre X hP hD (fr_lt 0 66 0 (by omega)) (fr_inj 0 0)) ct_blind hl.1 (Nat.le_of_ble_eq_true rfl) dRW_step_1 ⟨Nat.zero_le _, Nat.zero_le _⟩) hD hP hS (fr_lt 0 66 0 (by omega)) (fr_inj 0 0) (fun H hD hP hS => ?_)
  refine lv_if_ne (tgt := 15) hx hb dRW_step_4 rfl (fun h4 => ?_) (fun h4 => ?_)
  · obtain ⟨t, ht, rfl⟩ := wi_of (n := 5) (by decide) (bi_t h4)
    obtain ⟨ph, nx, rg, ⟨w0, w1, wf, w2⟩, hw1, hw2⟩ := hwk t ht
    obtain ⟨p0, p1, p2, p3⟩ := hpg t ht
    refine lv_aload_n hx hb dRW_step_15 rfl (lv_at hl 0 rfl) ?_
    refine g_RW_54 X hP (by omega) (rh0) rfl dRW_step_16 ?_
    refine lv_if_eq (tgt := 35) hx hb dRW_step_19 rfl (fun h19 => ?_) (fun h19 => ?_)
    · exact q_thr "java/lang/IllegalStateException" X hlk hfl (own_of own_ISE X.2.2.2.2.1 hTH) (by decide) w_278 w_279 w_13 hno hS hsz9 hP0 dRW_step_35 dRW_step_38 dRW_step_39 dRW_step_42 hl.1 (by decide) (fun t x hx => Or.inl ⟨rfl, x, rfl, Or.inr (Or.inl hx)⟩)
    · have hst : ¬ st = 0 := h19
      refine lv_aload_n hx hb dRW_step_22 rfl (lv_at hl 0 rfl) ?_
      refine g_RW_17 X hP (by omega) (rh0) rfl dRW_step_23 ?_
      refine lv_iload_n hx hb dRW_step_26 rfl (lv_at hl 1 rfl) ?_
      refine q_aald (t0 := 4) t X hP (by omega) (rh2) rfl (rfl) (by omega) (by decide) (rx2 t (by omega)) dRW_step_27 ?_
      refine g_RW_94 X hP (by omega) (w0) rfl dRW_step_28 ?_
      refine lv_iconst (v := 1) hx hb dRW_step_31 (by decide) ?_
      refine lv_icmp_eq (tgt := 43) hx hb dRW_step_32 rfl (fun h32 => ?_) (fun h32 => ?_)
      · obtain ⟨k, hk, ek⟩ := hw2 h32
        have hs12 := (hok t ht).1
        rw [h32, ek] at w0
        have hw9 : isWK tc ad E (7 + 7 * t) 1 (nI k) rg := ⟨w0, w1, wf, w2⟩
        have hop := ((hok t ht).2 k hk).1
        have hna := ((hok t ht).2 k hk).2
        refine lv_aload_n hx hb dRW_step_43 rfl (lv_at hl 0 rfl) ?_
        refine g_RW_11 X hP (by omega) (rh0) rfl dRW_step_44 ?_
        refine lv_iload_n hx hb dRW_step_47 rfl (lv_at hl 1 rfl) ?_
        refine q_aald (t0 := 3) t X hP (by omega) (rh1) rfl (rfl) (by omega) (by decide) (rx1 t (by omega)) dRW_step_48 ?_
        refine g_RW_105 X hP (by omega) (p0) rfl dRW_step_49 ?_
        refine lv_aload_n hx hb dRW_step_52 rfl (lv_at hl 0 rfl) ?_
        refine g_RW_17 X hP (by omega) (rh0) rfl dRW_step_53 ?_
        refine lv_iload_n hx hb dRW_step_56 rfl (lv_at hl 1 rfl) ?_
        refine q_aald (t0 := 4) t X hP (by omega) (rh2) rfl (rfl) (by omega) (by decide) (rx2 t (by omega)) dRW_step_57 ?_
        refine g_RW_109 X hP (by omega) (w0) rfl dRW_step_58 ?_
        refine q_iald k X hP (by omega) (p1) (rfl) (by omega) (by decide) dRW_step_61 ?_
        refine lv_istore_n hx hb dRW_step_62 rfl hl (by decide) rfl (fun ls hl => ?_)
        have hl : lv_has ls 4 [(2, .int ((fo t) k)), (0, .ref (ad 0)), (1, .int (nI t))] := hl
        refine lv_aload_n hx hb dRW_step_63 rfl (lv_at hl 1 rfl) ?_
        refine g_RW_11 X hP (by omega) (rh0) rfl dRW_step_64 ?_
        refine lv_iload_n hx hb dRW_step_67 rfl (lv_at hl 2 rfl) ?_
        refine q_aald (t0 := 3) t X hP (by omega) (rh1) rfl (rfl) (by omega) (by decide) (rx1 t (by omega)) dRW_step_68 ?_
        refine g_RW_112 X hP (by omega) (p0) rfl dRW_step_69 ?_
        refine lv_aload_n hx hb dRW_step_72 rfl (lv_at hl 1 rfl) ?_
        refine g_RW_17 X hP (by omega) (rh0) rfl dRW_step_73 ?_
        refine lv_iload_n hx hb dRW_step_76 rfl (lv_at hl 2 rfl) ?_
        refine q_aald (t0 := 4) t X hP (by omega) (rh2) rfl (rfl) (by omega) (by decide) (rx2 t (by omega)) dRW_step_77 ?_
        refine g_RW_109 X hP (by omega) (w0) rfl dRW_step_78 ?_
        refine q_iald k X hP (by omega) (p2) (rfl) (by omega) (by decide) dRW_step_81 ?_
        refine lv_istore_n hx hb dRW_step_82 rfl hl (by decide) rfl (fun ls hl => ?_)
        have hl : lv_has ls 4 [(3, .int ((fa t) k)), (2, .int ((fo t) k)), (0, .ref (ad 0)), (1, .int (nI t))] := hl
        refine lv_iload_n hx hb dRW_step_83 rfl (lv_at hl 1 rfl) ?_
        refine x_iX0 (f := fun k => 0 + k) (x_runS (As := [.int ((fo t) k)]) (rest := []) X (g_RW_isEvent l D tc (fun k => ad (0 + k)) (fun k => E (0 + k)) (fo t k)) rfl rfl (by decide) (by decide) w_382 w_1 w_380 w_381 ry_RW_isEvent (ct_pre X hP hD (fr_lt 0 66 0 (by omega)) (fr_inj 0 0)) ct_blind hl.1 (Nat.le_of_ble_eq_true rfl) dRW_step_84 ⟨Nat.zero_le _, Nat.zero_le _⟩) hD hP hS (fr_lt 0 66 0 (by omega)) (fr_inj 0 0) (fun y0 H hy0 hD hP hS => ?_)
        refine lv_if_ne (tgt := 99) hx hb dRW_step_87 rfl (fun h87 => ?_) (fun h87 => ?_)
        · refine lv_aload_n hx hb dRW_step_99 rfl (lv_at hl 2 rfl) ?_
          refine lv_iload_n hx hb dRW_step_100 rfl (lv_at hl 3 rfl) ?_
          refine lv_iload_n hx hb dRW_step_101 rfl (lv_at hl 1 rfl) ?_
          refine lv_iload_n hx hb dRW_step_102 rfl (lv_at hl 0 rfl) ?_
          refine x_iX0 (f := fun k => 0 + k) (x_runV (C := R_RW) (As := [.int (nI t), .int ((fo t) k), .int ((fa t) k)]) (rest := []) X (g_RW_isInfeasible l D tc (fun k => ad (0 + k)) (fun k => E (0 + k)) st cs sz fo fa fb (nI t) (fo t k) (fa t k) (by simpa only [Nat.zero_add] using hI0) hop hna) rfl rfl (by decide) (by decide) w_394 w_1 w_391 w_393 sel_RW_isInfeasible ry_RW_isInfeasible (x_recv X hP (by omega) (rh0) rfl) (ct_pre X hP hD (fr_lt 66 66 0 (by omega)) (fr_inj 66 0)) ct_blind hl.1 (Nat.le_of_ble_eq_true rfl) dRW_step_103 ⟨Nat.zero_le _, Nat.zero_le _⟩) hD hP hS (fr_lt 66 66 0 (by omega)) (fr_inj 66 0) (fun y1 H hy1 hD hP hS => ?_)
          refine lv_if_eq (tgt := 117) hx hb dRW_step_106 rfl (fun h106 => ?_) (fun h106 => ?_)
          · refine lv_aload_n hx hb dRW_step_117 rfl (lv_at hl 2 rfl) ?_
            refine g_RW_40 X hP (by omega) (rh0) rfl dRW_step_118 ?_
            refine x_iX0 (f := fun k => 53 + k) (x_runVN (C := R_TR) (As := []) (rest := []) X (g_TR_isFull l D tc (fun k => ad (53 + k)) (fun k => E (53 + k)) cn _ _ tt0 hcn) rfl rfl (by decide) (by decide) w_416 w_6 w_413 w_415 sel_TR_isFull ry_TR_isFull (x_recv X hP (by omega) (tt0) rfl) (ct_pre X hP hD (fr_lt 3 66 53 (by omega)) (fr_inj 3 53)) ct_blind hl.1 (Nat.le_of_ble_eq_true rfl) dRW_step_121 ⟨Nat.zero_le _, Nat.zero_le _⟩) hD hP hS (fr_lt 3 66 53 (by omega)) (fr_inj 3 53) (fun y2 H hy2 hD hP hS => ?_)
            refine lv_if_ne (tgt := 137) hx hb dRW_step_124 rfl (fun h124 => ?_) (fun h124 => ?_)
            · refine lv_iconst (v := 0) hx hb dRW_step_137 (by decide) ?_
              exact q_iretU X hlk hr hP hS dRW_step_138 (fun t9 => Or.inr ⟨⟨_, rfl⟩, hI0⟩)
            · refine lv_aload_n hx hb dRW_step_127 rfl (lv_at hl 2 rfl) ?_
              refine lv_iload_n hx hb dRW_step_128 rfl (lv_at hl 3 rfl) ?_
              refine lv_iload_n hx hb dRW_step_129 rfl (lv_at hl 1 rfl) ?_
              refine lv_iload_n hx hb dRW_step_130 rfl (lv_at hl 0 rfl) ?_
              refine x_iX0 (f := fun k => 0 + k) (x_runV (C := R_RW) (As := [.int (nI t), .int ((fo t) k), .int ((fa t) k)]) (rest := []) X (g_RW_mustWait l D tc (fun k => ad (0 + k)) (fun k => E (0 + k)) st cs sz fo fa fb (nI t) (fo t k) (fa t k) (by simpa only [Nat.zero_add] using hI0) hop hna) rfl rfl (by decide) (by decide) w_420 w_1 w_417 w_419 sel_RW_mustWait ry_RW_mustWait (x_recv X hP (by omega) (rh0) rfl) (ct_pre X hP hD (fr_lt 66 66 0 (by omega)) (fr_inj 66 0)) ct_blind hl.1 (Nat.le_of_ble_eq_true rfl) dRW_step_131 ⟨Nat.zero_le _, Nat.zero_le _⟩) hD hP hS (fr_lt 66 66 0 (by omega)) (fr_inj 66 0) (fun y3 H hy3 hD hP hS => ?_)
              refine lv_if_eq (tgt := 139) hx hb dRW_step_134 rfl (fun h134 => ?_) (fun h134 => ?_)
              · refine lv_aload_n hx hb dRW_step_139 rfl (lv_at hl 2 rfl) ?_
                refine lv_iload_n hx hb dRW_step_140 rfl (lv_at hl 3 rfl) ?_
                refine lv_iload_n hx hb dRW_step_141 rfl (lv_at hl 1 rfl) ?_
                refine lv_iload_n hx hb dRW_step_142 rfl (lv_at hl 0 rfl) ?_
                refine x_v (f := fun k => 0 + k) (x_runV (C := R_RW) (As := [.int (nI t), .int ((fo t) k), .int ((fa t) k)]) (rest := []) X (g_RW_doEvent l D tc (fun k => ad (0 + k)) (fun k => E (0 + k)) st cs sz fo fa fb t k rg cn (by simpa only [Nat.zero_add] using hI0) hst ht hk (by simpa only [Nat.zero_add] using hw9) (hy0.2 h87) (by simpa only [Nat.zero_add] using htr) (hy2 h124)) rfl rfl (by decide) (by decide) w_424 w_1 w_421 w_423 sel_RW_doEvent ry_RW_doEvent (x_recv X hP (by omega) (rh0) rfl) (ct_pre X hP hD (fr_lt 66 66 0 (by omega)) (fr_inj 66 0)) ct_blind hl.1 (Nat.le_of_ble_eq_true rfl) dRW_step_143 ⟨Nat.zero_le _, Nat.zero_le _⟩) hD hP hS (fr_lt 66 66 0 (by omega)) (fr_inj 66 0) (fun o E1 h => h.1) (fun E1 H locs q4 hD hP hS => ?_)
                generalize g2 : wU 66 (fun k => 0 + k) E E1 = E3 at hD hP
                refine lv_iconst (v := 1) hx hb dRW_step_146 (by decide) ?_
                exact q_iretU X hlk hr hP hS dRW_step_147 (fun t9 => Or.inr ⟨⟨_, rfl⟩, by rw [← g2]; exact RI.back q4.2⟩)
              · refine lv_iconst (v := 0) hx hb dRW_step_137 (by decide) ?_
                exact q_iretU X hlk hr hP hS dRW_step_138 (fun t9 => Or.inr ⟨⟨_, rfl⟩, hI0⟩)
          · exact q_thr "java/lang/UnsupportedOperationException" X hlk hfl (own_of own_UOE X.2.2.2.2.1 hTH) (by decide) w_399 w_400 w_16 hno hS hsz9 hP0 dRW_step_109 dRW_step_112 dRW_step_113 dRW_step_116 hl.1 (by decide) (fun t x hx => Or.inl ⟨rfl, x, rfl, Or.inr (Or.inr hx)⟩)
        · refine lv_aload_n hx hb dRW_step_90 rfl (lv_at hl 2 rfl) ?_
          refine lv_iload_n hx hb dRW_step_91 rfl (lv_at hl 3 rfl) ?_
          refine lv_iload_n hx hb dRW_step_92 rfl (lv_at hl 1 rfl) ?_
          refine lv_iload_n hx hb dRW_step_93 rfl (lv_at hl 0 rfl) ?_
          refine x_v (f := fun k => 0 + k) (x_runV (C := R_RW) (As := [.int (nI t), .int ((fo t) k), .int ((fa t) k)]) (rest := []) X (g_RW_doQuietly l D tc (fun k => ad (0 + k)) (fun k => E (0 + k)) st cs sz fo fa fb t k rg (by simpa only [Nat.zero_add] using hI0) hst ht hk (by simpa only [Nat.zero_add] using hw9) (hy0.1 h87)) rfl rfl (by decide) (by decide) w_386 w_1 w_383 w_385 sel_RW_doQuietly ry_RW_doQuietly (x_recv X hP (by omega) (rh0) rfl) (ct_pre X hP hD (fr_lt 66 66 0 (by omega)) (fr_inj 66 0)) ct_blind hl.1 (Nat.le_of_ble_eq_true rfl) dRW_step_94 ⟨Nat.zero_le _, Nat.zero_le _⟩) hD hP hS (fr_lt 66 66 0 (by omega)) (fr_inj 66 0) (fun o E1 h => h.1) (fun E5 H locs q8 hD hP hS => ?_)
          generalize g6 : wU 66 (fun k => 0 + k) E E5 = E7 at hD hP
          refine lv_iconst (v := 2) hx hb dRW_step_97 (by decide) ?_
          exact q_iretU X hlk hr hP hS dRW_step_98 (fun t9 => Or.inr ⟨⟨_, rfl⟩, by rw [← g6]; exact RI.back q8.2⟩)
      · exact q_thr "java/lang/IllegalStateException" X hlk hfl (own_of own_ISE X.2.2.2.2.1 hTH) (by decide) w_278 w_279 w_13 hno hS hsz9 hP0 dRW_step_35 dRW_step_38 dRW_step_39 dRW_step_42 hl.1 (by decide) (fun t x hx => Or.inl ⟨rfl, x, rfl, Or.inr (Or.inl hx)⟩)
  · exact q_thr "java/lang/IndexOutOfBoundsException" X hlk hfl (own_of own_IOB X.2.2.2.2.1 hTH) (by decide) w_366 w_367 w_15 hno hS hsz9 hP0 dRW_step_7 dRW_step_10 dRW_step_11 dRW_step_14 hl.1 (by decide) (fun t x hx => Or.inl ⟨rfl, x, rfl, Or.inl hx⟩)
