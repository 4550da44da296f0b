theorem dRW_start_0 : decode cRW_start 0 = .ok (.aload_n 0, 1) := by decide +kernel
theorem dRW_start_1 : decode cRW_start 1 = .ok (.getfield 54, 3) := by decide +kernel
theorem dRW_start_4 : decode cRW_start 4 = .ok (.ifCond .eq 11, 3) := by decide +kernel
theorem dRW_start_7 : decode cRW_start 7 = .ok (.new 85, 3) := by decide +kernel
theorem dRW_start_10 : decode cRW_start 10 = .ok (.dup, 1) := by decide +kernel
theorem dRW_start_11 : decode cRW_start 11 = .ok (.invokespecial 87, 3) := by decide +kernel
theorem dRW_start_14 : decode cRW_start 14 = .ok (.athrow, 1) := by decide +kernel
theorem dRW_start_15 : decode cRW_start 15 = .ok (.aload_n 0, 1) := by decide +kernel
theorem dRW_start_16 : decode cRW_start 16 = .ok (.invokevirtual 88, 3) := by decide +kernel
theorem dRW_start_19 : decode cRW_start 19 = .ok (.ifCond .eq 11, 3) := by decide +kernel
theorem dRW_start_22 : decode cRW_start 22 = .ok (.new 91, 3) := by decide +kernel
theorem dRW_start_25 : decode cRW_start 25 = .ok (.dup, 1) := by decide +kernel
theorem dRW_start_26 : decode cRW_start 26 = .ok (.invokespecial 93, 3) := by decide +kernel
theorem dRW_start_29 : decode cRW_start 29 = .ok (.athrow, 1) := by decide +kernel
theorem dRW_start_30 : decode cRW_start 30 = .ok (.aload_n 0, 1) := by decide +kernel
theorem dRW_start_31 : decode cRW_start 31 = .ok (.iconst 1, 1) := by decide +kernel
theorem dRW_start_32 : decode cRW_start 32 = .ok (.putfield 54, 3) := by decide +kernel
theorem dRW_start_35 : decode cRW_start 35 = .ok (.aload_n 0, 1) := by decide +kernel
theorem dRW_start_36 : decode cRW_start 36 = .ok (.iload_n 1, 1) := by decide +kernel
theorem dRW_start_37 : decode cRW_start 37 = .ok (.putfield 58, 3) := by decide +kernel
theorem dRW_start_40 : decode cRW_start 40 = .ok (.aload_n 0, 1) := by decide +kernel
theorem dRW_start_41 : decode cRW_start 41 = .ok (.getfield 17, 3) := by decide +kernel
theorem dRW_start_44 : decode cRW_start 44 = .ok (.iconst 0, 1) := by decide +kernel
theorem dRW_start_45 : decode cRW_start 45 = .ok (.aaload, 1) := by decide +kernel
theorem dRW_start_46 : decode cRW_start 46 = .ok (.iconst 1, 1) := by decide +kernel
theorem dRW_start_47 : decode cRW_start 47 = .ok (.putfield 94, 3) := by decide +kernel
theorem dRW_start_50 : decode cRW_start 50 = .ok (.aload_n 0, 1) := by decide +kernel
theorem dRW_start_51 : decode cRW_start 51 = .ok (.invokevirtual 98, 3) := by decide +kernel
theorem dRW_start_54 : decode cRW_start 54 = .ok (.ireturn, 1) := by decide +kernel
theorem dRW_step_0 : decode cRW_step 0 = .ok (.iload_n 1, 1) := by decide +kernel
theorem dRW_step_1 : decode cRW_step 1 = .ok (.invokestatic 61, 3) := by decide +kernel
theorem dRW_step_4 : decode cRW_step 4 = .ok (.ifCond .ne 11, 3) := by decide +kernel
theorem dRW_step_7 : decode cRW_step 7 = .ok (.new 102, 3) := by decide +kernel
theorem dRW_step_10 : decode cRW_step 10 = .ok (.dup, 1) := by decide +kernel
theorem dRW_step_11 : decode cRW_step 11 = .ok (.invokespecial 104, 3) := by decide +kernel
theorem dRW_step_14 : decode cRW_step 14 = .ok (.athrow, 1) := by decide +kernel
theorem dRW_step_15 : decode cRW_step 15 = .ok (.aload_n 0, 1) := by decide +kernel
theorem dRW_step_16 : decode cRW_step 16 = .ok (.getfield 54, 3) := by decide +kernel
theorem dRW_step_19 : decode cRW_step 19 = .ok (.ifCond .eq 16, 3) := by decide +kernel
theorem dRW_step_22 : decode cRW_step 22 = .ok (.aload_n 0, 1) := by decide +kernel
theorem dRW_step_23 : decode cRW_step 23 = .ok (.getfield 17, 3) := by decide +kernel
theorem dRW_step_26 : decode cRW_step 26 = .ok (.iload_n 1, 1) := by decide +kernel
theorem dRW_step_27 : decode cRW_step 27 = .ok (.aaload, 1) := by decide +kernel
theorem dRW_step_28 : decode cRW_step 28 = .ok (.getfield 94, 3) := by decide +kernel
theorem dRW_step_31 : decode cRW_step 31 = .ok (.iconst 1, 1) := by decide +kernel
theorem dRW_step_32 : decode cRW_step 32 = .ok (.if_icmp .eq 11, 3) := by decide +kernel
theorem dRW_step_35 : decode cRW_step 35 = .ok (.new 85, 3) := by decide +kernel
theorem dRW_step_38 : decode cRW_step 38 = .ok (.dup, 1) := by decide +kernel
theorem dRW_step_39 : decode cRW_step 39 = .ok (.invokespecial 87, 3) := by decide +kernel
theorem dRW_step_42 : decode cRW_step 42 = .ok (.athrow, 1) := by decide +kernel
theorem dRW_step_43 : decode cRW_step 43 = .ok (.aload_n 0, 1) := by decide +kernel
theorem dRW_step_44 : decode cRW_step 44 = .ok (.getfield 11, 3) := by decide +kernel
theorem dRW_step_47 : decode cRW_step 47 = .ok (.iload_n 1, 1) := by decide +kernel
theorem dRW_step_48 : decode cRW_step 48 = .ok (.aaload, 1) := by decide +kernel
theorem dRW_step_49 : decode cRW_step 49 = .ok (.getfield 105, 3) := by decide +kernel
theorem dRW_step_52 : decode cRW_step 52 = .ok (.aload_n 0, 1) := by decide +kernel
theorem dRW_step_53 : decode cRW_step 53 = .ok (.getfield 17, 3) := by decide +kernel
theorem dRW_step_56 : decode cRW_step 56 = .ok (.iload_n 1, 1) := by decide +kernel
theorem dRW_step_57 : decode cRW_step 57 = .ok (.aaload, 1) := by decide +kernel
theorem dRW_step_58 : decode cRW_step 58 = .ok (.getfield 109, 3) := by decide +kernel
theorem dRW_step_61 : decode cRW_step 61 = .ok (.iaload, 1) := by decide +kernel
theorem dRW_step_62 : decode cRW_step 62 = .ok (.istore_n 2, 1) := by decide +kernel
theorem dRW_step_63 : decode cRW_step 63 = .ok (.aload_n 0, 1) := by decide +kernel
theorem dRW_step_64 : decode cRW_step 64 = .ok (.getfield 11, 3) := by decide +kernel
theorem dRW_step_67 : decode cRW_step 67 = .ok (.iload_n 1, 1) := by decide +kernel
theorem dRW_step_68 : decode cRW_step 68 = .ok (.aaload, 1) := by decide +kernel
theorem dRW_step_69 : decode cRW_step 69 = .ok (.getfield 112, 3) := by decide +kernel
theorem dRW_step_72 : decode cRW_step 72 = .ok (.aload_n 0, 1) := by decide +kernel
theorem dRW_step_73 : decode cRW_step 73 = .ok (.getfield 17, 3) := by decide +kernel
theorem dRW_step_76 : decode cRW_step 76 = .ok (.iload_n 1, 1) := by decide +kernel
theorem dRW_step_77 : decode cRW_step 77 = .ok (.aaload, 1) := by decide +kernel
theorem dRW_step_78 : decode cRW_step 78 = .ok (.getfield 109, 3) := by decide +kernel
theorem dRW_step_81 : decode cRW_step 81 = .ok (.iaload, 1) := by decide +kernel
theorem dRW_step_82 : decode cRW_step 82 = .ok (.istore_n 3, 1) := by decide +kernel
theorem dRW_step_83 : decode cRW_step 83 = .ok (.iload_n 2, 1) := by decide +kernel
theorem dRW_step_84 : decode cRW_step 84 = .ok (.invokestatic 115, 3) := by decide +kernel
theorem dRW_step_87 : decode cRW_step 87 = .ok (.ifCond .ne 12, 3) := by decide +kernel
theorem dRW_step_90 : decode cRW_step 90 = .ok (.aload_n 0, 1) := by decide +kernel
theorem dRW_step_91 : decode cRW_step 91 = .ok (.iload_n 1, 1) := by decide +kernel
theorem dRW_step_92 : decode cRW_step 92 = .ok (.iload_n 2, 1) := by decide +kernel
theorem dRW_step_93 : decode cRW_step 93 = .ok (.iload_n 3, 1) := by decide +kernel
theorem dRW_step_94 : decode cRW_step 94 = .ok (.invokevirtual 118, 3) := by decide +kernel
theorem dRW_step_97 : decode cRW_step 97 = .ok (.iconst 2, 1) := by decide +kernel
theorem dRW_step_98 : decode cRW_step 98 = .ok (.ireturn, 1) := by decide +kernel
theorem dRW_step_99 : decode cRW_step 99 = .ok (.aload_n 0, 1) := by decide +kernel
theorem dRW_step_100 : decode cRW_step 100 = .ok (.iload_n 1, 1) := by decide +kernel
theorem dRW_step_101 : decode cRW_step 101 = .ok (.iload_n 2, 1) := by decide +kernel
theorem dRW_step_102 : decode cRW_step 102 = .ok (.iload_n 3, 1) := by decide +kernel
theorem dRW_step_103 : decode cRW_step 103 = .ok (.invokevirtual 122, 3) := by decide +kernel
theorem dRW_step_106 : decode cRW_step 106 = .ok (.ifCond .eq 11, 3) := by decide +kernel
theorem dRW_step_109 : decode cRW_step 109 = .ok (.new 126, 3) := by decide +kernel
theorem dRW_step_112 : decode cRW_step 112 = .ok (.dup, 1) := by decide +kernel
theorem dRW_step_113 : decode cRW_step 113 = .ok (.invokespecial 128, 3) := by decide +kernel
theorem dRW_step_116 : decode cRW_step 116 = .ok (.athrow, 1) := by decide +kernel
theorem dRW_step_117 : decode cRW_step 117 = .ok (.aload_n 0, 1) := by decide +kernel
theorem dRW_step_118 : decode cRW_step 118 = .ok (.getfield 40, 3) := by decide +kernel
theorem dRW_step_121 : decode cRW_step 121 = .ok (.invokevirtual 129, 3) := by decide +kernel
theorem dRW_step_124 : decode cRW_step 124 = .ok (.ifCond .ne 13, 3) := by decide +kernel
theorem dRW_step_127 : decode cRW_step 127 = .ok (.aload_n 0, 1) := by decide +kernel
theorem dRW_step_128 : decode cRW_step 128 = .ok (.iload_n 1, 1) := by decide +kernel
theorem dRW_step_129 : decode cRW_step 129 = .ok (.iload_n 2, 1) := by decide +kernel
theorem dRW_step_130 : decode cRW_step 130 = .ok (.iload_n 3, 1) := by decide +kernel
theorem dRW_step_131 : decode cRW_step 131 = .ok (.invokevirtual 130, 3) := by decide +kernel
theorem dRW_step_134 : decode cRW_step 134 = .ok (.ifCond .eq 5, 3) := by decide +kernel
theorem dRW_step_137 : decode cRW_step 137 = .ok (.iconst 0, 1) := by decide +kernel
theorem dRW_step_138 : decode cRW_step 138 = .ok (.ireturn, 1) := by decide +kernel
theorem dRW_step_139 : decode cRW_step 139 = .ok (.aload_n 0, 1) := by decide +kernel
theorem dRW_step_140 : decode cRW_step 140 = .ok (.iload_n 1, 1) := by decide +kernel
theorem dRW_step_141 : decode cRW_step 141 = .ok (.iload_n 2, 1) := by decide +kernel
theorem dRW_step_142 : decode cRW_step 142 = .ok (.iload_n 3, 1) := by decide +kernel
theorem dRW_step_143 : decode cRW_step 143 = .ok (.invokevirtual 133, 3) := by decide +kernel
theorem dRW_step_146 : decode cRW_step 146 = .ok (.iconst 1, 1) := by decide +kernel
theorem dRW_step_147 : decode cRW_step 147 = .ok (.ireturn, 1) := by decide +kernel
set_option maxHeartbeats 4000000 in
set_option maxRecDepth 100000 in
theorem c1_RW_start (l : Launch) (hfl : l.flags = pinnedFlags ++ [noTraceFlag]) (D : va_G) (tc : Nat → ClassId) (ad : Nat → Nat) (E : Nat → va_E) (cb : Int32) (sz9 : Nat) (hF : RWf tc ad E) : CtT l D tc yRW_start 6 66 ad E [.ref (ad 0), .int cb] sz9 (fun _ => True) (fun o E2 t9 => E2 = E ∧ ∃ x, o = .threw x ∧ isThr "java/lang/IllegalArgumentException" x sz9 t9) := by
  refine CtT.ofW (cc := cRW_start) (maxL := 2) (ret := (some .int)) (own := R_RW) (by decide) rfl w_277 (Nat.le_of_ble_eq_true rfl) ?_
  intro p e s m args below meth c ls X hlk hr hno hsz9 hTH hex hD hP hS hl
  have hx := X.1
  have hb := X.2.1
  have hP0 := hP
  have hl : lv_has ls 2 [(0, .ref (ad 0)), (1, .int cb)] := hl
  obtain ⟨hR, hpg, hwk, hlo3, hck, ⟨fc, fk, tt0, tt1, tt2⟩, ⟨fr, fp, fw, fd, ⟨b0, b1, b2, b3, b4⟩, hfr, hfp, hfw, hfd⟩, ⟨cr, cp, cw, cd, ⟨c0, c1, c2, c3, c4⟩, hcr, hcp, hcw, hcd⟩⟩ := hF
  have hR0 := hR
  obtain ⟨rh0, ⟨ra1, rh1, rx1⟩, ⟨ra2, rh2, rx2⟩, ⟨ra3, rh3, rx3⟩, ⟨ra4, rh4, rx4⟩⟩ := hR
  obtain ⟨ffo, ffa, ffb, hpp⟩ : ∃ fo fa fb : Nat → Nat → Int32, ∀ t, t < 5 → isPG tc ad E (3 + 7 * t) 0 (fo t) (fa t) (fb t) := pick3 hpg
  refine lv_aload_n hx hb dRW_start_0 rfl (lv_at hl 0 rfl) ?_
  refine g_RW_54 X hP (by omega) (rh0) rfl dRW_start_1 ?_
  refine lv_if_eq (tgt := 15) hx hb dRW_start_4 rfl (fun h4 => ?_) (fun h4 => absurd (rfl) h4)
  refine lv_aload_n hx hb dRW_start_15 rfl (lv_at hl 0 rfl) ?_
  refine x_iE0 (f := fun k => 0 + k) (x_runV (C := R_RW) (As := []) (rest := []) X (c0_RW_areBad l D tc (fun k => ad (0 + k)) (fun k => E (0 + k)) 0 0 (fun _ => 0) ffo ffa ffb (by simpa only [Nat.zero_add] using hR0) (fun t ht => by simpa only [Nat.zero_add] using hpp t ht) (fun t ht => Nat.zero_le _)) rfl rfl (by decide) (by decide) w_334 w_1 w_331 w_333 sel_RW_areBad ry_RW_areBad (x_recv X hP (by omega) (rh0) rfl) (ct_pre X hP hD (fr_lt 66 66 0 (by omega)) (fr_inj 66 0)) ct_blind hl.1 (Nat.le_of_ble_eq_true rfl) dRW_start_16 ⟨Nat.zero_le _, Nat.zero_le _⟩) hD hP hS (fr_lt 66 66 0 (by omega)) (fr_inj 66 0) (fun H hD hP hS => ?_)
  refine lv_if_eq (tgt := 30) hx hb dRW_start_19 rfl (fun h19 => absurd h19 (by rw [show allBad (fun _ => 0) _ _ _ = true from (by unfold allBad; simp)]; decide)) (fun h19 => ?_)
  exact q_thr "java/lang/IllegalArgumentException" X hlk hfl (own_of own_IAE X.2.2.2.2.1 hTH) (by decide) w_339 w_340 w_14 hno hS hsz9 hP0 dRW_start_22 dRW_start_25 dRW_start_26 dRW_start_29 hl.1 (by decide) (fun t x hx => ⟨rfl, x, rfl, hx⟩)
set_option maxHeartbeats 4000000 in
set_option maxRecDepth 100000 in
theorem c1_RW_step (l : Launch) (hfl : l.flags = pinnedFlags ++ [noTraceFlag]) (D : va_G) (tc : Nat → ClassId) (ad : Nat → Nat) (E : Nat → va_E) (t : Int32) (sz9 : Nat) (hF : RWf tc ad E) : CtT l D tc yRW_step 6 66 ad E [.ref (ad 0), .int t] sz9 (fun _ => True) (fun o E2 t9 => E2 = E ∧ ∃ x, o = .threw x ∧ isThr (if wi t 5 = true then "java/lang/IllegalStateException" else "java/lang/IndexOutOfBoundsException") x sz9 t9) := by
  refine CtT.ofW (cc := cRW_step) (maxL := 4) (ret := (some .int)) (own := R_RW) (by decide) rfl w_365 (Nat.le_of_ble_eq_true rfl) ?_
  intro p e s m args below meth c ls X hlk hr hno hsz9 hTH hex hD hP hS hl
  have hx := X.1
  have hb := X.2.1
  have hP0 := hP
  have hl : lv_has ls 4 [(0, .ref (ad 0)), (1, .int t)] := hl
  obtain ⟨hR, hpg, hwk, hlo3, hck, ⟨fc, fk, tt0, tt1, tt2⟩, ⟨fr, fp, fw, fd, ⟨b0, b1, b2, b3, b4⟩, hfr, hfp, hfw, hfd⟩, ⟨cr, cp, cw, cd, ⟨c0, c1, c2, c3, c4⟩, hcr, hcp, hcw, hcd⟩⟩ := hF
  have hR0 := hR
  obtain ⟨rh0, ⟨ra1, rh1, rx1⟩, ⟨ra2, rh2, rx2⟩, ⟨ra3, rh3, rx3⟩, ⟨ra4, rh4, rx4⟩⟩ := hR
  refine lv_iload_n hx hb dRW_step_0 rfl (lv_at hl 1 rfl) ?_
  refine x_iE0 (f := fun k => 0 + k) (x_runS (As := [.int t]) (rest := []) X (c0_RW_isThread l D tc (fun k => ad (0 + k)) (fun k => E (0 + k)) t) rfl rfl (by decide) (by decide) w_157 w_1 w_155 w_156 ry_RW_isThread (ct_pre X hP hD (fr_lt 0 66 0 (by omega)) (fr_inj 0 0)) ct_blind hl.1 (Nat.le_of_ble_eq_true rfl) dRW_step_1 ⟨Nat.zero_le _, Nat.zero_le _⟩) hD hP hS (fr_lt 0 66 0 (by omega)) (fr_inj 0 0) (fun H hD hP hS => ?_)
  refine lv_if_ne (tgt := 15) hx hb dRW_step_4 rfl (fun h4 => ?_) (fun h4 => ?_)
  · refine lv_aload_n hx hb dRW_step_15 rfl (lv_at hl 0 rfl) ?_
    refine g_RW_54 X hP (by omega) (rh0) rfl dRW_step_16 ?_
    refine lv_if_eq (tgt := 35) hx hb dRW_step_19 rfl (fun h19 => ?_) (fun h19 => absurd (rfl) h19)
    exact q_thr "java/lang/IllegalStateException" X hlk hfl (own_of own_ISE X.2.2.2.2.1 hTH) (by decide) w_278 w_279 w_13 hno hS hsz9 hP0 dRW_step_35 dRW_step_38 dRW_step_39 dRW_step_42 hl.1 (by decide) (fun t x hx => ⟨rfl, x, rfl, by rw [if_pos (bi_t h4)]; exact hx⟩)
  · exact q_thr "java/lang/IndexOutOfBoundsException" X hlk hfl (own_of own_IOB X.2.2.2.2.1 hTH) (by decide) w_366 w_367 w_15 hno hS hsz9 hP0 dRW_step_7 dRW_step_10 dRW_step_11 dRW_step_14 hl.1 (by decide) (fun t x hx => ⟨rfl, x, rfl, by rw [if_neg (by rw [bi_f h4]; decide)]; exact hx⟩)
