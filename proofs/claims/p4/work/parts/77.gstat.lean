theorem dRW_isEvent_0 : decode cRW_isEvent 0 = .ok (.iload_n 0, 1) := by decide +kernel
theorem dRW_isEvent_1 : decode cRW_isEvent 1 = .ok (.ifCond .lt 13, 3) := by decide +kernel
theorem dRW_isEvent_4 : decode cRW_isEvent 4 = .ok (.iload_n 0, 1) := by decide +kernel
theorem dRW_isEvent_5 : decode cRW_isEvent 5 = .ok (.bipush 9, 2) := by decide +kernel
theorem dRW_isEvent_7 : decode cRW_isEvent 7 = .ok (.if_icmp .gt 7, 3) := by decide +kernel
theorem dRW_isEvent_10 : decode cRW_isEvent 10 = .ok (.iconst 1, 1) := by decide +kernel
theorem dRW_isEvent_11 : decode cRW_isEvent 11 = .ok (.goto 4, 3) := by decide +kernel
theorem dRW_isEvent_14 : decode cRW_isEvent 14 = .ok (.iconst 0, 1) := by decide +kernel
theorem dRW_isEvent_15 : decode cRW_isEvent 15 = .ok (.ireturn, 1) := by decide +kernel
theorem dRW_isArrayAccess_0 : decode cRW_isArrayAccess 0 = .ok (.iload_n 0, 1) := by decide +kernel
theorem dRW_isArrayAccess_1 : decode cRW_isArrayAccess 1 = .ok (.bipush 8, 2) := by decide +kernel
theorem dRW_isArrayAccess_3 : decode cRW_isArrayAccess 3 = .ok (.if_icmp .eq 9, 3) := by decide +kernel
theorem dRW_isArrayAccess_6 : decode cRW_isArrayAccess 6 = .ok (.iload_n 0, 1) := by decide +kernel
theorem dRW_isArrayAccess_7 : decode cRW_isArrayAccess 7 = .ok (.bipush 9, 2) := by decide +kernel
theorem dRW_isArrayAccess_9 : decode cRW_isArrayAccess 9 = .ok (.if_icmp .ne 7, 3) := by decide +kernel
theorem dRW_isArrayAccess_12 : decode cRW_isArrayAccess 12 = .ok (.iconst 1, 1) := by decide +kernel
theorem dRW_isArrayAccess_13 : decode cRW_isArrayAccess 13 = .ok (.goto 4, 3) := by decide +kernel
theorem dRW_isArrayAccess_16 : decode cRW_isArrayAccess 16 = .ok (.iconst 0, 1) := by decide +kernel
theorem dRW_isArrayAccess_17 : decode cRW_isArrayAccess 17 = .ok (.ireturn, 1) := by decide +kernel
theorem dRW_isWrite_0 : decode cRW_isWrite 0 = .ok (.iload_n 0, 1) := by decide +kernel
theorem dRW_isWrite_1 : decode cRW_isWrite 1 = .ok (.iconst 1, 1) := by decide +kernel
theorem dRW_isWrite_2 : decode cRW_isWrite 2 = .ok (.if_icmp .eq 9, 3) := by decide +kernel
theorem dRW_isWrite_5 : decode cRW_isWrite 5 = .ok (.iload_n 0, 1) := by decide +kernel
theorem dRW_isWrite_6 : decode cRW_isWrite 6 = .ok (.bipush 9, 2) := by decide +kernel
theorem dRW_isWrite_8 : decode cRW_isWrite 8 = .ok (.if_icmp .ne 7, 3) := by decide +kernel
theorem dRW_isWrite_11 : decode cRW_isWrite 11 = .ok (.iconst 1, 1) := by decide +kernel
theorem dRW_isWrite_12 : decode cRW_isWrite 12 = .ok (.goto 4, 3) := by decide +kernel
theorem dRW_isWrite_15 : decode cRW_isWrite 15 = .ok (.iconst 0, 1) := by decide +kernel
theorem dRW_isWrite_16 : decode cRW_isWrite 16 = .ok (.ireturn, 1) := by decide +kernel
theorem dRW_isAccess_0 : decode cRW_isAccess 0 = .ok (.iload_n 0, 1) := by decide +kernel
theorem dRW_isAccess_1 : decode cRW_isAccess 1 = .ok (.ifCond .eq 16, 3) := by decide +kernel
theorem dRW_isAccess_4 : decode cRW_isAccess 4 = .ok (.iload_n 0, 1) := by decide +kernel
theorem dRW_isAccess_5 : decode cRW_isAccess 5 = .ok (.bipush 8, 2) := by decide +kernel
theorem dRW_isAccess_7 : decode cRW_isAccess 7 = .ok (.if_icmp .eq 10, 3) := by decide +kernel
theorem dRW_isAccess_10 : decode cRW_isAccess 10 = .ok (.iload_n 0, 1) := by decide +kernel
theorem dRW_isAccess_11 : decode cRW_isAccess 11 = .ok (.invokestatic 190, 3) := by decide +kernel
theorem dRW_isAccess_14 : decode cRW_isAccess 14 = .ok (.ifCond .eq 7, 3) := by decide +kernel
theorem dRW_isAccess_17 : decode cRW_isAccess 17 = .ok (.iconst 1, 1) := by decide +kernel
theorem dRW_isAccess_18 : decode cRW_isAccess 18 = .ok (.goto 4, 3) := by decide +kernel
theorem dRW_isAccess_21 : decode cRW_isAccess 21 = .ok (.iconst 0, 1) := by decide +kernel
theorem dRW_isAccess_22 : decode cRW_isAccess 22 = .ok (.ireturn, 1) := by decide +kernel
set_option maxHeartbeats 4000000 in
set_option maxRecDepth 100000 in
theorem g_RW_isEvent (l : Launch) (D : va_G) (tc : Nat → ClassId) (ad : Nat → Nat) (E : Nat → va_E) (op : Int32)  : Ct0 l D tc yRW_isEvent 0 0 ad E [.int op] (fun o E2 => ∃ r : Int32, o = .returned (some (.int r)) ∧ E2 = E ∧ ((r = 0 → ¬ (¬ op < 0 ∧ ¬ 9 < op)) ∧ (¬ r = 0 → ¬ op < 0 ∧ ¬ 9 < op))) := by
  refine Ct0.ofW (cc := cRW_isEvent) (maxL := 1) (ret := (some .boolean)) (own := R_RW) (by decide) rfl w_382 (Nat.le_of_ble_eq_true rfl) ?_
  intro p e s m args below meth c ls X hlk hr hD hP hS hl
  have hx := X.1
  have hb := X.2.1
  have hl : lv_has ls 1 [(0, .int op)] := hl
  refine lv_iload_n hx hb dRW_isEvent_0 rfl (lv_at hl 0 rfl) ?_
  refine lv_if_lt (tgt := 14) hx hb dRW_isEvent_1 rfl (fun h1 => ?_) (fun h1 => ?_)
  · refine lv_iconst (v := 0) hx hb dRW_isEvent_14 (by decide) ?_
    exact q_zret0 X hlk hr (by decide) hP hS dRW_isEvent_15 (⟨_, rfl, rfl, fun _ q => q.1 h1, fun q => absurd rfl q⟩)
  · refine lv_iload_n hx hb dRW_isEvent_4 rfl (lv_at hl 0 rfl) ?_
    refine lv_bipush (v := 9) hx hb dRW_isEvent_5 (by decide) ?_
    refine lv_icmp_gt (tgt := 14) hx hb dRW_isEvent_7 rfl (fun h7 => ?_) (fun h7 => ?_)
    · refine lv_iconst (v := 0) hx hb dRW_isEvent_14 (by decide) ?_
      exact q_zret0 X hlk hr (by decide) hP hS dRW_isEvent_15 (⟨_, rfl, rfl, fun _ q => q.2 h7, fun q => absurd rfl q⟩)
    · refine lv_iconst (v := 1) hx hb dRW_isEvent_10 (by decide) ?_
      refine lv_goto (tgt := 15) hx hb dRW_isEvent_11 rfl ?_
      exact q_zret0 X hlk hr (by decide) hP hS dRW_isEvent_15 (⟨_, rfl, rfl, fun q => absurd q (by decide), fun _ => ⟨h1, h7⟩⟩)
set_option maxHeartbeats 4000000 in
set_option maxRecDepth 100000 in
theorem g_RW_isArrayAccess (l : Launch) (D : va_G) (tc : Nat → ClassId) (ad : Nat → Nat) (E : Nat → va_E) (op : Int32)  : Ct l D tc yRW_isArrayAccess 0 0 ad E [.int op] (fun o E2 => ∃ r : Int32, o = .returned (some (.int r)) ∧ E2 = E ∧ (r = 0 → ¬ op = 8 ∧ ¬ op = 9)) := by
  refine Ct.ofW (cc := cRW_isArrayAccess) (maxL := 1) (ret := (some .boolean)) (own := R_RW) (by decide) rfl w_427 (Nat.le_of_ble_eq_true rfl) ?_
  intro p e s m args below meth c ls X hlk hr hD hP hS hl
  have hx := X.1
  have hb := X.2.1
  have hl : lv_has ls 1 [(0, .int op)] := hl
  refine lv_iload_n hx hb dRW_isArrayAccess_0 rfl (lv_at hl 0 rfl) ?_
  refine lv_bipush (v := 8) hx hb dRW_isArrayAccess_1 (by decide) ?_
  refine lv_icmp_eq (tgt := 12) hx hb dRW_isArrayAccess_3 rfl (fun h3 => ?_) (fun h3 => ?_)
  · refine lv_iconst (v := 1) hx hb dRW_isArrayAccess_12 (by decide) ?_
    refine lv_goto (tgt := 17) hx hb dRW_isArrayAccess_13 rfl ?_
    exact q_zret X hlk hr (by decide) hP hS dRW_isArrayAccess_17 (⟨_, rfl, rfl, fun q => absurd q (by decide)⟩)
  · refine lv_iload_n hx hb dRW_isArrayAccess_6 rfl (lv_at hl 0 rfl) ?_
    refine lv_bipush (v := 9) hx hb dRW_isArrayAccess_7 (by decide) ?_
    refine lv_icmp_ne (tgt := 16) hx hb dRW_isArrayAccess_9 rfl (fun h9 => ?_) (fun h9 => ?_)
    · refine lv_iconst (v := 0) hx hb dRW_isArrayAccess_16 (by decide) ?_
      exact q_zret X hlk hr (by decide) hP hS dRW_isArrayAccess_17 (⟨_, rfl, rfl, fun _ => ⟨h3, h9⟩⟩)
    · refine lv_iconst (v := 1) hx hb dRW_isArrayAccess_12 (by decide) ?_
      refine lv_goto (tgt := 17) hx hb dRW_isArrayAccess_13 rfl ?_
      exact q_zret X hlk hr (by decide) hP hS dRW_isArrayAccess_17 (⟨_, rfl, rfl, fun q => absurd q (by decide)⟩)
set_option maxHeartbeats 4000000 in
set_option maxRecDepth 100000 in
theorem g_RW_isWrite (l : Launch) (D : va_G) (tc : Nat → ClassId) (ad : Nat → Nat) (E : Nat → va_E) (op : Int32)  : Ct l D tc yRW_isWrite 0 0 ad E [.int op] (fun o E2 => ∃ r : Int32, o = .returned (some (.int r)) ∧ E2 = E ∧ (¬ r = 0 → op = 1 ∨ op = 9)) := by
  refine Ct.ofW (cc := cRW_isWrite) (maxL := 1) (ret := (some .boolean)) (own := R_RW) (by decide) rfl w_471 (Nat.le_of_ble_eq_true rfl) ?_
  intro p e s m args below meth c ls X hlk hr hD hP hS hl
  have hx := X.1
  have hb := X.2.1
  have hl : lv_has ls 1 [(0, .int op)] := hl
  refine lv_iload_n hx hb dRW_isWrite_0 rfl (lv_at hl 0 rfl) ?_
  refine lv_iconst (v := 1) hx hb dRW_isWrite_1 (by decide) ?_
  refine lv_icmp_eq (tgt := 11) hx hb dRW_isWrite_2 rfl (fun h2 => ?_) (fun h2 => ?_)
  · refine lv_iconst (v := 1) hx hb dRW_isWrite_11 (by decide) ?_
    refine lv_goto (tgt := 16) hx hb dRW_isWrite_12 rfl ?_
    exact q_zret X hlk hr (by decide) hP hS dRW_isWrite_16 (⟨_, rfl, rfl, fun _ => Or.inl h2⟩)
  · refine lv_iload_n hx hb dRW_isWrite_5 rfl (lv_at hl 0 rfl) ?_
    refine lv_bipush (v := 9) hx hb dRW_isWrite_6 (by decide) ?_
    refine lv_icmp_ne (tgt := 15) hx hb dRW_isWrite_8 rfl (fun h8 => ?_) (fun h8 => ?_)
    · refine lv_iconst (v := 0) hx hb dRW_isWrite_15 (by decide) ?_
      exact q_zret X hlk hr (by decide) hP hS dRW_isWrite_16 (⟨_, rfl, rfl, fun q => absurd rfl q⟩)
    · refine lv_iconst (v := 1) hx hb dRW_isWrite_11 (by decide) ?_
      refine lv_goto (tgt := 16) hx hb dRW_isWrite_12 rfl ?_
      exact q_zret X hlk hr (by decide) hP hS dRW_isWrite_16 (⟨_, rfl, rfl, fun _ => Or.inr h8⟩)
set_option maxHeartbeats 4000000 in
set_option maxRecDepth 100000 in
theorem g_RW_isAccess (l : Launch) (D : va_G) (tc : Nat → ClassId) (ad : Nat → Nat) (E : Nat → va_E) (op : Int32)  : Ct l D tc yRW_isAccess 1 0 ad E [.int op] (fun o E2 => ∃ r : Int32, o = .returned (some (.int r)) ∧ E2 = E ∧ (¬ r = 0 → op = 0 ∨ op = 8 ∨ op = 1 ∨ op = 9)) := by
  refine Ct.ofW (cc := cRW_isAccess) (maxL := 1) (ret := (some .boolean)) (own := R_RW) (by decide) rfl w_468 (Nat.le_of_ble_eq_true rfl) ?_
  intro p e s m args below meth c ls X hlk hr hD hP hS hl
  have hx := X.1
  have hb := X.2.1
  have hl : lv_has ls 1 [(0, .int op)] := hl
  refine lv_iload_n hx hb dRW_isAccess_0 rfl (lv_at hl 0 rfl) ?_
  refine lv_if_eq (tgt := 17) hx hb dRW_isAccess_1 rfl (fun h1 => ?_) (fun h1 => ?_)
  · refine lv_iconst (v := 1) hx hb dRW_isAccess_17 (by decide) ?_
    refine lv_goto (tgt := 22) hx hb dRW_isAccess_18 rfl ?_
    exact q_zret X hlk hr (by decide) hP hS dRW_isAccess_22 (⟨_, rfl, rfl, fun _ => Or.inl h1⟩)
  · refine lv_iload_n hx hb dRW_isAccess_4 rfl (lv_at hl 0 rfl) ?_
    refine lv_bipush (v := 8) hx hb dRW_isAccess_5 (by decide) ?_
    refine lv_icmp_eq (tgt := 17) hx hb dRW_isAccess_7 rfl (fun h7 => ?_) (fun h7 => ?_)
    · refine lv_iconst (v := 1) hx hb dRW_isAccess_17 (by decide) ?_
      refine lv_goto (tgt := 22) hx hb dRW_isAccess_18 rfl ?_
      exact q_zret X hlk hr (by decide) hP hS dRW_isAccess_22 (⟨_, rfl, rfl, fun _ => Or.inr (Or.inl h7)⟩)
    · refine lv_iload_n hx hb dRW_isAccess_10 rfl (lv_at hl 0 rfl) ?_
      refine x_iX (f := fun k => 0 + k) (x_runS (As := [.int op]) (rest := []) X (g_RW_isWrite l D tc (fun k => ad (0 + k)) (fun k => E (0 + k)) op) rfl rfl (by decide) (by decide) w_471 w_1 w_469 w_470 ry_RW_isWrite (ct_pre X hP hD (fr_lt 0 0 0 (by omega)) (fr_inj 0 0)) ct_blind hl.1 (Nat.le_of_ble_eq_true rfl) dRW_isAccess_11 ⟨Nat.zero_le _, Nat.zero_le _⟩) hD hP hS (fr_lt 0 0 0 (by omega)) (fr_inj 0 0) (fun y H locs hy hD hP hS => ?_)
      refine lv_if_eq (tgt := 21) hx hb dRW_isAccess_14 rfl (fun h14 => ?_) (fun h14 => ?_)
      · refine lv_iconst (v := 0) hx hb dRW_isAccess_21 (by decide) ?_
        exact q_zret X hlk hr (by decide) hP hS dRW_isAccess_22 (⟨_, rfl, rfl, fun q => absurd rfl q⟩)
      · refine lv_iconst (v := 1) hx hb dRW_isAccess_17 (by decide) ?_
        refine lv_goto (tgt := 22) hx hb dRW_isAccess_18 rfl ?_
        exact q_zret X hlk hr (by decide) hP hS dRW_isAccess_22 (⟨_, rfl, rfl, fun _ => Or.inr (Or.inr (hy h14))⟩)
set_option maxHeartbeats 4000000 in
set_option maxRecDepth 100000 in
theorem g_RW_state (l : Launch) (D : va_G) (tc : Nat → ClassId) (ad : Nat → Nat) (E : Nat → va_E) (st cs : Int32) (sz : Nat → Nat) (fo fa fb : Nat → Nat → Int32) (t : Int32) (hI : RI tc ad E st cs sz fo fa fb) : Ct l D tc yRW_state 1 66 ad E [.ref (ad 0), .int t] (fun o E2 => ∃ r : Int64, o = .returned (some (.long r)) ∧ E2 = E) := by
  refine Ct.ofW (cc := cRW_state) (maxL := 3) (ret := (some .long)) (own := R_RW) (by decide) rfl w_203 (Nat.le_of_ble_eq_true rfl) ?_
  intro p e s m args below meth c ls X hlk hr hD hP hS hl
  have hx := X.1
  have hb := X.2.1
  have hl : lv_has ls 3 [(0, .ref (ad 0)), (1, .int t)] := hl
  have hI0 := hI
  obtain ⟨hR, hpg, hwk, hlo, hck, ⟨cn, hcn, ⟨fc, fk, ⟨tt0, tt1, tt2⟩, hfc⟩, ⟨fr, fp, fw, fd, ⟨b0, b1, b2, b3, b4⟩, hfw, hfd⟩, ⟨cr, cp, cw, cd, ⟨c0, c1, c2, c3, c4⟩, hcw, hcd⟩⟩, hok, hnb⟩ := hI
  have hR0 := hR
  obtain ⟨rh0, ⟨ra1, rh1, rx1⟩, ⟨ra2, rh2, rx2⟩, ⟨ra3, rh3, rx3⟩, ⟨ra4, rh4, rx4⟩⟩ := hR
  refine lv_aload_n hx hb dRW_state_0 rfl (lv_at hl 0 rfl) ?_
  refine g_RW_54 X hP (by omega) (rh0) rfl dRW_state_1 ?_
  refine lv_if_eq (tgt := 14) hx hb dRW_state_4 rfl (fun h4 => ?_) (fun h4 => ?_)
  · refine lv_ldc2 (v := (-1)) hx hb X.2.2.2.1 (X.2.2.2.2.1 _ w_204) dRW_state_14 ?_
    exact q_lret X hlk hr hP hS dRW_state_17 (⟨_, rfl, rfl⟩)
  · refine lv_iload_n hx hb dRW_state_7 rfl (lv_at hl 1 rfl) ?_
    refine x_iE (f := fun k => 0 + k) (x_runS (As := [.int t]) (rest := []) X (c_RW_isThread l D tc (fun k => ad (0 + k)) (fun k => E (0 + k)) t) rfl rfl (by decide) (by decide) w_157 w_1 w_155 w_156 ry_RW_isThread (ct_pre X hP hD (fr_lt 0 66 0 (by omega)) (fr_inj 0 0)) ct_blind hl.1 (Nat.le_of_ble_eq_true rfl) dRW_state_8 ⟨Nat.zero_le _, Nat.zero_le _⟩) hD hP hS (fr_lt 0 66 0 (by omega)) (fr_inj 0 0) (fun H locs hD hP hS => ?_)
    refine lv_if_ne (tgt := 18) hx hb dRW_state_11 rfl (fun h11 => ?_) (fun h11 => ?_)
    · obtain ⟨j, hj, rfl⟩ := wi_of (n := 5) (by decide) (bi_t h11)
      obtain ⟨ph, nx, rg, ⟨w0, w1, wf, w2⟩, hw1, hw2⟩ := hwk j hj
      refine lv_aload_n hx hb dRW_state_18 rfl (lv_at hl 0 rfl) ?_
      refine g_RW_17 X hP (by omega) (rh0) rfl dRW_state_19 ?_
      refine lv_iload_n hx hb dRW_state_22 rfl (lv_at hl 1 rfl) ?_
      refine q_aald (t0 := 4) j X hP (by omega) (rh2) rfl (rfl) (by omega) (by decide) (rx2 j (by omega)) dRW_state_23 ?_
      refine lv_astore_n hx hb dRW_state_24 rfl hl (by decide) rfl (fun ls hl => ?_)
      have hl : lv_has ls 3 [(2, .ref (ad (7 + 7 * j))), (0, .ref (ad 0)), (1, .int (nI j))] := hl
      refine lv_aload_n hx hb dRW_state_25 rfl (lv_at hl 0 rfl) ?_
      refine g_RW_94 X hP (by omega) (w0) rfl dRW_state_26 ?_
      refine lv_i2l hx hb dRW_state_29 rfl ?_
      refine lv_ldc2 (v := 4) hx hb X.2.2.2.1 (X.2.2.2.2.1 _ w_205) dRW_state_30 ?_
      refine lv_aload_n hx hb dRW_state_33 rfl (lv_at hl 0 rfl) ?_
      refine g_RW_109 X hP (by omega) (w0) rfl dRW_state_34 ?_
      refine lv_i2l hx hb dRW_state_37 rfl ?_
      refine lv_lmul hx hb dRW_state_38 ?_
      refine lv_ladd hx hb dRW_state_39 ?_
      refine lv_ldc2 (v := 64) hx hb X.2.2.2.1 (X.2.2.2.2.1 _ w_206) dRW_state_40 ?_
      refine lv_aload_n hx hb dRW_state_43 rfl (lv_at hl 0 rfl) ?_
      refine g_RW_142 X hP (by omega) (w0) rfl dRW_state_44 ?_
      refine lv_lmul hx hb dRW_state_47 ?_
      refine lv_ladd hx hb dRW_state_48 ?_
      exact q_lret X hlk hr hP hS dRW_state_49 (⟨_, rfl, rfl⟩)
    · refine lv_ldc2 (v := (-1)) hx hb X.2.2.2.1 (X.2.2.2.2.1 _ w_204) dRW_state_14 ?_
      exact q_lret X hlk hr hP hS dRW_state_17 (⟨_, rfl, rfl⟩)
set_option maxHeartbeats 4000000 in
set_option maxRecDepth 100000 in
theorem g_RW_holder (l : Launch) (D : va_G) (tc : Nat → ClassId) (ad : Nat → Nat) (E : Nat → va_E) (st cs : Int32) (sz : Nat → Nat) (fo fa fb : Nat → Nat → Int32) (l1 : Int32) (hI : RI tc ad E st cs sz fo fa fb) : Ct l D tc yRW_holder 1 66 ad E [.ref (ad 0), .int l1] (fun o E2 => ∃ r : Int32, o = .returned (some (.int r)) ∧ E2 = E ∧ True) := by
  refine Ct.ofW (cc := cRW_holder) (maxL := 2) (ret := (some .int)) (own := R_RW) (by decide) rfl w_210 (Nat.le_of_ble_eq_true rfl) ?_
  intro p e s m args below meth c ls X hlk hr hD hP hS hl
  have hx := X.1
  have hb := X.2.1
  have hl : lv_has ls 2 [(0, .ref (ad 0)), (1, .int l1)] := hl
  have hI0 := hI
  obtain ⟨hR, hpg, hwk, hlo, hck, ⟨cn, hcn, ⟨fc, fk, ⟨tt0, tt1, tt2⟩, hfc⟩, ⟨fr, fp, fw, fd, ⟨b0, b1, b2, b3, b4⟩, hfw, hfd⟩, ⟨cr, cp, cw, cd, ⟨c0, c1, c2, c3, c4⟩, hcw, hcd⟩⟩, hok, hnb⟩ := hI
  have hR0 := hR
  obtain ⟨rh0, ⟨ra1, rh1, rx1⟩, ⟨ra2, rh2, rx2⟩, ⟨ra3, rh3, rx3⟩, ⟨ra4, rh4, rx4⟩⟩ := hR
  refine lv_iload_n hx hb dRW_holder_0 rfl (lv_at hl 1 rfl) ?_
  refine lv_if_lt (tgt := 21) hx hb dRW_holder_1 rfl (fun h1 => ?_) (fun h1 => ?_)
  · refine lv_iconst (v := (-1)) hx hb dRW_holder_21 (by decide) ?_
    exact q_iret X hlk hr hP hS dRW_holder_22 (⟨_, rfl, rfl, trivial⟩)
  · refine lv_iload_n hx hb dRW_holder_4 rfl (lv_at hl 1 rfl) ?_
    refine lv_iconst (v := 3) hx hb dRW_holder_5 (by decide) ?_
    refine lv_icmp_ge (tgt := 21) hx hb dRW_holder_6 rfl (fun h6 => ?_) (fun h6 => ?_)
    · refine lv_iconst (v := (-1)) hx hb dRW_holder_21 (by decide) ?_
      exact q_iret X hlk hr hP hS dRW_holder_22 (⟨_, rfl, rfl, trivial⟩)
    · obtain ⟨j, hj, rfl⟩ := wi_of (n := 3) (by decide) (wi_t (N := 3) (by decide) h1 h6)
      obtain ⟨ow, dp, lk0, lk1, lkf, lk2⟩ := hlo j hj
      refine lv_aload_n hx hb dRW_holder_9 rfl (lv_at hl 0 rfl) ?_
      refine g_RW_25 X hP (by omega) (rh0) rfl dRW_holder_10 ?_
      refine lv_iload_n hx hb dRW_holder_13 rfl (lv_at hl 1 rfl) ?_
      refine q_aald (t0 := 5) j X hP (by omega) (rh3) rfl (rfl) (by omega) (by decide) (rx3 j (by omega)) dRW_holder_14 ?_
      refine g_RW_146 X hP (by omega) (lk0) rfl dRW_holder_15 ?_
      refine lv_if_ne (tgt := 23) hx hb dRW_holder_18 rfl (fun h18 => ?_) (fun h18 => ?_)
      · refine lv_aload_n hx hb dRW_holder_23 rfl (lv_at hl 0 rfl) ?_
        refine g_RW_25 X hP (by omega) (rh0) rfl dRW_holder_24 ?_
        refine lv_iload_n hx hb dRW_holder_27 rfl (lv_at hl 1 rfl) ?_
        refine q_aald (t0 := 5) j X hP (by omega) (rh3) rfl (rfl) (by omega) (by decide) (rx3 j (by omega)) dRW_holder_28 ?_
        refine g_RW_149 X hP (by omega) (lk0) rfl dRW_holder_29 ?_
        refine lv_bipush (v := 8) hx hb dRW_holder_32 (by decide) ?_
        refine lv_aload_n hx hb dRW_holder_34 rfl (lv_at hl 0 rfl) ?_
        refine g_RW_25 X hP (by omega) (rh0) rfl dRW_holder_35 ?_
        refine lv_iload_n hx hb dRW_holder_38 rfl (lv_at hl 1 rfl) ?_
        refine q_aald (t0 := 5) j X hP (by omega) (rh3) rfl (rfl) (by omega) (by decide) (rx3 j (by omega)) dRW_holder_39 ?_
        refine g_RW_146 X hP (by omega) (lk0) rfl dRW_holder_40 ?_
        refine lv_imul hx hb dRW_holder_43 ?_
        refine lv_iadd hx hb dRW_holder_44 ?_
        exact q_iret X hlk hr hP hS dRW_holder_45 (⟨_, rfl, rfl, trivial⟩)
      · refine lv_iconst (v := (-1)) hx hb dRW_holder_21 (by decide) ?_
        exact q_iret X hlk hr hP hS dRW_holder_22 (⟨_, rfl, rfl, trivial⟩)
set_option maxHeartbeats 4000000 in
set_option maxRecDepth 100000 in
theorem g_RW_events (l : Launch) (D : va_G) (tc : Nat → ClassId) (ad : Nat → Nat) (E : Nat → va_E) (st cs : Int32) (sz : Nat → Nat) (fo fa fb : Nat → Nat → Int32) (hI : RI tc ad E st cs sz fo fa fb) : Ct l D tc yRW_events 0 66 ad E [.ref (ad 0)] (fun o E2 => ∃ r : Int32, o = .returned (some (.int r)) ∧ E2 = E ∧ True) := by
  refine Ct.ofW (cc := cRW_events) (maxL := 1) (ret := (some .int)) (own := R_RW) (by decide) rfl w_214 (Nat.le_of_ble_eq_true rfl) ?_
  intro p e s m args below meth c ls X hlk hr hD hP hS hl
  have hx := X.1
  have hb := X.2.1
  have hl : lv_has ls 1 [(0, .ref (ad 0))] := hl
  have hI0 := hI
  obtain ⟨hR, hpg, hwk, hlo, hck, ⟨cn, hcn, ⟨fc, fk, ⟨tt0, tt1, tt2⟩, hfc⟩, ⟨fr, fp, fw, fd, ⟨b0, b1, b2, b3, b4⟩, hfw, hfd⟩, ⟨cr, cp, cw, cd, ⟨c0, c1, c2, c3, c4⟩, hcw, hcd⟩⟩, hok, hnb⟩ := hI
  have hR0 := hR
  obtain ⟨rh0, ⟨ra1, rh1, rx1⟩, ⟨ra2, rh2, rx2⟩, ⟨ra3, rh3, rx3⟩, ⟨ra4, rh4, rx4⟩⟩ := hR
  refine lv_aload_n hx hb dRW_events_0 rfl (lv_at hl 0 rfl) ?_
  refine g_RW_40 X hP (by omega) (rh0) rfl dRW_events_1 ?_
  refine g_RW_152 X hP (by omega) (tt0) rfl dRW_events_4 ?_
  exact q_iret X hlk hr hP hS dRW_events_7 (⟨_, rfl, rfl, trivial⟩)
set_option maxHeartbeats 4000000 in
set_option maxRecDepth 100000 in
theorem g_RW_event (l : Launch) (D : va_G) (tc : Nat → ClassId) (ad : Nat → Nat) (E : Nat → va_E) (st cs : Int32) (sz : Nat → Nat) (fo fa fb : Nat → Nat → Int32) (k : Int32) (hI : RI tc ad E st cs sz fo fa fb) : Ct l D tc yRW_event 1 66 ad E [.ref (ad 0), .int k] (fun o E2 => ∃ r : Int32, o = .returned (some (.int r)) ∧ E2 = E ∧ True) := by
  refine Ct.ofW (cc := cRW_event) (maxL := 2) (ret := (some .int)) (own := R_RW) (by decide) rfl w_218 (Nat.le_of_ble_eq_true rfl) ?_
  intro p e s m args below meth c ls X hlk hr hD hP hS hl
  have hx := X.1
  have hb := X.2.1
  have hl : lv_has ls 2 [(0, .ref (ad 0)), (1, .int k)] := hl
  have hI0 := hI
  obtain ⟨hR, hpg, hwk, hlo, hck, ⟨cn, hcn, ⟨fc, fk, ⟨tt0, tt1, tt2⟩, hfc⟩, ⟨fr, fp, fw, fd, ⟨b0, b1, b2, b3, b4⟩, hfw, hfd⟩, ⟨cr, cp, cw, cd, ⟨c0, c1, c2, c3, c4⟩, hcw, hcd⟩⟩, hok, hnb⟩ := hI
  have hR0 := hR
  obtain ⟨rh0, ⟨ra1, rh1, rx1⟩, ⟨ra2, rh2, rx2⟩, ⟨ra3, rh3, rx3⟩, ⟨ra4, rh4, rx4⟩⟩ := hR
  refine lv_aload_n hx hb dRW_event_0 rfl (lv_at hl 0 rfl) ?_
  refine g_RW_40 X hP (by omega) (rh0) rfl dRW_event_1 ?_
  refine lv_iload_n hx hb dRW_event_4 rfl (lv_at hl 1 rfl) ?_
  refine x_iE (f := fun k => 53 + k) (x_runVN (C := R_TR) (As := [.int k]) (rest := []) X (c_TR_has l D tc (fun k => ad (53 + k)) (fun k => E (53 + k)) cn _ _ k tt0 hcn) rfl rfl (by decide) (by decide) w_222 w_6 w_219 w_221 sel_TR_has ry_TR_has (x_recv X hP (by omega) (tt0) rfl) (ct_pre X hP hD (fr_lt 3 66 53 (by omega)) (fr_inj 3 53)) ct_blind hl.1 (Nat.le_of_ble_eq_true rfl) dRW_event_5 ⟨Nat.zero_le _, Nat.zero_le _⟩) hD hP hS (fr_lt 3 66 53 (by omega)) (fr_inj 3 53) (fun H locs hD hP hS => ?_)
  refine lv_if_eq (tgt := 23) hx hb dRW_event_8 rfl (fun h8 => ?_) (fun h8 => ?_)
  · refine lv_iconst (v := (-1)) hx hb dRW_event_23 (by decide) ?_
    exact q_iret X hlk hr hP hS dRW_event_24 (⟨_, rfl, rfl, trivial⟩)
  · obtain ⟨j, hj, rfl⟩ := wi_of (n := cn) (by omega) (bi_t h8)
    refine lv_aload_n hx hb dRW_event_11 rfl (lv_at hl 0 rfl) ?_
    refine g_RW_40 X hP (by omega) (rh0) rfl dRW_event_12 ?_
    refine g_RW_158 X hP (by omega) (tt0) rfl dRW_event_15 ?_
    refine lv_iload_n hx hb dRW_event_18 rfl (lv_at hl 1 rfl) ?_
    refine q_iald j X hP (by omega) (tt1) (rfl) (by omega) (by decide) dRW_event_19 ?_
    refine lv_goto (tgt := 24) hx hb dRW_event_20 rfl ?_
    exact q_iret X hlk hr hP hS dRW_event_24 (⟨_, rfl, rfl, trivial⟩)
set_option maxHeartbeats 4000000 in
set_option maxRecDepth 100000 in
theorem g_RW_before (l : Launch) (D : va_G) (tc : Nat → ClassId) (ad : Nat → Nat) (E : Nat → va_E) (st cs : Int32) (sz : Nat → Nat) (fo fa fb : Nat → Nat → Int32) (x y : Int32) (hI : RI tc ad E st cs sz fo fa fb) : Ct l D tc yRW_before 2 66 ad E [.ref (ad 0), .int x, .int y] (fun o E2 => ∃ r : Int32, o = .returned (some (.int r)) ∧ E2 = E ∧ True) := by
  refine Ct.ofW (cc := cRW_before) (maxL := 3) (ret := (some .boolean)) (own := R_RW) (by decide) rfl w_226 (Nat.le_of_ble_eq_true rfl) ?_
  intro p e s m args below meth c ls X hlk hr hD hP hS hl
  have hx := X.1
  have hb := X.2.1
  have hl : lv_has ls 3 [(0, .ref (ad 0)), (1, .int x), (2, .int y)] := hl
  have hI0 := hI
  obtain ⟨hR, hpg, hwk, hlo, hck, ⟨cn, hcn, ⟨fc, fk, ⟨tt0, tt1, tt2⟩, hfc⟩, ⟨fr, fp, fw, fd, ⟨b0, b1, b2, b3, b4⟩, hfw, hfd⟩, ⟨cr, cp, cw, cd, ⟨c0, c1, c2, c3, c4⟩, hcw, hcd⟩⟩, hok, hnb⟩ := hI
  have hR0 := hR
  obtain ⟨rh0, ⟨ra1, rh1, rx1⟩, ⟨ra2, rh2, rx2⟩, ⟨ra3, rh3, rx3⟩, ⟨ra4, rh4, rx4⟩⟩ := hR
  refine lv_aload_n hx hb dRW_before_0 rfl (lv_at hl 0 rfl) ?_
  refine g_RW_40 X hP (by omega) (rh0) rfl dRW_before_1 ?_
  refine lv_iload_n hx hb dRW_before_4 rfl (lv_at hl 1 rfl) ?_
  refine x_iE (f := fun k => 53 + k) (x_runVN (C := R_TR) (As := [.int x]) (rest := []) X (c_TR_has l D tc (fun k => ad (53 + k)) (fun k => E (53 + k)) cn _ _ x tt0 hcn) rfl rfl (by decide) (by decide) w_222 w_6 w_219 w_221 sel_TR_has ry_TR_has (x_recv X hP (by omega) (tt0) rfl) (ct_pre X hP hD (fr_lt 3 66 53 (by omega)) (fr_inj 3 53)) ct_blind hl.1 (Nat.le_of_ble_eq_true rfl) dRW_before_5 ⟨Nat.zero_le _, Nat.zero_le _⟩) hD hP hS (fr_lt 3 66 53 (by omega)) (fr_inj 3 53) (fun H locs hD hP hS => ?_)
  refine lv_if_eq (tgt := 38) hx hb dRW_before_8 rfl (fun h8 => ?_) (fun h8 => ?_)
  · refine lv_iconst (v := 0) hx hb dRW_before_38 (by decide) ?_
    exact q_zret X hlk hr (by decide) hP hS dRW_before_39 (⟨_, rfl, rfl, trivial⟩)
  · obtain ⟨i, hi, rfl⟩ := wi_of (n := cn) (by omega) (bi_t h8)
    refine lv_aload_n hx hb dRW_before_11 rfl (lv_at hl 0 rfl) ?_
    refine g_RW_40 X hP (by omega) (rh0) rfl dRW_before_12 ?_
    refine lv_iload_n hx hb dRW_before_15 rfl (lv_at hl 2 rfl) ?_
    refine x_iE (f := fun k => 53 + k) (x_runVN (C := R_TR) (As := [.int y]) (rest := []) X (c_TR_has l D tc (fun k => ad (53 + k)) (fun k => E (53 + k)) cn _ _ y tt0 hcn) rfl rfl (by decide) (by decide) w_222 w_6 w_219 w_221 sel_TR_has ry_TR_has (x_recv X hP (by omega) (tt0) rfl) (ct_pre X hP hD (fr_lt 3 66 53 (by omega)) (fr_inj 3 53)) ct_blind hl.1 (Nat.le_of_ble_eq_true rfl) dRW_before_16 ⟨Nat.zero_le _, Nat.zero_le _⟩) hD hP hS (fr_lt 3 66 53 (by omega)) (fr_inj 3 53) (fun H locs hD hP hS => ?_)
    refine lv_if_eq (tgt := 38) hx hb dRW_before_19 rfl (fun h19 => ?_) (fun h19 => ?_)
    · refine lv_iconst (v := 0) hx hb dRW_before_38 (by decide) ?_
      exact q_zret X hlk hr (by decide) hP hS dRW_before_39 (⟨_, rfl, rfl, trivial⟩)
    · obtain ⟨j, hj, rfl⟩ := wi_of (n := cn) (by omega) (bi_t h19)
      obtain ⟨tt, htt, hft⟩ := hfc i hi
      refine lv_aload_n hx hb dRW_before_22 rfl (lv_at hl 0 rfl) ?_
      refine g_RW_40 X hP (by omega) (rh0) rfl dRW_before_23 ?_
      refine lv_iload_n hx hb dRW_before_26 rfl (lv_at hl 1 rfl) ?_
      refine lv_iload_n hx hb dRW_before_27 rfl (lv_at hl 2 rfl) ?_
      refine x_iX (f := fun k => 53 + k) (x_runVN (C := R_TR) (As := [.int (nI i), .int (nI j)]) (rest := []) X (g_TR_isOrdered l D tc (fun k => ad (53 + k)) (fun k => E (53 + k)) cn fc fk i j tt tt0 tt1 tt2 (by omega) (by omega) htt hft) rfl rfl (by decide) (by decide) w_230 w_6 w_227 w_229 sel_TR_isOrdered ry_TR_isOrdered (x_recv X hP (by omega) (tt0) rfl) (ct_pre X hP hD (fr_lt 3 66 53 (by omega)) (fr_inj 3 53)) ct_blind hl.1 (Nat.le_of_ble_eq_true rfl) dRW_before_28 ⟨Nat.zero_le _, Nat.zero_le _⟩) hD hP hS (fr_lt 3 66 53 (by omega)) (fr_inj 3 53) (fun z H locs hz hD hP hS => ?_)
      refine lv_if_eq (tgt := 38) hx hb dRW_before_31 rfl (fun h31 => ?_) (fun h31 => ?_)
      · refine lv_iconst (v := 0) hx hb dRW_before_38 (by decide) ?_
        exact q_zret X hlk hr (by decide) hP hS dRW_before_39 (⟨_, rfl, rfl, trivial⟩)
      · refine lv_iconst (v := 1) hx hb dRW_before_34 (by decide) ?_
        refine lv_goto (tgt := 39) hx hb dRW_before_35 rfl ?_
        exact q_zret X hlk hr (by decide) hP hS dRW_before_39 (⟨_, rfl, rfl, trivial⟩)
set_option maxHeartbeats 4000000 in
set_option maxRecDepth 100000 in
theorem g_RW_race (l : Launch) (D : va_G) (tc : Nat → ClassId) (ad : Nat → Nat) (E : Nat → va_E) (st cs : Int32) (sz : Nat → Nat) (fo fa fb : Nat → Nat → Int32) (p1 : Int32) (hI : RI tc ad E st cs sz fo fa fb) : Ct l D tc yRW_race 2 66 ad E [.ref (ad 0), .int p1] (fun o E2 => ∃ r : Int32, o = .returned (some (.int r)) ∧ E2 = E ∧ True) := by
  refine Ct.ofW (cc := cRW_race) (maxL := 2) (ret := (some .int)) (own := R_RW) (by decide) rfl w_238 (Nat.le_of_ble_eq_true rfl) ?_
  intro p e s m args below meth c ls X hlk hr hD hP hS hl
  have hx := X.1
  have hb := X.2.1
  have hl : lv_has ls 2 [(0, .ref (ad 0)), (1, .int p1)] := hl
  have hI0 := hI
  obtain ⟨hR, hpg, hwk, hlo, hck, ⟨cn, hcn, ⟨fc, fk, ⟨tt0, tt1, tt2⟩, hfc⟩, ⟨fr, fp, fw, fd, ⟨b0, b1, b2, b3, b4⟩, hfw, hfd⟩, ⟨cr, cp, cw, cd, ⟨c0, c1, c2, c3, c4⟩, hcw, hcd⟩⟩, hok, hnb⟩ := hI
  have hR0 := hR
  obtain ⟨rh0, ⟨ra1, rh1, rx1⟩, ⟨ra2, rh2, rx2⟩, ⟨ra3, rh3, rx3⟩, ⟨ra4, rh4, rx4⟩⟩ := hR
  by_cases hcs : cs = 0
  · refine lv_iload_n hx hb dRW_race_0 rfl (lv_at hl 1 rfl) ?_
    refine x_iE (f := fun k => 0 + k) (x_runS (As := [.int p1]) (rest := []) X (c_RW_isVariable l D tc (fun k => ad (0 + k)) (fun k => E (0 + k)) p1) rfl rfl (by decide) (by decide) w_167 w_1 w_165 w_166 ry_RW_isVariable (ct_pre X hP hD (fr_lt 0 66 0 (by omega)) (fr_inj 0 0)) ct_blind hl.1 (Nat.le_of_ble_eq_true rfl) dRW_race_1 ⟨Nat.zero_le _, Nat.zero_le _⟩) hD hP hS (fr_lt 0 66 0 (by omega)) (fr_inj 0 0) (fun H locs hD hP hS => ?_)
    refine lv_if_eq (tgt := 19) hx hb dRW_race_4 rfl (fun h4 => ?_) (fun h4 => ?_)
    · refine lv_iconst (v := (-1)) hx hb dRW_race_19 (by decide) ?_
      exact q_iret X hlk hr hP hS dRW_race_20 (⟨_, rfl, rfl, trivial⟩)
    · obtain ⟨j, hj, rfl⟩ := wi_of (n := 8) (by decide) (bi_t h4)
      refine lv_aload_n hx hb dRW_race_7 rfl (lv_at hl 0 rfl) ?_
      refine x_rE (v := ad 56) (f := fun k => 0 + k) (x_runV (C := R_RW) (As := []) (rest := []) X (by have h := c_RW_ownBook l D tc (fun k => ad (0 + k)) (fun k => E (0 + k)) st cs (by simpa only [Nat.zero_add] using hR0); rw [if_pos hcs] at h; exact h) rfl rfl (by decide) (by decide) w_242 w_1 w_239 w_241 sel_RW_ownBook ry_RW_ownBook (x_recv X hP (by omega) (rh0) rfl) (ct_pre X hP hD (fr_lt 66 66 0 (by omega)) (fr_inj 66 0)) ct_blind hl.1 (Nat.le_of_ble_eq_true rfl) dRW_race_8 ⟨Nat.zero_le _, Nat.zero_le _⟩) hD hP hS (fr_lt 66 66 0 (by omega)) (fr_inj 66 0) (fun H locs hD hP hS => ?_)
      refine g_RW_171 X hP (by omega) (b0) rfl dRW_race_11 ?_
      refine lv_iload_n hx hb dRW_race_14 rfl (lv_at hl 1 rfl) ?_
      refine q_iald j X hP (by omega) (b1) (rfl) (by omega) (by decide) dRW_race_15 ?_
      refine lv_goto (tgt := 20) hx hb dRW_race_16 rfl ?_
      exact q_iret X hlk hr hP hS dRW_race_20 (⟨_, rfl, rfl, trivial⟩)
  · refine lv_iload_n hx hb dRW_race_0 rfl (lv_at hl 1 rfl) ?_
    refine x_iE (f := fun k => 0 + k) (x_runS (As := [.int p1]) (rest := []) X (c_RW_isVariable l D tc (fun k => ad (0 + k)) (fun k => E (0 + k)) p1) rfl rfl (by decide) (by decide) w_167 w_1 w_165 w_166 ry_RW_isVariable (ct_pre X hP hD (fr_lt 0 66 0 (by omega)) (fr_inj 0 0)) ct_blind hl.1 (Nat.le_of_ble_eq_true rfl) dRW_race_1 ⟨Nat.zero_le _, Nat.zero_le _⟩) hD hP hS (fr_lt 0 66 0 (by omega)) (fr_inj 0 0) (fun H locs hD hP hS => ?_)
    refine lv_if_eq (tgt := 19) hx hb dRW_race_4 rfl (fun h4 => ?_) (fun h4 => ?_)
    · refine lv_iconst (v := (-1)) hx hb dRW_race_19 (by decide) ?_
      exact q_iret X hlk hr hP hS dRW_race_20 (⟨_, rfl, rfl, trivial⟩)
    · obtain ⟨j, hj, rfl⟩ := wi_of (n := 8) (by decide) (bi_t h4)
      refine lv_aload_n hx hb dRW_race_7 rfl (lv_at hl 0 rfl) ?_
      refine x_rE (v := ad 61) (f := fun k => 0 + k) (x_runV (C := R_RW) (As := []) (rest := []) X (by have h := c_RW_ownBook l D tc (fun k => ad (0 + k)) (fun k => E (0 + k)) st cs (by simpa only [Nat.zero_add] using hR0); rw [if_neg hcs] at h; exact h) rfl rfl (by decide) (by decide) w_242 w_1 w_239 w_241 sel_RW_ownBook ry_RW_ownBook (x_recv X hP (by omega) (rh0) rfl) (ct_pre X hP hD (fr_lt 66 66 0 (by omega)) (fr_inj 66 0)) ct_blind hl.1 (Nat.le_of_ble_eq_true rfl) dRW_race_8 ⟨Nat.zero_le _, Nat.zero_le _⟩) hD hP hS (fr_lt 66 66 0 (by omega)) (fr_inj 66 0) (fun H locs hD hP hS => ?_)
      refine g_RW_171 X hP (by omega) (c0) rfl dRW_race_11 ?_
      refine lv_iload_n hx hb dRW_race_14 rfl (lv_at hl 1 rfl) ?_
      refine q_iald j X hP (by omega) (c1) (rfl) (by omega) (by decide) dRW_race_15 ?_
      refine lv_goto (tgt := 20) hx hb dRW_race_16 rfl ?_
      exact q_iret X hlk hr hP hS dRW_race_20 (⟨_, rfl, rfl, trivial⟩)
set_option maxHeartbeats 4000000 in
set_option maxRecDepth 100000 in
theorem g_RW_partner (l : Launch) (D : va_G) (tc : Nat → ClassId) (ad : Nat → Nat) (E : Nat → va_E) (st cs : Int32) (sz : Nat → Nat) (fo fa fb : Nat → Nat → Int32) (p1 : Int32) (hI : RI tc ad E st cs sz fo fa fb) : Ct l D tc yRW_partner 2 66 ad E [.ref (ad 0), .int p1] (fun o E2 => ∃ r : Int32, o = .returned (some (.int r)) ∧ E2 = E ∧ True) := by
  refine Ct.ofW (cc := cRW_partner) (maxL := 2) (ret := (some .int)) (own := R_RW) (by decide) rfl w_250 (Nat.le_of_ble_eq_true rfl) ?_
  intro p e s m args below meth c ls X hlk hr hD hP hS hl
  have hx := X.1
  have hb := X.2.1
  have hl : lv_has ls 2 [(0, .ref (ad 0)), (1, .int p1)] := hl
  have hI0 := hI
  obtain ⟨hR, hpg, hwk, hlo, hck, ⟨cn, hcn, ⟨fc, fk, ⟨tt0, tt1, tt2⟩, hfc⟩, ⟨fr, fp, fw, fd, ⟨b0, b1, b2, b3, b4⟩, hfw, hfd⟩, ⟨cr, cp, cw, cd, ⟨c0, c1, c2, c3, c4⟩, hcw, hcd⟩⟩, hok, hnb⟩ := hI
  have hR0 := hR
  obtain ⟨rh0, ⟨ra1, rh1, rx1⟩, ⟨ra2, rh2, rx2⟩, ⟨ra3, rh3, rx3⟩, ⟨ra4, rh4, rx4⟩⟩ := hR
  by_cases hcs : cs = 0
  · refine lv_iload_n hx hb dRW_partner_0 rfl (lv_at hl 1 rfl) ?_
    refine x_iE (f := fun k => 0 + k) (x_runS (As := [.int p1]) (rest := []) X (c_RW_isVariable l D tc (fun k => ad (0 + k)) (fun k => E (0 + k)) p1) rfl rfl (by decide) (by decide) w_167 w_1 w_165 w_166 ry_RW_isVariable (ct_pre X hP hD (fr_lt 0 66 0 (by omega)) (fr_inj 0 0)) ct_blind hl.1 (Nat.le_of_ble_eq_true rfl) dRW_partner_1 ⟨Nat.zero_le _, Nat.zero_le _⟩) hD hP hS (fr_lt 0 66 0 (by omega)) (fr_inj 0 0) (fun H locs hD hP hS => ?_)
    refine lv_if_eq (tgt := 19) hx hb dRW_partner_4 rfl (fun h4 => ?_) (fun h4 => ?_)
    · refine lv_iconst (v := (-1)) hx hb dRW_partner_19 (by decide) ?_
      exact q_iret X hlk hr hP hS dRW_partner_20 (⟨_, rfl, rfl, trivial⟩)
    · obtain ⟨j, hj, rfl⟩ := wi_of (n := 8) (by decide) (bi_t h4)
      refine lv_aload_n hx hb dRW_partner_7 rfl (lv_at hl 0 rfl) ?_
      refine x_rE (v := ad 56) (f := fun k => 0 + k) (x_runV (C := R_RW) (As := []) (rest := []) X (by have h := c_RW_ownBook l D tc (fun k => ad (0 + k)) (fun k => E (0 + k)) st cs (by simpa only [Nat.zero_add] using hR0); rw [if_pos hcs] at h; exact h) rfl rfl (by decide) (by decide) w_242 w_1 w_239 w_241 sel_RW_ownBook ry_RW_ownBook (x_recv X hP (by omega) (rh0) rfl) (ct_pre X hP hD (fr_lt 66 66 0 (by omega)) (fr_inj 66 0)) ct_blind hl.1 (Nat.le_of_ble_eq_true rfl) dRW_partner_8 ⟨Nat.zero_le _, Nat.zero_le _⟩) hD hP hS (fr_lt 66 66 0 (by omega)) (fr_inj 66 0) (fun H locs hD hP hS => ?_)
      refine g_RW_174 X hP (by omega) (b0) rfl dRW_partner_11 ?_
      refine lv_iload_n hx hb dRW_partner_14 rfl (lv_at hl 1 rfl) ?_
      refine q_iald j X hP (by omega) (b2) (rfl) (by omega) (by decide) dRW_partner_15 ?_
      refine lv_goto (tgt := 20) hx hb dRW_partner_16 rfl ?_
      exact q_iret X hlk hr hP hS dRW_partner_20 (⟨_, rfl, rfl, trivial⟩)
  · refine lv_iload_n hx hb dRW_partner_0 rfl (lv_at hl 1 rfl) ?_
    refine x_iE (f := fun k => 0 + k) (x_runS (As := [.int p1]) (rest := []) X (c_RW_isVariable l D tc (fun k => ad (0 + k)) (fun k => E (0 + k)) p1) rfl rfl (by decide) (by decide) w_167 w_1 w_165 w_166 ry_RW_isVariable (ct_pre X hP hD (fr_lt 0 66 0 (by omega)) (fr_inj 0 0)) ct_blind hl.1 (Nat.le_of_ble_eq_true rfl) dRW_partner_1 ⟨Nat.zero_le _, Nat.zero_le _⟩) hD hP hS (fr_lt 0 66 0 (by omega)) (fr_inj 0 0) (fun H locs hD hP hS => ?_)
    refine lv_if_eq (tgt := 19) hx hb dRW_partner_4 rfl (fun h4 => ?_) (fun h4 => ?_)
    · refine lv_iconst (v := (-1)) hx hb dRW_partner_19 (by decide) ?_
      exact q_iret X hlk hr hP hS dRW_partner_20 (⟨_, rfl, rfl, trivial⟩)
    · obtain ⟨j, hj, rfl⟩ := wi_of (n := 8) (by decide) (bi_t h4)
      refine lv_aload_n hx hb dRW_partner_7 rfl (lv_at hl 0 rfl) ?_
      refine x_rE (v := ad 61) (f := fun k => 0 + k) (x_runV (C := R_RW) (As := []) (rest := []) X (by have h := c_RW_ownBook l D tc (fun k => ad (0 + k)) (fun k => E (0 + k)) st cs (by simpa only [Nat.zero_add] using hR0); rw [if_neg hcs] at h; exact h) rfl rfl (by decide) (by decide) w_242 w_1 w_239 w_241 sel_RW_ownBook ry_RW_ownBook (x_recv X hP (by omega) (rh0) rfl) (ct_pre X hP hD (fr_lt 66 66 0 (by omega)) (fr_inj 66 0)) ct_blind hl.1 (Nat.le_of_ble_eq_true rfl) dRW_partner_8 ⟨Nat.zero_le _, Nat.zero_le _⟩) hD hP hS (fr_lt 66 66 0 (by omega)) (fr_inj 66 0) (fun H locs hD hP hS => ?_)
      refine g_RW_174 X hP (by omega) (c0) rfl dRW_partner_11 ?_
      refine lv_iload_n hx hb dRW_partner_14 rfl (lv_at hl 1 rfl) ?_
      refine q_iald j X hP (by omega) (c2) (rfl) (by omega) (by decide) dRW_partner_15 ?_
      refine lv_goto (tgt := 20) hx hb dRW_partner_16 rfl ?_
      exact q_iret X hlk hr hP hS dRW_partner_20 (⟨_, rfl, rfl, trivial⟩)
set_option maxHeartbeats 4000000 in
set_option maxRecDepth 100000 in
theorem g_RW_races (l : Launch) (D : va_G) (tc : Nat → ClassId) (ad : Nat → Nat) (E : Nat → va_E) (st cs : Int32) (sz : Nat → Nat) (fo fa fb : Nat → Nat → Int32) (hI : RI tc ad E st cs sz fo fa fb) : Ct l D tc yRW_races 2 66 ad E [.ref (ad 0)] (fun o E2 => ∃ r : Int32, o = .returned (some (.int r)) ∧ E2 = E ∧ True) := by
  refine Ct.ofW (cc := cRW_races) (maxL := 1) (ret := (some .int)) (own := R_RW) (by decide) rfl w_254 (Nat.le_of_ble_eq_true rfl) ?_
  intro p e s m args below meth c ls X hlk hr hD hP hS hl
  have hx := X.1
  have hb := X.2.1
  have hl : lv_has ls 1 [(0, .ref (ad 0))] := hl
  have hI0 := hI
  obtain ⟨hR, hpg, hwk, hlo, hck, ⟨cn, hcn, ⟨fc, fk, ⟨tt0, tt1, tt2⟩, hfc⟩, ⟨fr, fp, fw, fd, ⟨b0, b1, b2, b3, b4⟩, hfw, hfd⟩, ⟨cr, cp, cw, cd, ⟨c0, c1, c2, c3, c4⟩, hcw, hcd⟩⟩, hok, hnb⟩ := hI
  have hR0 := hR
  obtain ⟨rh0, ⟨ra1, rh1, rx1⟩, ⟨ra2, rh2, rx2⟩, ⟨ra3, rh3, rx3⟩, ⟨ra4, rh4, rx4⟩⟩ := hR
  by_cases hcs : cs = 0
  · refine lv_aload_n hx hb dRW_races_0 rfl (lv_at hl 0 rfl) ?_
    refine x_rE (v := ad 56) (f := fun k => 0 + k) (x_runV (C := R_RW) (As := []) (rest := []) X (by have h := c_RW_ownBook l D tc (fun k => ad (0 + k)) (fun k => E (0 + k)) st cs (by simpa only [Nat.zero_add] using hR0); rw [if_pos hcs] at h; exact h) rfl rfl (by decide) (by decide) w_242 w_1 w_239 w_241 sel_RW_ownBook ry_RW_ownBook (x_recv X hP (by omega) (rh0) rfl) (ct_pre X hP hD (fr_lt 66 66 0 (by omega)) (fr_inj 66 0)) ct_blind hl.1 (Nat.le_of_ble_eq_true rfl) dRW_races_1 ⟨Nat.zero_le _, Nat.zero_le _⟩) hD hP hS (fr_lt 66 66 0 (by omega)) (fr_inj 66 0) (fun H locs hD hP hS => ?_)
    refine lv_aload_n hx hb dRW_races_4 rfl (lv_at hl 0 rfl) ?_
    refine g_RW_40 X hP (by omega) (rh0) rfl dRW_races_5 ?_
    refine g_RW_152 X hP (by omega) (tt0) rfl dRW_races_8 ?_
    refine x_iX (f := fun k => 56 + k) (x_runVN (C := R_BK) (As := [.int (nI cn)]) (rest := []) X (c_BK_placesWithin l D tc (fun k => ad (56 + k)) (fun k => E (56 + k)) fr _ _ _ (nI cn) b0 b1) rfl rfl (by decide) (by decide) w_258 w_7 w_255 w_257 sel_BK_placesWithin ry_BK_placesWithin (x_recv X hP (by omega) (b0) rfl) (ct_pre X hP hD (fr_lt 5 66 56 (by omega)) (fr_inj 5 56)) ct_blind hl.1 (Nat.le_of_ble_eq_true rfl) dRW_races_11 ⟨Nat.zero_le _, Nat.zero_le _⟩) hD hP hS (fr_lt 5 66 56 (by omega)) (fr_inj 5 56) (fun z H locs hz hD hP hS => ?_)
    refine x_iX (f := fun k => 0 + k) (x_runS (As := [.int z]) (rest := []) X (c_IN_bitCount l D tc (fun k => ad (0 + k)) (fun k => E (0 + k)) z) rfl rfl (by decide) (by decide) w_261 w_19 w_259 w_260 ry_IN_bitCount (ct_pre X hP hD (fr_lt 0 66 0 (by omega)) (fr_inj 0 0)) ct_blind hl.1 (Nat.le_of_ble_eq_true rfl) dRW_races_14 ⟨Nat.zero_le _, Nat.zero_le _⟩) hD hP hS (fr_lt 0 66 0 (by omega)) (fr_inj 0 0) (fun y H locs hy hD hP hS => ?_)
    exact q_iret X hlk hr hP hS dRW_races_17 (⟨_, rfl, rfl, trivial⟩)
  · refine lv_aload_n hx hb dRW_races_0 rfl (lv_at hl 0 rfl) ?_
    refine x_rE (v := ad 61) (f := fun k => 0 + k) (x_runV (C := R_RW) (As := []) (rest := []) X (by have h := c_RW_ownBook l D tc (fun k => ad (0 + k)) (fun k => E (0 + k)) st cs (by simpa only [Nat.zero_add] using hR0); rw [if_neg hcs] at h; exact h) rfl rfl (by decide) (by decide) w_242 w_1 w_239 w_241 sel_RW_ownBook ry_RW_ownBook (x_recv X hP (by omega) (rh0) rfl) (ct_pre X hP hD (fr_lt 66 66 0 (by omega)) (fr_inj 66 0)) ct_blind hl.1 (Nat.le_of_ble_eq_true rfl) dRW_races_1 ⟨Nat.zero_le _, Nat.zero_le _⟩) hD hP hS (fr_lt 66 66 0 (by omega)) (fr_inj 66 0) (fun H locs hD hP hS => ?_)
    refine lv_aload_n hx hb dRW_races_4 rfl (lv_at hl 0 rfl) ?_
    refine g_RW_40 X hP (by omega) (rh0) rfl dRW_races_5 ?_
    refine g_RW_152 X hP (by omega) (tt0) rfl dRW_races_8 ?_
    refine x_iX (f := fun k => 61 + k) (x_runVN (C := R_BK) (As := [.int (nI cn)]) (rest := []) X (c_BK_placesWithin l D tc (fun k => ad (61 + k)) (fun k => E (61 + k)) cr _ _ _ (nI cn) c0 c1) rfl rfl (by decide) (by decide) w_258 w_7 w_255 w_257 sel_BK_placesWithin ry_BK_placesWithin (x_recv X hP (by omega) (c0) rfl) (ct_pre X hP hD (fr_lt 5 66 61 (by omega)) (fr_inj 5 61)) ct_blind hl.1 (Nat.le_of_ble_eq_true rfl) dRW_races_11 ⟨Nat.zero_le _, Nat.zero_le _⟩) hD hP hS (fr_lt 5 66 61 (by omega)) (fr_inj 5 61) (fun z H locs hz hD hP hS => ?_)
    refine x_iX (f := fun k => 0 + k) (x_runS (As := [.int z]) (rest := []) X (c_IN_bitCount l D tc (fun k => ad (0 + k)) (fun k => E (0 + k)) z) rfl rfl (by decide) (by decide) w_261 w_19 w_259 w_260 ry_IN_bitCount (ct_pre X hP hD (fr_lt 0 66 0 (by omega)) (fr_inj 0 0)) ct_blind hl.1 (Nat.le_of_ble_eq_true rfl) dRW_races_14 ⟨Nat.zero_le _, Nat.zero_le _⟩) hD hP hS (fr_lt 0 66 0 (by omega)) (fr_inj 0 0) (fun y H locs hy hD hP hS => ?_)
    exact q_iret X hlk hr hP hS dRW_races_17 (⟨_, rfl, rfl, trivial⟩)
set_option maxHeartbeats 4000000 in
set_option maxRecDepth 100000 in
theorem g_RW_again (l : Launch) (D : va_G) (tc : Nat → ClassId) (ad : Nat → Nat) (E : Nat → va_E) (st cs : Int32) (sz : Nat → Nat) (fo fa fb : Nat → Nat → Int32) (k cb : Int32) (hI : RI tc ad E st cs sz fo fa fb) : Ct l D tc yRW_again 2 66 ad E [.ref (ad 0), .int k, .int cb] (fun o E2 => ∃ r : Int32, o = .returned (some (.int r)) ∧ E2 = E ∧ True) := by
  refine Ct.ofW (cc := cRW_again) (maxL := 3) (ret := (some .int)) (own := R_RW) (by decide) rfl w_268 (Nat.le_of_ble_eq_true rfl) ?_
  intro p e s m args below meth c ls X hlk hr hD hP hS hl
  have hx := X.1
  have hb := X.2.1
  have hl : lv_has ls 3 [(0, .ref (ad 0)), (1, .int k), (2, .int cb)] := hl
  have hI0 := hI
  obtain ⟨hR, hpg, hwk, hlo, hck, ⟨cn, hcn, ⟨fc, fk, ⟨tt0, tt1, tt2⟩, hfc⟩, ⟨fr, fp, fw, fd, ⟨b0, b1, b2, b3, b4⟩, hfw, hfd⟩, ⟨cr, cp, cw, cd, ⟨c0, c1, c2, c3, c4⟩, hcw, hcd⟩⟩, hok, hnb⟩ := hI
  have hR0 := hR
  obtain ⟨rh0, ⟨ra1, rh1, rx1⟩, ⟨ra2, rh2, rx2⟩, ⟨ra3, rh3, rx3⟩, ⟨ra4, rh4, rx4⟩⟩ := hR
  by_cases hcs : cb = 0
  · refine lv_iload_n hx hb dRW_again_0 rfl (lv_at hl 1 rfl) ?_
    refine lv_if_lt (tgt := 15) hx hb dRW_again_1 rfl (fun h1 => ?_) (fun h1 => ?_)
    · refine lv_iconst (v := (-1)) hx hb dRW_again_15 (by decide) ?_
      exact q_iret X hlk hr hP hS dRW_again_16 (⟨_, rfl, rfl, trivial⟩)
    · refine lv_iload_n hx hb dRW_again_4 rfl (lv_at hl 1 rfl) ?_
      refine lv_aload_n hx hb dRW_again_5 rfl (lv_at hl 0 rfl) ?_
      refine g_RW_40 X hP (by omega) (rh0) rfl dRW_again_6 ?_
      refine g_RW_152 X hP (by omega) (tt0) rfl dRW_again_9 ?_
      refine lv_icmp_le (tgt := 17) hx hb dRW_again_12 rfl (fun h12 => ?_) (fun h12 => ?_)
      · refine lv_aload_n hx hb dRW_again_17 rfl (lv_at hl 0 rfl) ?_
        refine lv_iload_n hx hb dRW_again_18 rfl (lv_at hl 2 rfl) ?_
        refine x_rE (v := ad 56) (f := fun k => 0 + k) (x_runV (C := R_RW) (As := [.int cb]) (rest := []) X (by have h := c_RW_bookOf l D tc (fun k => ad (0 + k)) (fun k => E (0 + k)) st cs cb (by simpa only [Nat.zero_add] using hR0); rw [if_pos hcs] at h; exact h) rfl rfl (by decide) (by decide) w_246 w_1 w_243 w_245 sel_RW_bookOf ry_RW_bookOf (x_recv X hP (by omega) (rh0) rfl) (ct_pre X hP hD (fr_lt 66 66 0 (by omega)) (fr_inj 66 0)) ct_blind hl.1 (Nat.le_of_ble_eq_true rfl) dRW_again_19 ⟨Nat.zero_le _, Nat.zero_le _⟩) hD hP hS (fr_lt 66 66 0 (by omega)) (fr_inj 66 0) (fun H locs hD hP hS => ?_)
        refine lv_iload_n hx hb dRW_again_22 rfl (lv_at hl 1 rfl) ?_
        refine x_iX (f := fun k => 56 + k) (x_runVN (C := R_BK) (As := [.int k]) (rest := []) X (c_BK_placesWithin l D tc (fun k => ad (56 + k)) (fun k => E (56 + k)) fr _ _ _ k b0 b1) rfl rfl (by decide) (by decide) w_258 w_7 w_255 w_257 sel_BK_placesWithin ry_BK_placesWithin (x_recv X hP (by omega) (b0) rfl) (ct_pre X hP hD (fr_lt 5 66 56 (by omega)) (fr_inj 5 56)) ct_blind hl.1 (Nat.le_of_ble_eq_true rfl) dRW_again_23 ⟨Nat.zero_le _, Nat.zero_le _⟩) hD hP hS (fr_lt 5 66 56 (by omega)) (fr_inj 5 56) (fun z H locs hz hD hP hS => ?_)
        exact q_iret X hlk hr hP hS dRW_again_26 (⟨_, rfl, rfl, trivial⟩)
      · refine lv_iconst (v := (-1)) hx hb dRW_again_15 (by decide) ?_
        exact q_iret X hlk hr hP hS dRW_again_16 (⟨_, rfl, rfl, trivial⟩)
  · refine lv_iload_n hx hb dRW_again_0 rfl (lv_at hl 1 rfl) ?_
    refine lv_if_lt (tgt := 15) hx hb dRW_again_1 rfl (fun h1 => ?_) (fun h1 => ?_)
    · refine lv_iconst (v := (-1)) hx hb dRW_again_15 (by decide) ?_
      exact q_iret X hlk hr hP hS dRW_again_16 (⟨_, rfl, rfl, trivial⟩)
    · refine lv_iload_n hx hb dRW_again_4 rfl (lv_at hl 1 rfl) ?_
      refine lv_aload_n hx hb dRW_again_5 rfl (lv_at hl 0 rfl) ?_
      refine g_RW_40 X hP (by omega) (rh0) rfl dRW_again_6 ?_
      refine g_RW_152 X hP (by omega) (tt0) rfl dRW_again_9 ?_
      refine lv_icmp_le (tgt := 17) hx hb dRW_again_12 rfl (fun h12 => ?_) (fun h12 => ?_)
      · refine lv_aload_n hx hb dRW_again_17 rfl (lv_at hl 0 rfl) ?_
        refine lv_iload_n hx hb dRW_again_18 rfl (lv_at hl 2 rfl) ?_
        refine x_rE (v := ad 61) (f := fun k => 0 + k) (x_runV (C := R_RW) (As := [.int cb]) (rest := []) X (by have h := c_RW_bookOf l D tc (fun k => ad (0 + k)) (fun k => E (0 + k)) st cs cb (by simpa only [Nat.zero_add] using hR0); rw [if_neg hcs] at h; exact h) rfl rfl (by decide) (by decide) w_246 w_1 w_243 w_245 sel_RW_bookOf ry_RW_bookOf (x_recv X hP (by omega) (rh0) rfl) (ct_pre X hP hD (fr_lt 66 66 0 (by omega)) (fr_inj 66 0)) ct_blind hl.1 (Nat.le_of_ble_eq_true rfl) dRW_again_19 ⟨Nat.zero_le _, Nat.zero_le _⟩) hD hP hS (fr_lt 66 66 0 (by omega)) (fr_inj 66 0) (fun H locs hD hP hS => ?_)
        refine lv_iload_n hx hb dRW_again_22 rfl (lv_at hl 1 rfl) ?_
        refine x_iX (f := fun k => 61 + k) (x_runVN (C := R_BK) (As := [.int k]) (rest := []) X (c_BK_placesWithin l D tc (fun k => ad (61 + k)) (fun k => E (61 + k)) cr _ _ _ k c0 c1) rfl rfl (by decide) (by decide) w_258 w_7 w_255 w_257 sel_BK_placesWithin ry_BK_placesWithin (x_recv X hP (by omega) (c0) rfl) (ct_pre X hP hD (fr_lt 5 66 61 (by omega)) (fr_inj 5 61)) ct_blind hl.1 (Nat.le_of_ble_eq_true rfl) dRW_again_23 ⟨Nat.zero_le _, Nat.zero_le _⟩) hD hP hS (fr_lt 5 66 61 (by omega)) (fr_inj 5 61) (fun z H locs hz hD hP hS => ?_)
        exact q_iret X hlk hr hP hS dRW_again_26 (⟨_, rfl, rfl, trivial⟩)
      · refine lv_iconst (v := (-1)) hx hb dRW_again_15 (by decide) ?_
        exact q_iret X hlk hr hP hS dRW_again_16 (⟨_, rfl, rfl, trivial⟩)
