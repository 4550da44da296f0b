theorem dRW_isInfeasible_0 : decode cRW_isInfeasible 0 = .ok (.iload_n 2, 1) := by decide +kernel
theorem dRW_isInfeasible_1 : decode cRW_isInfeasible 1 = .ok (.tableswitch 90 3 7 #[35, 90, 90, 54, 72], 35) := by decide +kernel
theorem dRW_isInfeasible_36 : decode cRW_isInfeasible 36 = .ok (.aload_n 0, 1) := by decide +kernel
theorem dRW_isInfeasible_37 : decode cRW_isInfeasible 37 = .ok (.getfield 25, 3) := by decide +kernel
theorem dRW_isInfeasible_40 : decode cRW_isInfeasible 40 = .ok (.iload_n 3, 1) := by decide +kernel
theorem dRW_isInfeasible_41 : decode cRW_isInfeasible 41 = .ok (.aaload, 1) := by decide +kernel
theorem dRW_isInfeasible_42 : decode cRW_isInfeasible 42 = .ok (.iload_n 1, 1) := by decide +kernel
theorem dRW_isInfeasible_43 : decode cRW_isInfeasible 43 = .ok (.invokevirtual 199, 3) := by decide +kernel
theorem dRW_isInfeasible_46 : decode cRW_isInfeasible 46 = .ok (.ifCond .ne 7, 3) := by decide +kernel
theorem dRW_isInfeasible_49 : decode cRW_isInfeasible 49 = .ok (.iconst 1, 1) := by decide +kernel
theorem dRW_isInfeasible_50 : decode cRW_isInfeasible 50 = .ok (.goto 4, 3) := by decide +kernel
theorem dRW_isInfeasible_53 : decode cRW_isInfeasible 53 = .ok (.iconst 0, 1) := by decide +kernel
theorem dRW_isInfeasible_54 : decode cRW_isInfeasible 54 = .ok (.ireturn, 1) := by decide +kernel
theorem dRW_isInfeasible_55 : decode cRW_isInfeasible 55 = .ok (.aload_n 0, 1) := by decide +kernel
theorem dRW_isInfeasible_56 : decode cRW_isInfeasible 56 = .ok (.getfield 17, 3) := by decide +kernel
theorem dRW_isInfeasible_59 : decode cRW_isInfeasible 59 = .ok (.iload_n 3, 1) := by decide +kernel
theorem dRW_isInfeasible_60 : decode cRW_isInfeasible 60 = .ok (.aaload, 1) := by decide +kernel
theorem dRW_isInfeasible_61 : decode cRW_isInfeasible 61 = .ok (.getfield 94, 3) := by decide +kernel
theorem dRW_isInfeasible_64 : decode cRW_isInfeasible 64 = .ok (.ifCond .eq 7, 3) := by decide +kernel
theorem dRW_isInfeasible_67 : decode cRW_isInfeasible 67 = .ok (.iconst 1, 1) := by decide +kernel
theorem dRW_isInfeasible_68 : decode cRW_isInfeasible 68 = .ok (.goto 4, 3) := by decide +kernel
theorem dRW_isInfeasible_71 : decode cRW_isInfeasible 71 = .ok (.iconst 0, 1) := by decide +kernel
theorem dRW_isInfeasible_72 : decode cRW_isInfeasible 72 = .ok (.ireturn, 1) := by decide +kernel
theorem dRW_isInfeasible_73 : decode cRW_isInfeasible 73 = .ok (.aload_n 0, 1) := by decide +kernel
theorem dRW_isInfeasible_74 : decode cRW_isInfeasible 74 = .ok (.getfield 17, 3) := by decide +kernel
theorem dRW_isInfeasible_77 : decode cRW_isInfeasible 77 = .ok (.iload_n 3, 1) := by decide +kernel
theorem dRW_isInfeasible_78 : decode cRW_isInfeasible 78 = .ok (.aaload, 1) := by decide +kernel
theorem dRW_isInfeasible_79 : decode cRW_isInfeasible 79 = .ok (.getfield 94, 3) := by decide +kernel
theorem dRW_isInfeasible_82 : decode cRW_isInfeasible 82 = .ok (.ifCond .ne 7, 3) := by decide +kernel
theorem dRW_isInfeasible_85 : decode cRW_isInfeasible 85 = .ok (.iconst 1, 1) := by decide +kernel
theorem dRW_isInfeasible_86 : decode cRW_isInfeasible 86 = .ok (.goto 4, 3) := by decide +kernel
theorem dRW_isInfeasible_89 : decode cRW_isInfeasible 89 = .ok (.iconst 0, 1) := by decide +kernel
theorem dRW_isInfeasible_90 : decode cRW_isInfeasible 90 = .ok (.ireturn, 1) := by decide +kernel
theorem dRW_isInfeasible_91 : decode cRW_isInfeasible 91 = .ok (.iconst 0, 1) := by decide +kernel
theorem dRW_isInfeasible_92 : decode cRW_isInfeasible 92 = .ok (.ireturn, 1) := by decide +kernel
theorem dRW_mustWait_0 : decode cRW_mustWait 0 = .ok (.iload_n 2, 1) := by decide +kernel
theorem dRW_mustWait_1 : decode cRW_mustWait 1 = .ok (.lookupswitch 77 #[(2, 27), (7, 58)], 27) := by decide +kernel
theorem dRW_mustWait_28 : decode cRW_mustWait 28 = .ok (.aload_n 0, 1) := by decide +kernel
theorem dRW_mustWait_29 : decode cRW_mustWait 29 = .ok (.getfield 25, 3) := by decide +kernel
theorem dRW_mustWait_32 : decode cRW_mustWait 32 = .ok (.iload_n 3, 1) := by decide +kernel
theorem dRW_mustWait_33 : decode cRW_mustWait 33 = .ok (.aaload, 1) := by decide +kernel
theorem dRW_mustWait_34 : decode cRW_mustWait 34 = .ok (.getfield 146, 3) := by decide +kernel
theorem dRW_mustWait_37 : decode cRW_mustWait 37 = .ok (.ifCond .le 20, 3) := by decide +kernel
theorem dRW_mustWait_40 : decode cRW_mustWait 40 = .ok (.aload_n 0, 1) := by decide +kernel
theorem dRW_mustWait_41 : decode cRW_mustWait 41 = .ok (.getfield 25, 3) := by decide +kernel
theorem dRW_mustWait_44 : decode cRW_mustWait 44 = .ok (.iload_n 3, 1) := by decide +kernel
theorem dRW_mustWait_45 : decode cRW_mustWait 45 = .ok (.aaload, 1) := by decide +kernel
theorem dRW_mustWait_46 : decode cRW_mustWait 46 = .ok (.iload_n 1, 1) := by decide +kernel
theorem dRW_mustWait_47 : decode cRW_mustWait 47 = .ok (.invokevirtual 199, 3) := by decide +kernel
theorem dRW_mustWait_50 : decode cRW_mustWait 50 = .ok (.ifCond .ne 7, 3) := by decide +kernel
theorem dRW_mustWait_53 : decode cRW_mustWait 53 = .ok (.iconst 1, 1) := by decide +kernel
theorem dRW_mustWait_54 : decode cRW_mustWait 54 = .ok (.goto 4, 3) := by decide +kernel
theorem dRW_mustWait_57 : decode cRW_mustWait 57 = .ok (.iconst 0, 1) := by decide +kernel
theorem dRW_mustWait_58 : decode cRW_mustWait 58 = .ok (.ireturn, 1) := by decide +kernel
theorem dRW_mustWait_59 : decode cRW_mustWait 59 = .ok (.aload_n 0, 1) := by decide +kernel
theorem dRW_mustWait_60 : decode cRW_mustWait 60 = .ok (.getfield 17, 3) := by decide +kernel
theorem dRW_mustWait_63 : decode cRW_mustWait 63 = .ok (.iload_n 3, 1) := by decide +kernel
theorem dRW_mustWait_64 : decode cRW_mustWait 64 = .ok (.aaload, 1) := by decide +kernel
theorem dRW_mustWait_65 : decode cRW_mustWait 65 = .ok (.getfield 94, 3) := by decide +kernel
theorem dRW_mustWait_68 : decode cRW_mustWait 68 = .ok (.iconst 2, 1) := by decide +kernel
theorem dRW_mustWait_69 : decode cRW_mustWait 69 = .ok (.if_icmp .eq 7, 3) := by decide +kernel
theorem dRW_mustWait_72 : decode cRW_mustWait 72 = .ok (.iconst 1, 1) := by decide +kernel
theorem dRW_mustWait_73 : decode cRW_mustWait 73 = .ok (.goto 4, 3) := by decide +kernel
theorem dRW_mustWait_76 : decode cRW_mustWait 76 = .ok (.iconst 0, 1) := by decide +kernel
theorem dRW_mustWait_77 : decode cRW_mustWait 77 = .ok (.ireturn, 1) := by decide +kernel
theorem dRW_mustWait_78 : decode cRW_mustWait 78 = .ok (.iconst 0, 1) := by decide +kernel
theorem dRW_mustWait_79 : decode cRW_mustWait 79 = .ok (.ireturn, 1) := by decide +kernel
theorem dRW_instructions_0 : decode cRW_instructions 0 = .ok (.iconst 0, 1) := by decide +kernel
theorem dRW_instructions_1 : decode cRW_instructions 1 = .ok (.istore_n 1, 1) := by decide +kernel
theorem dRW_instructions_2 : decode cRW_instructions 2 = .ok (.iconst 0, 1) := by decide +kernel
theorem dRW_instructions_3 : decode cRW_instructions 3 = .ok (.istore_n 2, 1) := by decide +kernel
theorem dRW_instructions_4 : decode cRW_instructions 4 = .ok (.iload_n 2, 1) := by decide +kernel
theorem dRW_instructions_5 : decode cRW_instructions 5 = .ok (.iconst 5, 1) := by decide +kernel
theorem dRW_instructions_6 : decode cRW_instructions 6 = .ok (.if_icmp .ge 21, 3) := by decide +kernel
theorem dRW_instructions_9 : decode cRW_instructions 9 = .ok (.iload_n 1, 1) := by decide +kernel
theorem dRW_instructions_10 : decode cRW_instructions 10 = .ok (.aload_n 0, 1) := by decide +kernel
theorem dRW_instructions_11 : decode cRW_instructions 11 = .ok (.getfield 11, 3) := by decide +kernel
theorem dRW_instructions_14 : decode cRW_instructions 14 = .ok (.iload_n 2, 1) := by decide +kernel
theorem dRW_instructions_15 : decode cRW_instructions 15 = .ok (.aaload, 1) := by decide +kernel
theorem dRW_instructions_16 : decode cRW_instructions 16 = .ok (.getfield 196, 3) := by decide +kernel
theorem dRW_instructions_19 : decode cRW_instructions 19 = .ok (.iadd, 1) := by decide +kernel
theorem dRW_instructions_20 : decode cRW_instructions 20 = .ok (.istore_n 1, 1) := by decide +kernel
theorem dRW_instructions_21 : decode cRW_instructions 21 = .ok (.iinc 2 1, 3) := by decide +kernel
theorem dRW_instructions_24 : decode cRW_instructions 24 = .ok (.goto (-20), 3) := by decide +kernel
theorem dRW_instructions_27 : decode cRW_instructions 27 = .ok (.iload_n 1, 1) := by decide +kernel
theorem dRW_instructions_28 : decode cRW_instructions 28 = .ok (.ireturn, 1) := by decide +kernel
set_option maxHeartbeats 4000000 in
set_option maxRecDepth 100000 in
theorem g_RW_isInfeasible (l : Launch) (D : va_G) (tc : Nat → ClassId) (ad : Nat → Nat) (E : Nat → va_E) (st cs : Int32) (sz : Nat → Nat) (fo fa fb : Nat → Nat → Int32) (t op a : Int32) (hI : RI tc ad E st cs sz fo fa fb) (hop : wi op 13 = true) (hna : nmd op a = true) : Ct0 l D tc yRW_isInfeasible 1 66 ad E [.ref (ad 0), .int t, .int op, .int a] (fun o E2 => ∃ r : Int32, o = .returned (some (.int r)) ∧ E2 = E ∧ True) := by
  refine Ct0.ofW (cc := cRW_isInfeasible) (maxL := 4) (ret := (some .boolean)) (own := R_RW) (by decide) rfl w_394 (Nat.le_of_ble_eq_true rfl) ?_
  intro p e s m args below meth c ls X hlk hr hD hP hS hl
  have hx := X.1
  have hb := X.2.1
  have hl : lv_has ls 4 [(0, .ref (ad 0)), (1, .int t), (2, .int op), (3, .int a)] := hl
  have hI0 := hI
  obtain ⟨hR, hpg, hwk, hlo, hck, ⟨cn, hcn, ⟨fc, fk, ⟨tt0, tt1, tt2⟩, hfc⟩, ⟨fr, fp, fw, fd, ⟨b0, b1, b2, b3, b4⟩, hfw, hfd⟩, ⟨cr, cp, cw, cd, ⟨c0, c1, c2, c3, c4⟩, hcw, hcd⟩⟩, hok, hnb⟩ := hI
  have hR0 := hR
  obtain ⟨rh0, ⟨ra1, rh1, rx1⟩, ⟨ra2, rh2, rx2⟩, ⟨ra3, rh3, rx3⟩, ⟨ra4, rh4, rx4⟩⟩ := hR
  refine lv_iload_n hx hb dRW_isInfeasible_0 rfl (lv_at hl 2 rfl) ?_
  obtain ⟨n9, hn9, rfl⟩ := wi_of (n := 13) (by decide) hop
  rcases (by omega : n9 = 0 ∨ n9 = 1 ∨ n9 = 2 ∨ n9 = 3 ∨ n9 = 4 ∨ n9 = 5 ∨ n9 = 6 ∨ n9 = 7 ∨ n9 = 8 ∨ n9 = 9 ∨ n9 = 10 ∨ n9 = 11 ∨ n9 = 12) with rfl | rfl | rfl | rfl | rfl | rfl | rfl | rfl | rfl | rfl | rfl | rfl | rfl
  · refine lv_tableOut (tgt := 91) hx hb dRW_isInfeasible_1 (by decide) rfl ?_
    refine lv_iconst (v := 0) hx hb dRW_isInfeasible_91 (by decide) ?_
    exact q_zret0 X hlk hr (by decide) hP hS dRW_isInfeasible_92 (⟨_, rfl, rfl, trivial⟩)
  · refine lv_tableOut (tgt := 91) hx hb dRW_isInfeasible_1 (by decide) rfl ?_
    refine lv_iconst (v := 0) hx hb dRW_isInfeasible_91 (by decide) ?_
    exact q_zret0 X hlk hr (by decide) hP hS dRW_isInfeasible_92 (⟨_, rfl, rfl, trivial⟩)
  · refine lv_tableOut (tgt := 91) hx hb dRW_isInfeasible_1 (by decide) rfl ?_
    refine lv_iconst (v := 0) hx hb dRW_isInfeasible_91 (by decide) ?_
    exact q_zret0 X hlk hr (by decide) hP hS dRW_isInfeasible_92 (⟨_, rfl, rfl, trivial⟩)
  · refine lv_tableIn (tgt := 36) hx hb dRW_isInfeasible_1 (by decide) (by decide) rfl rfl ?_
    obtain ⟨q, hq, rfl⟩ := wi_of (n := 3) (by decide) (show wi a 3 = true from hna)
    obtain ⟨ow, dp, lk0, lk1, lkf, lk2⟩ := hlo q hq
    refine lv_aload_n hx hb dRW_isInfeasible_36 rfl (lv_at hl 0 rfl) ?_
    refine g_RW_25 X hP (by omega) (rh0) rfl dRW_isInfeasible_37 ?_
    refine lv_iload_n hx hb dRW_isInfeasible_40 rfl (lv_at hl 3 rfl) ?_
    refine q_aald (t0 := 5) q X hP (by omega) (rh3) rfl (rfl) (by omega) (by decide) (rx3 q (by omega)) dRW_isInfeasible_41 ?_
    refine lv_iload_n hx hb dRW_isInfeasible_42 rfl (lv_at hl 1 rfl) ?_
    refine x_iX0 (f := fun k => (39 + 3 * q) + k) (x_runVN (C := R_LK) (As := [.int t]) (rest := []) X (g_LK_isHeldBy l D tc (fun k => ad (39 + 3 * q + k)) (fun k => E (39 + 3 * q + k)) _ ow dp t lk0) rfl rfl (by decide) (by decide) w_398 w_5 w_395 w_397 sel_LK_isHeldBy ry_LK_isHeldBy (x_recv X hP (by omega) (lk0) rfl) (ct_pre X hP hD (fr_lt 3 66 (39 + 3 * q) (by omega)) (fr_inj 3 (39 + 3 * q))) ct_blind hl.1 (Nat.le_of_ble_eq_true rfl) dRW_isInfeasible_43 ⟨Nat.zero_le _, Nat.zero_le _⟩) hD hP hS (fr_lt 3 66 (39 + 3 * q) (by omega)) (fr_inj 3 (39 + 3 * q)) (fun z H hz hD hP hS => ?_)
    refine lv_if_ne (tgt := 53) hx hb dRW_isInfeasible_46 rfl (fun h46 => ?_) (fun h46 => ?_)
    · refine lv_iconst (v := 0) hx hb dRW_isInfeasible_53 (by decide) ?_
      exact q_zret0 X hlk hr (by decide) hP hS dRW_isInfeasible_54 (⟨_, rfl, rfl, trivial⟩)
    · refine lv_iconst (v := 1) hx hb dRW_isInfeasible_49 (by decide) ?_
      refine lv_goto (tgt := 54) hx hb dRW_isInfeasible_50 rfl ?_
      exact q_zret0 X hlk hr (by decide) hP hS dRW_isInfeasible_54 (⟨_, rfl, rfl, trivial⟩)
  · refine lv_tableIn (tgt := 91) hx hb dRW_isInfeasible_1 (by decide) (by decide) rfl rfl ?_
    refine lv_iconst (v := 0) hx hb dRW_isInfeasible_91 (by decide) ?_
    exact q_zret0 X hlk hr (by decide) hP hS dRW_isInfeasible_92 (⟨_, rfl, rfl, trivial⟩)
  · refine lv_tableIn (tgt := 91) hx hb dRW_isInfeasible_1 (by decide) (by decide) rfl rfl ?_
    refine lv_iconst (v := 0) hx hb dRW_isInfeasible_91 (by decide) ?_
    exact q_zret0 X hlk hr (by decide) hP hS dRW_isInfeasible_92 (⟨_, rfl, rfl, trivial⟩)
  · refine lv_tableIn (tgt := 55) hx hb dRW_isInfeasible_1 (by decide) (by decide) rfl rfl ?_
    obtain ⟨q, hq, rfl⟩ := wi_of (n := 5) (by decide) (show wi a 5 = true from hna)
    obtain ⟨ph, nx, rg, ⟨w0, w1, wf, w2⟩, hw1, hw2⟩ := hwk q hq
    refine lv_aload_n hx hb dRW_isInfeasible_55 rfl (lv_at hl 0 rfl) ?_
    refine g_RW_17 X hP (by omega) (rh0) rfl dRW_isInfeasible_56 ?_
    refine lv_iload_n hx hb dRW_isInfeasible_59 rfl (lv_at hl 3 rfl) ?_
    refine q_aald (t0 := 4) q X hP (by omega) (rh2) rfl (rfl) (by omega) (by decide) (rx2 q (by omega)) dRW_isInfeasible_60 ?_
    refine g_RW_94 X hP (by omega) (w0) rfl dRW_isInfeasible_61 ?_
    refine lv_if_eq (tgt := 71) hx hb dRW_isInfeasible_64 rfl (fun h64 => ?_) (fun h64 => ?_)
    · refine lv_iconst (v := 0) hx hb dRW_isInfeasible_71 (by decide) ?_
      exact q_zret0 X hlk hr (by decide) hP hS dRW_isInfeasible_72 (⟨_, rfl, rfl, trivial⟩)
    · refine lv_iconst (v := 1) hx hb dRW_isInfeasible_67 (by decide) ?_
      refine lv_goto (tgt := 72) hx hb dRW_isInfeasible_68 rfl ?_
      exact q_zret0 X hlk hr (by decide) hP hS dRW_isInfeasible_72 (⟨_, rfl, rfl, trivial⟩)
  · refine lv_tableIn (tgt := 73) hx hb dRW_isInfeasible_1 (by decide) (by decide) rfl rfl ?_
    obtain ⟨q, hq, rfl⟩ := wi_of (n := 5) (by decide) (show wi a 5 = true from hna)
    obtain ⟨ph, nx, rg, ⟨w0, w1, wf, w2⟩, hw1, hw2⟩ := hwk q hq
    refine lv_aload_n hx hb dRW_isInfeasible_73 rfl (lv_at hl 0 rfl) ?_
    refine g_RW_17 X hP (by omega) (rh0) rfl dRW_isInfeasible_74 ?_
    refine lv_iload_n hx hb dRW_isInfeasible_77 rfl (lv_at hl 3 rfl) ?_
    refine q_aald (t0 := 4) q X hP (by omega) (rh2) rfl (rfl) (by omega) (by decide) (rx2 q (by omega)) dRW_isInfeasible_78 ?_
    refine g_RW_94 X hP (by omega) (w0) rfl dRW_isInfeasible_79 ?_
    refine lv_if_ne (tgt := 89) hx hb dRW_isInfeasible_82 rfl (fun h82 => ?_) (fun h82 => ?_)
    · refine lv_iconst (v := 0) hx hb dRW_isInfeasible_89 (by decide) ?_
      exact q_zret0 X hlk hr (by decide) hP hS dRW_isInfeasible_90 (⟨_, rfl, rfl, trivial⟩)
    · refine lv_iconst (v := 1) hx hb dRW_isInfeasible_85 (by decide) ?_
      refine lv_goto (tgt := 90) hx hb dRW_isInfeasible_86 rfl ?_
      exact q_zret0 X hlk hr (by decide) hP hS dRW_isInfeasible_90 (⟨_, rfl, rfl, trivial⟩)
  · refine lv_tableOut (tgt := 91) hx hb dRW_isInfeasible_1 (by decide) rfl ?_
    refine lv_iconst (v := 0) hx hb dRW_isInfeasible_91 (by decide) ?_
    exact q_zret0 X hlk hr (by decide) hP hS dRW_isInfeasible_92 (⟨_, rfl, rfl, trivial⟩)
  · refine lv_tableOut (tgt := 91) hx hb dRW_isInfeasible_1 (by decide) rfl ?_
    refine lv_iconst (v := 0) hx hb dRW_isInfeasible_91 (by decide) ?_
    exact q_zret0 X hlk hr (by decide) hP hS dRW_isInfeasible_92 (⟨_, rfl, rfl, trivial⟩)
  · refine lv_tableOut (tgt := 91) hx hb dRW_isInfeasible_1 (by decide) rfl ?_
    refine lv_iconst (v := 0) hx hb dRW_isInfeasible_91 (by decide) ?_
    exact q_zret0 X hlk hr (by decide) hP hS dRW_isInfeasible_92 (⟨_, rfl, rfl, trivial⟩)
  · refine lv_tableOut (tgt := 91) hx hb dRW_isInfeasible_1 (by decide) rfl ?_
    refine lv_iconst (v := 0) hx hb dRW_isInfeasible_91 (by decide) ?_
    exact q_zret0 X hlk hr (by decide) hP hS dRW_isInfeasible_92 (⟨_, rfl, rfl, trivial⟩)
  · refine lv_tableOut (tgt := 91) hx hb dRW_isInfeasible_1 (by decide) rfl ?_
    refine lv_iconst (v := 0) hx hb dRW_isInfeasible_91 (by decide) ?_
    exact q_zret0 X hlk hr (by decide) hP hS dRW_isInfeasible_92 (⟨_, rfl, rfl, trivial⟩)
set_option maxHeartbeats 4000000 in
set_option maxRecDepth 100000 in
theorem g_RW_mustWait (l : Launch) (D : va_G) (tc : Nat → ClassId) (ad : Nat → Nat) (E : Nat → va_E) (st cs : Int32) (sz : Nat → Nat) (fo fa fb : Nat → Nat → Int32) (t op a : Int32) (hI : RI tc ad E st cs sz fo fa fb) (hop : wi op 13 = true) (hna : nmd op a = true) : Ct0 l D tc yRW_mustWait 1 66 ad E [.ref (ad 0), .int t, .int op, .int a] (fun o E2 => ∃ r : Int32, o = .returned (some (.int r)) ∧ E2 = E ∧ True) := by
  refine Ct0.ofW (cc := cRW_mustWait) (maxL := 4) (ret := (some .boolean)) (own := R_RW) (by decide) rfl w_420 (Nat.le_of_ble_eq_true rfl) ?_
  intro p e s m args below meth c ls X hlk hr hD hP hS hl
  have hx := X.1
  have hb := X.2.1
  have hl : lv_has ls 4 [(0, .ref (ad 0)), (1, .int t), (2, .int op), (3, .int a)] := hl
  have hI0 := hI
  obtain ⟨hR, hpg, hwk, hlo, hck, ⟨cn, hcn, ⟨fc, fk, ⟨tt0, tt1, tt2⟩, hfc⟩, ⟨fr, fp, fw, fd, ⟨b0, b1, b2, b3, b4⟩, hfw, hfd⟩, ⟨cr, cp, cw, cd, ⟨c0, c1, c2, c3, c4⟩, hcw, hcd⟩⟩, hok, hnb⟩ := hI
  have hR0 := hR
  obtain ⟨rh0, ⟨ra1, rh1, rx1⟩, ⟨ra2, rh2, rx2⟩, ⟨ra3, rh3, rx3⟩, ⟨ra4, rh4, rx4⟩⟩ := hR
  refine lv_iload_n hx hb dRW_mustWait_0 rfl (lv_at hl 2 rfl) ?_
  obtain ⟨n9, hn9, rfl⟩ := wi_of (n := 13) (by decide) hop
  rcases (by omega : n9 = 0 ∨ n9 = 1 ∨ n9 = 2 ∨ n9 = 3 ∨ n9 = 4 ∨ n9 = 5 ∨ n9 = 6 ∨ n9 = 7 ∨ n9 = 8 ∨ n9 = 9 ∨ n9 = 10 ∨ n9 = 11 ∨ n9 = 12) with rfl | rfl | rfl | rfl | rfl | rfl | rfl | rfl | rfl | rfl | rfl | rfl | rfl
  · refine lv_lookup (tgt := 78) hx hb dRW_mustWait_1 (by decide) rfl rfl ?_
    refine lv_iconst (v := 0) hx hb dRW_mustWait_78 (by decide) ?_
    exact q_zret0 X hlk hr (by decide) hP hS dRW_mustWait_79 (⟨_, rfl, rfl, trivial⟩)
  · refine lv_lookup (tgt := 78) hx hb dRW_mustWait_1 (by decide) rfl rfl ?_
    refine lv_iconst (v := 0) hx hb dRW_mustWait_78 (by decide) ?_
    exact q_zret0 X hlk hr (by decide) hP hS dRW_mustWait_79 (⟨_, rfl, rfl, trivial⟩)
  · refine lv_lookup (tgt := 28) hx hb dRW_mustWait_1 (by decide) rfl rfl ?_
    obtain ⟨q, hq, rfl⟩ := wi_of (n := 3) (by decide) (show wi a 3 = true from hna)
    obtain ⟨ow, dp, lk0, lk1, lkf, lk2⟩ := hlo q hq
    refine lv_aload_n hx hb dRW_mustWait_28 rfl (lv_at hl 0 rfl) ?_
    refine g_RW_25 X hP (by omega) (rh0) rfl dRW_mustWait_29 ?_
    refine lv_iload_n hx hb dRW_mustWait_32 rfl (lv_at hl 3 rfl) ?_
    refine q_aald (t0 := 5) q X hP (by omega) (rh3) rfl (rfl) (by omega) (by decide) (rx3 q (by omega)) dRW_mustWait_33 ?_
    refine g_RW_146 X hP (by omega) (lk0) rfl dRW_mustWait_34 ?_
    refine lv_if_le (tgt := 57) hx hb dRW_mustWait_37 rfl (fun h37 => ?_) (fun h37 => ?_)
    · refine lv_iconst (v := 0) hx hb dRW_mustWait_57 (by decide) ?_
      exact q_zret0 X hlk hr (by decide) hP hS dRW_mustWait_58 (⟨_, rfl, rfl, trivial⟩)
    · refine lv_aload_n hx hb dRW_mustWait_40 rfl (lv_at hl 0 rfl) ?_
      refine g_RW_25 X hP (by omega) (rh0) rfl dRW_mustWait_41 ?_
      refine lv_iload_n hx hb dRW_mustWait_44 rfl (lv_at hl 3 rfl) ?_
      refine q_aald (t0 := 5) q X hP (by omega) (rh3) rfl (rfl) (by omega) (by decide) (rx3 q (by omega)) dRW_mustWait_45 ?_
      refine lv_iload_n hx hb dRW_mustWait_46 rfl (lv_at hl 1 rfl) ?_
      refine x_iX0 (f := fun k => (39 + 3 * q) + k) (x_runVN (C := R_LK) (As := [.int t]) (rest := []) X (g_LK_isHeldBy l D tc (fun k => ad (39 + 3 * q + k)) (fun k => E (39 + 3 * q + k)) _ ow dp t lk0) rfl rfl (by decide) (by decide) w_398 w_5 w_395 w_397 sel_LK_isHeldBy ry_LK_isHeldBy (x_recv X hP (by omega) (lk0) rfl) (ct_pre X hP hD (fr_lt 3 66 (39 + 3 * q) (by omega)) (fr_inj 3 (39 + 3 * q))) ct_blind hl.1 (Nat.le_of_ble_eq_true rfl) dRW_mustWait_47 ⟨Nat.zero_le _, Nat.zero_le _⟩) hD hP hS (fr_lt 3 66 (39 + 3 * q) (by omega)) (fr_inj 3 (39 + 3 * q)) (fun z H hz hD hP hS => ?_)
      refine lv_if_ne (tgt := 57) hx hb dRW_mustWait_50 rfl (fun h50 => ?_) (fun h50 => ?_)
      · refine lv_iconst (v := 0) hx hb dRW_mustWait_57 (by decide) ?_
        exact q_zret0 X hlk hr (by decide) hP hS dRW_mustWait_58 (⟨_, rfl, rfl, trivial⟩)
      · refine lv_iconst (v := 1) hx hb dRW_mustWait_53 (by decide) ?_
        refine lv_goto (tgt := 58) hx hb dRW_mustWait_54 rfl ?_
        exact q_zret0 X hlk hr (by decide) hP hS dRW_mustWait_58 (⟨_, rfl, rfl, trivial⟩)
  · refine lv_lookup (tgt := 78) hx hb dRW_mustWait_1 (by decide) rfl rfl ?_
    refine lv_iconst (v := 0) hx hb dRW_mustWait_78 (by decide) ?_
    exact q_zret0 X hlk hr (by decide) hP hS dRW_mustWait_79 (⟨_, rfl, rfl, trivial⟩)
  · refine lv_lookup (tgt := 78) hx hb dRW_mustWait_1 (by decide) rfl rfl ?_
    refine lv_iconst (v := 0) hx hb dRW_mustWait_78 (by decide) ?_
    exact q_zret0 X hlk hr (by decide) hP hS dRW_mustWait_79 (⟨_, rfl, rfl, trivial⟩)
  · refine lv_lookup (tgt := 78) hx hb dRW_mustWait_1 (by decide) rfl rfl ?_
    refine lv_iconst (v := 0) hx hb dRW_mustWait_78 (by decide) ?_
    exact q_zret0 X hlk hr (by decide) hP hS dRW_mustWait_79 (⟨_, rfl, rfl, trivial⟩)
  · refine lv_lookup (tgt := 78) hx hb dRW_mustWait_1 (by decide) rfl rfl ?_
    refine lv_iconst (v := 0) hx hb dRW_mustWait_78 (by decide) ?_
    exact q_zret0 X hlk hr (by decide) hP hS dRW_mustWait_79 (⟨_, rfl, rfl, trivial⟩)
  · refine lv_lookup (tgt := 59) hx hb dRW_mustWait_1 (by decide) rfl rfl ?_
    obtain ⟨q, hq, rfl⟩ := wi_of (n := 5) (by decide) (show wi a 5 = true from hna)
    obtain ⟨ph, nx, rg, ⟨w0, w1, wf, w2⟩, hw1, hw2⟩ := hwk q hq
    refine lv_aload_n hx hb dRW_mustWait_59 rfl (lv_at hl 0 rfl) ?_
    refine g_RW_17 X hP (by omega) (rh0) rfl dRW_mustWait_60 ?_
    refine lv_iload_n hx hb dRW_mustWait_63 rfl (lv_at hl 3 rfl) ?_
    refine q_aald (t0 := 4) q X hP (by omega) (rh2) rfl (rfl) (by omega) (by decide) (rx2 q (by omega)) dRW_mustWait_64 ?_
    refine g_RW_94 X hP (by omega) (w0) rfl dRW_mustWait_65 ?_
    refine lv_iconst (v := 2) hx hb dRW_mustWait_68 (by decide) ?_
    refine lv_icmp_eq (tgt := 76) hx hb dRW_mustWait_69 rfl (fun h69 => ?_) (fun h69 => ?_)
    · refine lv_iconst (v := 0) hx hb dRW_mustWait_76 (by decide) ?_
      exact q_zret0 X hlk hr (by decide) hP hS dRW_mustWait_77 (⟨_, rfl, rfl, trivial⟩)
    · refine lv_iconst (v := 1) hx hb dRW_mustWait_72 (by decide) ?_
      refine lv_goto (tgt := 77) hx hb dRW_mustWait_73 rfl ?_
      exact q_zret0 X hlk hr (by decide) hP hS dRW_mustWait_77 (⟨_, rfl, rfl, trivial⟩)
  · refine lv_lookup (tgt := 78) hx hb dRW_mustWait_1 (by decide) rfl rfl ?_
    refine lv_iconst (v := 0) hx hb dRW_mustWait_78 (by decide) ?_
    exact q_zret0 X hlk hr (by decide) hP hS dRW_mustWait_79 (⟨_, rfl, rfl, trivial⟩)
  · refine lv_lookup (tgt := 78) hx hb dRW_mustWait_1 (by decide) rfl rfl ?_
    refine lv_iconst (v := 0) hx hb dRW_mustWait_78 (by decide) ?_
    exact q_zret0 X hlk hr (by decide) hP hS dRW_mustWait_79 (⟨_, rfl, rfl, trivial⟩)
  · refine lv_lookup (tgt := 78) hx hb dRW_mustWait_1 (by decide) rfl rfl ?_
    refine lv_iconst (v := 0) hx hb dRW_mustWait_78 (by decide) ?_
    exact q_zret0 X hlk hr (by decide) hP hS dRW_mustWait_79 (⟨_, rfl, rfl, trivial⟩)
  · refine lv_lookup (tgt := 78) hx hb dRW_mustWait_1 (by decide) rfl rfl ?_
    refine lv_iconst (v := 0) hx hb dRW_mustWait_78 (by decide) ?_
    exact q_zret0 X hlk hr (by decide) hP hS dRW_mustWait_79 (⟨_, rfl, rfl, trivial⟩)
  · refine lv_lookup (tgt := 78) hx hb dRW_mustWait_1 (by decide) rfl rfl ?_
    refine lv_iconst (v := 0) hx hb dRW_mustWait_78 (by decide) ?_
    exact q_zret0 X hlk hr (by decide) hP hS dRW_mustWait_79 (⟨_, rfl, rfl, trivial⟩)
set_option maxHeartbeats 4000000 in
set_option maxRecDepth 100000 in
theorem g_RW_instructions (l : Launch) (D : va_G) (tc : Nat → ClassId) (ad : Nat → Nat) (E : Nat → va_E) (st cs : Int32) (sz : Nat → Nat) (fo fa fb : Nat → Nat → Int32) (hR : isRW tc ad E st cs) (hpg : ∀ t, t < 5 → isPG tc ad E (3 + 7 * t) (sz t) (fo t) (fa t) (fb t)) : Ct l D tc yRW_instructions 0 66 ad E [.ref (ad 0)] (fun o E2 => o = .returned (some (.int (sumT sz 5))) ∧ E2 = E) := by
  refine Ct.ofW (cc := cRW_instructions) (maxL := 3) (ret := (some .int)) (own := R_RW) (by decide) rfl w_356 (Nat.le_of_ble_eq_true rfl) ?_
  intro p e s m args below meth c ls X hlk hr hD hP hS hl
  have hx := X.1
  have hb := X.2.1
  have hl : lv_has ls 3 [(0, .ref (ad 0))] := hl
  obtain ⟨rh0, ⟨ra1, rh1, rx1⟩, ⟨ra2, rh2, rx2⟩, ⟨ra3, rh3, rx3⟩, ⟨ra4, rh4, rx4⟩⟩ := hR
  refine lv_iconst (v := 0) hx hb dRW_instructions_0 (by decide) ?_
  refine lv_istore_n hx hb dRW_instructions_1 rfl hl (by decide) rfl (fun ls hl => ?_)
  have hl : lv_has ls 3 [(1, .int 0), (0, .ref (ad 0))] := hl
  refine lv_iconst (v := 0) hx hb dRW_instructions_2 (by decide) ?_
  refine lv_istore_n hx hb dRW_instructions_3 rfl hl (by decide) rfl (fun ls hl => ?_)
  have hl : lv_has ls 3 [(2, .int 0), (1, .int 0), (0, .ref (ad 0))] := hl
  have loop : ∀ (r i : Nat)  (H : Heap) (locs : List Loc) (ls : Array Slot), i + r = 5 → va_D (Aw 66 ad) (wW 66 ad E) → va_P D vwCl (wW 66 ad E) H → va_S (Aw 66 ad) s.heap H locs → lv_has ls 3 [(2, .int (nI i)), (1, .int (sumT sz i)), (0, .ref (ad 0))] → W p l e (rmD 0) s m args below meth c H locs 0 0 (XQ below (CtQ D 66 ad (fun o E2 => o = .returned (some (.int (sumT sz 5))) ∧ E2 = E)) args s 0 0 (Aw 66 ad)) (F0 m 4 ls []) := by
    intro r
    induction r with
    | zero =>
      intro i  H locs ls hi hD hP hS hl
      refine lv_iload_n hx hb dRW_instructions_4 rfl (lv_at hl 0 rfl) ?_
      refine lv_iconst (v := 5) hx hb dRW_instructions_5 (by decide) ?_
      refine lv_icmp_ge (tgt := 27) hx hb dRW_instructions_6 rfl (fun h6 => ?_) (fun h6 => absurd (nI_le (a := 5) (b := i) (by omega) (by omega)) h6)
      refine lv_iload_n hx hb dRW_instructions_27 rfl (lv_at hl 1 rfl) ?_
      exact q_iret X hlk hr hP hS dRW_instructions_28 (⟨by rw [show i = 5 by omega], rfl⟩)
    | succ r ih =>
      intro i  H locs ls hi hD hP hS hl
      refine lv_iload_n hx hb dRW_instructions_4 rfl (lv_at hl 0 rfl) ?_
      refine lv_iconst (v := 5) hx hb dRW_instructions_5 (by decide) ?_
      refine lv_icmp_ge (tgt := 27) hx hb dRW_instructions_6 rfl (fun h6 => absurd h6 (nI_ge (a := i) (b := 5) (by omega) (by omega))) (fun h6 => ?_)
      obtain ⟨p0, p1, p2, p3⟩ := hpg i (by omega)
      refine lv_iload_n hx hb dRW_instructions_9 rfl (lv_at hl 1 rfl) ?_
      refine lv_aload_n hx hb dRW_instructions_10 rfl (lv_at hl 2 rfl) ?_
      refine g_RW_11 X hP (by omega) (rh0) rfl dRW_instructions_11 ?_
      refine lv_iload_n hx hb dRW_instructions_14 rfl (lv_at hl 0 rfl) ?_
      refine q_aald (t0 := 3) i X hP (by omega) (rh1) rfl (rfl) (by omega) (by decide) (rx1 i (by omega)) dRW_instructions_15 ?_
      refine g_RW_196 X hP (by omega) (p0) rfl dRW_instructions_16 ?_
      refine lv_iadd hx hb dRW_instructions_19 ?_
      rw [show ((sumT sz i) + (nI (sz i))) = sumT sz (i + 1) from rfl]
      refine lv_istore_n hx hb dRW_instructions_20 rfl hl (by decide) rfl (fun ls hl => ?_)
      have hl : lv_has ls 3 [(1, .int (sumT sz (i + 1))), (2, .int (nI i)), (0, .ref (ad 0))] := hl
      refine lv_iinc (k := 1) (v := nI (i + 1)) hx hb dRW_instructions_21 hl rfl (nI_1 i) (by decide) rfl (fun ls hl => ?_)
      have hl : lv_has ls 3 [(2, .int (nI (i + 1))), (1, .int (sumT sz (i + 1))), (0, .ref (ad 0))] := hl
      refine lv_goto (tgt := 4) hx hb dRW_instructions_24 rfl ?_
      exact ih (i + 1) _ _ _ (by omega) hD hP hS hl
  exact loop 5 0 _ _ _ (by omega) hD hP hS hl
