theorem dRW_isThread_0 : decode cRW_isThread 0 = .ok (.iload_n 0, 1) := by decide +kernel
theorem dRW_isThread_1 : decode cRW_isThread 1 = .ok (.ifCond .lt 12, 3) := by decide +kernel
theorem dRW_isThread_4 : decode cRW_isThread 4 = .ok (.iload_n 0, 1) := by decide +kernel
theorem dRW_isThread_5 : decode cRW_isThread 5 = .ok (.iconst 5, 1) := by decide +kernel
theorem dRW_isThread_6 : decode cRW_isThread 6 = .ok (.if_icmp .ge 7, 3) := by decide +kernel
theorem dRW_isThread_9 : decode cRW_isThread 9 = .ok (.iconst 1, 1) := by decide +kernel
theorem dRW_isThread_10 : decode cRW_isThread 10 = .ok (.goto 4, 3) := by decide +kernel
theorem dRW_isThread_13 : decode cRW_isThread 13 = .ok (.iconst 0, 1) := by decide +kernel
theorem dRW_isThread_14 : decode cRW_isThread 14 = .ok (.ireturn, 1) := by decide +kernel
theorem dRW_isVariable_0 : decode cRW_isVariable 0 = .ok (.iload_n 0, 1) := by decide +kernel
theorem dRW_isVariable_1 : decode cRW_isVariable 1 = .ok (.ifCond .lt 13, 3) := by decide +kernel
theorem dRW_isVariable_4 : decode cRW_isVariable 4 = .ok (.iload_n 0, 1) := by decide +kernel
theorem dRW_isVariable_5 : decode cRW_isVariable 5 = .ok (.bipush 8, 2) := by decide +kernel
theorem dRW_isVariable_7 : decode cRW_isVariable 7 = .ok (.if_icmp .ge 7, 3) := by decide +kernel
theorem dRW_isVariable_10 : decode cRW_isVariable 10 = .ok (.iconst 1, 1) := by decide +kernel
theorem dRW_isVariable_11 : decode cRW_isVariable 11 = .ok (.goto 4, 3) := by decide +kernel
theorem dRW_isVariable_14 : decode cRW_isVariable 14 = .ok (.iconst 0, 1) := by decide +kernel
theorem dRW_isVariable_15 : decode cRW_isVariable 15 = .ok (.ireturn, 1) := by decide +kernel
theorem dMD_within_0 : decode cMD_within 0 = .ok (.iload_n 0, 1) := by decide +kernel
theorem dMD_within_1 : decode cMD_within 1 = .ok (.ifCond .lt 12, 3) := by decide +kernel
theorem dMD_within_4 : decode cMD_within 4 = .ok (.iload_n 0, 1) := by decide +kernel
theorem dMD_within_5 : decode cMD_within 5 = .ok (.iload_n 1, 1) := by decide +kernel
theorem dMD_within_6 : decode cMD_within 6 = .ok (.if_icmp .ge 7, 3) := by decide +kernel
theorem dMD_within_9 : decode cMD_within 9 = .ok (.iconst 1, 1) := by decide +kernel
theorem dMD_within_10 : decode cMD_within 10 = .ok (.goto 4, 3) := by decide +kernel
theorem dMD_within_13 : decode cMD_within 13 = .ok (.iconst 0, 1) := by decide +kernel
theorem dMD_within_14 : decode cMD_within 14 = .ok (.ireturn, 1) := by decide +kernel
theorem dRW_isNamed_0 : decode cRW_isNamed 0 = .ok (.iload_n 0, 1) := by decide +kernel
theorem dRW_isNamed_1 : decode cRW_isNamed 1 = .ok (.tableswitch 87 0 7 #[47, 47, 52, 52, 67, 67, 82, 82], 47) := by decide +kernel
theorem dRW_isNamed_48 : decode cRW_isNamed 48 = .ok (.iload_n 1, 1) := by decide +kernel
theorem dRW_isNamed_49 : decode cRW_isNamed 49 = .ok (.invokestatic 164, 3) := by decide +kernel
theorem dRW_isNamed_52 : decode cRW_isNamed 52 = .ok (.ireturn, 1) := by decide +kernel
theorem dRW_isNamed_53 : decode cRW_isNamed 53 = .ok (.iload_n 1, 1) := by decide +kernel
theorem dRW_isNamed_54 : decode cRW_isNamed 54 = .ok (.ifCond .lt 12, 3) := by decide +kernel
theorem dRW_isNamed_57 : decode cRW_isNamed 57 = .ok (.iload_n 1, 1) := by decide +kernel
theorem dRW_isNamed_58 : decode cRW_isNamed 58 = .ok (.iconst 3, 1) := by decide +kernel
theorem dRW_isNamed_59 : decode cRW_isNamed 59 = .ok (.if_icmp .ge 7, 3) := by decide +kernel
theorem dRW_isNamed_62 : decode cRW_isNamed 62 = .ok (.iconst 1, 1) := by decide +kernel
theorem dRW_isNamed_63 : decode cRW_isNamed 63 = .ok (.goto 4, 3) := by decide +kernel
theorem dRW_isNamed_66 : decode cRW_isNamed 66 = .ok (.iconst 0, 1) := by decide +kernel
theorem dRW_isNamed_67 : decode cRW_isNamed 67 = .ok (.ireturn, 1) := by decide +kernel
theorem dRW_isNamed_68 : decode cRW_isNamed 68 = .ok (.iload_n 1, 1) := by decide +kernel
theorem dRW_isNamed_69 : decode cRW_isNamed 69 = .ok (.ifCond .lt 12, 3) := by decide +kernel
theorem dRW_isNamed_72 : decode cRW_isNamed 72 = .ok (.iload_n 1, 1) := by decide +kernel
theorem dRW_isNamed_73 : decode cRW_isNamed 73 = .ok (.iconst 2, 1) := by decide +kernel
theorem dRW_isNamed_74 : decode cRW_isNamed 74 = .ok (.if_icmp .ge 7, 3) := by decide +kernel
theorem dRW_isNamed_77 : decode cRW_isNamed 77 = .ok (.iconst 1, 1) := by decide +kernel
theorem dRW_isNamed_78 : decode cRW_isNamed 78 = .ok (.goto 4, 3) := by decide +kernel
theorem dRW_isNamed_81 : decode cRW_isNamed 81 = .ok (.iconst 0, 1) := by decide +kernel
theorem dRW_isNamed_82 : decode cRW_isNamed 82 = .ok (.ireturn, 1) := by decide +kernel
theorem dRW_isNamed_83 : decode cRW_isNamed 83 = .ok (.iload_n 1, 1) := by decide +kernel
theorem dRW_isNamed_84 : decode cRW_isNamed 84 = .ok (.invokestatic 61, 3) := by decide +kernel
theorem dRW_isNamed_87 : decode cRW_isNamed 87 = .ok (.ireturn, 1) := by decide +kernel
theorem dRW_isNamed_88 : decode cRW_isNamed 88 = .ok (.iload_n 0, 1) := by decide +kernel
theorem dRW_isNamed_89 : decode cRW_isNamed 89 = .ok (.bipush 8, 2) := by decide +kernel
theorem dRW_isNamed_91 : decode cRW_isNamed 91 = .ok (.if_icmp .lt 13, 3) := by decide +kernel
theorem dRW_isNamed_94 : decode cRW_isNamed 94 = .ok (.iload_n 0, 1) := by decide +kernel
theorem dRW_isNamed_95 : decode cRW_isNamed 95 = .ok (.bipush 12, 2) := by decide +kernel
theorem dRW_isNamed_97 : decode cRW_isNamed 97 = .ok (.if_icmp .gt 7, 3) := by decide +kernel
theorem dRW_isNamed_100 : decode cRW_isNamed 100 = .ok (.iconst 1, 1) := by decide +kernel
theorem dRW_isNamed_101 : decode cRW_isNamed 101 = .ok (.goto 4, 3) := by decide +kernel
theorem dRW_isNamed_104 : decode cRW_isNamed 104 = .ok (.iconst 0, 1) := by decide +kernel
theorem dRW_isNamed_105 : decode cRW_isNamed 105 = .ok (.ireturn, 1) := by decide +kernel
theorem dMD_names_0 : decode cMD_names 0 = .ok (.iload_n 0, 1) := by decide +kernel
theorem dMD_names_1 : decode cMD_names 1 = .ok (.ifCond .eq 8, 3) := by decide +kernel
theorem dMD_names_4 : decode cMD_names 4 = .ok (.iload_n 0, 1) := by decide +kernel
theorem dMD_names_5 : decode cMD_names 5 = .ok (.iconst 1, 1) := by decide +kernel
theorem dMD_names_6 : decode cMD_names 6 = .ok (.if_icmp .ne 10, 3) := by decide +kernel
theorem dMD_names_9 : decode cMD_names 9 = .ok (.iload_n 1, 1) := by decide +kernel
theorem dMD_names_10 : decode cMD_names 10 = .ok (.bipush 8, 2) := by decide +kernel
theorem dMD_names_12 : decode cMD_names 12 = .ok (.invokestatic 67, 3) := by decide +kernel
theorem dMD_names_15 : decode cMD_names 15 = .ok (.ireturn, 1) := by decide +kernel
theorem dMD_names_16 : decode cMD_names 16 = .ok (.iload_n 0, 1) := by decide +kernel
theorem dMD_names_17 : decode cMD_names 17 = .ok (.iconst 2, 1) := by decide +kernel
theorem dMD_names_18 : decode cMD_names 18 = .ok (.if_icmp .eq 8, 3) := by decide +kernel
theorem dMD_names_21 : decode cMD_names 21 = .ok (.iload_n 0, 1) := by decide +kernel
theorem dMD_names_22 : decode cMD_names 22 = .ok (.iconst 3, 1) := by decide +kernel
theorem dMD_names_23 : decode cMD_names 23 = .ok (.if_icmp .ne 9, 3) := by decide +kernel
theorem dMD_names_26 : decode cMD_names 26 = .ok (.iload_n 1, 1) := by decide +kernel
theorem dMD_names_27 : decode cMD_names 27 = .ok (.iconst 3, 1) := by decide +kernel
theorem dMD_names_28 : decode cMD_names 28 = .ok (.invokestatic 67, 3) := by decide +kernel
theorem dMD_names_31 : decode cMD_names 31 = .ok (.ireturn, 1) := by decide +kernel
theorem dMD_names_32 : decode cMD_names 32 = .ok (.iload_n 0, 1) := by decide +kernel
theorem dMD_names_33 : decode cMD_names 33 = .ok (.iconst 4, 1) := by decide +kernel
theorem dMD_names_34 : decode cMD_names 34 = .ok (.if_icmp .eq 8, 3) := by decide +kernel
theorem dMD_names_37 : decode cMD_names 37 = .ok (.iload_n 0, 1) := by decide +kernel
theorem dMD_names_38 : decode cMD_names 38 = .ok (.iconst 5, 1) := by decide +kernel
theorem dMD_names_39 : decode cMD_names 39 = .ok (.if_icmp .ne 9, 3) := by decide +kernel
theorem dMD_names_42 : decode cMD_names 42 = .ok (.iload_n 1, 1) := by decide +kernel
theorem dMD_names_43 : decode cMD_names 43 = .ok (.iconst 2, 1) := by decide +kernel
theorem dMD_names_44 : decode cMD_names 44 = .ok (.invokestatic 67, 3) := by decide +kernel
theorem dMD_names_47 : decode cMD_names 47 = .ok (.ireturn, 1) := by decide +kernel
theorem dMD_names_48 : decode cMD_names 48 = .ok (.iload_n 0, 1) := by decide +kernel
theorem dMD_names_49 : decode cMD_names 49 = .ok (.bipush 6, 2) := by decide +kernel
theorem dMD_names_51 : decode cMD_names 51 = .ok (.if_icmp .eq 9, 3) := by decide +kernel
theorem dMD_names_54 : decode cMD_names 54 = .ok (.iload_n 0, 1) := by decide +kernel
theorem dMD_names_55 : decode cMD_names 55 = .ok (.bipush 7, 2) := by decide +kernel
theorem dMD_names_57 : decode cMD_names 57 = .ok (.if_icmp .ne 11, 3) := by decide +kernel
theorem dMD_names_60 : decode cMD_names 60 = .ok (.iload_n 1, 1) := by decide +kernel
theorem dMD_names_61 : decode cMD_names 61 = .ok (.iconst 5, 1) := by decide +kernel
theorem dMD_names_62 : decode cMD_names 62 = .ok (.invokestatic 67, 3) := by decide +kernel
theorem dMD_names_65 : decode cMD_names 65 = .ok (.ifCond .eq 7, 3) := by decide +kernel
theorem dMD_names_68 : decode cMD_names 68 = .ok (.iconst 1, 1) := by decide +kernel
theorem dMD_names_69 : decode cMD_names 69 = .ok (.goto 4, 3) := by decide +kernel
theorem dMD_names_72 : decode cMD_names 72 = .ok (.iconst 0, 1) := by decide +kernel
theorem dMD_names_73 : decode cMD_names 73 = .ok (.ireturn, 1) := by decide +kernel
set_option maxHeartbeats 4000000 in
set_option maxRecDepth 100000 in
theorem c_RW_isThread (l : Launch) (D : va_G) (tc : Nat → ClassId) (ad : Nat → Nat) (E : Nat → va_E) (t : Int32)  : Ct l D tc yRW_isThread 0 0 ad E [.int t] (fun o E2 => o = .returned (some (.int (bi (wi t 5)))) ∧ E2 = E) := by
  refine Ct.ofW (cc := cRW_isThread) (maxL := 1) (ret := (some .boolean)) (own := R_RW) (by decide) rfl w_157 (Nat.le_of_ble_eq_true rfl) ?_
  intro p e s m args below meth c ls X hlk hr hD hP hS hl
  have hx := X.1
  have hb := X.2.1
  have hl : lv_has ls 1 [(0, .int t)] := hl
  refine lv_iload_n hx hb dRW_isThread_0 rfl (lv_at hl 0 rfl) ?_
  refine lv_if_lt (tgt := 13) hx hb dRW_isThread_1 rfl (fun h1 => ?_) (fun h1 => ?_)
  · refine lv_iconst (v := 0) hx hb dRW_isThread_13 (by decide) ?_
    exact q_zret X hlk hr (by decide) hP hS dRW_isThread_14 (⟨by rw [(show wi t 5 = false from (by first | exact wi_t (N := 5) (by decide) (by assumption) (by assumption) | exact wi_f1 (by assumption) | exact wi_f2 (N := 5) (by decide) (by assumption)))]; rfl, rfl⟩)
  · refine lv_iload_n hx hb dRW_isThread_4 rfl (lv_at hl 0 rfl) ?_
    refine lv_iconst (v := 5) hx hb dRW_isThread_5 (by decide) ?_
    refine lv_icmp_ge (tgt := 13) hx hb dRW_isThread_6 rfl (fun h6 => ?_) (fun h6 => ?_)
    · refine lv_iconst (v := 0) hx hb dRW_isThread_13 (by decide) ?_
      exact q_zret X hlk hr (by decide) hP hS dRW_isThread_14 (⟨by rw [(show wi t 5 = false from (by first | exact wi_t (N := 5) (by decide) (by assumption) (by assumption) | exact wi_f1 (by assumption) | exact wi_f2 (N := 5) (by decide) (by assumption)))]; rfl, rfl⟩)
    · refine lv_iconst (v := 1) hx hb dRW_isThread_9 (by decide) ?_
      refine lv_goto (tgt := 14) hx hb dRW_isThread_10 rfl ?_
      exact q_zret X hlk hr (by decide) hP hS dRW_isThread_14 (⟨by rw [(show wi t 5 = true from (by first | exact wi_t (N := 5) (by decide) (by assumption) (by assumption) | exact wi_f1 (by assumption) | exact wi_f2 (N := 5) (by decide) (by assumption)))]; rfl, rfl⟩)
set_option maxHeartbeats 4000000 in
set_option maxRecDepth 100000 in
theorem c_RW_isVariable (l : Launch) (D : va_G) (tc : Nat → ClassId) (ad : Nat → Nat) (E : Nat → va_E) (t : Int32)  : Ct l D tc yRW_isVariable 0 0 ad E [.int t] (fun o E2 => o = .returned (some (.int (bi (wi t 8)))) ∧ E2 = E) := by
  refine Ct.ofW (cc := cRW_isVariable) (maxL := 1) (ret := (some .boolean)) (own := R_RW) (by decide) rfl w_167 (Nat.le_of_ble_eq_true rfl) ?_
  intro p e s m args below meth c ls X hlk hr hD hP hS hl
  have hx := X.1
  have hb := X.2.1
  have hl : lv_has ls 1 [(0, .int t)] := hl
  refine lv_iload_n hx hb dRW_isVariable_0 rfl (lv_at hl 0 rfl) ?_
  refine lv_if_lt (tgt := 14) hx hb dRW_isVariable_1 rfl (fun h1 => ?_) (fun h1 => ?_)
  · refine lv_iconst (v := 0) hx hb dRW_isVariable_14 (by decide) ?_
    exact q_zret X hlk hr (by decide) hP hS dRW_isVariable_15 (⟨by rw [(show wi t 8 = false from (by first | exact wi_t (N := 8) (by decide) (by assumption) (by assumption) | exact wi_f1 (by assumption) | exact wi_f2 (N := 8) (by decide) (by assumption)))]; rfl, rfl⟩)
  · refine lv_iload_n hx hb dRW_isVariable_4 rfl (lv_at hl 0 rfl) ?_
    refine lv_bipush (v := 8) hx hb dRW_isVariable_5 (by decide) ?_
    refine lv_icmp_ge (tgt := 14) hx hb dRW_isVariable_7 rfl (fun h7 => ?_) (fun h7 => ?_)
    · refine lv_iconst (v := 0) hx hb dRW_isVariable_14 (by decide) ?_
      exact q_zret X hlk hr (by decide) hP hS dRW_isVariable_15 (⟨by rw [(show wi t 8 = false from (by first | exact wi_t (N := 8) (by decide) (by assumption) (by assumption) | exact wi_f1 (by assumption) | exact wi_f2 (N := 8) (by decide) (by assumption)))]; rfl, rfl⟩)
    · refine lv_iconst (v := 1) hx hb dRW_isVariable_10 (by decide) ?_
      refine lv_goto (tgt := 15) hx hb dRW_isVariable_11 rfl ?_
      exact q_zret X hlk hr (by decide) hP hS dRW_isVariable_15 (⟨by rw [(show wi t 8 = true from (by first | exact wi_t (N := 8) (by decide) (by assumption) (by assumption) | exact wi_f1 (by assumption) | exact wi_f2 (N := 8) (by decide) (by assumption)))]; rfl, rfl⟩)
set_option maxHeartbeats 4000000 in
set_option maxRecDepth 100000 in
theorem c_MD_within (l : Launch) (D : va_G) (tc : Nat → ClassId) (ad : Nat → Nat) (E : Nat → va_E) (t N : Int32) {n : Nat} (hN : N.toInt = n) : Ct l D tc yMD_within 0 0 ad E [.int t, .int N] (fun o E2 => o = .returned (some (.int (bi (wi t n)))) ∧ E2 = E) := by
  refine Ct.ofW (cc := cMD_within) (maxL := 2) (ret := (some .boolean)) (own := R_MD) (by decide) rfl w_551 (Nat.le_of_ble_eq_true rfl) ?_
  intro p e s m args below meth c ls X hlk hr hD hP hS hl
  have hx := X.1
  have hb := X.2.1
  have hl : lv_has ls 2 [(0, .int t), (1, .int N)] := hl
  refine lv_iload_n hx hb dMD_within_0 rfl (lv_at hl 0 rfl) ?_
  refine lv_if_lt (tgt := 13) hx hb dMD_within_1 rfl (fun h1 => ?_) (fun h1 => ?_)
  · refine lv_iconst (v := 0) hx hb dMD_within_13 (by decide) ?_
    exact q_zret X hlk hr (by decide) hP hS dMD_within_14 (⟨by rw [(show wi t n = false from (by first | exact wi_t hN (by assumption) (by assumption) | exact wi_f1 (by assumption) | exact wi_f2 hN (by assumption)))]; rfl, rfl⟩)
  · refine lv_iload_n hx hb dMD_within_4 rfl (lv_at hl 0 rfl) ?_
    refine lv_iload_n hx hb dMD_within_5 rfl (lv_at hl 1 rfl) ?_
    refine lv_icmp_ge (tgt := 13) hx hb dMD_within_6 rfl (fun h6 => ?_) (fun h6 => ?_)
    · refine lv_iconst (v := 0) hx hb dMD_within_13 (by decide) ?_
      exact q_zret X hlk hr (by decide) hP hS dMD_within_14 (⟨by rw [(show wi t n = false from (by first | exact wi_t hN (by assumption) (by assumption) | exact wi_f1 (by assumption) | exact wi_f2 hN (by assumption)))]; rfl, rfl⟩)
    · refine lv_iconst (v := 1) hx hb dMD_within_9 (by decide) ?_
      refine lv_goto (tgt := 14) hx hb dMD_within_10 rfl ?_
      exact q_zret X hlk hr (by decide) hP hS dMD_within_14 (⟨by rw [(show wi t n = true from (by first | exact wi_t hN (by assumption) (by assumption) | exact wi_f1 (by assumption) | exact wi_f2 hN (by assumption)))]; rfl, rfl⟩)
set_option maxHeartbeats 4000000 in
set_option maxRecDepth 100000 in
theorem c_RW_isNamed (l : Launch) (D : va_G) (tc : Nat → ClassId) (ad : Nat → Nat) (E : Nat → va_E) (op a : Int32)  : Ct l D tc yRW_isNamed 1 0 ad E [.int op, .int a] (fun o E2 => o = .returned (some (.int (bi (wi op 13 && nmd op a)))) ∧ E2 = E) := by
  refine Ct.ofW (cc := cRW_isNamed) (maxL := 2) (ret := (some .boolean)) (own := R_RW) (by decide) rfl w_164 (Nat.le_of_ble_eq_true rfl) ?_
  intro p e s m args below meth c ls X hlk hr hD hP hS hl
  have hx := X.1
  have hb := X.2.1
  have hl : lv_has ls 2 [(0, .int op), (1, .int a)] := hl
  refine lv_iload_n hx hb dRW_isNamed_0 rfl (lv_at hl 0 rfl) ?_
  by_cases hsw : op.toInt < 0 ∨ 7 < op.toInt
  · refine lv_tableOut (tgt := 88) hx hb dRW_isNamed_1 hsw rfl ?_
    refine lv_iload_n hx hb dRW_isNamed_88 rfl (lv_at hl 0 rfl) ?_
    refine lv_bipush (v := 8) hx hb dRW_isNamed_89 (by decide) ?_
    refine lv_icmp_lt (tgt := 104) hx hb dRW_isNamed_91 rfl (fun h91 => ?_) (fun h91 => ?_)
    · refine lv_iconst (v := 0) hx hb dRW_isNamed_104 (by decide) ?_
      exact q_zret X hlk hr (by decide) hP hS dRW_isNamed_105 ⟨by rw [wi13_lo (wi_sw hsw h91)]; rfl, rfl⟩
    · refine lv_iload_n hx hb dRW_isNamed_94 rfl (lv_at hl 0 rfl) ?_
      refine lv_bipush (v := 12) hx hb dRW_isNamed_95 (by decide) ?_
      refine lv_icmp_gt (tgt := 104) hx hb dRW_isNamed_97 rfl (fun h97 => ?_) (fun h97 => ?_)
      · refine lv_iconst (v := 0) hx hb dRW_isNamed_104 (by decide) ?_
        exact q_zret X hlk hr (by decide) hP hS dRW_isNamed_105 ⟨by rw [wi13_b h97]; rfl, rfl⟩
      · refine lv_iconst (v := 1) hx hb dRW_isNamed_100 (by decide) ?_
        refine lv_goto (tgt := 105) hx hb dRW_isNamed_101 rfl ?_
        exact q_zret X hlk hr (by decide) hP hS dRW_isNamed_105 ⟨by rw [wi13_hi h91 h97, nmd_hi (wi_sw2 hsw h91)]; rfl, rfl⟩
  · rcases sw8 hsw with rfl | rfl | rfl | rfl | rfl | rfl | rfl | rfl
    · refine lv_tableIn (tgt := 48) hx hb dRW_isNamed_1 (by decide) (by decide) rfl rfl ?_
      refine lv_iload_n hx hb dRW_isNamed_48 rfl (lv_at hl 1 rfl) ?_
      refine x_iE (f := fun k => 0 + k) (x_runS (As := [.int a]) (rest := []) X (c_RW_isVariable l D tc (fun k => ad (0 + k)) (fun k => E (0 + k)) a) rfl rfl (by decide) (by decide) w_167 w_1 w_165 w_166 ry_RW_isVariable (ct_pre X hP hD (fr_lt 0 0 0 (by omega)) (fr_inj 0 0)) ct_blind hl.1 (Nat.le_of_ble_eq_true rfl) dRW_isNamed_49 ⟨Nat.zero_le _, Nat.zero_le _⟩) hD hP hS (fr_lt 0 0 0 (by omega)) (fr_inj 0 0) (fun H locs hD hP hS => ?_)
      exact q_zret X hlk hr (bi_n _) hP hS dRW_isNamed_52 ⟨by rw [show (wi 0 13 && nmd 0 a) = wi a 8 from rfl], rfl⟩
    · refine lv_tableIn (tgt := 48) hx hb dRW_isNamed_1 (by decide) (by decide) rfl rfl ?_
      refine lv_iload_n hx hb dRW_isNamed_48 rfl (lv_at hl 1 rfl) ?_
      refine x_iE (f := fun k => 0 + k) (x_runS (As := [.int a]) (rest := []) X (c_RW_isVariable l D tc (fun k => ad (0 + k)) (fun k => E (0 + k)) a) rfl rfl (by decide) (by decide) w_167 w_1 w_165 w_166 ry_RW_isVariable (ct_pre X hP hD (fr_lt 0 0 0 (by omega)) (fr_inj 0 0)) ct_blind hl.1 (Nat.le_of_ble_eq_true rfl) dRW_isNamed_49 ⟨Nat.zero_le _, Nat.zero_le _⟩) hD hP hS (fr_lt 0 0 0 (by omega)) (fr_inj 0 0) (fun H locs hD hP hS => ?_)
      exact q_zret X hlk hr (bi_n _) hP hS dRW_isNamed_52 ⟨by rw [show (wi 1 13 && nmd 1 a) = wi a 8 from rfl], rfl⟩
    · refine lv_tableIn (tgt := 53) hx hb dRW_isNamed_1 (by decide) (by decide) rfl rfl ?_
      refine lv_iload_n hx hb dRW_isNamed_53 rfl (lv_at hl 1 rfl) ?_
      refine lv_if_lt (tgt := 66) hx hb dRW_isNamed_54 rfl (fun h54 => ?_) (fun h54 => ?_)
      · refine lv_iconst (v := 0) hx hb dRW_isNamed_66 (by decide) ?_
        exact q_zret X hlk hr (by decide) hP hS dRW_isNamed_67 ⟨by rw [show (wi 2 13 && nmd 2 a) = wi a 3 from rfl, (show wi a 3 = false from (by first | exact wi_t (N := 3) (by decide) (by assumption) (by assumption) | exact wi_f1 (by assumption) | exact wi_f2 (N := 3) (by decide) (by assumption)))]; rfl, rfl⟩
      · refine lv_iload_n hx hb dRW_isNamed_57 rfl (lv_at hl 1 rfl) ?_
        refine lv_iconst (v := 3) hx hb dRW_isNamed_58 (by decide) ?_
        refine lv_icmp_ge (tgt := 66) hx hb dRW_isNamed_59 rfl (fun h59 => ?_) (fun h59 => ?_)
        · refine lv_iconst (v := 0) hx hb dRW_isNamed_66 (by decide) ?_
          exact q_zret X hlk hr (by decide) hP hS dRW_isNamed_67 ⟨by rw [show (wi 2 13 && nmd 2 a) = wi a 3 from rfl, (show wi a 3 = false from (by first | exact wi_t (N := 3) (by decide) (by assumption) (by assumption) | exact wi_f1 (by assumption) | exact wi_f2 (N := 3) (by decide) (by assumption)))]; rfl, rfl⟩
        · refine lv_iconst (v := 1) hx hb dRW_isNamed_62 (by decide) ?_
          refine lv_goto (tgt := 67) hx hb dRW_isNamed_63 rfl ?_
          exact q_zret X hlk hr (by decide) hP hS dRW_isNamed_67 ⟨by rw [show (wi 2 13 && nmd 2 a) = wi a 3 from rfl, (show wi a 3 = true from (by first | exact wi_t (N := 3) (by decide) (by assumption) (by assumption) | exact wi_f1 (by assumption) | exact wi_f2 (N := 3) (by decide) (by assumption)))]; rfl, rfl⟩
    · refine lv_tableIn (tgt := 53) hx hb dRW_isNamed_1 (by decide) (by decide) rfl rfl ?_
      refine lv_iload_n hx hb dRW_isNamed_53 rfl (lv_at hl 1 rfl) ?_
      refine lv_if_lt (tgt := 66) hx hb dRW_isNamed_54 rfl (fun h54 => ?_) (fun h54 => ?_)
      · refine lv_iconst (v := 0) hx hb dRW_isNamed_66 (by decide) ?_
        exact q_zret X hlk hr (by decide) hP hS dRW_isNamed_67 ⟨by rw [show (wi 3 13 && nmd 3 a) = wi a 3 from rfl, (show wi a 3 = false from (by first | exact wi_t (N := 3) (by decide) (by assumption) (by assumption) | exact wi_f1 (by assumption) | exact wi_f2 (N := 3) (by decide) (by assumption)))]; rfl, rfl⟩
      · refine lv_iload_n hx hb dRW_isNamed_57 rfl (lv_at hl 1 rfl) ?_
        refine lv_iconst (v := 3) hx hb dRW_isNamed_58 (by decide) ?_
        refine lv_icmp_ge (tgt := 66) hx hb dRW_isNamed_59 rfl (fun h59 => ?_) (fun h59 => ?_)
        · refine lv_iconst (v := 0) hx hb dRW_isNamed_66 (by decide) ?_
          exact q_zret X hlk hr (by decide) hP hS dRW_isNamed_67 ⟨by rw [show (wi 3 13 && nmd 3 a) = wi a 3 from rfl, (show wi a 3 = false from (by first | exact wi_t (N := 3) (by decide) (by assumption) (by assumption) | exact wi_f1 (by assumption) | exact wi_f2 (N := 3) (by decide) (by assumption)))]; rfl, rfl⟩
        · refine lv_iconst (v := 1) hx hb dRW_isNamed_62 (by decide) ?_
          refine lv_goto (tgt := 67) hx hb dRW_isNamed_63 rfl ?_
          exact q_zret X hlk hr (by decide) hP hS dRW_isNamed_67 ⟨by rw [show (wi 3 13 && nmd 3 a) = wi a 3 from rfl, (show wi a 3 = true from (by first | exact wi_t (N := 3) (by decide) (by assumption) (by assumption) | exact wi_f1 (by assumption) | exact wi_f2 (N := 3) (by decide) (by assumption)))]; rfl, rfl⟩
    · refine lv_tableIn (tgt := 68) hx hb dRW_isNamed_1 (by decide) (by decide) rfl rfl ?_
      refine lv_iload_n hx hb dRW_isNamed_68 rfl (lv_at hl 1 rfl) ?_
      refine lv_if_lt (tgt := 81) hx hb dRW_isNamed_69 rfl (fun h69 => ?_) (fun h69 => ?_)
      · refine lv_iconst (v := 0) hx hb dRW_isNamed_81 (by decide) ?_
        exact q_zret X hlk hr (by decide) hP hS dRW_isNamed_82 ⟨by rw [show (wi 4 13 && nmd 4 a) = wi a 2 from rfl, (show wi a 2 = false from (by first | exact wi_t (N := 2) (by decide) (by assumption) (by assumption) | exact wi_f1 (by assumption) | exact wi_f2 (N := 2) (by decide) (by assumption)))]; rfl, rfl⟩
      · refine lv_iload_n hx hb dRW_isNamed_72 rfl (lv_at hl 1 rfl) ?_
        refine lv_iconst (v := 2) hx hb dRW_isNamed_73 (by decide) ?_
        refine lv_icmp_ge (tgt := 81) hx hb dRW_isNamed_74 rfl (fun h74 => ?_) (fun h74 => ?_)
        · refine lv_iconst (v := 0) hx hb dRW_isNamed_81 (by decide) ?_
          exact q_zret X hlk hr (by decide) hP hS dRW_isNamed_82 ⟨by rw [show (wi 4 13 && nmd 4 a) = wi a 2 from rfl, (show wi a 2 = false from (by first | exact wi_t (N := 2) (by decide) (by assumption) (by assumption) | exact wi_f1 (by assumption) | exact wi_f2 (N := 2) (by decide) (by assumption)))]; rfl, rfl⟩
        · refine lv_iconst (v := 1) hx hb dRW_isNamed_77 (by decide) ?_
          refine lv_goto (tgt := 82) hx hb dRW_isNamed_78 rfl ?_
          exact q_zret X hlk hr (by decide) hP hS dRW_isNamed_82 ⟨by rw [show (wi 4 13 && nmd 4 a) = wi a 2 from rfl, (show wi a 2 = true from (by first | exact wi_t (N := 2) (by decide) (by assumption) (by assumption) | exact wi_f1 (by assumption) | exact wi_f2 (N := 2) (by decide) (by assumption)))]; rfl, rfl⟩
    · refine lv_tableIn (tgt := 68) hx hb dRW_isNamed_1 (by decide) (by decide) rfl rfl ?_
      refine lv_iload_n hx hb dRW_isNamed_68 rfl (lv_at hl 1 rfl) ?_
      refine lv_if_lt (tgt := 81) hx hb dRW_isNamed_69 rfl (fun h69 => ?_) (fun h69 => ?_)
      · refine lv_iconst (v := 0) hx hb dRW_isNamed_81 (by decide) ?_
        exact q_zret X hlk hr (by decide) hP hS dRW_isNamed_82 ⟨by rw [show (wi 5 13 && nmd 5 a) = wi a 2 from rfl, (show wi a 2 = false from (by first | exact wi_t (N := 2) (by decide) (by assumption) (by assumption) | exact wi_f1 (by assumption) | exact wi_f2 (N := 2) (by decide) (by assumption)))]; rfl, rfl⟩
      · refine lv_iload_n hx hb dRW_isNamed_72 rfl (lv_at hl 1 rfl) ?_
        refine lv_iconst (v := 2) hx hb dRW_isNamed_73 (by decide) ?_
        refine lv_icmp_ge (tgt := 81) hx hb dRW_isNamed_74 rfl (fun h74 => ?_) (fun h74 => ?_)
        · refine lv_iconst (v := 0) hx hb dRW_isNamed_81 (by decide) ?_
          exact q_zret X hlk hr (by decide) hP hS dRW_isNamed_82 ⟨by rw [show (wi 5 13 && nmd 5 a) = wi a 2 from rfl, (show wi a 2 = false from (by first | exact wi_t (N := 2) (by decide) (by assumption) (by assumption) | exact wi_f1 (by assumption) | exact wi_f2 (N := 2) (by decide) (by assumption)))]; rfl, rfl⟩
        · refine lv_iconst (v := 1) hx hb dRW_isNamed_77 (by decide) ?_
          refine lv_goto (tgt := 82) hx hb dRW_isNamed_78 rfl ?_
          exact q_zret X hlk hr (by decide) hP hS dRW_isNamed_82 ⟨by rw [show (wi 5 13 && nmd 5 a) = wi a 2 from rfl, (show wi a 2 = true from (by first | exact wi_t (N := 2) (by decide) (by assumption) (by assumption) | exact wi_f1 (by assumption) | exact wi_f2 (N := 2) (by decide) (by assumption)))]; rfl, rfl⟩
    · refine lv_tableIn (tgt := 83) hx hb dRW_isNamed_1 (by decide) (by decide) rfl rfl ?_
      refine lv_iload_n hx hb dRW_isNamed_83 rfl (lv_at hl 1 rfl) ?_
      refine x_iE (f := fun k => 0 + k) (x_runS (As := [.int a]) (rest := []) X (c_RW_isThread l D tc (fun k => ad (0 + k)) (fun k => E (0 + k)) a) rfl rfl (by decide) (by decide) w_157 w_1 w_155 w_156 ry_RW_isThread (ct_pre X hP hD (fr_lt 0 0 0 (by omega)) (fr_inj 0 0)) ct_blind hl.1 (Nat.le_of_ble_eq_true rfl) dRW_isNamed_84 ⟨Nat.zero_le _, Nat.zero_le _⟩) hD hP hS (fr_lt 0 0 0 (by omega)) (fr_inj 0 0) (fun H locs hD hP hS => ?_)
      exact q_zret X hlk hr (bi_n _) hP hS dRW_isNamed_87 ⟨by rw [show (wi 6 13 && nmd 6 a) = wi a 5 from rfl], rfl⟩
    · refine lv_tableIn (tgt := 83) hx hb dRW_isNamed_1 (by decide) (by decide) rfl rfl ?_
      refine lv_iload_n hx hb dRW_isNamed_83 rfl (lv_at hl 1 rfl) ?_
      refine x_iE (f := fun k => 0 + k) (x_runS (As := [.int a]) (rest := []) X (c_RW_isThread l D tc (fun k => ad (0 + k)) (fun k => E (0 + k)) a) rfl rfl (by decide) (by decide) w_157 w_1 w_155 w_156 ry_RW_isThread (ct_pre X hP hD (fr_lt 0 0 0 (by omega)) (fr_inj 0 0)) ct_blind hl.1 (Nat.le_of_ble_eq_true rfl) dRW_isNamed_84 ⟨Nat.zero_le _, Nat.zero_le _⟩) hD hP hS (fr_lt 0 0 0 (by omega)) (fr_inj 0 0) (fun H locs hD hP hS => ?_)
      exact q_zret X hlk hr (bi_n _) hP hS dRW_isNamed_87 ⟨by rw [show (wi 7 13 && nmd 7 a) = wi a 5 from rfl], rfl⟩
set_option maxHeartbeats 4000000 in
set_option maxRecDepth 100000 in
theorem c_MD_names (l : Launch) (D : va_G) (tc : Nat → ClassId) (ad : Nat → Nat) (E : Nat → va_E) (op a : Int32)  : Ct l D tc yMD_names 1 0 ad E [.int op, .int a] (fun o E2 => o = .returned (some (.int (bi (nmd op a)))) ∧ E2 = E) := by
  refine Ct.ofW (cc := cMD_names) (maxL := 2) (ret := (some .boolean)) (own := R_MD) (by decide) rfl w_554 (Nat.le_of_ble_eq_true rfl) ?_
  intro p e s m args below meth c ls X hlk hr hD hP hS hl
  have hx := X.1
  have hb := X.2.1
  have hl : lv_has ls 2 [(0, .int op), (1, .int a)] := hl
  refine lv_iload_n hx hb dMD_names_0 rfl (lv_at hl 0 rfl) ?_
  refine lv_if_eq (tgt := 9) hx hb dMD_names_1 rfl (fun h1 => ?_) (fun h1 => ?_)
  · refine lv_iload_n hx hb dMD_names_9 rfl (lv_at hl 1 rfl) ?_
    refine lv_bipush (v := 8) hx hb dMD_names_10 (by decide) ?_
    refine x_iE (f := fun k => 0 + k) (x_runS (As := [.int a, .int 8]) (rest := []) X (c_MD_within l D tc (fun k => ad (0 + k)) (fun k => E (0 + k)) a 8 (n := 8) (by decide)) rfl rfl (by decide) (by decide) w_551 w_9 w_549 w_550 ry_MD_within (ct_pre X hP hD (fr_lt 0 0 0 (by omega)) (fr_inj 0 0)) ct_blind hl.1 (Nat.le_of_ble_eq_true rfl) dMD_names_12 ⟨Nat.zero_le _, Nat.zero_le _⟩) hD hP hS (fr_lt 0 0 0 (by omega)) (fr_inj 0 0) (fun H locs hD hP hS => ?_)
    exact q_zret X hlk hr (bi_n _) hP hS dMD_names_15 ⟨by rw [show nmd op a = wi a 8 from (by simp [nmd, *])], rfl⟩
  · refine lv_iload_n hx hb dMD_names_4 rfl (lv_at hl 0 rfl) ?_
    refine lv_iconst (v := 1) hx hb dMD_names_5 (by decide) ?_
    refine lv_icmp_ne (tgt := 16) hx hb dMD_names_6 rfl (fun h6 => ?_) (fun h6 => ?_)
    · refine lv_iload_n hx hb dMD_names_16 rfl (lv_at hl 0 rfl) ?_
      refine lv_iconst (v := 2) hx hb dMD_names_17 (by decide) ?_
      refine lv_icmp_eq (tgt := 26) hx hb dMD_names_18 rfl (fun h18 => ?_) (fun h18 => ?_)
      · refine lv_iload_n hx hb dMD_names_26 rfl (lv_at hl 1 rfl) ?_
        refine lv_iconst (v := 3) hx hb dMD_names_27 (by decide) ?_
        refine x_iE (f := fun k => 0 + k) (x_runS (As := [.int a, .int 3]) (rest := []) X (c_MD_within l D tc (fun k => ad (0 + k)) (fun k => E (0 + k)) a 3 (n := 3) (by decide)) rfl rfl (by decide) (by decide) w_551 w_9 w_549 w_550 ry_MD_within (ct_pre X hP hD (fr_lt 0 0 0 (by omega)) (fr_inj 0 0)) ct_blind hl.1 (Nat.le_of_ble_eq_true rfl) dMD_names_28 ⟨Nat.zero_le _, Nat.zero_le _⟩) hD hP hS (fr_lt 0 0 0 (by omega)) (fr_inj 0 0) (fun H locs hD hP hS => ?_)
        exact q_zret X hlk hr (bi_n _) hP hS dMD_names_31 ⟨by rw [show nmd op a = wi a 3 from (by simp [nmd, *])], rfl⟩
      · refine lv_iload_n hx hb dMD_names_21 rfl (lv_at hl 0 rfl) ?_
        refine lv_iconst (v := 3) hx hb dMD_names_22 (by decide) ?_
        refine lv_icmp_ne (tgt := 32) hx hb dMD_names_23 rfl (fun h23 => ?_) (fun h23 => ?_)
        · refine lv_iload_n hx hb dMD_names_32 rfl (lv_at hl 0 rfl) ?_
          refine lv_iconst (v := 4) hx hb dMD_names_33 (by decide) ?_
          refine lv_icmp_eq (tgt := 42) hx hb dMD_names_34 rfl (fun h34 => ?_) (fun h34 => ?_)
          · refine lv_iload_n hx hb dMD_names_42 rfl (lv_at hl 1 rfl) ?_
            refine lv_iconst (v := 2) hx hb dMD_names_43 (by decide) ?_
            refine x_iE (f := fun k => 0 + k) (x_runS (As := [.int a, .int 2]) (rest := []) X (c_MD_within l D tc (fun k => ad (0 + k)) (fun k => E (0 + k)) a 2 (n := 2) (by decide)) rfl rfl (by decide) (by decide) w_551 w_9 w_549 w_550 ry_MD_within (ct_pre X hP hD (fr_lt 0 0 0 (by omega)) (fr_inj 0 0)) ct_blind hl.1 (Nat.le_of_ble_eq_true rfl) dMD_names_44 ⟨Nat.zero_le _, Nat.zero_le _⟩) hD hP hS (fr_lt 0 0 0 (by omega)) (fr_inj 0 0) (fun H locs hD hP hS => ?_)
            exact q_zret X hlk hr (bi_n _) hP hS dMD_names_47 ⟨by rw [show nmd op a = wi a 2 from (by simp [nmd, *])], rfl⟩
          · refine lv_iload_n hx hb dMD_names_37 rfl (lv_at hl 0 rfl) ?_
            refine lv_iconst (v := 5) hx hb dMD_names_38 (by decide) ?_
            refine lv_icmp_ne (tgt := 48) hx hb dMD_names_39 rfl (fun h39 => ?_) (fun h39 => ?_)
            · refine lv_iload_n hx hb dMD_names_48 rfl (lv_at hl 0 rfl) ?_
              refine lv_bipush (v := 6) hx hb dMD_names_49 (by decide) ?_
              refine lv_icmp_eq (tgt := 60) hx hb dMD_names_51 rfl (fun h51 => ?_) (fun h51 => ?_)
              · refine lv_iload_n hx hb dMD_names_60 rfl (lv_at hl 1 rfl) ?_
                refine lv_iconst (v := 5) hx hb dMD_names_61 (by decide) ?_
                refine x_iE (f := fun k => 0 + k) (x_runS (As := [.int a, .int 5]) (rest := []) X (c_MD_within l D tc (fun k => ad (0 + k)) (fun k => E (0 + k)) a 5 (n := 5) (by decide)) rfl rfl (by decide) (by decide) w_551 w_9 w_549 w_550 ry_MD_within (ct_pre X hP hD (fr_lt 0 0 0 (by omega)) (fr_inj 0 0)) ct_blind hl.1 (Nat.le_of_ble_eq_true rfl) dMD_names_62 ⟨Nat.zero_le _, Nat.zero_le _⟩) hD hP hS (fr_lt 0 0 0 (by omega)) (fr_inj 0 0) (fun H locs hD hP hS => ?_)
                refine lv_if_eq (tgt := 72) hx hb dMD_names_65 rfl (fun h65 => ?_) (fun h65 => ?_)
                · refine lv_iconst (v := 0) hx hb dMD_names_72 (by decide) ?_
                  exact q_zret X hlk hr (by decide) hP hS dMD_names_73 ⟨by rw [show nmd op a = wi a 5 from (by simp [nmd, *]), bi_f h65]; rfl, rfl⟩
                · refine lv_iconst (v := 1) hx hb dMD_names_68 (by decide) ?_
                  refine lv_goto (tgt := 73) hx hb dMD_names_69 rfl ?_
                  exact q_zret X hlk hr (by decide) hP hS dMD_names_73 ⟨by rw [show nmd op a = wi a 5 from (by simp [nmd, *]), bi_t h65]; rfl, rfl⟩
              · refine lv_iload_n hx hb dMD_names_54 rfl (lv_at hl 0 rfl) ?_
                refine lv_bipush (v := 7) hx hb dMD_names_55 (by decide) ?_
                refine lv_icmp_ne (tgt := 68) hx hb dMD_names_57 rfl (fun h57 => ?_) (fun h57 => ?_)
                · refine lv_iconst (v := 1) hx hb dMD_names_68 (by decide) ?_
                  refine lv_goto (tgt := 73) hx hb dMD_names_69 rfl ?_
                  exact q_zret X hlk hr (by decide) hP hS dMD_names_73 ⟨by rw [nmd_ne h1 h6 h18 h23 h34 h39 h51 h57]; rfl, rfl⟩
                · refine lv_iload_n hx hb dMD_names_60 rfl (lv_at hl 1 rfl) ?_
                  refine lv_iconst (v := 5) hx hb dMD_names_61 (by decide) ?_
                  refine x_iE (f := fun k => 0 + k) (x_runS (As := [.int a, .int 5]) (rest := []) X (c_MD_within l D tc (fun k => ad (0 + k)) (fun k => E (0 + k)) a 5 (n := 5) (by decide)) rfl rfl (by decide) (by decide) w_551 w_9 w_549 w_550 ry_MD_within (ct_pre X hP hD (fr_lt 0 0 0 (by omega)) (fr_inj 0 0)) ct_blind hl.1 (Nat.le_of_ble_eq_true rfl) dMD_names_62 ⟨Nat.zero_le _, Nat.zero_le _⟩) hD hP hS (fr_lt 0 0 0 (by omega)) (fr_inj 0 0) (fun H locs hD hP hS => ?_)
                  refine lv_if_eq (tgt := 72) hx hb dMD_names_65 rfl (fun h65 => ?_) (fun h65 => ?_)
                  · refine lv_iconst (v := 0) hx hb dMD_names_72 (by decide) ?_
                    exact q_zret X hlk hr (by decide) hP hS dMD_names_73 ⟨by rw [show nmd op a = wi a 5 from (by simp [nmd, *]), bi_f h65]; rfl, rfl⟩
                  · refine lv_iconst (v := 1) hx hb dMD_names_68 (by decide) ?_
                    refine lv_goto (tgt := 73) hx hb dMD_names_69 rfl ?_
                    exact q_zret X hlk hr (by decide) hP hS dMD_names_73 ⟨by rw [show nmd op a = wi a 5 from (by simp [nmd, *]), bi_t h65]; rfl, rfl⟩
            · refine lv_iload_n hx hb dMD_names_42 rfl (lv_at hl 1 rfl) ?_
              refine lv_iconst (v := 2) hx hb dMD_names_43 (by decide) ?_
              refine x_iE (f := fun k => 0 + k) (x_runS (As := [.int a, .int 2]) (rest := []) X (c_MD_within l D tc (fun k => ad (0 + k)) (fun k => E (0 + k)) a 2 (n := 2) (by decide)) rfl rfl (by decide) (by decide) w_551 w_9 w_549 w_550 ry_MD_within (ct_pre X hP hD (fr_lt 0 0 0 (by omega)) (fr_inj 0 0)) ct_blind hl.1 (Nat.le_of_ble_eq_true rfl) dMD_names_44 ⟨Nat.zero_le _, Nat.zero_le _⟩) hD hP hS (fr_lt 0 0 0 (by omega)) (fr_inj 0 0) (fun H locs hD hP hS => ?_)
              exact q_zret X hlk hr (bi_n _) hP hS dMD_names_47 ⟨by rw [show nmd op a = wi a 2 from (by simp [nmd, *])], rfl⟩
        · refine lv_iload_n hx hb dMD_names_26 rfl (lv_at hl 1 rfl) ?_
          refine lv_iconst (v := 3) hx hb dMD_names_27 (by decide) ?_
          refine x_iE (f := fun k => 0 + k) (x_runS (As := [.int a, .int 3]) (rest := []) X (c_MD_within l D tc (fun k => ad (0 + k)) (fun k => E (0 + k)) a 3 (n := 3) (by decide)) rfl rfl (by decide) (by decide) w_551 w_9 w_549 w_550 ry_MD_within (ct_pre X hP hD (fr_lt 0 0 0 (by omega)) (fr_inj 0 0)) ct_blind hl.1 (Nat.le_of_ble_eq_true rfl) dMD_names_28 ⟨Nat.zero_le _, Nat.zero_le _⟩) hD hP hS (fr_lt 0 0 0 (by omega)) (fr_inj 0 0) (fun H locs hD hP hS => ?_)
          exact q_zret X hlk hr (bi_n _) hP hS dMD_names_31 ⟨by rw [show nmd op a = wi a 3 from (by simp [nmd, *])], rfl⟩
    · refine lv_iload_n hx hb dMD_names_9 rfl (lv_at hl 1 rfl) ?_
      refine lv_bipush (v := 8) hx hb dMD_names_10 (by decide) ?_
      refine x_iE (f := fun k => 0 + k) (x_runS (As := [.int a, .int 8]) (rest := []) X (c_MD_within l D tc (fun k => ad (0 + k)) (fun k => E (0 + k)) a 8 (n := 8) (by decide)) rfl rfl (by decide) (by decide) w_551 w_9 w_549 w_550 ry_MD_within (ct_pre X hP hD (fr_lt 0 0 0 (by omega)) (fr_inj 0 0)) ct_blind hl.1 (Nat.le_of_ble_eq_true rfl) dMD_names_12 ⟨Nat.zero_le _, Nat.zero_le _⟩) hD hP hS (fr_lt 0 0 0 (by omega)) (fr_inj 0 0) (fun H locs hD hP hS => ?_)
      exact q_zret X hlk hr (bi_n _) hP hS dMD_names_15 ⟨by rw [show nmd op a = wi a 8 from (by simp [nmd, *])], rfl⟩
