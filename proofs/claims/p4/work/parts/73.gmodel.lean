theorem dMD_isAccess_0 : decode cMD_isAccess 0 = .ok (.aload_n 0, 1) := by decide +kernel
theorem dMD_isAccess_1 : decode cMD_isAccess 1 = .ok (.getfield 40, 3) := by decide +kernel
theorem dMD_isAccess_4 : decode cMD_isAccess 4 = .ok (.iload_n 1, 1) := by decide +kernel
theorem dMD_isAccess_5 : decode cMD_isAccess 5 = .ok (.iaload, 1) := by decide +kernel
theorem dMD_isAccess_6 : decode cMD_isAccess 6 = .ok (.iconst 1, 1) := by decide +kernel
theorem dMD_isAccess_7 : decode cMD_isAccess 7 = .ok (.if_icmp .le 14, 3) := by decide +kernel
theorem dMD_isAccess_10 : decode cMD_isAccess 10 = .ok (.aload_n 0, 1) := by decide +kernel
theorem dMD_isAccess_11 : decode cMD_isAccess 11 = .ok (.getfield 40, 3) := by decide +kernel
theorem dMD_isAccess_14 : decode cMD_isAccess 14 = .ok (.iload_n 1, 1) := by decide +kernel
theorem dMD_isAccess_15 : decode cMD_isAccess 15 = .ok (.iaload, 1) := by decide +kernel
theorem dMD_isAccess_16 : decode cMD_isAccess 16 = .ok (.bipush 8, 2) := by decide +kernel
theorem dMD_isAccess_18 : decode cMD_isAccess 18 = .ok (.if_icmp .lt 7, 3) := by decide +kernel
theorem dMD_isAccess_21 : decode cMD_isAccess 21 = .ok (.iconst 1, 1) := by decide +kernel
theorem dMD_isAccess_22 : decode cMD_isAccess 22 = .ok (.goto 4, 3) := by decide +kernel
theorem dMD_isAccess_25 : decode cMD_isAccess 25 = .ok (.iconst 0, 1) := by decide +kernel
theorem dMD_isAccess_26 : decode cMD_isAccess 26 = .ok (.ireturn, 1) := by decide +kernel
theorem dMD_isWrite_0 : decode cMD_isWrite 0 = .ok (.aload_n 0, 1) := by decide +kernel
theorem dMD_isWrite_1 : decode cMD_isWrite 1 = .ok (.getfield 40, 3) := by decide +kernel
theorem dMD_isWrite_4 : decode cMD_isWrite 4 = .ok (.iload_n 1, 1) := by decide +kernel
theorem dMD_isWrite_5 : decode cMD_isWrite 5 = .ok (.iaload, 1) := by decide +kernel
theorem dMD_isWrite_6 : decode cMD_isWrite 6 = .ok (.iconst 1, 1) := by decide +kernel
theorem dMD_isWrite_7 : decode cMD_isWrite 7 = .ok (.if_icmp .eq 14, 3) := by decide +kernel
theorem dMD_isWrite_10 : decode cMD_isWrite 10 = .ok (.aload_n 0, 1) := by decide +kernel
theorem dMD_isWrite_11 : decode cMD_isWrite 11 = .ok (.getfield 40, 3) := by decide +kernel
theorem dMD_isWrite_14 : decode cMD_isWrite 14 = .ok (.iload_n 1, 1) := by decide +kernel
theorem dMD_isWrite_15 : decode cMD_isWrite 15 = .ok (.iaload, 1) := by decide +kernel
theorem dMD_isWrite_16 : decode cMD_isWrite 16 = .ok (.bipush 9, 2) := by decide +kernel
theorem dMD_isWrite_18 : decode cMD_isWrite 18 = .ok (.if_icmp .ne 7, 3) := by decide +kernel
theorem dMD_isWrite_21 : decode cMD_isWrite 21 = .ok (.iconst 1, 1) := by decide +kernel
theorem dMD_isWrite_22 : decode cMD_isWrite 22 = .ok (.goto 4, 3) := by decide +kernel
theorem dMD_isWrite_25 : decode cMD_isWrite 25 = .ok (.iconst 0, 1) := by decide +kernel
theorem dMD_isWrite_26 : decode cMD_isWrite 26 = .ok (.ireturn, 1) := by decide +kernel
theorem dMD_isBefore_0 : decode cMD_isBefore 0 = .ok (.aload_n 0, 1) := by decide +kernel
theorem dMD_isBefore_1 : decode cMD_isBefore 1 = .ok (.getfield 50, 3) := by decide +kernel
theorem dMD_isBefore_4 : decode cMD_isBefore 4 = .ok (.iconst 4, 1) := by decide +kernel
theorem dMD_isBefore_5 : decode cMD_isBefore 5 = .ok (.iload_n 2, 1) := by decide +kernel
theorem dMD_isBefore_6 : decode cMD_isBefore 6 = .ok (.imul, 1) := by decide +kernel
theorem dMD_isBefore_7 : decode cMD_isBefore 7 = .ok (.iload_n 1, 1) := by decide +kernel
theorem dMD_isBefore_8 : decode cMD_isBefore 8 = .ok (.bipush 64, 2) := by decide +kernel
theorem dMD_isBefore_10 : decode cMD_isBefore 10 = .ok (.idiv, 1) := by decide +kernel
theorem dMD_isBefore_11 : decode cMD_isBefore 11 = .ok (.iadd, 1) := by decide +kernel
theorem dMD_isBefore_12 : decode cMD_isBefore 12 = .ok (.laload, 1) := by decide +kernel
theorem dMD_isBefore_13 : decode cMD_isBefore 13 = .ok (.iload_n 1, 1) := by decide +kernel
theorem dMD_isBefore_14 : decode cMD_isBefore 14 = .ok (.bipush 64, 2) := by decide +kernel
theorem dMD_isBefore_16 : decode cMD_isBefore 16 = .ok (.irem, 1) := by decide +kernel
theorem dMD_isBefore_17 : decode cMD_isBefore 17 = .ok (.lushr, 1) := by decide +kernel
theorem dMD_isBefore_18 : decode cMD_isBefore 18 = .ok (.lconst 1, 1) := by decide +kernel
theorem dMD_isBefore_19 : decode cMD_isBefore 19 = .ok (.land, 1) := by decide +kernel
theorem dMD_isBefore_20 : decode cMD_isBefore 20 = .ok (.lconst 1, 1) := by decide +kernel
theorem dMD_isBefore_21 : decode cMD_isBefore 21 = .ok (.lcmp, 1) := by decide +kernel
theorem dMD_isBefore_22 : decode cMD_isBefore 22 = .ok (.ifCond .ne 7, 3) := by decide +kernel
theorem dMD_isBefore_25 : decode cMD_isBefore 25 = .ok (.iconst 1, 1) := by decide +kernel
theorem dMD_isBefore_26 : decode cMD_isBefore 26 = .ok (.goto 4, 3) := by decide +kernel
theorem dMD_isBefore_29 : decode cMD_isBefore 29 = .ok (.iconst 0, 1) := by decide +kernel
theorem dMD_isBefore_30 : decode cMD_isBefore 30 = .ok (.ireturn, 1) := by decide +kernel
theorem dMD_spot_0 : decode cMD_spot 0 = .ok (.iload_n 2, 1) := by decide +kernel
theorem dMD_spot_1 : decode cMD_spot 1 = .ok (.ifCond .eq 17, 3) := by decide +kernel
theorem dMD_spot_4 : decode cMD_spot 4 = .ok (.aload_n 0, 1) := by decide +kernel
theorem dMD_spot_5 : decode cMD_spot 5 = .ok (.getfield 43, 3) := by decide +kernel
theorem dMD_spot_8 : decode cMD_spot 8 = .ok (.iload_n 1, 1) := by decide +kernel
theorem dMD_spot_9 : decode cMD_spot 9 = .ok (.iaload, 1) := by decide +kernel
theorem dMD_spot_10 : decode cMD_spot 10 = .ok (.iconst 4, 1) := by decide +kernel
theorem dMD_spot_11 : decode cMD_spot 11 = .ok (.if_icmp .le 7, 3) := by decide +kernel
theorem dMD_spot_14 : decode cMD_spot 14 = .ok (.iconst 4, 1) := by decide +kernel
theorem dMD_spot_15 : decode cMD_spot 15 = .ok (.goto 9, 3) := by decide +kernel
theorem dMD_spot_18 : decode cMD_spot 18 = .ok (.aload_n 0, 1) := by decide +kernel
theorem dMD_spot_19 : decode cMD_spot 19 = .ok (.getfield 43, 3) := by decide +kernel
theorem dMD_spot_22 : decode cMD_spot 22 = .ok (.iload_n 1, 1) := by decide +kernel
theorem dMD_spot_23 : decode cMD_spot 23 = .ok (.iaload, 1) := by decide +kernel
theorem dMD_spot_24 : decode cMD_spot 24 = .ok (.ireturn, 1) := by decide +kernel
theorem dMD_raceWith_0 : decode cMD_raceWith 0 = .ok (.aload_n 0, 1) := by decide +kernel
theorem dMD_raceWith_1 : decode cMD_raceWith 1 = .ok (.iload_n 1, 1) := by decide +kernel
theorem dMD_raceWith_2 : decode cMD_raceWith 2 = .ok (.invokevirtual 120, 3) := by decide +kernel
theorem dMD_raceWith_5 : decode cMD_raceWith 5 = .ok (.ifCond .eq 62, 3) := by decide +kernel
theorem dMD_raceWith_8 : decode cMD_raceWith 8 = .ok (.aload_n 0, 1) := by decide +kernel
theorem dMD_raceWith_9 : decode cMD_raceWith 9 = .ok (.iload_n 1, 1) := by decide +kernel
theorem dMD_raceWith_10 : decode cMD_raceWith 10 = .ok (.iload_n 3, 1) := by decide +kernel
theorem dMD_raceWith_11 : decode cMD_raceWith 11 = .ok (.invokevirtual 109, 3) := by decide +kernel
theorem dMD_raceWith_14 : decode cMD_raceWith 14 = .ok (.aload_n 0, 1) := by decide +kernel
theorem dMD_raceWith_15 : decode cMD_raceWith 15 = .ok (.iload_n 2, 1) := by decide +kernel
theorem dMD_raceWith_16 : decode cMD_raceWith 16 = .ok (.iload_n 3, 1) := by decide +kernel
theorem dMD_raceWith_17 : decode cMD_raceWith 17 = .ok (.invokevirtual 109, 3) := by decide +kernel
theorem dMD_raceWith_20 : decode cMD_raceWith 20 = .ok (.if_icmp .ne 47, 3) := by decide +kernel
theorem dMD_raceWith_23 : decode cMD_raceWith 23 = .ok (.aload_n 0, 1) := by decide +kernel
theorem dMD_raceWith_24 : decode cMD_raceWith 24 = .ok (.getfield 37, 3) := by decide +kernel
theorem dMD_raceWith_27 : decode cMD_raceWith 27 = .ok (.iload_n 1, 1) := by decide +kernel
theorem dMD_raceWith_28 : decode cMD_raceWith 28 = .ok (.iaload, 1) := by decide +kernel
theorem dMD_raceWith_29 : decode cMD_raceWith 29 = .ok (.aload_n 0, 1) := by decide +kernel
theorem dMD_raceWith_30 : decode cMD_raceWith 30 = .ok (.getfield 37, 3) := by decide +kernel
theorem dMD_raceWith_33 : decode cMD_raceWith 33 = .ok (.iload_n 2, 1) := by decide +kernel
theorem dMD_raceWith_34 : decode cMD_raceWith 34 = .ok (.iaload, 1) := by decide +kernel
theorem dMD_raceWith_35 : decode cMD_raceWith 35 = .ok (.if_icmp .eq 32, 3) := by decide +kernel
theorem dMD_raceWith_38 : decode cMD_raceWith 38 = .ok (.aload_n 0, 1) := by decide +kernel
theorem dMD_raceWith_39 : decode cMD_raceWith 39 = .ok (.iload_n 1, 1) := by decide +kernel
theorem dMD_raceWith_40 : decode cMD_raceWith 40 = .ok (.invokevirtual 124, 3) := by decide +kernel
theorem dMD_raceWith_43 : decode cMD_raceWith 43 = .ok (.ifCond .ne 11, 3) := by decide +kernel
theorem dMD_raceWith_46 : decode cMD_raceWith 46 = .ok (.aload_n 0, 1) := by decide +kernel
theorem dMD_raceWith_47 : decode cMD_raceWith 47 = .ok (.iload_n 2, 1) := by decide +kernel
theorem dMD_raceWith_48 : decode cMD_raceWith 48 = .ok (.invokevirtual 124, 3) := by decide +kernel
theorem dMD_raceWith_51 : decode cMD_raceWith 51 = .ok (.ifCond .eq 16, 3) := by decide +kernel
theorem dMD_raceWith_54 : decode cMD_raceWith 54 = .ok (.aload_n 0, 1) := by decide +kernel
theorem dMD_raceWith_55 : decode cMD_raceWith 55 = .ok (.iload_n 1, 1) := by decide +kernel
theorem dMD_raceWith_56 : decode cMD_raceWith 56 = .ok (.iload_n 2, 1) := by decide +kernel
theorem dMD_raceWith_57 : decode cMD_raceWith 57 = .ok (.invokevirtual 127, 3) := by decide +kernel
theorem dMD_raceWith_60 : decode cMD_raceWith 60 = .ok (.ifCond .ne 7, 3) := by decide +kernel
theorem dMD_raceWith_63 : decode cMD_raceWith 63 = .ok (.iconst 1, 1) := by decide +kernel
theorem dMD_raceWith_64 : decode cMD_raceWith 64 = .ok (.goto 4, 3) := by decide +kernel
theorem dMD_raceWith_67 : decode cMD_raceWith 67 = .ok (.iconst 0, 1) := by decide +kernel
theorem dMD_raceWith_68 : decode cMD_raceWith 68 = .ok (.ireturn, 1) := by decide +kernel
set_option maxHeartbeats 4000000 in
set_option maxRecDepth 100000 in
theorem g_MD_isAccess (l : Launch) (D : va_G) (tc : Nat → ClassId) (ad : Nat → Nat) (E : Nat → va_E) (th st ic : Int32) (cn : Nat) (A : Nat → Nat → Int32) (J : Nat → Int64) (k : Nat) (hM : isMD tc ad E th st ic (nI cn) A J) (hk : k < 200) : Ct l D tc yMD_isAccess 0 17 ad E [.ref (ad 0), .int (nI k)] (fun o E2 => ∃ r : Int32, o = .returned (some (.int r)) ∧ E2 = E ∧ True) := by
  refine Ct.ofW (cc := cMD_isAccess) (maxL := 2) (ret := (some .boolean)) (own := R_MD) (by decide) rfl w_607 (Nat.le_of_ble_eq_true rfl) ?_
  intro p e s m args below meth c ls X hlk hr hD hP hS hl
  have hx := X.1
  have hb := X.2.1
  have hl : lv_has ls 2 [(0, .ref (ad 0)), (1, .int (nI k))] := hl
  have hM0 := hM
  obtain ⟨m0, m1, m2, m3, m4, m5, m6, m7, m8, m9, m10, m11, m12, m13, m14, m15, m16⟩ := hM
  refine lv_aload_n hx hb dMD_isAccess_0 rfl (lv_at hl 0 rfl) ?_
  refine g_MD_40 X hP (by omega) (m0) rfl dMD_isAccess_1 ?_
  refine lv_iload_n hx hb dMD_isAccess_4 rfl (lv_at hl 1 rfl) ?_
  refine q_iald k X hP (by omega) (m11) (rfl) (by omega) (by decide) dMD_isAccess_5 ?_
  refine lv_iconst (v := 1) hx hb dMD_isAccess_6 (by decide) ?_
  refine lv_icmp_le (tgt := 21) hx hb dMD_isAccess_7 rfl (fun h7 => ?_) (fun h7 => ?_)
  · refine lv_iconst (v := 1) hx hb dMD_isAccess_21 (by decide) ?_
    refine lv_goto (tgt := 26) hx hb dMD_isAccess_22 rfl ?_
    exact q_zret X hlk hr (by decide) hP hS dMD_isAccess_26 (⟨_, rfl, rfl, trivial⟩)
  · refine lv_aload_n hx hb dMD_isAccess_10 rfl (lv_at hl 0 rfl) ?_
    refine g_MD_40 X hP (by omega) (m0) rfl dMD_isAccess_11 ?_
    refine lv_iload_n hx hb dMD_isAccess_14 rfl (lv_at hl 1 rfl) ?_
    refine q_iald k X hP (by omega) (m11) (rfl) (by omega) (by decide) dMD_isAccess_15 ?_
    refine lv_bipush (v := 8) hx hb dMD_isAccess_16 (by decide) ?_
    refine lv_icmp_lt (tgt := 25) hx hb dMD_isAccess_18 rfl (fun h18 => ?_) (fun h18 => ?_)
    · refine lv_iconst (v := 0) hx hb dMD_isAccess_25 (by decide) ?_
      exact q_zret X hlk hr (by decide) hP hS dMD_isAccess_26 (⟨_, rfl, rfl, trivial⟩)
    · refine lv_iconst (v := 1) hx hb dMD_isAccess_21 (by decide) ?_
      refine lv_goto (tgt := 26) hx hb dMD_isAccess_22 rfl ?_
      exact q_zret X hlk hr (by decide) hP hS dMD_isAccess_26 (⟨_, rfl, rfl, trivial⟩)
set_option maxHeartbeats 4000000 in
set_option maxRecDepth 100000 in
theorem g_MD_isWrite (l : Launch) (D : va_G) (tc : Nat → ClassId) (ad : Nat → Nat) (E : Nat → va_E) (th st ic : Int32) (cn : Nat) (A : Nat → Nat → Int32) (J : Nat → Int64) (k : Nat) (hM : isMD tc ad E th st ic (nI cn) A J) (hk : k < 200) : Ct l D tc yMD_isWrite 0 17 ad E [.ref (ad 0), .int (nI k)] (fun o E2 => ∃ r : Int32, o = .returned (some (.int r)) ∧ E2 = E ∧ True) := by
  refine Ct.ofW (cc := cMD_isWrite) (maxL := 2) (ret := (some .boolean)) (own := R_MD) (by decide) rfl w_611 (Nat.le_of_ble_eq_true rfl) ?_
  intro p e s m args below meth c ls X hlk hr hD hP hS hl
  have hx := X.1
  have hb := X.2.1
  have hl : lv_has ls 2 [(0, .ref (ad 0)), (1, .int (nI k))] := hl
  have hM0 := hM
  obtain ⟨m0, m1, m2, m3, m4, m5, m6, m7, m8, m9, m10, m11, m12, m13, m14, m15, m16⟩ := hM
  refine lv_aload_n hx hb dMD_isWrite_0 rfl (lv_at hl 0 rfl) ?_
  refine g_MD_40 X hP (by omega) (m0) rfl dMD_isWrite_1 ?_
  refine lv_iload_n hx hb dMD_isWrite_4 rfl (lv_at hl 1 rfl) ?_
  refine q_iald k X hP (by omega) (m11) (rfl) (by omega) (by decide) dMD_isWrite_5 ?_
  refine lv_iconst (v := 1) hx hb dMD_isWrite_6 (by decide) ?_
  refine lv_icmp_eq (tgt := 21) hx hb dMD_isWrite_7 rfl (fun h7 => ?_) (fun h7 => ?_)
  · refine lv_iconst (v := 1) hx hb dMD_isWrite_21 (by decide) ?_
    refine lv_goto (tgt := 26) hx hb dMD_isWrite_22 rfl ?_
    exact q_zret X hlk hr (by decide) hP hS dMD_isWrite_26 (⟨_, rfl, rfl, trivial⟩)
  · refine lv_aload_n hx hb dMD_isWrite_10 rfl (lv_at hl 0 rfl) ?_
    refine g_MD_40 X hP (by omega) (m0) rfl dMD_isWrite_11 ?_
    refine lv_iload_n hx hb dMD_isWrite_14 rfl (lv_at hl 1 rfl) ?_
    refine q_iald k X hP (by omega) (m11) (rfl) (by omega) (by decide) dMD_isWrite_15 ?_
    refine lv_bipush (v := 9) hx hb dMD_isWrite_16 (by decide) ?_
    refine lv_icmp_ne (tgt := 25) hx hb dMD_isWrite_18 rfl (fun h18 => ?_) (fun h18 => ?_)
    · refine lv_iconst (v := 0) hx hb dMD_isWrite_25 (by decide) ?_
      exact q_zret X hlk hr (by decide) hP hS dMD_isWrite_26 (⟨_, rfl, rfl, trivial⟩)
    · refine lv_iconst (v := 1) hx hb dMD_isWrite_21 (by decide) ?_
      refine lv_goto (tgt := 26) hx hb dMD_isWrite_22 rfl ?_
      exact q_zret X hlk hr (by decide) hP hS dMD_isWrite_26 (⟨_, rfl, rfl, trivial⟩)
set_option maxHeartbeats 4000000 in
set_option maxRecDepth 100000 in
theorem g_MD_isBefore (l : Launch) (D : va_G) (tc : Nat → ClassId) (ad : Nat → Nat) (E : Nat → va_E) (th st ic : Int32) (cn : Nat) (A : Nat → Nat → Int32) (J : Nat → Int64) (i j : Nat) (hM : isMD tc ad E th st ic (nI cn) A J) (hi : i < 200) (hj : j < 200) : Ct l D tc yMD_isBefore 0 17 ad E [.ref (ad 0), .int (nI i), .int (nI j)] (fun o E2 => ∃ r : Int32, o = .returned (some (.int r)) ∧ E2 = E ∧ True) := by
  refine Ct.ofW (cc := cMD_isBefore) (maxL := 3) (ret := (some .boolean)) (own := R_MD) (by decide) rfl w_615 (Nat.le_of_ble_eq_true rfl) ?_
  intro p e s m args below meth c ls X hlk hr hD hP hS hl
  have hx := X.1
  have hb := X.2.1
  have hl : lv_has ls 3 [(0, .ref (ad 0)), (1, .int (nI i)), (2, .int (nI j))] := hl
  have hM0 := hM
  obtain ⟨m0, m1, m2, m3, m4, m5, m6, m7, m8, m9, m10, m11, m12, m13, m14, m15, m16⟩ := hM
  refine lv_aload_n hx hb dMD_isBefore_0 rfl (lv_at hl 0 rfl) ?_
  refine g_MD_50 X hP (by omega) (m0) rfl dMD_isBefore_1 ?_
  refine lv_iconst (v := 4) hx hb dMD_isBefore_4 (by decide) ?_
  refine lv_iload_n hx hb dMD_isBefore_5 rfl (lv_at hl 2 rfl) ?_
  refine lv_imul hx hb dMD_isBefore_6 ?_
  rw [show (4 * (nI j)) = nI (4 * j) from mul4 j]
  refine lv_iload_n hx hb dMD_isBefore_7 rfl (lv_at hl 1 rfl) ?_
  refine lv_bipush (v := 64) hx hb dMD_isBefore_8 (by decide) ?_
  refine lv_idiv hx hb dMD_isBefore_10 (by decide) ?_
  rw [show ((nI i) / 64) = nI (i / 64) from div64 i hi]
  refine lv_iadd hx hb dMD_isBefore_11 ?_
  rw [show ((nI (4 * j)) + (nI (i / 64))) = nI (4 * j + i / 64) from nI_add _ _]
  refine q_lald (4 * j + i / 64) X hP (by omega) (m14) (rfl) (by omega) (by decide) dMD_isBefore_12 ?_
  refine lv_iload_n hx hb dMD_isBefore_13 rfl (lv_at hl 1 rfl) ?_
  refine lv_bipush (v := 64) hx hb dMD_isBefore_14 (by decide) ?_
  refine lv_irem hx hb dMD_isBefore_16 (by decide) ?_
  refine lv_lushr hx hb dMD_isBefore_17 rfl ?_
  refine lv_lconst (v := 1) hx hb dMD_isBefore_18 (by decide) ?_
  refine lv_land hx hb dMD_isBefore_19 ?_
  refine lv_lconst (v := 1) hx hb dMD_isBefore_20 (by decide) ?_
  refine W.lcmp hx hb dMD_isBefore_21 ?_
  refine lv_if_ne (tgt := 29) hx hb dMD_isBefore_22 rfl (fun h22 => ?_) (fun h22 => ?_)
  · refine lv_iconst (v := 0) hx hb dMD_isBefore_29 (by decide) ?_
    exact q_zret X hlk hr (by decide) hP hS dMD_isBefore_30 (⟨_, rfl, rfl, trivial⟩)
  · refine lv_iconst (v := 1) hx hb dMD_isBefore_25 (by decide) ?_
    refine lv_goto (tgt := 30) hx hb dMD_isBefore_26 rfl ?_
    exact q_zret X hlk hr (by decide) hP hS dMD_isBefore_30 (⟨_, rfl, rfl, trivial⟩)
set_option maxHeartbeats 4000000 in
set_option maxRecDepth 100000 in
theorem g_MD_spot (l : Launch) (D : va_G) (tc : Nat → ClassId) (ad : Nat → Nat) (E : Nat → va_E) (th st ic : Int32) (cn : Nat) (A : Nat → Nat → Int32) (J : Nat → Int64) (k : Nat) (cb : Int32) (hM : isMD tc ad E th st ic (nI cn) A J) (hk : k < 200) : Ct l D tc yMD_spot 0 17 ad E [.ref (ad 0), .int (nI k), .int cb] (fun o E2 => ∃ r : Int32, o = .returned (some (.int r)) ∧ E2 = E ∧ ((∃ q, q < 8 ∧ A 12 k = nI q) → ∃ q, q < 8 ∧ r = nI q)) := by
  refine Ct.ofW (cc := cMD_spot) (maxL := 3) (ret := (some .int)) (own := R_MD) (by decide) rfl w_595 (Nat.le_of_ble_eq_true rfl) ?_
  intro p e s m args below meth c ls X hlk hr hD hP hS hl
  have hx := X.1
  have hb := X.2.1
  have hl : lv_has ls 3 [(0, .ref (ad 0)), (1, .int (nI k)), (2, .int cb)] := hl
  have hM0 := hM
  obtain ⟨m0, m1, m2, m3, m4, m5, m6, m7, m8, m9, m10, m11, m12, m13, m14, m15, m16⟩ := hM
  refine lv_iload_n hx hb dMD_spot_0 rfl (lv_at hl 2 rfl) ?_
  refine lv_if_eq (tgt := 18) hx hb dMD_spot_1 rfl (fun h1 => ?_) (fun h1 => ?_)
  · refine lv_aload_n hx hb dMD_spot_18 rfl (lv_at hl 0 rfl) ?_
    refine g_MD_43 X hP (by omega) (m0) rfl dMD_spot_19 ?_
    refine lv_iload_n hx hb dMD_spot_22 rfl (lv_at hl 1 rfl) ?_
    refine q_iald k X hP (by omega) (m12) (rfl) (by omega) (by decide) dMD_spot_23 ?_
    exact q_iret X hlk hr hP hS dMD_spot_24 (⟨_, rfl, rfl, fun h => h⟩)
  · refine lv_aload_n hx hb dMD_spot_4 rfl (lv_at hl 0 rfl) ?_
    refine g_MD_43 X hP (by omega) (m0) rfl dMD_spot_5 ?_
    refine lv_iload_n hx hb dMD_spot_8 rfl (lv_at hl 1 rfl) ?_
    refine q_iald k X hP (by omega) (m12) (rfl) (by omega) (by decide) dMD_spot_9 ?_
    refine lv_iconst (v := 4) hx hb dMD_spot_10 (by decide) ?_
    refine lv_icmp_le (tgt := 18) hx hb dMD_spot_11 rfl (fun h11 => ?_) (fun h11 => ?_)
    · refine lv_aload_n hx hb dMD_spot_18 rfl (lv_at hl 0 rfl) ?_
      refine g_MD_43 X hP (by omega) (m0) rfl dMD_spot_19 ?_
      refine lv_iload_n hx hb dMD_spot_22 rfl (lv_at hl 1 rfl) ?_
      refine q_iald k X hP (by omega) (m12) (rfl) (by omega) (by decide) dMD_spot_23 ?_
      exact q_iret X hlk hr hP hS dMD_spot_24 (⟨_, rfl, rfl, fun h => h⟩)
    · refine lv_iconst (v := 4) hx hb dMD_spot_14 (by decide) ?_
      refine lv_goto (tgt := 24) hx hb dMD_spot_15 rfl ?_
      exact q_iret X hlk hr hP hS dMD_spot_24 (⟨_, rfl, rfl, fun _ => ⟨4, by decide, rfl⟩⟩)
set_option maxHeartbeats 4000000 in
set_option maxRecDepth 100000 in
theorem g_MD_raceWith (l : Launch) (D : va_G) (tc : Nat → ClassId) (ad : Nat → Nat) (E : Nat → va_E) (th st ic : Int32) (cn : Nat) (A : Nat → Nat → Int32) (J : Nat → Int64) (i j : Nat) (cb : Int32) (hM : isMD tc ad E th st ic (nI cn) A J) (hi : i < 200) (hj : j < 200) : Ct l D tc yMD_raceWith 1 17 ad E [.ref (ad 0), .int (nI i), .int (nI j), .int cb] (fun o E2 => ∃ r : Int32, o = .returned (some (.int r)) ∧ E2 = E ∧ True) := by
  refine Ct.ofW (cc := cMD_raceWith) (maxL := 4) (ret := (some .boolean)) (own := R_MD) (by decide) rfl w_603 (Nat.le_of_ble_eq_true rfl) ?_
  intro p e s m args below meth c ls X hlk hr hD hP hS hl
  have hx := X.1
  have hb := X.2.1
  have hl : lv_has ls 4 [(0, .ref (ad 0)), (1, .int (nI i)), (2, .int (nI j)), (3, .int cb)] := hl
  have hM0 := hM
  obtain ⟨m0, m1, m2, m3, m4, m5, m6, m7, m8, m9, m10, m11, m12, m13, m14, m15, m16⟩ := hM
  refine lv_aload_n hx hb dMD_raceWith_0 rfl (lv_at hl 0 rfl) ?_
  refine lv_iload_n hx hb dMD_raceWith_1 rfl (lv_at hl 1 rfl) ?_
  refine x_iX (f := fun k => 0 + k) (x_runV (C := R_MD) (As := [.int (nI i)]) (rest := []) X (g_MD_isAccess l D tc (fun k => ad (0 + k)) (fun k => E (0 + k)) th st ic cn A J i (by simpa only [Nat.zero_add] using hM0) hi) rfl rfl (by decide) (by decide) w_607 w_9 w_604 w_606 sel_MD_isAccess ry_MD_isAccess (x_recv X hP (by omega) (m0) rfl) (ct_pre X hP hD (fr_lt 17 17 0 (by omega)) (fr_inj 17 0)) ct_blind hl.1 (Nat.le_of_ble_eq_true rfl) dMD_raceWith_2 ⟨Nat.zero_le _, Nat.zero_le _⟩) hD hP hS (fr_lt 17 17 0 (by omega)) (fr_inj 17 0) (fun y1 H locs hy1 hD hP hS => ?_)
  refine lv_if_eq (tgt := 67) hx hb dMD_raceWith_5 rfl (fun h5 => ?_) (fun h5 => ?_)
  · refine lv_iconst (v := 0) hx hb dMD_raceWith_67 (by decide) ?_
    exact q_zret X hlk hr (by decide) hP hS dMD_raceWith_68 (⟨_, rfl, rfl, trivial⟩)
  · refine lv_aload_n hx hb dMD_raceWith_8 rfl (lv_at hl 0 rfl) ?_
    refine lv_iload_n hx hb dMD_raceWith_9 rfl (lv_at hl 1 rfl) ?_
    refine lv_iload_n hx hb dMD_raceWith_10 rfl (lv_at hl 3 rfl) ?_
    refine x_iX (f := fun k => 0 + k) (x_runV (C := R_MD) (As := [.int (nI i), .int cb]) (rest := []) X (g_MD_spot l D tc (fun k => ad (0 + k)) (fun k => E (0 + k)) th st ic cn A J i cb (by simpa only [Nat.zero_add] using hM0) hi) rfl rfl (by decide) (by decide) w_595 w_9 w_592 w_594 sel_MD_spot ry_MD_spot (x_recv X hP (by omega) (m0) rfl) (ct_pre X hP hD (fr_lt 17 17 0 (by omega)) (fr_inj 17 0)) ct_blind hl.1 (Nat.le_of_ble_eq_true rfl) dMD_raceWith_11 ⟨Nat.zero_le _, Nat.zero_le _⟩) hD hP hS (fr_lt 17 17 0 (by omega)) (fr_inj 17 0) (fun y2 H locs hy2 hD hP hS => ?_)
    refine lv_aload_n hx hb dMD_raceWith_14 rfl (lv_at hl 0 rfl) ?_
    refine lv_iload_n hx hb dMD_raceWith_15 rfl (lv_at hl 2 rfl) ?_
    refine lv_iload_n hx hb dMD_raceWith_16 rfl (lv_at hl 3 rfl) ?_
    refine x_iX (f := fun k => 0 + k) (x_runV (C := R_MD) (As := [.int (nI j), .int cb]) (rest := [.int y2]) X (g_MD_spot l D tc (fun k => ad (0 + k)) (fun k => E (0 + k)) th st ic cn A J j cb (by simpa only [Nat.zero_add] using hM0) hj) rfl rfl (by decide) (by decide) w_595 w_9 w_592 w_594 sel_MD_spot ry_MD_spot (x_recv X hP (by omega) (m0) rfl) (ct_pre X hP hD (fr_lt 17 17 0 (by omega)) (fr_inj 17 0)) ct_blind hl.1 (Nat.le_of_ble_eq_true rfl) dMD_raceWith_17 ⟨Nat.zero_le _, Nat.zero_le _⟩) hD hP hS (fr_lt 17 17 0 (by omega)) (fr_inj 17 0) (fun y3 H locs hy3 hD hP hS => ?_)
    refine lv_icmp_ne (tgt := 67) hx hb dMD_raceWith_20 rfl (fun h20 => ?_) (fun h20 => ?_)
    · refine lv_iconst (v := 0) hx hb dMD_raceWith_67 (by decide) ?_
      exact q_zret X hlk hr (by decide) hP hS dMD_raceWith_68 (⟨_, rfl, rfl, trivial⟩)
    · refine lv_aload_n hx hb dMD_raceWith_23 rfl (lv_at hl 0 rfl) ?_
      refine g_MD_37 X hP (by omega) (m0) rfl dMD_raceWith_24 ?_
      refine lv_iload_n hx hb dMD_raceWith_27 rfl (lv_at hl 1 rfl) ?_
      refine q_iald i X hP (by omega) (m10) (rfl) (by omega) (by decide) dMD_raceWith_28 ?_
      refine lv_aload_n hx hb dMD_raceWith_29 rfl (lv_at hl 0 rfl) ?_
      refine g_MD_37 X hP (by omega) (m0) rfl dMD_raceWith_30 ?_
      refine lv_iload_n hx hb dMD_raceWith_33 rfl (lv_at hl 2 rfl) ?_
      refine q_iald j X hP (by omega) (m10) (rfl) (by omega) (by decide) dMD_raceWith_34 ?_
      refine lv_icmp_eq (tgt := 67) hx hb dMD_raceWith_35 rfl (fun h35 => ?_) (fun h35 => ?_)
      · refine lv_iconst (v := 0) hx hb dMD_raceWith_67 (by decide) ?_
        exact q_zret X hlk hr (by decide) hP hS dMD_raceWith_68 (⟨_, rfl, rfl, trivial⟩)
      · refine lv_aload_n hx hb dMD_raceWith_38 rfl (lv_at hl 0 rfl) ?_
        refine lv_iload_n hx hb dMD_raceWith_39 rfl (lv_at hl 1 rfl) ?_
        refine x_iX (f := fun k => 0 + k) (x_runV (C := R_MD) (As := [.int (nI i)]) (rest := []) X (g_MD_isWrite l D tc (fun k => ad (0 + k)) (fun k => E (0 + k)) th st ic cn A J i (by simpa only [Nat.zero_add] using hM0) hi) rfl rfl (by decide) (by decide) w_611 w_9 w_608 w_610 sel_MD_isWrite ry_MD_isWrite (x_recv X hP (by omega) (m0) rfl) (ct_pre X hP hD (fr_lt 17 17 0 (by omega)) (fr_inj 17 0)) ct_blind hl.1 (Nat.le_of_ble_eq_true rfl) dMD_raceWith_40 ⟨Nat.zero_le _, Nat.zero_le _⟩) hD hP hS (fr_lt 17 17 0 (by omega)) (fr_inj 17 0) (fun y4 H locs hy4 hD hP hS => ?_)
        refine lv_if_ne (tgt := 54) hx hb dMD_raceWith_43 rfl (fun h43 => ?_) (fun h43 => ?_)
        · refine lv_aload_n hx hb dMD_raceWith_54 rfl (lv_at hl 0 rfl) ?_
          refine lv_iload_n hx hb dMD_raceWith_55 rfl (lv_at hl 1 rfl) ?_
          refine lv_iload_n hx hb dMD_raceWith_56 rfl (lv_at hl 2 rfl) ?_
          refine x_iX (f := fun k => 0 + k) (x_runV (C := R_MD) (As := [.int (nI i), .int (nI j)]) (rest := []) X (g_MD_isBefore l D tc (fun k => ad (0 + k)) (fun k => E (0 + k)) th st ic cn A J i j (by simpa only [Nat.zero_add] using hM0) hi hj) rfl rfl (by decide) (by decide) w_615 w_9 w_612 w_614 sel_MD_isBefore ry_MD_isBefore (x_recv X hP (by omega) (m0) rfl) (ct_pre X hP hD (fr_lt 17 17 0 (by omega)) (fr_inj 17 0)) ct_blind hl.1 (Nat.le_of_ble_eq_true rfl) dMD_raceWith_57 ⟨Nat.zero_le _, Nat.zero_le _⟩) hD hP hS (fr_lt 17 17 0 (by omega)) (fr_inj 17 0) (fun y6 H locs hy6 hD hP hS => ?_)
          refine lv_if_ne (tgt := 67) hx hb dMD_raceWith_60 rfl (fun h60 => ?_) (fun h60 => ?_)
          · refine lv_iconst (v := 0) hx hb dMD_raceWith_67 (by decide) ?_
            exact q_zret X hlk hr (by decide) hP hS dMD_raceWith_68 (⟨_, rfl, rfl, trivial⟩)
          · refine lv_iconst (v := 1) hx hb dMD_raceWith_63 (by decide) ?_
            refine lv_goto (tgt := 68) hx hb dMD_raceWith_64 rfl ?_
            exact q_zret X hlk hr (by decide) hP hS dMD_raceWith_68 (⟨_, rfl, rfl, trivial⟩)
        · refine lv_aload_n hx hb dMD_raceWith_46 rfl (lv_at hl 0 rfl) ?_
          refine lv_iload_n hx hb dMD_raceWith_47 rfl (lv_at hl 2 rfl) ?_
          refine x_iX (f := fun k => 0 + k) (x_runV (C := R_MD) (As := [.int (nI j)]) (rest := []) X (g_MD_isWrite l D tc (fun k => ad (0 + k)) (fun k => E (0 + k)) th st ic cn A J j (by simpa only [Nat.zero_add] using hM0) hj) rfl rfl (by decide) (by decide) w_611 w_9 w_608 w_610 sel_MD_isWrite ry_MD_isWrite (x_recv X hP (by omega) (m0) rfl) (ct_pre X hP hD (fr_lt 17 17 0 (by omega)) (fr_inj 17 0)) ct_blind hl.1 (Nat.le_of_ble_eq_true rfl) dMD_raceWith_48 ⟨Nat.zero_le _, Nat.zero_le _⟩) hD hP hS (fr_lt 17 17 0 (by omega)) (fr_inj 17 0) (fun y5 H locs hy5 hD hP hS => ?_)
          refine lv_if_eq (tgt := 67) hx hb dMD_raceWith_51 rfl (fun h51 => ?_) (fun h51 => ?_)
          · refine lv_iconst (v := 0) hx hb dMD_raceWith_67 (by decide) ?_
            exact q_zret X hlk hr (by decide) hP hS dMD_raceWith_68 (⟨_, rfl, rfl, trivial⟩)
          · refine lv_aload_n hx hb dMD_raceWith_54 rfl (lv_at hl 0 rfl) ?_
            refine lv_iload_n hx hb dMD_raceWith_55 rfl (lv_at hl 1 rfl) ?_
            refine lv_iload_n hx hb dMD_raceWith_56 rfl (lv_at hl 2 rfl) ?_
            refine x_iX (f := fun k => 0 + k) (x_runV (C := R_MD) (As := [.int (nI i), .int (nI j)]) (rest := []) X (g_MD_isBefore l D tc (fun k => ad (0 + k)) (fun k => E (0 + k)) th st ic cn A J i j (by simpa only [Nat.zero_add] using hM0) hi hj) rfl rfl (by decide) (by decide) w_615 w_9 w_612 w_614 sel_MD_isBefore ry_MD_isBefore (x_recv X hP (by omega) (m0) rfl) (ct_pre X hP hD (fr_lt 17 17 0 (by omega)) (fr_inj 17 0)) ct_blind hl.1 (Nat.le_of_ble_eq_true rfl) dMD_raceWith_57 ⟨Nat.zero_le _, Nat.zero_le _⟩) hD hP hS (fr_lt 17 17 0 (by omega)) (fr_inj 17 0) (fun y6 H locs hy6 hD hP hS => ?_)
            refine lv_if_ne (tgt := 67) hx hb dMD_raceWith_60 rfl (fun h60 => ?_) (fun h60 => ?_)
            · refine lv_iconst (v := 0) hx hb dMD_raceWith_67 (by decide) ?_
              exact q_zret X hlk hr (by decide) hP hS dMD_raceWith_68 (⟨_, rfl, rfl, trivial⟩)
            · refine lv_iconst (v := 1) hx hb dMD_raceWith_63 (by decide) ?_
              refine lv_goto (tgt := 68) hx hb dMD_raceWith_64 rfl ?_
              exact q_zret X hlk hr (by decide) hP hS dMD_raceWith_68 (⟨_, rfl, rfl, trivial⟩)
