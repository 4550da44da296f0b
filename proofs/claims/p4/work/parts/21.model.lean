theorem dMD_thrown_0 : decode cMD_thrown 0 = .ok (.aload_n 0, 1) := by decide +kernel
theorem dMD_thrown_1 : decode cMD_thrown 1 = .ok (.getfield 63, 3) := by decide +kernel
theorem dMD_thrown_4 : decode cMD_thrown 4 = .ok (.ireturn, 1) := by decide +kernel
theorem dMD_raise_0 : decode cMD_raise 0 = .ok (.aload_n 0, 1) := by decide +kernel
theorem dMD_raise_1 : decode cMD_raise 1 = .ok (.iload_n 1, 1) := by decide +kernel
theorem dMD_raise_2 : decode cMD_raise 2 = .ok (.putfield 63, 3) := by decide +kernel
theorem dMD_raise_5 : decode cMD_raise 5 = .ok (.iconst 0, 1) := by decide +kernel
theorem dMD_raise_6 : decode cMD_raise 6 = .ok (.ireturn, 1) := by decide +kernel
theorem dMD_clear_0 : decode cMD_clear 0 = .ok (.aload_n 0, 1) := by decide +kernel
theorem dMD_clear_1 : decode cMD_clear 1 = .ok (.iconst 0, 1) := by decide +kernel
theorem dMD_clear_2 : decode cMD_clear 2 = .ok (.putfield 63, 3) := by decide +kernel
theorem dMD_clear_5 : decode cMD_clear 5 = .ok (.aload_n 0, 1) := by decide +kernel
theorem dMD_clear_6 : decode cMD_clear 6 = .ok (.iconst 0, 1) := by decide +kernel
theorem dMD_clear_7 : decode cMD_clear 7 = .ok (.putfield 71, 3) := by decide +kernel
theorem dMD_clear_10 : decode cMD_clear 10 = .ok (.aload_n 0, 1) := by decide +kernel
theorem dMD_clear_11 : decode cMD_clear 11 = .ok (.iconst 0, 1) := by decide +kernel
theorem dMD_clear_12 : decode cMD_clear 12 = .ok (.putfield 78, 3) := by decide +kernel
theorem dMD_clear_15 : decode cMD_clear 15 = .ok (.iconst 0, 1) := by decide +kernel
theorem dMD_clear_16 : decode cMD_clear 16 = .ok (.istore_n 1, 1) := by decide +kernel
theorem dMD_clear_17 : decode cMD_clear 17 = .ok (.iload_n 1, 1) := by decide +kernel
theorem dMD_clear_18 : decode cMD_clear 18 = .ok (.iconst 5, 1) := by decide +kernel
theorem dMD_clear_19 : decode cMD_clear 19 = .ok (.if_icmp .ge 16, 3) := by decide +kernel
theorem dMD_clear_22 : decode cMD_clear 22 = .ok (.aload_n 0, 1) := by decide +kernel
theorem dMD_clear_23 : decode cMD_clear 23 = .ok (.getfield 7, 3) := by decide +kernel
theorem dMD_clear_26 : decode cMD_clear 26 = .ok (.iload_n 1, 1) := by decide +kernel
theorem dMD_clear_27 : decode cMD_clear 27 = .ok (.iconst 0, 1) := by decide +kernel
theorem dMD_clear_28 : decode cMD_clear 28 = .ok (.iastore, 1) := by decide +kernel
theorem dMD_clear_29 : decode cMD_clear 29 = .ok (.iinc 1 1, 3) := by decide +kernel
theorem dMD_clear_32 : decode cMD_clear 32 = .ok (.goto (-15), 3) := by decide +kernel
theorem dMD_clear_35 : decode cMD_clear 35 = .ok (.iconst 0, 1) := by decide +kernel
theorem dMD_clear_36 : decode cMD_clear 36 = .ok (.istore_n 1, 1) := by decide +kernel
theorem dMD_clear_37 : decode cMD_clear 37 = .ok (.iload_n 1, 1) := by decide +kernel
theorem dMD_clear_38 : decode cMD_clear 38 = .ok (.bipush 8, 2) := by decide +kernel
theorem dMD_clear_40 : decode cMD_clear 40 = .ok (.if_icmp .ge 23, 3) := by decide +kernel
theorem dMD_clear_43 : decode cMD_clear 43 = .ok (.aload_n 0, 1) := by decide +kernel
theorem dMD_clear_44 : decode cMD_clear 44 = .ok (.getfield 54, 3) := by decide +kernel
theorem dMD_clear_47 : decode cMD_clear 47 = .ok (.iload_n 1, 1) := by decide +kernel
theorem dMD_clear_48 : decode cMD_clear 48 = .ok (.iconst (-1), 1) := by decide +kernel
theorem dMD_clear_49 : decode cMD_clear 49 = .ok (.iastore, 1) := by decide +kernel
theorem dMD_clear_50 : decode cMD_clear 50 = .ok (.aload_n 0, 1) := by decide +kernel
theorem dMD_clear_51 : decode cMD_clear 51 = .ok (.getfield 57, 3) := by decide +kernel
theorem dMD_clear_54 : decode cMD_clear 54 = .ok (.iload_n 1, 1) := by decide +kernel
theorem dMD_clear_55 : decode cMD_clear 55 = .ok (.iconst (-1), 1) := by decide +kernel
theorem dMD_clear_56 : decode cMD_clear 56 = .ok (.iastore, 1) := by decide +kernel
theorem dMD_clear_57 : decode cMD_clear 57 = .ok (.iinc 1 1, 3) := by decide +kernel
theorem dMD_clear_60 : decode cMD_clear 60 = .ok (.goto (-23), 3) := by decide +kernel
theorem dMD_clear_63 : decode cMD_clear 63 = .ok (.iconst 0, 1) := by decide +kernel
theorem dMD_clear_64 : decode cMD_clear 64 = .ok (.istore_n 1, 1) := by decide +kernel
theorem dMD_clear_65 : decode cMD_clear 65 = .ok (.iload_n 1, 1) := by decide +kernel
theorem dMD_clear_66 : decode cMD_clear 66 = .ok (.iconst 3, 1) := by decide +kernel
theorem dMD_clear_67 : decode cMD_clear 67 = .ok (.if_icmp .ge 23, 3) := by decide +kernel
theorem dMD_clear_70 : decode cMD_clear 70 = .ok (.aload_n 0, 1) := by decide +kernel
theorem dMD_clear_71 : decode cMD_clear 71 = .ok (.getfield 31, 3) := by decide +kernel
theorem dMD_clear_74 : decode cMD_clear 74 = .ok (.iload_n 1, 1) := by decide +kernel
theorem dMD_clear_75 : decode cMD_clear 75 = .ok (.iconst (-1), 1) := by decide +kernel
theorem dMD_clear_76 : decode cMD_clear 76 = .ok (.iastore, 1) := by decide +kernel
theorem dMD_clear_77 : decode cMD_clear 77 = .ok (.aload_n 0, 1) := by decide +kernel
theorem dMD_clear_78 : decode cMD_clear 78 = .ok (.getfield 34, 3) := by decide +kernel
theorem dMD_clear_81 : decode cMD_clear 81 = .ok (.iload_n 1, 1) := by decide +kernel
theorem dMD_clear_82 : decode cMD_clear 82 = .ok (.iconst 0, 1) := by decide +kernel
theorem dMD_clear_83 : decode cMD_clear 83 = .ok (.iastore, 1) := by decide +kernel
theorem dMD_clear_84 : decode cMD_clear 84 = .ok (.iinc 1 1, 3) := by decide +kernel
theorem dMD_clear_87 : decode cMD_clear 87 = .ok (.goto (-22), 3) := by decide +kernel
theorem dMD_clear_90 : decode cMD_clear 90 = .ok (.return_, 1) := by decide +kernel
theorem dMD_add_0 : decode cMD_add 0 = .ok (.aload_n 0, 1) := by decide +kernel
theorem dMD_add_1 : decode cMD_add 1 = .ok (.iconst 0, 1) := by decide +kernel
theorem dMD_add_2 : decode cMD_add 2 = .ok (.putfield 63, 3) := by decide +kernel
theorem dMD_add_5 : decode cMD_add 5 = .ok (.iload_n 1, 1) := by decide +kernel
theorem dMD_add_6 : decode cMD_add 6 = .ok (.iconst 5, 1) := by decide +kernel
theorem dMD_add_7 : decode cMD_add 7 = .ok (.invokestatic 67, 3) := by decide +kernel
theorem dMD_add_10 : decode cMD_add 10 = .ok (.ifCond .eq 38, 3) := by decide +kernel
theorem dMD_add_13 : decode cMD_add 13 = .ok (.aload_n 0, 1) := by decide +kernel
theorem dMD_add_14 : decode cMD_add 14 = .ok (.getfield 71, 3) := by decide +kernel
theorem dMD_add_17 : decode cMD_add 17 = .ok (.ifCond .ne 31, 3) := by decide +kernel
theorem dMD_add_20 : decode cMD_add 20 = .ok (.iload_n 2, 1) := by decide +kernel
theorem dMD_add_21 : decode cMD_add 21 = .ok (.bipush 13, 2) := by decide +kernel
theorem dMD_add_23 : decode cMD_add 23 = .ok (.invokestatic 67, 3) := by decide +kernel
theorem dMD_add_26 : decode cMD_add 26 = .ok (.ifCond .eq 22, 3) := by decide +kernel
theorem dMD_add_29 : decode cMD_add 29 = .ok (.iload_n 2, 1) := by decide +kernel
theorem dMD_add_30 : decode cMD_add 30 = .ok (.iload_n 3, 1) := by decide +kernel
theorem dMD_add_31 : decode cMD_add 31 = .ok (.invokestatic 75, 3) := by decide +kernel
theorem dMD_add_34 : decode cMD_add 34 = .ok (.ifCond .eq 14, 3) := by decide +kernel
theorem dMD_add_37 : decode cMD_add 37 = .ok (.aload_n 0, 1) := by decide +kernel
theorem dMD_add_38 : decode cMD_add 38 = .ok (.getfield 7, 3) := by decide +kernel
theorem dMD_add_41 : decode cMD_add 41 = .ok (.iload_n 1, 1) := by decide +kernel
theorem dMD_add_42 : decode cMD_add 42 = .ok (.iaload, 1) := by decide +kernel
theorem dMD_add_43 : decode cMD_add 43 = .ok (.bipush 12, 2) := by decide +kernel
theorem dMD_add_45 : decode cMD_add 45 = .ok (.if_icmp .ne 5, 3) := by decide +kernel
theorem dMD_add_48 : decode cMD_add 48 = .ok (.iconst (-1), 1) := by decide +kernel
theorem dMD_add_49 : decode cMD_add 49 = .ok (.ireturn, 1) := by decide +kernel
theorem dMD_add_50 : decode cMD_add 50 = .ok (.bipush 12, 2) := by decide +kernel
theorem dMD_add_52 : decode cMD_add 52 = .ok (.iload_n 1, 1) := by decide +kernel
theorem dMD_add_53 : decode cMD_add 53 = .ok (.imul, 1) := by decide +kernel
theorem dMD_add_54 : decode cMD_add 54 = .ok (.aload_n 0, 1) := by decide +kernel
theorem dMD_add_55 : decode cMD_add 55 = .ok (.getfield 7, 3) := by decide +kernel
theorem dMD_add_58 : decode cMD_add 58 = .ok (.iload_n 1, 1) := by decide +kernel
theorem dMD_add_59 : decode cMD_add 59 = .ok (.iaload, 1) := by decide +kernel
theorem dMD_add_60 : decode cMD_add 60 = .ok (.iadd, 1) := by decide +kernel
theorem dMD_add_61 : decode cMD_add 61 = .ok (.istore 5, 2) := by decide +kernel
theorem dMD_add_63 : decode cMD_add 63 = .ok (.aload_n 0, 1) := by decide +kernel
theorem dMD_add_64 : decode cMD_add 64 = .ok (.getfield 13, 3) := by decide +kernel
theorem dMD_add_67 : decode cMD_add 67 = .ok (.iload 5, 2) := by decide +kernel
theorem dMD_add_69 : decode cMD_add 69 = .ok (.iload_n 2, 1) := by decide +kernel
theorem dMD_add_70 : decode cMD_add 70 = .ok (.iastore, 1) := by decide +kernel
theorem dMD_add_71 : decode cMD_add 71 = .ok (.aload_n 0, 1) := by decide +kernel
theorem dMD_add_72 : decode cMD_add 72 = .ok (.getfield 16, 3) := by decide +kernel
theorem dMD_add_75 : decode cMD_add 75 = .ok (.iload 5, 2) := by decide +kernel
theorem dMD_add_77 : decode cMD_add 77 = .ok (.iload_n 3, 1) := by decide +kernel
theorem dMD_add_78 : decode cMD_add 78 = .ok (.iastore, 1) := by decide +kernel
theorem dMD_add_79 : decode cMD_add 79 = .ok (.aload_n 0, 1) := by decide +kernel
theorem dMD_add_80 : decode cMD_add 80 = .ok (.getfield 19, 3) := by decide +kernel
theorem dMD_add_83 : decode cMD_add 83 = .ok (.iload 5, 2) := by decide +kernel
theorem dMD_add_85 : decode cMD_add 85 = .ok (.iload 4, 2) := by decide +kernel
theorem dMD_add_87 : decode cMD_add 87 = .ok (.iastore, 1) := by decide +kernel
theorem dMD_add_88 : decode cMD_add 88 = .ok (.aload_n 0, 1) := by decide +kernel
theorem dMD_add_89 : decode cMD_add 89 = .ok (.getfield 7, 3) := by decide +kernel
theorem dMD_add_92 : decode cMD_add 92 = .ok (.iload_n 1, 1) := by decide +kernel
theorem dMD_add_93 : decode cMD_add 93 = .ok (.dup2, 1) := by decide +kernel
theorem dMD_add_94 : decode cMD_add 94 = .ok (.iaload, 1) := by decide +kernel
theorem dMD_add_95 : decode cMD_add 95 = .ok (.iconst 1, 1) := by decide +kernel
theorem dMD_add_96 : decode cMD_add 96 = .ok (.iadd, 1) := by decide +kernel
theorem dMD_add_97 : decode cMD_add 97 = .ok (.iastore, 1) := by decide +kernel
theorem dMD_add_98 : decode cMD_add 98 = .ok (.aload_n 0, 1) := by decide +kernel
theorem dMD_add_99 : decode cMD_add 99 = .ok (.getfield 7, 3) := by decide +kernel
theorem dMD_add_102 : decode cMD_add 102 = .ok (.iload_n 1, 1) := by decide +kernel
theorem dMD_add_103 : decode cMD_add 103 = .ok (.iaload, 1) := by decide +kernel
theorem dMD_add_104 : decode cMD_add 104 = .ok (.iconst 1, 1) := by decide +kernel
theorem dMD_add_105 : decode cMD_add 105 = .ok (.isub, 1) := by decide +kernel
theorem dMD_add_106 : decode cMD_add 106 = .ok (.ireturn, 1) := by decide +kernel
set_option maxHeartbeats 4000000 in
set_option maxRecDepth 100000 in
theorem c_MD_thrown (l : Launch) (D : va_G) (tc : Nat → ClassId) (ad : Nat → Nat) (E : Nat → va_E) (th st ic cn : Int32) (A : Nat → Nat → Int32) (J : Nat → Int64) (hM : isMD tc ad E th st ic cn A J) : Ct l D tc yMD_thrown 0 17 ad E [.ref (ad 0)] (fun o E2 => o = .returned (some (.int th)) ∧ E2 = E) := by
  refine Ct.ofW (cc := cMD_thrown) (maxL := 1) (ret := (some .int)) (own := R_MD) (by decide) rfl w_544 (Nat.le_of_ble_eq_true rfl) ?_
  intro p e s m args below meth c ls X hlk hr hD hP hS hl
  have hx := X.1
  have hb := X.2.1
  have hl : lv_has ls 1 [(0, .ref (ad 0))] := hl
  obtain ⟨m0, m1, m2, m3, m4, m5, m6, m7, m8, m9, m10, m11, m12, m13, m14, m15, m16⟩ := hM
  refine lv_aload_n hx hb dMD_thrown_0 rfl (lv_at hl 0 rfl) ?_
  refine g_MD_63 X hP (by omega) (m0) rfl dMD_thrown_1 ?_
  exact q_iret X hlk hr hP hS dMD_thrown_4 (⟨rfl, rfl⟩)
set_option maxHeartbeats 4000000 in
set_option maxRecDepth 100000 in
theorem c_MD_raise (l : Launch) (D : va_G) (tc : Nat → ClassId) (ad : Nat → Nat) (E : Nat → va_E) (th st ic cn : Int32) (A : Nat → Nat → Int32) (J : Nat → Int64) (x : Int32) (hM : isMD tc ad E th st ic cn A J) : Ct l D tc yMD_raise 0 17 ad E [.ref (ad 0), .int x] (fun o E2 => o = .returned (some (.int 0)) ∧ isMD tc ad E2 x st ic cn A J) := by
  refine Ct.ofW (cc := cMD_raise) (maxL := 2) (ret := (some .int)) (own := R_MD) (by decide) rfl w_563 (Nat.le_of_ble_eq_true rfl) ?_
  intro p e s m args below meth c ls X hlk hr hD hP hS hl
  have hx := X.1
  have hb := X.2.1
  have hl : lv_has ls 2 [(0, .ref (ad 0)), (1, .int x)] := hl
  obtain ⟨m0, m1, m2, m3, m4, m5, m6, m7, m8, m9, m10, m11, m12, m13, m14, m15, m16⟩ := hM
  refine lv_aload_n hx hb dMD_raise_0 rfl (lv_at hl 0 rfl) ?_
  refine lv_iload_n hx hb dMD_raise_1 rfl (lv_at hl 1 rfl) ?_
  refine p_MD_63 X hD hP hS (by omega) (m0) rfl rfl (Nat.le_of_ble_eq_true rfl) dMD_raise_2 (fun H locs hD hP hS => ?_)
  have hP : va_P D vwCl (wW 17 ad (va_up E 0 (.inr (7, [.int x, .int st, .int ic, .ref (ad 1), .ref (ad 2), .ref (ad 3), .ref (ad 4), .ref (ad 5), .ref (ad 6), .ref (ad 7), .ref (ad 8), .ref (ad 9), .int cn, .ref (ad 10), .ref (ad 11), .ref (ad 12), .ref (ad 13), .ref (ad 14), .ref (ad 15), .ref (ad 16)])))) H := hP
  have hD : va_D (Aw 17 ad) (wW 17 ad (va_up E 0 (.inr (7, [.int x, .int st, .int ic, .ref (ad 1), .ref (ad 2), .ref (ad 3), .ref (ad 4), .ref (ad 5), .ref (ad 6), .ref (ad 7), .ref (ad 8), .ref (ad 9), .int cn, .ref (ad 10), .ref (ad 11), .ref (ad 12), .ref (ad 13), .ref (ad 14), .ref (ad 15), .ref (ad 16)])))) := hD
  generalize g2 : va_up E 0 (.inr (7, [.int x, .int st, .int ic, .ref (ad 1), .ref (ad 2), .ref (ad 3), .ref (ad 4), .ref (ad 5), .ref (ad 6), .ref (ad 7), .ref (ad 8), .ref (ad 9), .int cn, .ref (ad 10), .ref (ad 11), .ref (ad 12), .ref (ad 13), .ref (ad 14), .ref (ad 15), .ref (ad 16)])) = E1 at hD hP
  have f3 : E1 0 = .inr (7, [.int x, .int st, .int ic, .ref (ad 1), .ref (ad 2), .ref (ad 3), .ref (ad 4), .ref (ad 5), .ref (ad 6), .ref (ad 7), .ref (ad 8), .ref (ad 9), .int cn, .ref (ad 10), .ref (ad 11), .ref (ad 12), .ref (ad 13), .ref (ad 14), .ref (ad 15), .ref (ad 16)]) := by rw [← g2]; exact va_up_self _ _ _
  have f4 : E1 1 = .inl (tc 0, 5, .inl (A 1)) := by rw [← g2, va_up_ne _ _ (by omega)]; exact m1
  have f5 : E1 2 = .inl (tc 0, 60, .inl (A 2)) := by rw [← g2, va_up_ne _ _ (by omega)]; exact m2
  have f6 : E1 3 = .inl (tc 0, 60, .inl (A 3)) := by rw [← g2, va_up_ne _ _ (by omega)]; exact m3
  have f7 : E1 4 = .inl (tc 0, 60, .inl (A 4)) := by rw [← g2, va_up_ne _ _ (by omega)]; exact m4
  have f8 : E1 5 = .inl (tc 0, 5, .inl (A 5)) := by rw [← g2, va_up_ne _ _ (by omega)]; exact m5
  have f9 : E1 6 = .inl (tc 0, 5, .inl (A 6)) := by rw [← g2, va_up_ne _ _ (by omega)]; exact m6
  have f10 : E1 7 = .inl (tc 0, 5, .inl (A 7)) := by rw [← g2, va_up_ne _ _ (by omega)]; exact m7
  have f11 : E1 8 = .inl (tc 0, 3, .inl (A 8)) := by rw [← g2, va_up_ne _ _ (by omega)]; exact m8
  have f12 : E1 9 = .inl (tc 0, 3, .inl (A 9)) := by rw [← g2, va_up_ne _ _ (by omega)]; exact m9
  have f13 : E1 10 = .inl (tc 0, 200, .inl (A 10)) := by rw [← g2, va_up_ne _ _ (by omega)]; exact m10
  have f14 : E1 11 = .inl (tc 0, 200, .inl (A 11)) := by rw [← g2, va_up_ne _ _ (by omega)]; exact m11
  have f15 : E1 12 = .inl (tc 0, 200, .inl (A 12)) := by rw [← g2, va_up_ne _ _ (by omega)]; exact m12
  have f16 : E1 13 = .inl (tc 2, 200, .inl (A 13)) := by rw [← g2, va_up_ne _ _ (by omega)]; exact m13
  have f17 : E1 15 = .inl (tc 0, 8, .inl (A 15)) := by rw [← g2, va_up_ne _ _ (by omega)]; exact m15
  have f18 : E1 16 = .inl (tc 0, 8, .inl (A 16)) := by rw [← g2, va_up_ne _ _ (by omega)]; exact m16
  have f19 : E1 14 = .inl (tc 1, 800, .inr (.inl J)) := by rw [← g2, va_up_ne _ _ (by omega)]; exact m14
  refine lv_iconst (v := 0) hx hb dMD_raise_5 (by decide) ?_
  exact q_iret X hlk hr hP hS dMD_raise_6 (⟨rfl, ⟨f3, f4, f5, f6, f7, f8, f9, f10, f11, f12, f13, f14, f15, f16, f19, f17, f18⟩⟩)
set_option maxHeartbeats 4000000 in
set_option maxRecDepth 100000 in
theorem c_MD_clear (l : Launch) (D : va_G) (tc : Nat → ClassId) (ad : Nat → Nat) (E : Nat → va_E) (th st ic cn : Int32) (A : Nat → Nat → Int32) (J : Nat → Int64) (hM : isMD tc ad E th st ic cn A J) : Ct l D tc yMD_clear 0 17 ad E [.ref (ad 0)] (fun o E2 => o = .returned none ∧ MDf tc ad E2 0) := by
  refine Ct.ofW (cc := cMD_clear) (maxL := 2) (ret := none) (own := R_MD) (by decide) rfl w_498 (Nat.le_of_ble_eq_true rfl) ?_
  intro p e s m args below meth c ls X hlk hr hD hP hS hl
  have hx := X.1
  have hb := X.2.1
  have hl : lv_has ls 2 [(0, .ref (ad 0))] := hl
  obtain ⟨m0, m1, m2, m3, m4, m5, m6, m7, m8, m9, m10, m11, m12, m13, m14, m15, m16⟩ := hM
  refine lv_aload_n hx hb dMD_clear_0 rfl (lv_at hl 0 rfl) ?_
  refine lv_iconst (v := 0) hx hb dMD_clear_1 (by decide) ?_
  refine p_MD_63 X hD hP hS (by omega) (m0) rfl rfl (Nat.le_of_ble_eq_true rfl) dMD_clear_2 (fun H locs hD hP hS => ?_)
  have hP : va_P D vwCl (wW 17 ad (va_up E 0 (.inr (7, [.int 0, .int st, .int ic, .ref (ad 1), .ref (ad 2), .ref (ad 3), .ref (ad 4), .ref (ad 5), .ref (ad 6), .ref (ad 7), .ref (ad 8), .ref (ad 9), .int cn, .ref (ad 10), .ref (ad 11), .ref (ad 12), .ref (ad 13), .ref (ad 14), .ref (ad 15), .ref (ad 16)])))) H := hP
  have hD : va_D (Aw 17 ad) (wW 17 ad (va_up E 0 (.inr (7, [.int 0, .int st, .int ic, .ref (ad 1), .ref (ad 2), .ref (ad 3), .ref (ad 4), .ref (ad 5), .ref (ad 6), .ref (ad 7), .ref (ad 8), .ref (ad 9), .int cn, .ref (ad 10), .ref (ad 11), .ref (ad 12), .ref (ad 13), .ref (ad 14), .ref (ad 15), .ref (ad 16)])))) := hD
  generalize g2 : va_up E 0 (.inr (7, [.int 0, .int st, .int ic, .ref (ad 1), .ref (ad 2), .ref (ad 3), .ref (ad 4), .ref (ad 5), .ref (ad 6), .ref (ad 7), .ref (ad 8), .ref (ad 9), .int cn, .ref (ad 10), .ref (ad 11), .ref (ad 12), .ref (ad 13), .ref (ad 14), .ref (ad 15), .ref (ad 16)])) = E1 at hD hP
  have f3 : E1 0 = .inr (7, [.int 0, .int st, .int ic, .ref (ad 1), .ref (ad 2), .ref (ad 3), .ref (ad 4), .ref (ad 5), .ref (ad 6), .ref (ad 7), .ref (ad 8), .ref (ad 9), .int cn, .ref (ad 10), .ref (ad 11), .ref (ad 12), .ref (ad 13), .ref (ad 14), .ref (ad 15), .ref (ad 16)]) := by rw [← g2]; exact va_up_self _ _ _
  have f4 : E1 1 = .inl (tc 0, 5, .inl (A 1)) := by rw [← g2, va_up_ne _ _ (by omega)]; exact m1
  have f5 : E1 2 = .inl (tc 0, 60, .inl (A 2)) := by rw [← g2, va_up_ne _ _ (by omega)]; exact m2
  have f6 : E1 3 = .inl (tc 0, 60, .inl (A 3)) := by rw [← g2, va_up_ne _ _ (by omega)]; exact m3
  have f7 : E1 4 = .inl (tc 0, 60, .inl (A 4)) := by rw [← g2, va_up_ne _ _ (by omega)]; exact m4
  have f8 : E1 5 = .inl (tc 0, 5, .inl (A 5)) := by rw [← g2, va_up_ne _ _ (by omega)]; exact m5
  have f9 : E1 6 = .inl (tc 0, 5, .inl (A 6)) := by rw [← g2, va_up_ne _ _ (by omega)]; exact m6
  have f10 : E1 7 = .inl (tc 0, 5, .inl (A 7)) := by rw [← g2, va_up_ne _ _ (by omega)]; exact m7
  have f11 : E1 8 = .inl (tc 0, 3, .inl (A 8)) := by rw [← g2, va_up_ne _ _ (by omega)]; exact m8
  have f12 : E1 9 = .inl (tc 0, 3, .inl (A 9)) := by rw [← g2, va_up_ne _ _ (by omega)]; exact m9
  have f13 : E1 10 = .inl (tc 0, 200, .inl (A 10)) := by rw [← g2, va_up_ne _ _ (by omega)]; exact m10
  have f14 : E1 11 = .inl (tc 0, 200, .inl (A 11)) := by rw [← g2, va_up_ne _ _ (by omega)]; exact m11
  have f15 : E1 12 = .inl (tc 0, 200, .inl (A 12)) := by rw [← g2, va_up_ne _ _ (by omega)]; exact m12
  have f16 : E1 13 = .inl (tc 2, 200, .inl (A 13)) := by rw [← g2, va_up_ne _ _ (by omega)]; exact m13
  have f17 : E1 15 = .inl (tc 0, 8, .inl (A 15)) := by rw [← g2, va_up_ne _ _ (by omega)]; exact m15
  have f18 : E1 16 = .inl (tc 0, 8, .inl (A 16)) := by rw [← g2, va_up_ne _ _ (by omega)]; exact m16
  have f19 : E1 14 = .inl (tc 1, 800, .inr (.inl J)) := by rw [← g2, va_up_ne _ _ (by omega)]; exact m14
  refine lv_aload_n hx hb dMD_clear_5 rfl (lv_at hl 0 rfl) ?_
  refine lv_iconst (v := 0) hx hb dMD_clear_6 (by decide) ?_
  refine p_MD_71 X hD hP hS (by omega) (f3) (by decide) rfl (Nat.le_of_ble_eq_true rfl) dMD_clear_7 (fun H locs hD hP hS => ?_)
  have hP : va_P D vwCl (wW 17 ad (va_up E1 0 (.inr (7, [.int 0, .int 0, .int ic, .ref (ad 1), .ref (ad 2), .ref (ad 3), .ref (ad 4), .ref (ad 5), .ref (ad 6), .ref (ad 7), .ref (ad 8), .ref (ad 9), .int cn, .ref (ad 10), .ref (ad 11), .ref (ad 12), .ref (ad 13), .ref (ad 14), .ref (ad 15), .ref (ad 16)])))) H := hP
  have hD : va_D (Aw 17 ad) (wW 17 ad (va_up E1 0 (.inr (7, [.int 0, .int 0, .int ic, .ref (ad 1), .ref (ad 2), .ref (ad 3), .ref (ad 4), .ref (ad 5), .ref (ad 6), .ref (ad 7), .ref (ad 8), .ref (ad 9), .int cn, .ref (ad 10), .ref (ad 11), .ref (ad 12), .ref (ad 13), .ref (ad 14), .ref (ad 15), .ref (ad 16)])))) := hD
  generalize g21 : va_up E1 0 (.inr (7, [.int 0, .int 0, .int ic, .ref (ad 1), .ref (ad 2), .ref (ad 3), .ref (ad 4), .ref (ad 5), .ref (ad 6), .ref (ad 7), .ref (ad 8), .ref (ad 9), .int cn, .ref (ad 10), .ref (ad 11), .ref (ad 12), .ref (ad 13), .ref (ad 14), .ref (ad 15), .ref (ad 16)])) = E20 at hD hP
  have f22 : E20 0 = .inr (7, [.int 0, .int 0, .int ic, .ref (ad 1), .ref (ad 2), .ref (ad 3), .ref (ad 4), .ref (ad 5), .ref (ad 6), .ref (ad 7), .ref (ad 8), .ref (ad 9), .int cn, .ref (ad 10), .ref (ad 11), .ref (ad 12), .ref (ad 13), .ref (ad 14), .ref (ad 15), .ref (ad 16)]) := by rw [← g21]; exact va_up_self _ _ _
  have f23 : E20 1 = .inl (tc 0, 5, .inl (A 1)) := by rw [← g21, va_up_ne _ _ (by omega)]; exact f4
  have f24 : E20 2 = .inl (tc 0, 60, .inl (A 2)) := by rw [← g21, va_up_ne _ _ (by omega)]; exact f5
  have f25 : E20 3 = .inl (tc 0, 60, .inl (A 3)) := by rw [← g21, va_up_ne _ _ (by omega)]; exact f6
  have f26 : E20 4 = .inl (tc 0, 60, .inl (A 4)) := by rw [← g21, va_up_ne _ _ (by omega)]; exact f7
  have f27 : E20 5 = .inl (tc 0, 5, .inl (A 5)) := by rw [← g21, va_up_ne _ _ (by omega)]; exact f8
  have f28 : E20 6 = .inl (tc 0, 5, .inl (A 6)) := by rw [← g21, va_up_ne _ _ (by omega)]; exact f9
  have f29 : E20 7 = .inl (tc 0, 5, .inl (A 7)) := by rw [← g21, va_up_ne _ _ (by omega)]; exact f10
  have f30 : E20 8 = .inl (tc 0, 3, .inl (A 8)) := by rw [← g21, va_up_ne _ _ (by omega)]; exact f11
  have f31 : E20 9 = .inl (tc 0, 3, .inl (A 9)) := by rw [← g21, va_up_ne _ _ (by omega)]; exact f12
  have f32 : E20 10 = .inl (tc 0, 200, .inl (A 10)) := by rw [← g21, va_up_ne _ _ (by omega)]; exact f13
  have f33 : E20 11 = .inl (tc 0, 200, .inl (A 11)) := by rw [← g21, va_up_ne _ _ (by omega)]; exact f14
  have f34 : E20 12 = .inl (tc 0, 200, .inl (A 12)) := by rw [← g21, va_up_ne _ _ (by omega)]; exact f15
  have f35 : E20 13 = .inl (tc 2, 200, .inl (A 13)) := by rw [← g21, va_up_ne _ _ (by omega)]; exact f16
  have f36 : E20 15 = .inl (tc 0, 8, .inl (A 15)) := by rw [← g21, va_up_ne _ _ (by omega)]; exact f17
  have f37 : E20 16 = .inl (tc 0, 8, .inl (A 16)) := by rw [← g21, va_up_ne _ _ (by omega)]; exact f18
  have f38 : E20 14 = .inl (tc 1, 800, .inr (.inl J)) := by rw [← g21, va_up_ne _ _ (by omega)]; exact f19
  refine lv_aload_n hx hb dMD_clear_10 rfl (lv_at hl 0 rfl) ?_
  refine lv_iconst (v := 0) hx hb dMD_clear_11 (by decide) ?_
  refine p_MD_78 X hD hP hS (by omega) (f22) rfl rfl (Nat.le_of_ble_eq_true rfl) dMD_clear_12 (fun H locs hD hP hS => ?_)
  have hP : va_P D vwCl (wW 17 ad (va_up E20 0 (.inr (7, [.int 0, .int 0, .int ic, .ref (ad 1), .ref (ad 2), .ref (ad 3), .ref (ad 4), .ref (ad 5), .ref (ad 6), .ref (ad 7), .ref (ad 8), .ref (ad 9), .int 0, .ref (ad 10), .ref (ad 11), .ref (ad 12), .ref (ad 13), .ref (ad 14), .ref (ad 15), .ref (ad 16)])))) H := hP
  have hD : va_D (Aw 17 ad) (wW 17 ad (va_up E20 0 (.inr (7, [.int 0, .int 0, .int ic, .ref (ad 1), .ref (ad 2), .ref (ad 3), .ref (ad 4), .ref (ad 5), .ref (ad 6), .ref (ad 7), .ref (ad 8), .ref (ad 9), .int 0, .ref (ad 10), .ref (ad 11), .ref (ad 12), .ref (ad 13), .ref (ad 14), .ref (ad 15), .ref (ad 16)])))) := hD
  generalize g40 : va_up E20 0 (.inr (7, [.int 0, .int 0, .int ic, .ref (ad 1), .ref (ad 2), .ref (ad 3), .ref (ad 4), .ref (ad 5), .ref (ad 6), .ref (ad 7), .ref (ad 8), .ref (ad 9), .int 0, .ref (ad 10), .ref (ad 11), .ref (ad 12), .ref (ad 13), .ref (ad 14), .ref (ad 15), .ref (ad 16)])) = E39 at hD hP
  have f41 : E39 0 = .inr (7, [.int 0, .int 0, .int ic, .ref (ad 1), .ref (ad 2), .ref (ad 3), .ref (ad 4), .ref (ad 5), .ref (ad 6), .ref (ad 7), .ref (ad 8), .ref (ad 9), .int 0, .ref (ad 10), .ref (ad 11), .ref (ad 12), .ref (ad 13), .ref (ad 14), .ref (ad 15), .ref (ad 16)]) := by rw [← g40]; exact va_up_self _ _ _
  have f42 : E39 1 = .inl (tc 0, 5, .inl (A 1)) := by rw [← g40, va_up_ne _ _ (by omega)]; exact f23
  have f43 : E39 2 = .inl (tc 0, 60, .inl (A 2)) := by rw [← g40, va_up_ne _ _ (by omega)]; exact f24
  have f44 : E39 3 = .inl (tc 0, 60, .inl (A 3)) := by rw [← g40, va_up_ne _ _ (by omega)]; exact f25
  have f45 : E39 4 = .inl (tc 0, 60, .inl (A 4)) := by rw [← g40, va_up_ne _ _ (by omega)]; exact f26
  have f46 : E39 5 = .inl (tc 0, 5, .inl (A 5)) := by rw [← g40, va_up_ne _ _ (by omega)]; exact f27
  have f47 : E39 6 = .inl (tc 0, 5, .inl (A 6)) := by rw [← g40, va_up_ne _ _ (by omega)]; exact f28
  have f48 : E39 7 = .inl (tc 0, 5, .inl (A 7)) := by rw [← g40, va_up_ne _ _ (by omega)]; exact f29
  have f49 : E39 8 = .inl (tc 0, 3, .inl (A 8)) := by rw [← g40, va_up_ne _ _ (by omega)]; exact f30
  have f50 : E39 9 = .inl (tc 0, 3, .inl (A 9)) := by rw [← g40, va_up_ne _ _ (by omega)]; exact f31
  have f51 : E39 10 = .inl (tc 0, 200, .inl (A 10)) := by rw [← g40, va_up_ne _ _ (by omega)]; exact f32
  have f52 : E39 11 = .inl (tc 0, 200, .inl (A 11)) := by rw [← g40, va_up_ne _ _ (by omega)]; exact f33
  have f53 : E39 12 = .inl (tc 0, 200, .inl (A 12)) := by rw [← g40, va_up_ne _ _ (by omega)]; exact f34
  have f54 : E39 13 = .inl (tc 2, 200, .inl (A 13)) := by rw [← g40, va_up_ne _ _ (by omega)]; exact f35
  have f55 : E39 15 = .inl (tc 0, 8, .inl (A 15)) := by rw [← g40, va_up_ne _ _ (by omega)]; exact f36
  have f56 : E39 16 = .inl (tc 0, 8, .inl (A 16)) := by rw [← g40, va_up_ne _ _ (by omega)]; exact f37
  have f57 : E39 14 = .inl (tc 1, 800, .inr (.inl J)) := by rw [← g40, va_up_ne _ _ (by omega)]; exact f38
  refine lv_iconst (v := 0) hx hb dMD_clear_15 (by decide) ?_
  refine lv_istore_n hx hb dMD_clear_16 rfl hl (by decide) rfl (fun ls hl => ?_)
  have hl : lv_has ls 2 [(1, .int 0), (0, .ref (ad 0))] := hl
  have loop1 : ∀ (r i : Nat) (B : Nat → Nat → Int32) (H : Heap) (locs : List Loc) (ls : Array Slot) (F : Nat → va_E), i + r = 5 → isMD tc ad F 0 0 ic 0 B J → (∀ j, j < i → B 1 j = 0) → va_D (Aw 17 ad) (wW 17 ad F) → va_P D vwCl (wW 17 ad F) H → va_S (Aw 17 ad) s.heap H locs → lv_has ls 2 [(1, .int (nI i)), (0, .ref (ad 0))] → W p l e (rmD 0) s m args below meth c H locs 0 0 (XQ below (CtQ D 17 ad (fun o E2 => o = .returned none ∧ MDf tc ad E2 0)) args s 0 0 (Aw 17 ad)) (F0 m 17 ls []) := by
    intro r
    induction r with
    | zero =>
      intro i B H locs ls F hi hM q1 hD hP hS hl
      obtain ⟨m0, m1, m2, m3, m4, m5, m6, m7, m8, m9, m10, m11, m12, m13, m14, m15, m16⟩ := hM
      refine lv_iload_n hx hb dMD_clear_17 rfl (lv_at hl 0 rfl) ?_
      refine lv_iconst (v := 5) hx hb dMD_clear_18 (by decide) ?_
      refine lv_icmp_ge (tgt := 35) hx hb dMD_clear_19 rfl (fun h19 => ?_) (fun h19 => absurd (nI_le (a := 5) (b := i) (by omega) (by omega)) h19)
      have hi5 : i = 5 := by omega
      subst hi5
      have loop2 : ∀ (r i : Nat) (C : Nat → Nat → Int32) (H : Heap) (locs : List Loc) (ls : Array Slot) (G : Nat → va_E), i + r = 8 → isMD tc ad G 0 0 ic 0 C J → (∀ j, j < 5 → C 1 j = 0) → (∀ j, j < i → C 15 j = -1) → (∀ j, j < i → C 16 j = -1) → va_D (Aw 17 ad) (wW 17 ad G) → va_P D vwCl (wW 17 ad G) H → va_S (Aw 17 ad) s.heap H locs → lv_has ls 2 [(1, .int (nI i)), (0, .ref (ad 0))] → W p l e (rmD 0) s m args below meth c H locs 0 0 (XQ below (CtQ D 17 ad (fun o E2 => o = .returned none ∧ MDf tc ad E2 0)) args s 0 0 (Aw 17 ad)) (F0 m 37 ls []) := by
        intro r
        induction r with
        | zero =>
          intro i C H locs ls G hi hM q1 q2 q3 hD hP hS hl
          obtain ⟨m0, m1, m2, m3, m4, m5, m6, m7, m8, m9, m10, m11, m12, m13, m14, m15, m16⟩ := hM
          refine lv_iload_n hx hb dMD_clear_37 rfl (lv_at hl 0 rfl) ?_
          refine lv_bipush (v := 8) hx hb dMD_clear_38 (by decide) ?_
          refine lv_icmp_ge (tgt := 63) hx hb dMD_clear_40 rfl (fun h40 => ?_) (fun h40 => absurd (nI_le (a := 8) (b := i) (by omega) (by omega)) h40)
          have hi8 : i = 8 := by omega
          subst hi8
          have loop3 : ∀ (r i : Nat) (K : Nat → Nat → Int32) (H : Heap) (locs : List Loc) (ls : Array Slot) (M : Nat → va_E), i + r = 3 → isMD tc ad M 0 0 ic 0 K J → (∀ j, j < 5 → K 1 j = 0) → (∀ j, j < 8 → K 15 j = -1) → (∀ j, j < 8 → K 16 j = -1) → (∀ j, j < i → K 8 j = -1) → (∀ j, j < i → K 9 j = 0) → va_D (Aw 17 ad) (wW 17 ad M) → va_P D vwCl (wW 17 ad M) H → va_S (Aw 17 ad) s.heap H locs → lv_has ls 2 [(1, .int (nI i)), (0, .ref (ad 0))] → W p l e (rmD 0) s m args below meth c H locs 0 0 (XQ below (CtQ D 17 ad (fun o E2 => o = .returned none ∧ MDf tc ad E2 0)) args s 0 0 (Aw 17 ad)) (F0 m 65 ls []) := by
            intro r
            induction r with
            | zero =>
              intro i K H locs ls M hi hM q1 q2 q3 q4 q5 hD hP hS hl
              have hM0 := hM
              obtain ⟨m0, m1, m2, m3, m4, m5, m6, m7, m8, m9, m10, m11, m12, m13, m14, m15, m16⟩ := hM
              refine lv_iload_n hx hb dMD_clear_65 rfl (lv_at hl 0 rfl) ?_
              refine lv_iconst (v := 3) hx hb dMD_clear_66 (by decide) ?_
              refine lv_icmp_ge (tgt := 90) hx hb dMD_clear_67 rfl (fun h67 => ?_) (fun h67 => absurd (nI_le (a := 3) (b := i) (by omega) (by omega)) h67)
              exact q_vret X hlk hr hP hS dMD_clear_90 (⟨rfl, ic, K, J, hM0, q1, q2, q3, fun t ht => q4 t (by omega), fun t ht => q5 t (by omega)⟩)
            | succ r ih =>
              intro i K H locs ls M hi hM q1 q2 q3 q4 q5 hD hP hS hl
              have hM0 := hM
              obtain ⟨m0, m1, m2, m3, m4, m5, m6, m7, m8, m9, m10, m11, m12, m13, m14, m15, m16⟩ := hM
              refine lv_iload_n hx hb dMD_clear_65 rfl (lv_at hl 0 rfl) ?_
              refine lv_iconst (v := 3) hx hb dMD_clear_66 (by decide) ?_
              refine lv_icmp_ge (tgt := 90) hx hb dMD_clear_67 rfl (fun h67 => absurd h67 (nI_ge (a := i) (b := 3) (by omega) (by omega))) (fun h67 => ?_)
              refine lv_aload_n hx hb dMD_clear_70 rfl (lv_at hl 1 rfl) ?_
              refine g_MD_31 X hP (by omega) (m0) rfl dMD_clear_71 ?_
              refine lv_iload_n hx hb dMD_clear_74 rfl (lv_at hl 0 rfl) ?_
              refine lv_iconst (v := (-1)) hx hb dMD_clear_75 (by decide) ?_
              refine q_iast i X hD hP hS (by omega) (m8) (rfl) (by omega) (by decide) dMD_clear_76 (fun H locs hD hP hS => ?_)
              have hP : va_P D vwCl (wW 17 ad (va_up M 8 (.inl (tc 0, 3, .inl (upd (K 8) i (-1)))))) H := hP
              have hD : va_D (Aw 17 ad) (wW 17 ad (va_up M 8 (.inl (tc 0, 3, .inl (upd (K 8) i (-1)))))) := hD
              generalize g59 : va_up M 8 (.inl (tc 0, 3, .inl (upd (K 8) i (-1)))) = E58 at hD hP
              have f60 : E58 0 = .inr (7, [.int 0, .int 0, .int ic, .ref (ad 1), .ref (ad 2), .ref (ad 3), .ref (ad 4), .ref (ad 5), .ref (ad 6), .ref (ad 7), .ref (ad 8), .ref (ad 9), .int 0, .ref (ad 10), .ref (ad 11), .ref (ad 12), .ref (ad 13), .ref (ad 14), .ref (ad 15), .ref (ad 16)]) := by rw [← g59, va_up_ne _ _ (by omega)]; exact m0
              have f61 : E58 1 = .inl (tc 0, 5, .inl (K 1)) := by rw [← g59, va_up_ne _ _ (by omega)]; exact m1
              have f62 : E58 2 = .inl (tc 0, 60, .inl (K 2)) := by rw [← g59, va_up_ne _ _ (by omega)]; exact m2
              have f63 : E58 3 = .inl (tc 0, 60, .inl (K 3)) := by rw [← g59, va_up_ne _ _ (by omega)]; exact m3
              have f64 : E58 4 = .inl (tc 0, 60, .inl (K 4)) := by rw [← g59, va_up_ne _ _ (by omega)]; exact m4
              have f65 : E58 5 = .inl (tc 0, 5, .inl (K 5)) := by rw [← g59, va_up_ne _ _ (by omega)]; exact m5
              have f66 : E58 6 = .inl (tc 0, 5, .inl (K 6)) := by rw [← g59, va_up_ne _ _ (by omega)]; exact m6
              have f67 : E58 7 = .inl (tc 0, 5, .inl (K 7)) := by rw [← g59, va_up_ne _ _ (by omega)]; exact m7
              have f68 : E58 8 = .inl (tc 0, 3, .inl (upd (K 8) i (-1))) := by rw [← g59]; exact va_up_self _ _ _
              have f69 : E58 9 = .inl (tc 0, 3, .inl (K 9)) := by rw [← g59, va_up_ne _ _ (by omega)]; exact m9
              have f70 : E58 10 = .inl (tc 0, 200, .inl (K 10)) := by rw [← g59, va_up_ne _ _ (by omega)]; exact m10
              have f71 : E58 11 = .inl (tc 0, 200, .inl (K 11)) := by rw [← g59, va_up_ne _ _ (by omega)]; exact m11
              have f72 : E58 12 = .inl (tc 0, 200, .inl (K 12)) := by rw [← g59, va_up_ne _ _ (by omega)]; exact m12
              have f73 : E58 13 = .inl (tc 2, 200, .inl (K 13)) := by rw [← g59, va_up_ne _ _ (by omega)]; exact m13
              have f74 : E58 15 = .inl (tc 0, 8, .inl (K 15)) := by rw [← g59, va_up_ne _ _ (by omega)]; exact m15
              have f75 : E58 16 = .inl (tc 0, 8, .inl (K 16)) := by rw [← g59, va_up_ne _ _ (by omega)]; exact m16
              have f76 : E58 14 = .inl (tc 1, 800, .inr (.inl J)) := by rw [← g59, va_up_ne _ _ (by omega)]; exact m14
              refine lv_aload_n hx hb dMD_clear_77 rfl (lv_at hl 1 rfl) ?_
              refine g_MD_34 X hP (by omega) (f60) rfl dMD_clear_78 ?_
              refine lv_iload_n hx hb dMD_clear_81 rfl (lv_at hl 0 rfl) ?_
              refine lv_iconst (v := 0) hx hb dMD_clear_82 (by decide) ?_
              refine q_iast i X hD hP hS (by omega) (f69) (rfl) (by omega) (by decide) dMD_clear_83 (fun H locs hD hP hS => ?_)
              have hP : va_P D vwCl (wW 17 ad (va_up E58 9 (.inl (tc 0, 3, .inl (upd (K 9) i 0))))) H := hP
              have hD : va_D (Aw 17 ad) (wW 17 ad (va_up E58 9 (.inl (tc 0, 3, .inl (upd (K 9) i 0))))) := hD
              generalize g78 : va_up E58 9 (.inl (tc 0, 3, .inl (upd (K 9) i 0))) = E77 at hD hP
              have f79 : E77 0 = .inr (7, [.int 0, .int 0, .int ic, .ref (ad 1), .ref (ad 2), .ref (ad 3), .ref (ad 4), .ref (ad 5), .ref (ad 6), .ref (ad 7), .ref (ad 8), .ref (ad 9), .int 0, .ref (ad 10), .ref (ad 11), .ref (ad 12), .ref (ad 13), .ref (ad 14), .ref (ad 15), .ref (ad 16)]) := by rw [← g78, va_up_ne _ _ (by omega)]; exact f60
              have f80 : E77 1 = .inl (tc 0, 5, .inl (K 1)) := by rw [← g78, va_up_ne _ _ (by omega)]; exact f61
              have f81 : E77 2 = .inl (tc 0, 60, .inl (K 2)) := by rw [← g78, va_up_ne _ _ (by omega)]; exact f62
              have f82 : E77 3 = .inl (tc 0, 60, .inl (K 3)) := by rw [← g78, va_up_ne _ _ (by omega)]; exact f63
              have f83 : E77 4 = .inl (tc 0, 60, .inl (K 4)) := by rw [← g78, va_up_ne _ _ (by omega)]; exact f64
              have f84 : E77 5 = .inl (tc 0, 5, .inl (K 5)) := by rw [← g78, va_up_ne _ _ (by omega)]; exact f65
              have f85 : E77 6 = .inl (tc 0, 5, .inl (K 6)) := by rw [← g78, va_up_ne _ _ (by omega)]; exact f66
              have f86 : E77 7 = .inl (tc 0, 5, .inl (K 7)) := by rw [← g78, va_up_ne _ _ (by omega)]; exact f67
              have f87 : E77 8 = .inl (tc 0, 3, .inl (upd (K 8) i (-1))) := by rw [← g78, va_up_ne _ _ (by omega)]; exact f68
              have f88 : E77 9 = .inl (tc 0, 3, .inl (upd (K 9) i 0)) := by rw [← g78]; exact va_up_self _ _ _
              have f89 : E77 10 = .inl (tc 0, 200, .inl (K 10)) := by rw [← g78, va_up_ne _ _ (by omega)]; exact f70
              have f90 : E77 11 = .inl (tc 0, 200, .inl (K 11)) := by rw [← g78, va_up_ne _ _ (by omega)]; exact f71
              have f91 : E77 12 = .inl (tc 0, 200, .inl (K 12)) := by rw [← g78, va_up_ne _ _ (by omega)]; exact f72
              have f92 : E77 13 = .inl (tc 2, 200, .inl (K 13)) := by rw [← g78, va_up_ne _ _ (by omega)]; exact f73
              have f93 : E77 15 = .inl (tc 0, 8, .inl (K 15)) := by rw [← g78, va_up_ne _ _ (by omega)]; exact f74
              have f94 : E77 16 = .inl (tc 0, 8, .inl (K 16)) := by rw [← g78, va_up_ne _ _ (by omega)]; exact f75
              have f95 : E77 14 = .inl (tc 1, 800, .inr (.inl J)) := by rw [← g78, va_up_ne _ _ (by omega)]; exact f76
              refine lv_iinc (k := 0) (v := nI (i + 1)) hx hb dMD_clear_84 hl rfl (nI_1 i) (by decide) rfl (fun ls hl => ?_)
              have hl : lv_has ls 2 [(1, .int (nI (i + 1))), (0, .ref (ad 0))] := hl
              refine lv_goto (tgt := 65) hx hb dMD_clear_87 rfl ?_
              exact ih (i + 1) (va_up (va_up K 8 (upd (K 8) i (-1))) 9 (upd (K 9) i 0)) _ _ _ _ (by omega) ⟨f79, f80, f81, f82, f83, f84, f85, f86, f87, f88, f89, f90, f91, f92, f95, f93, f94⟩ q1 q2 q3 (fun j hj => by by_cases h : j = i; (· subst h; exact pk_us); (· exact (pk_un h).trans (q4 j (by omega)))) (fun j hj => by by_cases h : j = i; (· subst h; exact pk_us); (· exact (pk_un h).trans (q5 j (by omega)))) hD hP hS hl
          refine lv_iconst (v := 0) hx hb dMD_clear_63 (by decide) ?_
          refine lv_istore_n hx hb dMD_clear_64 rfl hl (by decide) rfl (fun ls hl => ?_)
          have hl : lv_has ls 2 [(1, .int 0), (0, .ref (ad 0))] := hl
          exact loop3 3 0 C _ _ _ _ (by omega) ⟨m0, m1, m2, m3, m4, m5, m6, m7, m8, m9, m10, m11, m12, m13, m14, m15, m16⟩ q1 q2 q3 (fun t h => absurd h (Nat.not_lt_zero t)) (fun t h => absurd h (Nat.not_lt_zero t)) hD hP hS hl
        | succ r ih =>
          intro i C H locs ls G hi hM q1 q2 q3 hD hP hS hl
          obtain ⟨m0, m1, m2, m3, m4, m5, m6, m7, m8, m9, m10, m11, m12, m13, m14, m15, m16⟩ := hM
          refine lv_iload_n hx hb dMD_clear_37 rfl (lv_at hl 0 rfl) ?_
          refine lv_bipush (v := 8) hx hb dMD_clear_38 (by decide) ?_
          refine lv_icmp_ge (tgt := 63) hx hb dMD_clear_40 rfl (fun h40 => absurd h40 (nI_ge (a := i) (b := 8) (by omega) (by omega))) (fun h40 => ?_)
          refine lv_aload_n hx hb dMD_clear_43 rfl (lv_at hl 1 rfl) ?_
          refine g_MD_54 X hP (by omega) (m0) rfl dMD_clear_44 ?_
          refine lv_iload_n hx hb dMD_clear_47 rfl (lv_at hl 0 rfl) ?_
          refine lv_iconst (v := (-1)) hx hb dMD_clear_48 (by decide) ?_
          refine q_iast i X hD hP hS (by omega) (m15) (rfl) (by omega) (by decide) dMD_clear_49 (fun H locs hD hP hS => ?_)
          have hP : va_P D vwCl (wW 17 ad (va_up G 15 (.inl (tc 0, 8, .inl (upd (C 15) i (-1)))))) H := hP
          have hD : va_D (Aw 17 ad) (wW 17 ad (va_up G 15 (.inl (tc 0, 8, .inl (upd (C 15) i (-1)))))) := hD
          generalize g97 : va_up G 15 (.inl (tc 0, 8, .inl (upd (C 15) i (-1)))) = E96 at hD hP
          have f98 : E96 0 = .inr (7, [.int 0, .int 0, .int ic, .ref (ad 1), .ref (ad 2), .ref (ad 3), .ref (ad 4), .ref (ad 5), .ref (ad 6), .ref (ad 7), .ref (ad 8), .ref (ad 9), .int 0, .ref (ad 10), .ref (ad 11), .ref (ad 12), .ref (ad 13), .ref (ad 14), .ref (ad 15), .ref (ad 16)]) := by rw [← g97, va_up_ne _ _ (by omega)]; exact m0
          have f99 : E96 1 = .inl (tc 0, 5, .inl (C 1)) := by rw [← g97, va_up_ne _ _ (by omega)]; exact m1
          have f100 : E96 2 = .inl (tc 0, 60, .inl (C 2)) := by rw [← g97, va_up_ne _ _ (by omega)]; exact m2
          have f101 : E96 3 = .inl (tc 0, 60, .inl (C 3)) := by rw [← g97, va_up_ne _ _ (by omega)]; exact m3
          have f102 : E96 4 = .inl (tc 0, 60, .inl (C 4)) := by rw [← g97, va_up_ne _ _ (by omega)]; exact m4
          have f103 : E96 5 = .inl (tc 0, 5, .inl (C 5)) := by rw [← g97, va_up_ne _ _ (by omega)]; exact m5
          have f104 : E96 6 = .inl (tc 0, 5, .inl (C 6)) := by rw [← g97, va_up_ne _ _ (by omega)]; exact m6
          have f105 : E96 7 = .inl (tc 0, 5, .inl (C 7)) := by rw [← g97, va_up_ne _ _ (by omega)]; exact m7
          have f106 : E96 8 = .inl (tc 0, 3, .inl (C 8)) := by rw [← g97, va_up_ne _ _ (by omega)]; exact m8
          have f107 : E96 9 = .inl (tc 0, 3, .inl (C 9)) := by rw [← g97, va_up_ne _ _ (by omega)]; exact m9
          have f108 : E96 10 = .inl (tc 0, 200, .inl (C 10)) := by rw [← g97, va_up_ne _ _ (by omega)]; exact m10
          have f109 : E96 11 = .inl (tc 0, 200, .inl (C 11)) := by rw [← g97, va_up_ne _ _ (by omega)]; exact m11
          have f110 : E96 12 = .inl (tc 0, 200, .inl (C 12)) := by rw [← g97, va_up_ne _ _ (by omega)]; exact m12
          have f111 : E96 13 = .inl (tc 2, 200, .inl (C 13)) := by rw [← g97, va_up_ne _ _ (by omega)]; exact m13
          have f112 : E96 15 = .inl (tc 0, 8, .inl (upd (C 15) i (-1))) := by rw [← g97]; exact va_up_self _ _ _
          have f113 : E96 16 = .inl (tc 0, 8, .inl (C 16)) := by rw [← g97, va_up_ne _ _ (by omega)]; exact m16
          have f114 : E96 14 = .inl (tc 1, 800, .inr (.inl J)) := by rw [← g97, va_up_ne _ _ (by omega)]; exact m14
          refine lv_aload_n hx hb dMD_clear_50 rfl (lv_at hl 1 rfl) ?_
          refine g_MD_57 X hP (by omega) (f98) rfl dMD_clear_51 ?_
          refine lv_iload_n hx hb dMD_clear_54 rfl (lv_at hl 0 rfl) ?_
          refine lv_iconst (v := (-1)) hx hb dMD_clear_55 (by decide) ?_
          refine q_iast i X hD hP hS (by omega) (f113) (rfl) (by omega) (by decide) dMD_clear_56 (fun H locs hD hP hS => ?_)
          have hP : va_P D vwCl (wW 17 ad (va_up E96 16 (.inl (tc 0, 8, .inl (upd (C 16) i (-1)))))) H := hP
          have hD : va_D (Aw 17 ad) (wW 17 ad (va_up E96 16 (.inl (tc 0, 8, .inl (upd (C 16) i (-1)))))) := hD
          generalize g116 : va_up E96 16 (.inl (tc 0, 8, .inl (upd (C 16) i (-1)))) = E115 at hD hP
          have f117 : E115 0 = .inr (7, [.int 0, .int 0, .int ic, .ref (ad 1), .ref (ad 2), .ref (ad 3), .ref (ad 4), .ref (ad 5), .ref (ad 6), .ref (ad 7), .ref (ad 8), .ref (ad 9), .int 0, .ref (ad 10), .ref (ad 11), .ref (ad 12), .ref (ad 13), .ref (ad 14), .ref (ad 15), .ref (ad 16)]) := by rw [← g116, va_up_ne _ _ (by omega)]; exact f98
          have f118 : E115 1 = .inl (tc 0, 5, .inl (C 1)) := by rw [← g116, va_up_ne _ _ (by omega)]; exact f99
          have f119 : E115 2 = .inl (tc 0, 60, .inl (C 2)) := by rw [← g116, va_up_ne _ _ (by omega)]; exact f100
          have f120 : E115 3 = .inl (tc 0, 60, .inl (C 3)) := by rw [← g116, va_up_ne _ _ (by omega)]; exact f101
          have f121 : E115 4 = .inl (tc 0, 60, .inl (C 4)) := by rw [← g116, va_up_ne _ _ (by omega)]; exact f102
          have f122 : E115 5 = .inl (tc 0, 5, .inl (C 5)) := by rw [← g116, va_up_ne _ _ (by omega)]; exact f103
          have f123 : E115 6 = .inl (tc 0, 5, .inl (C 6)) := by rw [← g116, va_up_ne _ _ (by omega)]; exact f104
          have f124 : E115 7 = .inl (tc 0, 5, .inl (C 7)) := by rw [← g116, va_up_ne _ _ (by omega)]; exact f105
          have f125 : E115 8 = .inl (tc 0, 3, .inl (C 8)) := by rw [← g116, va_up_ne _ _ (by omega)]; exact f106
          have f126 : E115 9 = .inl (tc 0, 3, .inl (C 9)) := by rw [← g116, va_up_ne _ _ (by omega)]; exact f107
          have f127 : E115 10 = .inl (tc 0, 200, .inl (C 10)) := by rw [← g116, va_up_ne _ _ (by omega)]; exact f108
          have f128 : E115 11 = .inl (tc 0, 200, .inl (C 11)) := by rw [← g116, va_up_ne _ _ (by omega)]; exact f109
          have f129 : E115 12 = .inl (tc 0, 200, .inl (C 12)) := by rw [← g116, va_up_ne _ _ (by omega)]; exact f110
          have f130 : E115 13 = .inl (tc 2, 200, .inl (C 13)) := by rw [← g116, va_up_ne _ _ (by omega)]; exact f111
          have f131 : E115 15 = .inl (tc 0, 8, .inl (upd (C 15) i (-1))) := by rw [← g116, va_up_ne _ _ (by omega)]; exact f112
          have f132 : E115 16 = .inl (tc 0, 8, .inl (upd (C 16) i (-1))) := by rw [← g116]; exact va_up_self _ _ _
          have f133 : E115 14 = .inl (tc 1, 800, .inr (.inl J)) := by rw [← g116, va_up_ne _ _ (by omega)]; exact f114
          refine lv_iinc (k := 0) (v := nI (i + 1)) hx hb dMD_clear_57 hl rfl (nI_1 i) (by decide) rfl (fun ls hl => ?_)
          have hl : lv_has ls 2 [(1, .int (nI (i + 1))), (0, .ref (ad 0))] := hl
          refine lv_goto (tgt := 37) hx hb dMD_clear_60 rfl ?_
          exact ih (i + 1) (va_up (va_up C 15 (upd (C 15) i (-1))) 16 (upd (C 16) i (-1))) _ _ _ _ (by omega) ⟨f117, f118, f119, f120, f121, f122, f123, f124, f125, f126, f127, f128, f129, f130, f133, f131, f132⟩ q1 (fun j hj => by by_cases h : j = i; (· subst h; exact pk_us); (· exact (pk_un h).trans (q2 j (by omega)))) (fun j hj => by by_cases h : j = i; (· subst h; exact pk_us); (· exact (pk_un h).trans (q3 j (by omega)))) hD hP hS hl
      refine lv_iconst (v := 0) hx hb dMD_clear_35 (by decide) ?_
      refine lv_istore_n hx hb dMD_clear_36 rfl hl (by decide) rfl (fun ls hl => ?_)
      have hl : lv_has ls 2 [(1, .int 0), (0, .ref (ad 0))] := hl
      exact loop2 8 0 B _ _ _ _ (by omega) ⟨m0, m1, m2, m3, m4, m5, m6, m7, m8, m9, m10, m11, m12, m13, m14, m15, m16⟩ q1 (fun t h => absurd h (Nat.not_lt_zero t)) (fun t h => absurd h (Nat.not_lt_zero t)) hD hP hS hl
    | succ r ih =>
      intro i B H locs ls F hi hM q1 hD hP hS hl
      obtain ⟨m0, m1, m2, m3, m4, m5, m6, m7, m8, m9, m10, m11, m12, m13, m14, m15, m16⟩ := hM
      refine lv_iload_n hx hb dMD_clear_17 rfl (lv_at hl 0 rfl) ?_
      refine lv_iconst (v := 5) hx hb dMD_clear_18 (by decide) ?_
      refine lv_icmp_ge (tgt := 35) hx hb dMD_clear_19 rfl (fun h19 => absurd h19 (nI_ge (a := i) (b := 5) (by omega) (by omega))) (fun h19 => ?_)
      refine lv_aload_n hx hb dMD_clear_22 rfl (lv_at hl 1 rfl) ?_
      refine g_MD_7 X hP (by omega) (m0) rfl dMD_clear_23 ?_
      refine lv_iload_n hx hb dMD_clear_26 rfl (lv_at hl 0 rfl) ?_
      refine lv_iconst (v := 0) hx hb dMD_clear_27 (by decide) ?_
      refine q_iast i X hD hP hS (by omega) (m1) (rfl) (by omega) (by decide) dMD_clear_28 (fun H locs hD hP hS => ?_)
      have hP : va_P D vwCl (wW 17 ad (va_up F 1 (.inl (tc 0, 5, .inl (upd (B 1) i 0))))) H := hP
      have hD : va_D (Aw 17 ad) (wW 17 ad (va_up F 1 (.inl (tc 0, 5, .inl (upd (B 1) i 0))))) := hD
      generalize g135 : va_up F 1 (.inl (tc 0, 5, .inl (upd (B 1) i 0))) = E134 at hD hP
      have f136 : E134 0 = .inr (7, [.int 0, .int 0, .int ic, .ref (ad 1), .ref (ad 2), .ref (ad 3), .ref (ad 4), .ref (ad 5), .ref (ad 6), .ref (ad 7), .ref (ad 8), .ref (ad 9), .int 0, .ref (ad 10), .ref (ad 11), .ref (ad 12), .ref (ad 13), .ref (ad 14), .ref (ad 15), .ref (ad 16)]) := by rw [← g135, va_up_ne _ _ (by omega)]; exact m0
      have f137 : E134 1 = .inl (tc 0, 5, .inl (upd (B 1) i 0)) := by rw [← g135]; exact va_up_self _ _ _
      have f138 : E134 2 = .inl (tc 0, 60, .inl (B 2)) := by rw [← g135, va_up_ne _ _ (by omega)]; exact m2
      have f139 : E134 3 = .inl (tc 0, 60, .inl (B 3)) := by rw [← g135, va_up_ne _ _ (by omega)]; exact m3
      have f140 : E134 4 = .inl (tc 0, 60, .inl (B 4)) := by rw [← g135, va_up_ne _ _ (by omega)]; exact m4
      have f141 : E134 5 = .inl (tc 0, 5, .inl (B 5)) := by rw [← g135, va_up_ne _ _ (by omega)]; exact m5
      have f142 : E134 6 = .inl (tc 0, 5, .inl (B 6)) := by rw [← g135, va_up_ne _ _ (by omega)]; exact m6
      have f143 : E134 7 = .inl (tc 0, 5, .inl (B 7)) := by rw [← g135, va_up_ne _ _ (by omega)]; exact m7
      have f144 : E134 8 = .inl (tc 0, 3, .inl (B 8)) := by rw [← g135, va_up_ne _ _ (by omega)]; exact m8
      have f145 : E134 9 = .inl (tc 0, 3, .inl (B 9)) := by rw [← g135, va_up_ne _ _ (by omega)]; exact m9
      have f146 : E134 10 = .inl (tc 0, 200, .inl (B 10)) := by rw [← g135, va_up_ne _ _ (by omega)]; exact m10
      have f147 : E134 11 = .inl (tc 0, 200, .inl (B 11)) := by rw [← g135, va_up_ne _ _ (by omega)]; exact m11
      have f148 : E134 12 = .inl (tc 0, 200, .inl (B 12)) := by rw [← g135, va_up_ne _ _ (by omega)]; exact m12
      have f149 : E134 13 = .inl (tc 2, 200, .inl (B 13)) := by rw [← g135, va_up_ne _ _ (by omega)]; exact m13
      have f150 : E134 15 = .inl (tc 0, 8, .inl (B 15)) := by rw [← g135, va_up_ne _ _ (by omega)]; exact m15
      have f151 : E134 16 = .inl (tc 0, 8, .inl (B 16)) := by rw [← g135, va_up_ne _ _ (by omega)]; exact m16
      have f152 : E134 14 = .inl (tc 1, 800, .inr (.inl J)) := by rw [← g135, va_up_ne _ _ (by omega)]; exact m14
      refine lv_iinc (k := 0) (v := nI (i + 1)) hx hb dMD_clear_29 hl rfl (nI_1 i) (by decide) rfl (fun ls hl => ?_)
      have hl : lv_has ls 2 [(1, .int (nI (i + 1))), (0, .ref (ad 0))] := hl
      refine lv_goto (tgt := 17) hx hb dMD_clear_32 rfl ?_
      exact ih (i + 1) (va_up B 1 (upd (B 1) i 0)) _ _ _ _ (by omega) ⟨f136, f137, f138, f139, f140, f141, f142, f143, f144, f145, f146, f147, f148, f149, f152, f150, f151⟩ (fun j hj => by by_cases h : j = i; (· subst h; exact pk_us); (· exact (pk_un h).trans (q1 j (by omega)))) hD hP hS hl
  exact loop1 5 0 A _ _ _ _ (by omega) ⟨f41, f42, f43, f44, f45, f46, f47, f48, f49, f50, f51, f52, f53, f54, f57, f55, f56⟩ (fun t h => absurd h (Nat.not_lt_zero t)) hD hP hS hl
set_option maxHeartbeats 4000000 in
set_option maxRecDepth 100000 in
theorem c_MD_add (l : Launch) (D : va_G) (tc : Nat → ClassId) (ad : Nat → Nat) (E : Nat → va_E) (th st ic cn : Int32) (A : Nat → Nat → Int32) (J : Nat → Int64) (sz : Nat → Nat) (t op a b : Int32) (hM : isMD tc ad E th st ic cn A J) (hm : ∀ t, t < 5 → A 1 t = nI (sz t)) (hs : ∀ t, t < 5 → sz t ≤ 12) : Ct l D tc yMD_add 2 17 ad E [.ref (ad 0), .int t, .int op, .int a, .int b] (fun o E2 => o = .returned (some (.int (if addOk st sz t op a = true then nI (sz t.toNatClampNeg) else -1))) ∧ (addOk st sz t op a = false ∧ isMD tc ad E2 0 st ic cn A J ∨ addOk st sz t op a = true ∧ ∃ j, j < 5 ∧ t = nI j ∧ isMD tc ad E2 0 st ic cn (va_up (va_up (va_up (va_up A 2 (upd (A 2) (12 * j + sz j) op)) 3 (upd (A 3) (12 * j + sz j) a)) 4 (upd (A 4) (12 * j + sz j) b)) 1 (upd (A 1) j (nI (sz j + 1)))) J)) := by
  refine Ct.ofW (cc := cMD_add) (maxL := 6) (ret := (some .int)) (own := R_MD) (by decide) rfl w_548 (Nat.le_of_ble_eq_true rfl) ?_
  intro p e s m args below meth c ls X hlk hr hD hP hS hl
  have hx := X.1
  have hb := X.2.1
  have hl : lv_has ls 6 [(0, .ref (ad 0)), (1, .int t), (2, .int op), (3, .int a), (4, .int b)] := hl
  obtain ⟨m0, m1, m2, m3, m4, m5, m6, m7, m8, m9, m10, m11, m12, m13, m14, m15, m16⟩ := hM
  refine lv_aload_n hx hb dMD_add_0 rfl (lv_at hl 0 rfl) ?_
  refine lv_iconst (v := 0) hx hb dMD_add_1 (by decide) ?_
  refine p_MD_63 X hD hP hS (by omega) (m0) rfl rfl (Nat.le_of_ble_eq_true rfl) dMD_add_2 (fun H locs hD hP hS => ?_)
  have hP : va_P D vwCl (wW 17 ad (va_up E 0 (.inr (7, [.int 0, .int st, .int ic, .ref (ad 1), .ref (ad 2), .ref (ad 3), .ref (ad 4), .ref (ad 5), .ref (ad 6), .ref (ad 7), .ref (ad 8), .ref (ad 9), .int cn, .ref (ad 10), .ref (ad 11), .ref (ad 12), .ref (ad 13), .ref (ad 14), .ref (ad 15), .ref (ad 16)])))) H := hP
  have hD : va_D (Aw 17 ad) (wW 17 ad (va_up E 0 (.inr (7, [.int 0, .int st, .int ic, .ref (ad 1), .ref (ad 2), .ref (ad 3), .ref (ad 4), .ref (ad 5), .ref (ad 6), .ref (ad 7), .ref (ad 8), .ref (ad 9), .int cn, .ref (ad 10), .ref (ad 11), .ref (ad 12), .ref (ad 13), .ref (ad 14), .ref (ad 15), .ref (ad 16)])))) := hD
  generalize g2 : va_up E 0 (.inr (7, [.int 0, .int st, .int ic, .ref (ad 1), .ref (ad 2), .ref (ad 3), .ref (ad 4), .ref (ad 5), .ref (ad 6), .ref (ad 7), .ref (ad 8), .ref (ad 9), .int cn, .ref (ad 10), .ref (ad 11), .ref (ad 12), .ref (ad 13), .ref (ad 14), .ref (ad 15), .ref (ad 16)])) = E1 at hD hP
  have f3 : E1 0 = .inr (7, [.int 0, .int st, .int ic, .ref (ad 1), .ref (ad 2), .ref (ad 3), .ref (ad 4), .ref (ad 5), .ref (ad 6), .ref (ad 7), .ref (ad 8), .ref (ad 9), .int cn, .ref (ad 10), .ref (ad 11), .ref (ad 12), .ref (ad 13), .ref (ad 14), .ref (ad 15), .ref (ad 16)]) := by rw [← g2]; exact va_up_self _ _ _
  have f4 : E1 1 = .inl (tc 0, 5, .inl (A 1)) := by rw [← g2, va_up_ne _ _ (by omega)]; exact m1
  have f5 : E1 2 = .inl (tc 0, 60, .inl (A 2)) := by rw [← g2, va_up_ne _ _ (by omega)]; exact m2
  have f6 : E1 3 = .inl (tc 0, 60, .inl (A 3)) := by rw [← g2, va_up_ne _ _ (by omega)]; exact m3
  have f7 : E1 4 = .inl (tc 0, 60, .inl (A 4)) := by rw [← g2, va_up_ne _ _ (by omega)]; exact m4
  have f8 : E1 5 = .inl (tc 0, 5, .inl (A 5)) := by rw [← g2, va_up_ne _ _ (by omega)]; exact m5
  have f9 : E1 6 = .inl (tc 0, 5, .inl (A 6)) := by rw [← g2, va_up_ne _ _ (by omega)]; exact m6
  have f10 : E1 7 = .inl (tc 0, 5, .inl (A 7)) := by rw [← g2, va_up_ne _ _ (by omega)]; exact m7
  have f11 : E1 8 = .inl (tc 0, 3, .inl (A 8)) := by rw [← g2, va_up_ne _ _ (by omega)]; exact m8
  have f12 : E1 9 = .inl (tc 0, 3, .inl (A 9)) := by rw [← g2, va_up_ne _ _ (by omega)]; exact m9
  have f13 : E1 10 = .inl (tc 0, 200, .inl (A 10)) := by rw [← g2, va_up_ne _ _ (by omega)]; exact m10
  have f14 : E1 11 = .inl (tc 0, 200, .inl (A 11)) := by rw [← g2, va_up_ne _ _ (by omega)]; exact m11
  have f15 : E1 12 = .inl (tc 0, 200, .inl (A 12)) := by rw [← g2, va_up_ne _ _ (by omega)]; exact m12
  have f16 : E1 13 = .inl (tc 2, 200, .inl (A 13)) := by rw [← g2, va_up_ne _ _ (by omega)]; exact m13
  have f17 : E1 15 = .inl (tc 0, 8, .inl (A 15)) := by rw [← g2, va_up_ne _ _ (by omega)]; exact m15
  have f18 : E1 16 = .inl (tc 0, 8, .inl (A 16)) := by rw [← g2, va_up_ne _ _ (by omega)]; exact m16
  have f19 : E1 14 = .inl (tc 1, 800, .inr (.inl J)) := by rw [← g2, va_up_ne _ _ (by omega)]; exact m14
  refine lv_iload_n hx hb dMD_add_5 rfl (lv_at hl 1 rfl) ?_
  refine lv_iconst (v := 5) hx hb dMD_add_6 (by decide) ?_
  refine x_iE (f := fun k => 0 + k) (x_runS (As := [.int t, .int 5]) (rest := []) X (c_MD_within l D tc (fun k => ad (0 + k)) (fun k => E1 (0 + k)) t 5 (n := 5) (by decide)) rfl rfl (by decide) (by decide) w_551 w_9 w_549 w_550 ry_MD_within (ct_pre X hP hD (fr_lt 0 17 0 (by omega)) (fr_inj 0 0)) ct_blind hl.1 (Nat.le_of_ble_eq_true rfl) dMD_add_7 ⟨Nat.zero_le _, Nat.zero_le _⟩) hD hP hS (fr_lt 0 17 0 (by omega)) (fr_inj 0 0) (fun H locs hD hP hS => ?_)
  refine lv_if_eq (tgt := 48) hx hb dMD_add_10 rfl (fun h10 => ?_) (fun h10 => ?_)
  · refine lv_iconst (v := (-1)) hx hb dMD_add_48 (by decide) ?_
    exact q_iret X hlk hr hP hS dMD_add_49 (by have hok : addOk st sz t op a = false := (by simp [addOk, bi_f h10]); exact ⟨by rw [hok]; rfl, Or.inl ⟨hok, ⟨f3, f4, f5, f6, f7, f8, f9, f10, f11, f12, f13, f14, f15, f16, f19, f17, f18⟩⟩⟩)
  · obtain ⟨j, hj, rfl⟩ := wi_of (n := 5) (by decide) (bi_t h10)
    have hmj := hm j hj
    have hsj := hs j hj
    refine lv_aload_n hx hb dMD_add_13 rfl (lv_at hl 0 rfl) ?_
    refine g_MD_71 X hP (by omega) (f3) rfl dMD_add_14 ?_
    refine lv_if_ne (tgt := 48) hx hb dMD_add_17 rfl (fun h17 => ?_) (fun h17 => ?_)
    · refine lv_iconst (v := (-1)) hx hb dMD_add_48 (by decide) ?_
      exact q_iret X hlk hr hP hS dMD_add_49 (by have hok : addOk st sz (nI j) op a = false := (by simp [addOk, h17]); exact ⟨by rw [hok]; rfl, Or.inl ⟨hok, ⟨f3, f4, f5, f6, f7, f8, f9, f10, f11, f12, f13, f14, f15, f16, f19, f17, f18⟩⟩⟩)
    · refine lv_iload_n hx hb dMD_add_20 rfl (lv_at hl 2 rfl) ?_
      refine lv_bipush (v := 13) hx hb dMD_add_21 (by decide) ?_
      refine x_iE (f := fun k => 0 + k) (x_runS (As := [.int op, .int 13]) (rest := []) X (c_MD_within l D tc (fun k => ad (0 + k)) (fun k => E1 (0 + k)) op 13 (n := 13) (by decide)) rfl rfl (by decide) (by decide) w_551 w_9 w_549 w_550 ry_MD_within (ct_pre X hP hD (fr_lt 0 17 0 (by omega)) (fr_inj 0 0)) ct_blind hl.1 (Nat.le_of_ble_eq_true rfl) dMD_add_23 ⟨Nat.zero_le _, Nat.zero_le _⟩) hD hP hS (fr_lt 0 17 0 (by omega)) (fr_inj 0 0) (fun H locs hD hP hS => ?_)
      refine lv_if_eq (tgt := 48) hx hb dMD_add_26 rfl (fun h26 => ?_) (fun h26 => ?_)
      · refine lv_iconst (v := (-1)) hx hb dMD_add_48 (by decide) ?_
        exact q_iret X hlk hr hP hS dMD_add_49 (by have hok : addOk st sz (nI j) op a = false := (by simp [addOk, bi_f h26]); exact ⟨by rw [hok]; rfl, Or.inl ⟨hok, ⟨f3, f4, f5, f6, f7, f8, f9, f10, f11, f12, f13, f14, f15, f16, f19, f17, f18⟩⟩⟩)
      · refine lv_iload_n hx hb dMD_add_29 rfl (lv_at hl 2 rfl) ?_
        refine lv_iload_n hx hb dMD_add_30 rfl (lv_at hl 3 rfl) ?_
        refine x_iE (f := fun k => 0 + k) (x_runS (As := [.int op, .int a]) (rest := []) X (c_MD_names l D tc (fun k => ad (0 + k)) (fun k => E1 (0 + k)) op a) rfl rfl (by decide) (by decide) w_554 w_9 w_552 w_553 ry_MD_names (ct_pre X hP hD (fr_lt 0 17 0 (by omega)) (fr_inj 0 0)) ct_blind hl.1 (Nat.le_of_ble_eq_true rfl) dMD_add_31 ⟨Nat.zero_le _, Nat.zero_le _⟩) hD hP hS (fr_lt 0 17 0 (by omega)) (fr_inj 0 0) (fun H locs hD hP hS => ?_)
        refine lv_if_eq (tgt := 48) hx hb dMD_add_34 rfl (fun h34 => ?_) (fun h34 => ?_)
        · refine lv_iconst (v := (-1)) hx hb dMD_add_48 (by decide) ?_
          exact q_iret X hlk hr hP hS dMD_add_49 (by have hok : addOk st sz (nI j) op a = false := (by simp [addOk, bi_f h34]); exact ⟨by rw [hok]; rfl, Or.inl ⟨hok, ⟨f3, f4, f5, f6, f7, f8, f9, f10, f11, f12, f13, f14, f15, f16, f19, f17, f18⟩⟩⟩)
        · refine lv_aload_n hx hb dMD_add_37 rfl (lv_at hl 0 rfl) ?_
          refine g_MD_7 X hP (by omega) (f3) rfl dMD_add_38 ?_
          refine lv_iload_n hx hb dMD_add_41 rfl (lv_at hl 1 rfl) ?_
          refine q_iald j X hP (by omega) (f4) (rfl) (by omega) (by decide) dMD_add_42 ?_
          refine lv_bipush (v := 12) hx hb dMD_add_43 (by decide) ?_
          refine lv_icmp_ne (tgt := 50) hx hb dMD_add_45 rfl (fun h45 => ?_) (fun h45 => ?_)
          · have hlt : sz j < 12 := by rcases Nat.lt_or_ge (sz j) 12 with h | h; (· exact h); (· exact absurd (by rw [hmj, show sz j = 12 by omega]; rfl) h45)
            refine lv_bipush (v := 12) hx hb dMD_add_50 (by decide) ?_
            refine lv_iload_n hx hb dMD_add_52 rfl (lv_at hl 1 rfl) ?_
            refine lv_imul hx hb dMD_add_53 ?_
            rw [show (12 * (nI j)) = nI (12 * j) from pk_mul 12 j]
            refine lv_aload_n hx hb dMD_add_54 rfl (lv_at hl 0 rfl) ?_
            refine g_MD_7 X hP (by omega) (f3) rfl dMD_add_55 ?_
            refine lv_iload_n hx hb dMD_add_58 rfl (lv_at hl 1 rfl) ?_
            refine q_iald j X hP (by omega) (f4) (rfl) (by omega) (by decide) dMD_add_59 ?_
            refine lv_iadd hx hb dMD_add_60 ?_
            rw [show ((nI (12 * j)) + ((A 1) j)) = nI (12 * j + sz j) from by rw [hmj]; exact nI_add (12 * j) (sz j)]
            refine lv_istore hx hb dMD_add_61 hl (by decide) rfl (fun ls hl => ?_)
            have hl : lv_has ls 6 [(5, .int (nI (12 * j + sz j))), (0, .ref (ad 0)), (1, .int (nI j)), (2, .int op), (3, .int a), (4, .int b)] := hl
            refine lv_aload_n hx hb dMD_add_63 rfl (lv_at hl 1 rfl) ?_
            refine g_MD_13 X hP (by omega) (f3) rfl dMD_add_64 ?_
            refine lv_iload hx hb dMD_add_67 (lv_at hl 0 rfl) ?_
            refine lv_iload_n hx hb dMD_add_69 rfl (lv_at hl 3 rfl) ?_
            refine q_iast (12 * j + sz j) X hD hP hS (by omega) (f5) (rfl) (by omega) (by decide) dMD_add_70 (fun H locs hD hP hS => ?_)
            have hP : va_P D vwCl (wW 17 ad (va_up E1 2 (.inl (tc 0, 60, .inl (upd (A 2) (12 * j + sz j) op))))) H := hP
            have hD : va_D (Aw 17 ad) (wW 17 ad (va_up E1 2 (.inl (tc 0, 60, .inl (upd (A 2) (12 * j + sz j) op))))) := hD
            generalize g21 : va_up E1 2 (.inl (tc 0, 60, .inl (upd (A 2) (12 * j + sz j) op))) = E20 at hD hP
            have f22 : E20 0 = .inr (7, [.int 0, .int st, .int ic, .ref (ad 1), .ref (ad 2), .ref (ad 3), .ref (ad 4), .ref (ad 5), .ref (ad 6), .ref (ad 7), .ref (ad 8), .ref (ad 9), .int cn, .ref (ad 10), .ref (ad 11), .ref (ad 12), .ref (ad 13), .ref (ad 14), .ref (ad 15), .ref (ad 16)]) := by rw [← g21, va_up_ne _ _ (by omega)]; exact f3
            have f23 : E20 1 = .inl (tc 0, 5, .inl (A 1)) := by rw [← g21, va_up_ne _ _ (by omega)]; exact f4
            have f24 : E20 2 = .inl (tc 0, 60, .inl (upd (A 2) (12 * j + sz j) op)) := by rw [← g21]; exact va_up_self _ _ _
            have f25 : E20 3 = .inl (tc 0, 60, .inl (A 3)) := by rw [← g21, va_up_ne _ _ (by omega)]; exact f6
            have f26 : E20 4 = .inl (tc 0, 60, .inl (A 4)) := by rw [← g21, va_up_ne _ _ (by omega)]; exact f7
            have f27 : E20 5 = .inl (tc 0, 5, .inl (A 5)) := by rw [← g21, va_up_ne _ _ (by omega)]; exact f8
            have f28 : E20 6 = .inl (tc 0, 5, .inl (A 6)) := by rw [← g21, va_up_ne _ _ (by omega)]; exact f9
            have f29 : E20 7 = .inl (tc 0, 5, .inl (A 7)) := by rw [← g21, va_up_ne _ _ (by omega)]; exact f10
            have f30 : E20 8 = .inl (tc 0, 3, .inl (A 8)) := by rw [← g21, va_up_ne _ _ (by omega)]; exact f11
            have f31 : E20 9 = .inl (tc 0, 3, .inl (A 9)) := by rw [← g21, va_up_ne _ _ (by omega)]; exact f12
            have f32 : E20 10 = .inl (tc 0, 200, .inl (A 10)) := by rw [← g21, va_up_ne _ _ (by omega)]; exact f13
            have f33 : E20 11 = .inl (tc 0, 200, .inl (A 11)) := by rw [← g21, va_up_ne _ _ (by omega)]; exact f14
            have f34 : E20 12 = .inl (tc 0, 200, .inl (A 12)) := by rw [← g21, va_up_ne _ _ (by omega)]; exact f15
            have f35 : E20 13 = .inl (tc 2, 200, .inl (A 13)) := by rw [← g21, va_up_ne _ _ (by omega)]; exact f16
            have f36 : E20 15 = .inl (tc 0, 8, .inl (A 15)) := by rw [← g21, va_up_ne _ _ (by omega)]; exact f17
            have f37 : E20 16 = .inl (tc 0, 8, .inl (A 16)) := by rw [← g21, va_up_ne _ _ (by omega)]; exact f18
            have f38 : E20 14 = .inl (tc 1, 800, .inr (.inl J)) := by rw [← g21, va_up_ne _ _ (by omega)]; exact f19
            refine lv_aload_n hx hb dMD_add_71 rfl (lv_at hl 1 rfl) ?_
            refine g_MD_16 X hP (by omega) (f22) rfl dMD_add_72 ?_
            refine lv_iload hx hb dMD_add_75 (lv_at hl 0 rfl) ?_
            refine lv_iload_n hx hb dMD_add_77 rfl (lv_at hl 4 rfl) ?_
            refine q_iast (12 * j + sz j) X hD hP hS (by omega) (f25) (rfl) (by omega) (by decide) dMD_add_78 (fun H locs hD hP hS => ?_)
            have hP : va_P D vwCl (wW 17 ad (va_up E20 3 (.inl (tc 0, 60, .inl (upd (A 3) (12 * j + sz j) a))))) H := hP
            have hD : va_D (Aw 17 ad) (wW 17 ad (va_up E20 3 (.inl (tc 0, 60, .inl (upd (A 3) (12 * j + sz j) a))))) := hD
            generalize g40 : va_up E20 3 (.inl (tc 0, 60, .inl (upd (A 3) (12 * j + sz j) a))) = E39 at hD hP
            have f41 : E39 0 = .inr (7, [.int 0, .int st, .int ic, .ref (ad 1), .ref (ad 2), .ref (ad 3), .ref (ad 4), .ref (ad 5), .ref (ad 6), .ref (ad 7), .ref (ad 8), .ref (ad 9), .int cn, .ref (ad 10), .ref (ad 11), .ref (ad 12), .ref (ad 13), .ref (ad 14), .ref (ad 15), .ref (ad 16)]) := by rw [← g40, va_up_ne _ _ (by omega)]; exact f22
            have f42 : E39 1 = .inl (tc 0, 5, .inl (A 1)) := by rw [← g40, va_up_ne _ _ (by omega)]; exact f23
            have f43 : E39 2 = .inl (tc 0, 60, .inl (upd (A 2) (12 * j + sz j) op)) := by rw [← g40, va_up_ne _ _ (by omega)]; exact f24
            have f44 : E39 3 = .inl (tc 0, 60, .inl (upd (A 3) (12 * j + sz j) a)) := by rw [← g40]; exact va_up_self _ _ _
            have f45 : E39 4 = .inl (tc 0, 60, .inl (A 4)) := by rw [← g40, va_up_ne _ _ (by omega)]; exact f26
            have f46 : E39 5 = .inl (tc 0, 5, .inl (A 5)) := by rw [← g40, va_up_ne _ _ (by omega)]; exact f27
            have f47 : E39 6 = .inl (tc 0, 5, .inl (A 6)) := by rw [← g40, va_up_ne _ _ (by omega)]; exact f28
            have f48 : E39 7 = .inl (tc 0, 5, .inl (A 7)) := by rw [← g40, va_up_ne _ _ (by omega)]; exact f29
            have f49 : E39 8 = .inl (tc 0, 3, .inl (A 8)) := by rw [← g40, va_up_ne _ _ (by omega)]; exact f30
            have f50 : E39 9 = .inl (tc 0, 3, .inl (A 9)) := by rw [← g40, va_up_ne _ _ (by omega)]; exact f31
            have f51 : E39 10 = .inl (tc 0, 200, .inl (A 10)) := by rw [← g40, va_up_ne _ _ (by omega)]; exact f32
            have f52 : E39 11 = .inl (tc 0, 200, .inl (A 11)) := by rw [← g40, va_up_ne _ _ (by omega)]; exact f33
            have f53 : E39 12 = .inl (tc 0, 200, .inl (A 12)) := by rw [← g40, va_up_ne _ _ (by omega)]; exact f34
            have f54 : E39 13 = .inl (tc 2, 200, .inl (A 13)) := by rw [← g40, va_up_ne _ _ (by omega)]; exact f35
            have f55 : E39 15 = .inl (tc 0, 8, .inl (A 15)) := by rw [← g40, va_up_ne _ _ (by omega)]; exact f36
            have f56 : E39 16 = .inl (tc 0, 8, .inl (A 16)) := by rw [← g40, va_up_ne _ _ (by omega)]; exact f37
            have f57 : E39 14 = .inl (tc 1, 800, .inr (.inl J)) := by rw [← g40, va_up_ne _ _ (by omega)]; exact f38
            refine lv_aload_n hx hb dMD_add_79 rfl (lv_at hl 1 rfl) ?_
            refine g_MD_19 X hP (by omega) (f41) rfl dMD_add_80 ?_
            refine lv_iload hx hb dMD_add_83 (lv_at hl 0 rfl) ?_
            refine lv_iload hx hb dMD_add_85 (lv_at hl 5 rfl) ?_
            refine q_iast (12 * j + sz j) X hD hP hS (by omega) (f45) (rfl) (by omega) (by decide) dMD_add_87 (fun H locs hD hP hS => ?_)
            have hP : va_P D vwCl (wW 17 ad (va_up E39 4 (.inl (tc 0, 60, .inl (upd (A 4) (12 * j + sz j) b))))) H := hP
            have hD : va_D (Aw 17 ad) (wW 17 ad (va_up E39 4 (.inl (tc 0, 60, .inl (upd (A 4) (12 * j + sz j) b))))) := hD
            generalize g59 : va_up E39 4 (.inl (tc 0, 60, .inl (upd (A 4) (12 * j + sz j) b))) = E58 at hD hP
            have f60 : E58 0 = .inr (7, [.int 0, .int st, .int ic, .ref (ad 1), .ref (ad 2), .ref (ad 3), .ref (ad 4), .ref (ad 5), .ref (ad 6), .ref (ad 7), .ref (ad 8), .ref (ad 9), .int cn, .ref (ad 10), .ref (ad 11), .ref (ad 12), .ref (ad 13), .ref (ad 14), .ref (ad 15), .ref (ad 16)]) := by rw [← g59, va_up_ne _ _ (by omega)]; exact f41
            have f61 : E58 1 = .inl (tc 0, 5, .inl (A 1)) := by rw [← g59, va_up_ne _ _ (by omega)]; exact f42
            have f62 : E58 2 = .inl (tc 0, 60, .inl (upd (A 2) (12 * j + sz j) op)) := by rw [← g59, va_up_ne _ _ (by omega)]; exact f43
            have f63 : E58 3 = .inl (tc 0, 60, .inl (upd (A 3) (12 * j + sz j) a)) := by rw [← g59, va_up_ne _ _ (by omega)]; exact f44
            have f64 : E58 4 = .inl (tc 0, 60, .inl (upd (A 4) (12 * j + sz j) b)) := by rw [← g59]; exact va_up_self _ _ _
            have f65 : E58 5 = .inl (tc 0, 5, .inl (A 5)) := by rw [← g59, va_up_ne _ _ (by omega)]; exact f46
            have f66 : E58 6 = .inl (tc 0, 5, .inl (A 6)) := by rw [← g59, va_up_ne _ _ (by omega)]; exact f47
            have f67 : E58 7 = .inl (tc 0, 5, .inl (A 7)) := by rw [← g59, va_up_ne _ _ (by omega)]; exact f48
            have f68 : E58 8 = .inl (tc 0, 3, .inl (A 8)) := by rw [← g59, va_up_ne _ _ (by omega)]; exact f49
            have f69 : E58 9 = .inl (tc 0, 3, .inl (A 9)) := by rw [← g59, va_up_ne _ _ (by omega)]; exact f50
            have f70 : E58 10 = .inl (tc 0, 200, .inl (A 10)) := by rw [← g59, va_up_ne _ _ (by omega)]; exact f51
            have f71 : E58 11 = .inl (tc 0, 200, .inl (A 11)) := by rw [← g59, va_up_ne _ _ (by omega)]; exact f52
            have f72 : E58 12 = .inl (tc 0, 200, .inl (A 12)) := by rw [← g59, va_up_ne _ _ (by omega)]; exact f53
            have f73 : E58 13 = .inl (tc 2, 200, .inl (A 13)) := by rw [← g59, va_up_ne _ _ (by omega)]; exact f54
            have f74 : E58 15 = .inl (tc 0, 8, .inl (A 15)) := by rw [← g59, va_up_ne _ _ (by omega)]; exact f55
            have f75 : E58 16 = .inl (tc 0, 8, .inl (A 16)) := by rw [← g59, va_up_ne _ _ (by omega)]; exact f56
            have f76 : E58 14 = .inl (tc 1, 800, .inr (.inl J)) := by rw [← g59, va_up_ne _ _ (by omega)]; exact f57
            refine lv_aload_n hx hb dMD_add_88 rfl (lv_at hl 1 rfl) ?_
            refine g_MD_7 X hP (by omega) (f60) rfl dMD_add_89 ?_
            refine lv_iload_n hx hb dMD_add_92 rfl (lv_at hl 2 rfl) ?_
            refine lv_dup2_11 hx hb dMD_add_93 rfl rfl ?_
            refine q_iald j X hP (by omega) (f61) (rfl) (by omega) (by decide) dMD_add_94 ?_
            refine lv_iconst (v := 1) hx hb dMD_add_95 (by decide) ?_
            refine lv_iadd hx hb dMD_add_96 ?_
            rw [show (((A 1) j) + 1) = nI (sz j + 1) from by rw [hmj]; exact nI_1 (sz j)]
            refine q_iast j X hD hP hS (by omega) (f61) (rfl) (by omega) (by decide) dMD_add_97 (fun H locs hD hP hS => ?_)
            have hP : va_P D vwCl (wW 17 ad (va_up E58 1 (.inl (tc 0, 5, .inl (upd (A 1) j (nI (sz j + 1))))))) H := hP
            have hD : va_D (Aw 17 ad) (wW 17 ad (va_up E58 1 (.inl (tc 0, 5, .inl (upd (A 1) j (nI (sz j + 1))))))) := hD
            generalize g78 : va_up E58 1 (.inl (tc 0, 5, .inl (upd (A 1) j (nI (sz j + 1))))) = E77 at hD hP
            have f79 : E77 0 = .inr (7, [.int 0, .int st, .int ic, .ref (ad 1), .ref (ad 2), .ref (ad 3), .ref (ad 4), .ref (ad 5), .ref (ad 6), .ref (ad 7), .ref (ad 8), .ref (ad 9), .int cn, .ref (ad 10), .ref (ad 11), .ref (ad 12), .ref (ad 13), .ref (ad 14), .ref (ad 15), .ref (ad 16)]) := by rw [← g78, va_up_ne _ _ (by omega)]; exact f60
            have f80 : E77 1 = .inl (tc 0, 5, .inl (upd (A 1) j (nI (sz j + 1)))) := by rw [← g78]; exact va_up_self _ _ _
            have f81 : E77 2 = .inl (tc 0, 60, .inl (upd (A 2) (12 * j + sz j) op)) := by rw [← g78, va_up_ne _ _ (by omega)]; exact f62
            have f82 : E77 3 = .inl (tc 0, 60, .inl (upd (A 3) (12 * j + sz j) a)) := by rw [← g78, va_up_ne _ _ (by omega)]; exact f63
            have f83 : E77 4 = .inl (tc 0, 60, .inl (upd (A 4) (12 * j + sz j) b)) := by rw [← g78, va_up_ne _ _ (by omega)]; exact f64
            have f84 : E77 5 = .inl (tc 0, 5, .inl (A 5)) := by rw [← g78, va_up_ne _ _ (by omega)]; exact f65
            have f85 : E77 6 = .inl (tc 0, 5, .inl (A 6)) := by rw [← g78, va_up_ne _ _ (by omega)]; exact f66
            have f86 : E77 7 = .inl (tc 0, 5, .inl (A 7)) := by rw [← g78, va_up_ne _ _ (by omega)]; exact f67
            have f87 : E77 8 = .inl (tc 0, 3, .inl (A 8)) := by rw [← g78, va_up_ne _ _ (by omega)]; exact f68
            have f88 : E77 9 = .inl (tc 0, 3, .inl (A 9)) := by rw [← g78, va_up_ne _ _ (by omega)]; exact f69
            have f89 : E77 10 = .inl (tc 0, 200, .inl (A 10)) := by rw [← g78, va_up_ne _ _ (by omega)]; exact f70
            have f90 : E77 11 = .inl (tc 0, 200, .inl (A 11)) := by rw [← g78, va_up_ne _ _ (by omega)]; exact f71
            have f91 : E77 12 = .inl (tc 0, 200, .inl (A 12)) := by rw [← g78, va_up_ne _ _ (by omega)]; exact f72
            have f92 : E77 13 = .inl (tc 2, 200, .inl (A 13)) := by rw [← g78, va_up_ne _ _ (by omega)]; exact f73
            have f93 : E77 15 = .inl (tc 0, 8, .inl (A 15)) := by rw [← g78, va_up_ne _ _ (by omega)]; exact f74
            have f94 : E77 16 = .inl (tc 0, 8, .inl (A 16)) := by rw [← g78, va_up_ne _ _ (by omega)]; exact f75
            have f95 : E77 14 = .inl (tc 1, 800, .inr (.inl J)) := by rw [← g78, va_up_ne _ _ (by omega)]; exact f76
            refine lv_aload_n hx hb dMD_add_98 rfl (lv_at hl 1 rfl) ?_
            refine g_MD_7 X hP (by omega) (f79) rfl dMD_add_99 ?_
            refine lv_iload_n hx hb dMD_add_102 rfl (lv_at hl 2 rfl) ?_
            refine q_iald j X hP (by omega) (f80) (rfl) (by omega) (by decide) dMD_add_103 ?_
            refine lv_iconst (v := 1) hx hb dMD_add_104 (by decide) ?_
            refine lv_isub hx hb dMD_add_105 ?_
            exact q_iret X hlk hr hP hS dMD_add_106 (by have hok : addOk st sz (nI j) op a = true := (by simp [addOk, h17, nI_clamp (show j < 2 ^ 31 by omega), hlt, wi_nI hj (show 5 < 2 ^ 31 by decide), bi_t h26, bi_t h34]); exact ⟨by rw [if_pos hok, nI_clamp (by omega), pk_us]; exact congrArg (fun z => Outcome.returned (some (Value.int z))) (nI_pred (sz j)), Or.inr ⟨hok, j, hj, rfl, ⟨f79, f80, f81, f82, f83, f84, f85, f86, f87, f88, f89, f90, f91, f92, f95, f93, f94⟩⟩⟩)
          · have h12 : sz j = 12 := (nI_eq (by omega) (by decide)).mp (hmj.symm.trans h45)
            refine lv_iconst (v := (-1)) hx hb dMD_add_48 (by decide) ?_
            exact q_iret X hlk hr hP hS dMD_add_49 (by have hok : addOk st sz (nI j) op a = false := (by simp [addOk, nI_clamp (show j < 2 ^ 31 by omega), h12]); exact ⟨by rw [hok]; rfl, Or.inl ⟨hok, ⟨f3, f4, f5, f6, f7, f8, f9, f10, f11, f12, f13, f14, f15, f16, f19, f17, f18⟩⟩⟩)
