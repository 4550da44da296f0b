theorem dTR_isFull_0 : decode cTR_isFull 0 = .ok (.aload_n 0, 1) := by decide +kernel
theorem dTR_isFull_1 : decode cTR_isFull 1 = .ok (.getfield 18, 3) := by decide +kernel
theorem dTR_isFull_4 : decode cTR_isFull 4 = .ok (.sipush 200, 3) := by decide +kernel
theorem dTR_isFull_7 : decode cTR_isFull 7 = .ok (.if_icmp .lt 7, 3) := by decide +kernel
theorem dTR_isFull_10 : decode cTR_isFull 10 = .ok (.iconst 1, 1) := by decide +kernel
theorem dTR_isFull_11 : decode cTR_isFull 11 = .ok (.goto 4, 3) := by decide +kernel
theorem dTR_isFull_14 : decode cTR_isFull 14 = .ok (.iconst 0, 1) := by decide +kernel
theorem dTR_isFull_15 : decode cTR_isFull 15 = .ok (.ireturn, 1) := by decide +kernel
theorem dTR_threadOf_0 : decode cTR_threadOf 0 = .ok (.aload_n 0, 1) := by decide +kernel
theorem dTR_threadOf_1 : decode cTR_threadOf 1 = .ok (.getfield 9, 3) := by decide +kernel
theorem dTR_threadOf_4 : decode cTR_threadOf 4 = .ok (.iload_n 1, 1) := by decide +kernel
theorem dTR_threadOf_5 : decode cTR_threadOf 5 = .ok (.iaload, 1) := by decide +kernel
theorem dTR_threadOf_6 : decode cTR_threadOf 6 = .ok (.bipush 7, 2) := by decide +kernel
theorem dTR_threadOf_8 : decode cTR_threadOf 8 = .ok (.iand, 1) := by decide +kernel
theorem dTR_threadOf_9 : decode cTR_threadOf 9 = .ok (.ireturn, 1) := by decide +kernel
theorem dTR_isOrdered_0 : decode cTR_isOrdered 0 = .ok (.aload_n 0, 1) := by decide +kernel
theorem dTR_isOrdered_1 : decode cTR_isOrdered 1 = .ok (.iload_n 1, 1) := by decide +kernel
theorem dTR_isOrdered_2 : decode cTR_isOrdered 2 = .ok (.invokevirtual 33, 3) := by decide +kernel
theorem dTR_isOrdered_5 : decode cTR_isOrdered 5 = .ok (.istore_n 3, 1) := by decide +kernel
theorem dTR_isOrdered_6 : decode cTR_isOrdered 6 = .ok (.iload_n 1, 1) := by decide +kernel
theorem dTR_isOrdered_7 : decode cTR_isOrdered 7 = .ok (.iload_n 2, 1) := by decide +kernel
theorem dTR_isOrdered_8 : decode cTR_isOrdered 8 = .ok (.if_icmp .ge 30, 3) := by decide +kernel
theorem dTR_isOrdered_11 : decode cTR_isOrdered 11 = .ok (.aload_n 0, 1) := by decide +kernel
theorem dTR_isOrdered_12 : decode cTR_isOrdered 12 = .ok (.getfield 15, 3) := by decide +kernel
theorem dTR_isOrdered_15 : decode cTR_isOrdered 15 = .ok (.iload_n 1, 1) := by decide +kernel
theorem dTR_isOrdered_16 : decode cTR_isOrdered 16 = .ok (.iconst 5, 1) := by decide +kernel
theorem dTR_isOrdered_17 : decode cTR_isOrdered 17 = .ok (.imul, 1) := by decide +kernel
theorem dTR_isOrdered_18 : decode cTR_isOrdered 18 = .ok (.iload_n 3, 1) := by decide +kernel
theorem dTR_isOrdered_19 : decode cTR_isOrdered 19 = .ok (.iadd, 1) := by decide +kernel
theorem dTR_isOrdered_20 : decode cTR_isOrdered 20 = .ok (.iaload, 1) := by decide +kernel
theorem dTR_isOrdered_21 : decode cTR_isOrdered 21 = .ok (.aload_n 0, 1) := by decide +kernel
theorem dTR_isOrdered_22 : decode cTR_isOrdered 22 = .ok (.getfield 15, 3) := by decide +kernel
theorem dTR_isOrdered_25 : decode cTR_isOrdered 25 = .ok (.iload_n 2, 1) := by decide +kernel
theorem dTR_isOrdered_26 : decode cTR_isOrdered 26 = .ok (.iconst 5, 1) := by decide +kernel
theorem dTR_isOrdered_27 : decode cTR_isOrdered 27 = .ok (.imul, 1) := by decide +kernel
theorem dTR_isOrdered_28 : decode cTR_isOrdered 28 = .ok (.iload_n 3, 1) := by decide +kernel
theorem dTR_isOrdered_29 : decode cTR_isOrdered 29 = .ok (.iadd, 1) := by decide +kernel
theorem dTR_isOrdered_30 : decode cTR_isOrdered 30 = .ok (.iaload, 1) := by decide +kernel
theorem dTR_isOrdered_31 : decode cTR_isOrdered 31 = .ok (.if_icmp .gt 7, 3) := by decide +kernel
theorem dTR_isOrdered_34 : decode cTR_isOrdered 34 = .ok (.iconst 1, 1) := by decide +kernel
theorem dTR_isOrdered_35 : decode cTR_isOrdered 35 = .ok (.goto 4, 3) := by decide +kernel
theorem dTR_isOrdered_38 : decode cTR_isOrdered 38 = .ok (.iconst 0, 1) := by decide +kernel
theorem dTR_isOrdered_39 : decode cTR_isOrdered 39 = .ok (.ireturn, 1) := by decide +kernel
theorem dTR_append_0 : decode cTR_append 0 = .ok (.aload_n 0, 1) := by decide +kernel
theorem dTR_append_1 : decode cTR_append 1 = .ok (.getfield 18, 3) := by decide +kernel
theorem dTR_append_4 : decode cTR_append 4 = .ok (.istore_n 3, 1) := by decide +kernel
theorem dTR_append_5 : decode cTR_append 5 = .ok (.aload_n 0, 1) := by decide +kernel
theorem dTR_append_6 : decode cTR_append 6 = .ok (.getfield 9, 3) := by decide +kernel
theorem dTR_append_9 : decode cTR_append 9 = .ok (.iload_n 3, 1) := by decide +kernel
theorem dTR_append_10 : decode cTR_append 10 = .ok (.iload_n 1, 1) := by decide +kernel
theorem dTR_append_11 : decode cTR_append 11 = .ok (.iastore, 1) := by decide +kernel
theorem dTR_append_12 : decode cTR_append 12 = .ok (.aload_n 2, 1) := by decide +kernel
theorem dTR_append_13 : decode cTR_append 13 = .ok (.getfield 22, 3) := by decide +kernel
theorem dTR_append_16 : decode cTR_append 16 = .ok (.iconst 0, 1) := by decide +kernel
theorem dTR_append_17 : decode cTR_append 17 = .ok (.aload_n 0, 1) := by decide +kernel
theorem dTR_append_18 : decode cTR_append 18 = .ok (.getfield 15, 3) := by decide +kernel
theorem dTR_append_21 : decode cTR_append 21 = .ok (.iload_n 3, 1) := by decide +kernel
theorem dTR_append_22 : decode cTR_append 22 = .ok (.iconst 5, 1) := by decide +kernel
theorem dTR_append_23 : decode cTR_append 23 = .ok (.imul, 1) := by decide +kernel
theorem dTR_append_24 : decode cTR_append 24 = .ok (.iconst 5, 1) := by decide +kernel
theorem dTR_append_25 : decode cTR_append 25 = .ok (.invokestatic 27, 3) := by decide +kernel
theorem dTR_append_28 : decode cTR_append 28 = .ok (.aload_n 0, 1) := by decide +kernel
theorem dTR_append_29 : decode cTR_append 29 = .ok (.iload_n 3, 1) := by decide +kernel
theorem dTR_append_30 : decode cTR_append 30 = .ok (.iconst 1, 1) := by decide +kernel
theorem dTR_append_31 : decode cTR_append 31 = .ok (.iadd, 1) := by decide +kernel
theorem dTR_append_32 : decode cTR_append 32 = .ok (.putfield 18, 3) := by decide +kernel
theorem dTR_append_35 : decode cTR_append 35 = .ok (.iload_n 3, 1) := by decide +kernel
theorem dTR_append_36 : decode cTR_append 36 = .ok (.ireturn, 1) := by decide +kernel
theorem dBK_looseRead_0 : decode cBK_looseRead 0 = .ok (.iconst (-1), 1) := by decide +kernel
theorem dBK_looseRead_1 : decode cBK_looseRead 1 = .ok (.istore 4, 2) := by decide +kernel
theorem dBK_looseRead_3 : decode cBK_looseRead 3 = .ok (.iconst 0, 1) := by decide +kernel
theorem dBK_looseRead_4 : decode cBK_looseRead 4 = .ok (.istore 5, 2) := by decide +kernel
theorem dBK_looseRead_6 : decode cBK_looseRead 6 = .ok (.iload 5, 2) := by decide +kernel
theorem dBK_looseRead_8 : decode cBK_looseRead 8 = .ok (.iconst 5, 1) := by decide +kernel
theorem dBK_looseRead_9 : decode cBK_looseRead 9 = .ok (.if_icmp .ge 43, 3) := by decide +kernel
theorem dBK_looseRead_12 : decode cBK_looseRead 12 = .ok (.aload_n 0, 1) := by decide +kernel
theorem dBK_looseRead_13 : decode cBK_looseRead 13 = .ok (.getfield 21, 3) := by decide +kernel
theorem dBK_looseRead_16 : decode cBK_looseRead 16 = .ok (.iload_n 3, 1) := by decide +kernel
theorem dBK_looseRead_17 : decode cBK_looseRead 17 = .ok (.iconst 5, 1) := by decide +kernel
theorem dBK_looseRead_18 : decode cBK_looseRead 18 = .ok (.imul, 1) := by decide +kernel
theorem dBK_looseRead_19 : decode cBK_looseRead 19 = .ok (.iload 5, 2) := by decide +kernel
theorem dBK_looseRead_21 : decode cBK_looseRead 21 = .ok (.iadd, 1) := by decide +kernel
theorem dBK_looseRead_22 : decode cBK_looseRead 22 = .ok (.iaload, 1) := by decide +kernel
theorem dBK_looseRead_23 : decode cBK_looseRead 23 = .ok (.istore 6, 2) := by decide +kernel
theorem dBK_looseRead_25 : decode cBK_looseRead 25 = .ok (.iload 6, 2) := by decide +kernel
theorem dBK_looseRead_27 : decode cBK_looseRead 27 = .ok (.iload 4, 2) := by decide +kernel
theorem dBK_looseRead_29 : decode cBK_looseRead 29 = .ok (.if_icmp .le 17, 3) := by decide +kernel
theorem dBK_looseRead_32 : decode cBK_looseRead 32 = .ok (.aload_n 1, 1) := by decide +kernel
theorem dBK_looseRead_33 : decode cBK_looseRead 33 = .ok (.iload 6, 2) := by decide +kernel
theorem dBK_looseRead_35 : decode cBK_looseRead 35 = .ok (.iload_n 2, 1) := by decide +kernel
theorem dBK_looseRead_36 : decode cBK_looseRead 36 = .ok (.invokevirtual 43, 3) := by decide +kernel
theorem dBK_looseRead_39 : decode cBK_looseRead 39 = .ok (.ifCond .ne 7, 3) := by decide +kernel
theorem dBK_looseRead_42 : decode cBK_looseRead 42 = .ok (.iload 6, 2) := by decide +kernel
theorem dBK_looseRead_44 : decode cBK_looseRead 44 = .ok (.istore 4, 2) := by decide +kernel
theorem dBK_looseRead_46 : decode cBK_looseRead 46 = .ok (.iinc 5 1, 3) := by decide +kernel
theorem dBK_looseRead_49 : decode cBK_looseRead 49 = .ok (.goto (-43), 3) := by decide +kernel
theorem dBK_looseRead_52 : decode cBK_looseRead 52 = .ok (.iload 4, 2) := by decide +kernel
theorem dBK_looseRead_54 : decode cBK_looseRead 54 = .ok (.ireturn, 1) := by decide +kernel
theorem dBK_rivalOf_0 : decode cBK_rivalOf 0 = .ok (.aload_n 0, 1) := by decide +kernel
theorem dBK_rivalOf_1 : decode cBK_rivalOf 1 = .ok (.getfield 18, 3) := by decide +kernel
theorem dBK_rivalOf_4 : decode cBK_rivalOf 4 = .ok (.iload_n 3, 1) := by decide +kernel
theorem dBK_rivalOf_5 : decode cBK_rivalOf 5 = .ok (.iaload, 1) := by decide +kernel
theorem dBK_rivalOf_6 : decode cBK_rivalOf 6 = .ok (.istore 5, 2) := by decide +kernel
theorem dBK_rivalOf_8 : decode cBK_rivalOf 8 = .ok (.iload 5, 2) := by decide +kernel
theorem dBK_rivalOf_10 : decode cBK_rivalOf 10 = .ok (.iconst (-1), 1) := by decide +kernel
theorem dBK_rivalOf_11 : decode cBK_rivalOf 11 = .ok (.if_icmp .eq 16, 3) := by decide +kernel
theorem dBK_rivalOf_14 : decode cBK_rivalOf 14 = .ok (.aload_n 1, 1) := by decide +kernel
theorem dBK_rivalOf_15 : decode cBK_rivalOf 15 = .ok (.iload 5, 2) := by decide +kernel
theorem dBK_rivalOf_17 : decode cBK_rivalOf 17 = .ok (.iload_n 2, 1) := by decide +kernel
theorem dBK_rivalOf_18 : decode cBK_rivalOf 18 = .ok (.invokevirtual 43, 3) := by decide +kernel
theorem dBK_rivalOf_21 : decode cBK_rivalOf 21 = .ok (.ifCond .ne 6, 3) := by decide +kernel
theorem dBK_rivalOf_24 : decode cBK_rivalOf 24 = .ok (.iload 5, 2) := by decide +kernel
theorem dBK_rivalOf_26 : decode cBK_rivalOf 26 = .ok (.ireturn, 1) := by decide +kernel
theorem dBK_rivalOf_27 : decode cBK_rivalOf 27 = .ok (.iload 4, 2) := by decide +kernel
theorem dBK_rivalOf_29 : decode cBK_rivalOf 29 = .ok (.ifCond .eq 13, 3) := by decide +kernel
theorem dBK_rivalOf_32 : decode cBK_rivalOf 32 = .ok (.aload_n 0, 1) := by decide +kernel
theorem dBK_rivalOf_33 : decode cBK_rivalOf 33 = .ok (.aload_n 1, 1) := by decide +kernel
theorem dBK_rivalOf_34 : decode cBK_rivalOf 34 = .ok (.iload_n 2, 1) := by decide +kernel
theorem dBK_rivalOf_35 : decode cBK_rivalOf 35 = .ok (.iload_n 3, 1) := by decide +kernel
theorem dBK_rivalOf_36 : decode cBK_rivalOf 36 = .ok (.invokevirtual 47, 3) := by decide +kernel
theorem dBK_rivalOf_39 : decode cBK_rivalOf 39 = .ok (.goto 4, 3) := by decide +kernel
theorem dBK_rivalOf_42 : decode cBK_rivalOf 42 = .ok (.iconst (-1), 1) := by decide +kernel
theorem dBK_rivalOf_43 : decode cBK_rivalOf 43 = .ok (.ireturn, 1) := by decide +kernel
theorem dBK_enter_0 : decode cBK_enter 0 = .ok (.aload_n 0, 1) := by decide +kernel
theorem dBK_enter_1 : decode cBK_enter 1 = .ok (.getfield 9, 3) := by decide +kernel
theorem dBK_enter_4 : decode cBK_enter 4 = .ok (.iload_n 3, 1) := by decide +kernel
theorem dBK_enter_5 : decode cBK_enter 5 = .ok (.iaload, 1) := by decide +kernel
theorem dBK_enter_6 : decode cBK_enter 6 = .ok (.iconst (-1), 1) := by decide +kernel
theorem dBK_enter_7 : decode cBK_enter 7 = .ok (.if_icmp .ne 35, 3) := by decide +kernel
theorem dBK_enter_10 : decode cBK_enter 10 = .ok (.aload_n 0, 1) := by decide +kernel
theorem dBK_enter_11 : decode cBK_enter 11 = .ok (.aload_n 1, 1) := by decide +kernel
theorem dBK_enter_12 : decode cBK_enter 12 = .ok (.iload_n 2, 1) := by decide +kernel
theorem dBK_enter_13 : decode cBK_enter 13 = .ok (.iload_n 3, 1) := by decide +kernel
theorem dBK_enter_14 : decode cBK_enter 14 = .ok (.iload 4, 2) := by decide +kernel
theorem dBK_enter_16 : decode cBK_enter 16 = .ok (.invokevirtual 33, 3) := by decide +kernel
theorem dBK_enter_19 : decode cBK_enter 19 = .ok (.istore 5, 2) := by decide +kernel
theorem dBK_enter_21 : decode cBK_enter 21 = .ok (.iload 5, 2) := by decide +kernel
theorem dBK_enter_23 : decode cBK_enter 23 = .ok (.iconst (-1), 1) := by decide +kernel
theorem dBK_enter_24 : decode cBK_enter 24 = .ok (.if_icmp .eq 18, 3) := by decide +kernel
theorem dBK_enter_27 : decode cBK_enter 27 = .ok (.aload_n 0, 1) := by decide +kernel
theorem dBK_enter_28 : decode cBK_enter 28 = .ok (.getfield 9, 3) := by decide +kernel
theorem dBK_enter_31 : decode cBK_enter 31 = .ok (.iload_n 3, 1) := by decide +kernel
theorem dBK_enter_32 : decode cBK_enter 32 = .ok (.iload_n 2, 1) := by decide +kernel
theorem dBK_enter_33 : decode cBK_enter 33 = .ok (.iastore, 1) := by decide +kernel
theorem dBK_enter_34 : decode cBK_enter 34 = .ok (.aload_n 0, 1) := by decide +kernel
theorem dBK_enter_35 : decode cBK_enter 35 = .ok (.getfield 15, 3) := by decide +kernel
theorem dBK_enter_38 : decode cBK_enter 38 = .ok (.iload_n 3, 1) := by decide +kernel
theorem dBK_enter_39 : decode cBK_enter 39 = .ok (.iload 5, 2) := by decide +kernel
theorem dBK_enter_41 : decode cBK_enter 41 = .ok (.iastore, 1) := by decide +kernel
theorem dBK_enter_42 : decode cBK_enter 42 = .ok (.iload 4, 2) := by decide +kernel
theorem dBK_enter_44 : decode cBK_enter 44 = .ok (.ifCond .eq 13, 3) := by decide +kernel
theorem dBK_enter_47 : decode cBK_enter 47 = .ok (.aload_n 0, 1) := by decide +kernel
theorem dBK_enter_48 : decode cBK_enter 48 = .ok (.getfield 18, 3) := by decide +kernel
theorem dBK_enter_51 : decode cBK_enter 51 = .ok (.iload_n 3, 1) := by decide +kernel
theorem dBK_enter_52 : decode cBK_enter 52 = .ok (.iload_n 2, 1) := by decide +kernel
theorem dBK_enter_53 : decode cBK_enter 53 = .ok (.iastore, 1) := by decide +kernel
theorem dBK_enter_54 : decode cBK_enter 54 = .ok (.goto 18, 3) := by decide +kernel
theorem dBK_enter_57 : decode cBK_enter 57 = .ok (.aload_n 0, 1) := by decide +kernel
theorem dBK_enter_58 : decode cBK_enter 58 = .ok (.getfield 21, 3) := by decide +kernel
theorem dBK_enter_61 : decode cBK_enter 61 = .ok (.iload_n 3, 1) := by decide +kernel
theorem dBK_enter_62 : decode cBK_enter 62 = .ok (.iconst 5, 1) := by decide +kernel
theorem dBK_enter_63 : decode cBK_enter 63 = .ok (.imul, 1) := by decide +kernel
theorem dBK_enter_64 : decode cBK_enter 64 = .ok (.aload_n 1, 1) := by decide +kernel
theorem dBK_enter_65 : decode cBK_enter 65 = .ok (.iload_n 2, 1) := by decide +kernel
theorem dBK_enter_66 : decode cBK_enter 66 = .ok (.invokevirtual 37, 3) := by decide +kernel
theorem dBK_enter_69 : decode cBK_enter 69 = .ok (.iadd, 1) := by decide +kernel
theorem dBK_enter_70 : decode cBK_enter 70 = .ok (.iload_n 2, 1) := by decide +kernel
theorem dBK_enter_71 : decode cBK_enter 71 = .ok (.iastore, 1) := by decide +kernel
theorem dBK_enter_72 : decode cBK_enter 72 = .ok (.return_, 1) := by decide +kernel
set_option maxHeartbeats 4000000 in
set_option maxRecDepth 100000 in
theorem g_TR_isFull (l : Launch) (D : va_G) (tc : Nat → ClassId) (ad : Nat → Nat) (E : Nat → va_E) (cn : Nat) (r1 r2 : Value) (u0 : E 0 = .inr (4, [r1, r2, .int (nI cn)])) (hc : cn ≤ 200) : Ct0 l D tc yTR_isFull 0 3 ad E [.ref (ad 0)] (fun o E2 => ∃ r : Int32, o = .returned (some (.int r)) ∧ E2 = E ∧ (r = 0 → cn < 200)) := by
  refine Ct0.ofW (cc := cTR_isFull) (maxL := 1) (ret := (some .boolean)) (own := R_TR) (by decide) rfl w_416 (Nat.le_of_ble_eq_true rfl) ?_
  intro p e s m args below meth c ls X hlk hr hD hP hS hl
  have hx := X.1
  have hb := X.2.1
  have hl : lv_has ls 1 [(0, .ref (ad 0))] := hl
  refine lv_aload_n hx hb dTR_isFull_0 rfl (lv_at hl 0 rfl) ?_
  refine g_TR_18 X hP (by omega) (u0) rfl dTR_isFull_1 ?_
  refine lv_sipush (v := 200) hx hb dTR_isFull_4 (by decide) ?_
  refine lv_icmp_lt (tgt := 14) hx hb dTR_isFull_7 rfl (fun h7 => ?_) (fun h7 => ?_)
  · refine lv_iconst (v := 0) hx hb dTR_isFull_14 (by decide) ?_
    exact q_zret0 X hlk hr (by decide) hP hS dTR_isFull_15 (⟨_, rfl, rfl, fun _ => (nI_ltI (b := 200) (by omega) (by decide)).mp h7⟩)
  · refine lv_iconst (v := 1) hx hb dTR_isFull_10 (by decide) ?_
    refine lv_goto (tgt := 15) hx hb dTR_isFull_11 rfl ?_
    exact q_zret0 X hlk hr (by decide) hP hS dTR_isFull_15 (⟨_, rfl, rfl, fun q => absurd q (by decide)⟩)
set_option maxHeartbeats 4000000 in
set_option maxRecDepth 100000 in
theorem g_TR_threadOf (l : Launch) (D : va_G) (tc : Nat → ClassId) (ad : Nat → Nat) (E : Nat → va_E) (cn : Nat) (fc fk : Nat → Int32) (j : Nat) (u0 : E 0 = .inr (4, [.ref (ad 1), .ref (ad 2), .int (nI cn)])) (u1 : E 1 = .inl (tc 0, 200, .inl fc)) (u2 : E 2 = .inl (tc 0, 1000, .inl fk)) (hj : j < 200) : Ct l D tc yTR_threadOf 0 3 ad E [.ref (ad 0), .int (nI j)] (fun o E2 => o = .returned (some (.int (fc j &&& 7))) ∧ E2 = E) := by
  refine Ct.ofW (cc := cTR_threadOf) (maxL := 2) (ret := (some .int)) (own := R_TR) (by decide) rfl w_234 (Nat.le_of_ble_eq_true rfl) ?_
  intro p e s m args below meth c ls X hlk hr hD hP hS hl
  have hx := X.1
  have hb := X.2.1
  have hl : lv_has ls 2 [(0, .ref (ad 0)), (1, .int (nI j))] := hl
  refine lv_aload_n hx hb dTR_threadOf_0 rfl (lv_at hl 0 rfl) ?_
  refine g_TR_9 X hP (by omega) (u0) rfl dTR_threadOf_1 ?_
  refine lv_iload_n hx hb dTR_threadOf_4 rfl (lv_at hl 1 rfl) ?_
  refine q_iald j X hP (by omega) (u1) (rfl) (by omega) (by decide) dTR_threadOf_5 ?_
  refine lv_bipush (v := 7) hx hb dTR_threadOf_6 (by decide) ?_
  refine lv_iand hx hb dTR_threadOf_8 ?_
  exact q_iret X hlk hr hP hS dTR_threadOf_9 (⟨rfl, rfl⟩)
set_option maxHeartbeats 4000000 in
set_option maxRecDepth 100000 in
theorem g_TR_isOrdered (l : Launch) (D : va_G) (tc : Nat → ClassId) (ad : Nat → Nat) (E : Nat → va_E) (cn : Nat) (fc fk : Nat → Int32) (a b t : Nat) (u0 : E 0 = .inr (4, [.ref (ad 1), .ref (ad 2), .int (nI cn)])) (u1 : E 1 = .inl (tc 0, 200, .inl fc)) (u2 : E 2 = .inl (tc 0, 1000, .inl fk)) (ha : a < 200) (hb2 : b < 200) (ht : t < 5) (hft : fc a &&& 7 = nI t) : Ct l D tc yTR_isOrdered 1 3 ad E [.ref (ad 0), .int (nI a), .int (nI b)] (fun o E2 => ∃ r : Int32, o = .returned (some (.int r)) ∧ E2 = E ∧ True) := by
  refine Ct.ofW (cc := cTR_isOrdered) (maxL := 4) (ret := (some .boolean)) (own := R_TR) (by decide) rfl w_230 (Nat.le_of_ble_eq_true rfl) ?_
  intro p e s m args below meth c ls X hlk hr hD hP hS hl
  have hx := X.1
  have hb := X.2.1
  have hl : lv_has ls 4 [(0, .ref (ad 0)), (1, .int (nI a)), (2, .int (nI b))] := hl
  refine lv_aload_n hx hb dTR_isOrdered_0 rfl (lv_at hl 0 rfl) ?_
  refine lv_iload_n hx hb dTR_isOrdered_1 rfl (lv_at hl 1 rfl) ?_
  refine x_iE (f := fun k => 0 + k) (x_runV (C := R_TR) (As := [.int (nI a)]) (rest := []) X (by have h := g_TR_threadOf l D tc (fun k => ad (0 + k)) (fun k => E (0 + k)) cn fc fk a u0 u1 u2 (ha); rw [hft] at h; exact h) rfl rfl (by decide) (by decide) w_234 w_6 w_231 w_233 sel_TR_threadOf ry_TR_threadOf (x_recv X hP (by omega) (u0) rfl) (ct_pre X hP hD (fr_lt 3 3 0 (by omega)) (fr_inj 3 0)) ct_blind hl.1 (Nat.le_of_ble_eq_true rfl) dTR_isOrdered_2 ⟨Nat.zero_le _, Nat.zero_le _⟩) hD hP hS (fr_lt 3 3 0 (by omega)) (fr_inj 3 0) (fun H locs hD hP hS => ?_)
  refine lv_istore_n hx hb dTR_isOrdered_5 rfl hl (by decide) rfl (fun ls hl => ?_)
  have hl : lv_has ls 4 [(3, .int (nI t)), (0, .ref (ad 0)), (1, .int (nI a)), (2, .int (nI b))] := hl
  refine lv_iload_n hx hb dTR_isOrdered_6 rfl (lv_at hl 2 rfl) ?_
  refine lv_iload_n hx hb dTR_isOrdered_7 rfl (lv_at hl 3 rfl) ?_
  refine lv_icmp_ge (tgt := 38) hx hb dTR_isOrdered_8 rfl (fun h8 => ?_) (fun h8 => ?_)
  · refine lv_iconst (v := 0) hx hb dTR_isOrdered_38 (by decide) ?_
    exact q_zret X hlk hr (by decide) hP hS dTR_isOrdered_39 (⟨_, rfl, rfl, trivial⟩)
  · refine lv_aload_n hx hb dTR_isOrdered_11 rfl (lv_at hl 1 rfl) ?_
    refine g_TR_15 X hP (by omega) (u0) rfl dTR_isOrdered_12 ?_
    refine lv_iload_n hx hb dTR_isOrdered_15 rfl (lv_at hl 2 rfl) ?_
    refine lv_iconst (v := 5) hx hb dTR_isOrdered_16 (by decide) ?_
    refine lv_imul hx hb dTR_isOrdered_17 ?_
    refine lv_iload_n hx hb dTR_isOrdered_18 rfl (lv_at hl 0 rfl) ?_
    refine lv_iadd hx hb dTR_isOrdered_19 ?_
    rw [show (((nI a) * 5) + (nI t)) = nI (a * 5 + t) from mul5 a t]
    refine q_iald (a * 5 + t) X hP (by omega) (u2) (rfl) (by omega) (by decide) dTR_isOrdered_20 ?_
    refine lv_aload_n hx hb dTR_isOrdered_21 rfl (lv_at hl 1 rfl) ?_
    refine g_TR_15 X hP (by omega) (u0) rfl dTR_isOrdered_22 ?_
    refine lv_iload_n hx hb dTR_isOrdered_25 rfl (lv_at hl 3 rfl) ?_
    refine lv_iconst (v := 5) hx hb dTR_isOrdered_26 (by decide) ?_
    refine lv_imul hx hb dTR_isOrdered_27 ?_
    refine lv_iload_n hx hb dTR_isOrdered_28 rfl (lv_at hl 0 rfl) ?_
    refine lv_iadd hx hb dTR_isOrdered_29 ?_
    rw [show (((nI b) * 5) + (nI t)) = nI (b * 5 + t) from mul5 b t]
    refine q_iald (b * 5 + t) X hP (by omega) (u2) (rfl) (by omega) (by decide) dTR_isOrdered_30 ?_
    refine lv_icmp_gt (tgt := 38) hx hb dTR_isOrdered_31 rfl (fun h31 => ?_) (fun h31 => ?_)
    · refine lv_iconst (v := 0) hx hb dTR_isOrdered_38 (by decide) ?_
      exact q_zret X hlk hr (by decide) hP hS dTR_isOrdered_39 (⟨_, rfl, rfl, trivial⟩)
    · refine lv_iconst (v := 1) hx hb dTR_isOrdered_34 (by decide) ?_
      refine lv_goto (tgt := 39) hx hb dTR_isOrdered_35 rfl ?_
      exact q_zret X hlk hr (by decide) hP hS dTR_isOrdered_39 (⟨_, rfl, rfl, trivial⟩)
set_option maxHeartbeats 4000000 in
set_option maxRecDepth 100000 in
theorem g_TR_append (l : Launch) (D : va_G) (tc : Nat → ClassId) (ad : Nat → Nat) (E : Nat → va_E) (cn : Nat) (fc fk : Nat → Int32) (g : Nat → Int32) (code : Int32) (u0 : E 0 = .inr (4, [.ref (ad 1), .ref (ad 2), .int (nI cn)])) (u1 : E 1 = .inl (tc 0, 200, .inl fc)) (u2 : E 2 = .inl (tc 0, 1000, .inl fk)) (u3 : E 3 = .inr (0, [.ref (ad 4)])) (u4 : E 4 = .inl (tc 0, 5, .inl g)) (hc : cn < 200) : Ct l D tc yTR_append 1 5 ad E [.ref (ad 0), .int code, .ref (ad 3)] (fun o E2 => o = .returned (some (.int (nI cn))) ∧ (∃ f2, isTR tc ad E2 0 (cn + 1) (upd fc cn code) f2) ∧ E2 3 = E 3 ∧ E2 4 = E 4) := by
  refine Ct.ofW (cc := cTR_append) (maxL := 4) (ret := (some .int)) (own := R_TR) (by decide) rfl w_462 (Nat.le_of_ble_eq_true rfl) ?_
  intro p e s m args below meth c ls X hlk hr hD hP hS hl
  have hx := X.1
  have hb := X.2.1
  have hl : lv_has ls 4 [(0, .ref (ad 0)), (1, .int code), (2, .ref (ad 3))] := hl
  refine lv_aload_n hx hb dTR_append_0 rfl (lv_at hl 0 rfl) ?_
  refine g_TR_18 X hP (by omega) (u0) rfl dTR_append_1 ?_
  refine lv_istore_n hx hb dTR_append_4 rfl hl (by decide) rfl (fun ls hl => ?_)
  have hl : lv_has ls 4 [(3, .int (nI cn)), (0, .ref (ad 0)), (1, .int code), (2, .ref (ad 3))] := hl
  refine lv_aload_n hx hb dTR_append_5 rfl (lv_at hl 1 rfl) ?_
  refine g_TR_9 X hP (by omega) (u0) rfl dTR_append_6 ?_
  refine lv_iload_n hx hb dTR_append_9 rfl (lv_at hl 0 rfl) ?_
  refine lv_iload_n hx hb dTR_append_10 rfl (lv_at hl 2 rfl) ?_
  refine q_iast cn X hD hP hS (by omega) (u1) (rfl) (by omega) (by decide) dTR_append_11 (fun H locs hD hP hS => ?_)
  have hP : va_P D vwCl (wW 5 ad (va_up E 1 (.inl (tc 0, 200, .inl (upd fc cn code))))) H := hP
  have hD : va_D (Aw 5 ad) (wW 5 ad (va_up E 1 (.inl (tc 0, 200, .inl (upd fc cn code))))) := hD
  generalize g2 : va_up E 1 (.inl (tc 0, 200, .inl (upd fc cn code))) = E1 at hD hP
  have f3 : E1 0 = .inr (4, [.ref (ad 1), .ref (ad 2), .int (nI cn)]) := by rw [← g2, va_up_ne _ _ (by omega)]; exact u0
  have f4 : E1 1 = .inl (tc 0, 200, .inl (upd fc cn code)) := by rw [← g2]; exact va_up_self _ _ _
  have f5 : E1 2 = .inl (tc 0, 1000, .inl fk) := by rw [← g2, va_up_ne _ _ (by omega)]; exact u2
  have f6 : E1 3 = .inr (0, [.ref (ad 4)]) := by rw [← g2, va_up_ne _ _ (by omega)]; exact u3
  have f7 : E1 4 = .inl (tc 0, 5, .inl g) := by rw [← g2, va_up_ne _ _ (by omega)]; exact u4
  refine lv_aload_n hx hb dTR_append_12 rfl (lv_at hl 3 rfl) ?_
  refine g_TR_22 X hP (by omega) (f6) rfl dTR_append_13 ?_
  refine lv_iconst (v := 0) hx hb dTR_append_16 (by decide) ?_
  refine lv_aload_n hx hb dTR_append_17 rfl (lv_at hl 1 rfl) ?_
  refine g_TR_15 X hP (by omega) (f3) rfl dTR_append_18 ?_
  refine lv_iload_n hx hb dTR_append_21 rfl (lv_at hl 0 rfl) ?_
  refine lv_iconst (v := 5) hx hb dTR_append_22 (by decide) ?_
  refine lv_imul hx hb dTR_append_23 ?_
  rw [show ((nI cn) * 5) = nI (cn * 5) from mul5' cn]
  refine lv_iconst (v := 5) hx hb dTR_append_24 (by decide) ?_
  refine q_copy (k0 := 4) (k1 := 2) (dp := cn * 5) X w_463 w_465 w_464 w_18 hD hP hS (by omega) (by omega) f7 f5 rfl (by omega) (by decide) (by decide) (by show cn * 5 + 5 ≤ 1000; omega) hl.1 (by decide) (Nat.le_of_ble_eq_true rfl) dTR_append_25 (fun c8 H locs hD hP hS => ?_)
  have hP : va_P D vwCl (wW 5 ad (va_up E1 2 (.inl (tc 0, 1000, .inl c8)))) H := hP
  have hD : va_D (Aw 5 ad) (wW 5 ad (va_up E1 2 (.inl (tc 0, 1000, .inl c8)))) := hD
  generalize g10 : va_up E1 2 (.inl (tc 0, 1000, .inl c8)) = E9 at hD hP
  have f11 : E9 0 = .inr (4, [.ref (ad 1), .ref (ad 2), .int (nI cn)]) := by rw [← g10, va_up_ne _ _ (by omega)]; exact f3
  have f12 : E9 1 = .inl (tc 0, 200, .inl (upd fc cn code)) := by rw [← g10, va_up_ne _ _ (by omega)]; exact f4
  have f13 : E9 2 = .inl (tc 0, 1000, .inl c8) := by rw [← g10]; exact va_up_self _ _ _
  have f14 : E9 3 = .inr (0, [.ref (ad 4)]) := by rw [← g10, va_up_ne _ _ (by omega)]; exact f6
  have f15 : E9 4 = .inl (tc 0, 5, .inl g) := by rw [← g10, va_up_ne _ _ (by omega)]; exact f7
  refine lv_aload_n hx hb dTR_append_28 rfl (lv_at hl 1 rfl) ?_
  refine lv_iload_n hx hb dTR_append_29 rfl (lv_at hl 0 rfl) ?_
  refine lv_iconst (v := 1) hx hb dTR_append_30 (by decide) ?_
  refine lv_iadd hx hb dTR_append_31 ?_
  rw [show ((nI cn) + 1) = nI (cn + 1) from nI_1 cn]
  refine p_TR_18 X hD hP hS (by omega) (f11) rfl rfl (Nat.le_of_ble_eq_true rfl) dTR_append_32 (fun H locs hD hP hS => ?_)
  have hP : va_P D vwCl (wW 5 ad (va_up E9 0 (.inr (4, [.ref (ad 1), .ref (ad 2), .int (nI (cn + 1))])))) H := hP
  have hD : va_D (Aw 5 ad) (wW 5 ad (va_up E9 0 (.inr (4, [.ref (ad 1), .ref (ad 2), .int (nI (cn + 1))])))) := hD
  generalize g17 : va_up E9 0 (.inr (4, [.ref (ad 1), .ref (ad 2), .int (nI (cn + 1))])) = E16 at hD hP
  have f18 : E16 0 = .inr (4, [.ref (ad 1), .ref (ad 2), .int (nI (cn + 1))]) := by rw [← g17]; exact va_up_self _ _ _
  have f19 : E16 1 = .inl (tc 0, 200, .inl (upd fc cn code)) := by rw [← g17, va_up_ne _ _ (by omega)]; exact f12
  have f20 : E16 2 = .inl (tc 0, 1000, .inl c8) := by rw [← g17, va_up_ne _ _ (by omega)]; exact f13
  have f21 : E16 3 = .inr (0, [.ref (ad 4)]) := by rw [← g17, va_up_ne _ _ (by omega)]; exact f14
  have f22 : E16 4 = .inl (tc 0, 5, .inl g) := by rw [← g17, va_up_ne _ _ (by omega)]; exact f15
  refine lv_iload_n hx hb dTR_append_35 rfl (lv_at hl 0 rfl) ?_
  exact q_iret X hlk hr hP hS dTR_append_36 (⟨rfl, ⟨_, f18, f19, f20⟩, f21.trans u3.symm, f22.trans u4.symm⟩)
set_option maxHeartbeats 4000000 in
set_option maxRecDepth 100000 in
theorem g_BK_looseRead (l : Launch) (D : va_G) (tc : Nat → ClassId) (ad : Nat → Nat) (E : Nat → va_E) (fr fp fw fd : Nat → Int32) (cn : Nat) (fc fk : Nat → Int32) (e1 pl : Nat) (u0 : E 0 = .inr (3, [.ref (ad 1), .ref (ad 2), .ref (ad 3), .ref (ad 4)])) (u1 : E 1 = .inl (tc 0, 8, .inl fr)) (u2 : E 2 = .inl (tc 0, 8, .inl fp)) (u3 : E 3 = .inl (tc 0, 8, .inl fw)) (u4 : E 4 = .inl (tc 0, 40, .inl fd)) (u5 : E 5 = .inr (4, [.ref (ad 6), .ref (ad 7), .int (nI cn)])) (u6 : E 6 = .inl (tc 0, 200, .inl fc)) (u7 : E 7 = .inl (tc 0, 1000, .inl fk)) (hc : cn ≤ 200) (he : e1 < cn) (hpl : pl < 8) (hfw : ∀ j, j < 8 → okI cn (fw j)) (hfd : ∀ j, j < 40 → okI cn (fd j)) (hfc : ∀ k, k < cn → ∃ t, t < 5 ∧ fc k &&& 7 = nI t) : Ct l D tc yBK_looseRead 2 8 ad E [.ref (ad 0), .ref (ad 5), .int (nI e1), .int (nI pl)] (fun o E2 => ∃ r : Int32, o = .returned (some (.int r)) ∧ E2 = E ∧ True) := by
  refine Ct.ofW (cc := cBK_looseRead) (maxL := 7) (ret := (some .int)) (own := R_BK) (by decide) rfl w_484 (Nat.le_of_ble_eq_true rfl) ?_
  intro p e s m args below meth c ls X hlk hr hD hP hS hl
  have hx := X.1
  have hb := X.2.1
  have hl : lv_has ls 7 [(0, .ref (ad 0)), (1, .ref (ad 5)), (2, .int (nI e1)), (3, .int (nI pl))] := hl
  refine lv_iconst (v := (-1)) hx hb dBK_looseRead_0 (by decide) ?_
  refine lv_istore hx hb dBK_looseRead_1 hl (by decide) rfl (fun ls hl => ?_)
  have hl : lv_has ls 7 [(4, .int (-1)), (0, .ref (ad 0)), (1, .ref (ad 5)), (2, .int (nI e1)), (3, .int (nI pl))] := hl
  refine lv_iconst (v := 0) hx hb dBK_looseRead_3 (by decide) ?_
  refine lv_istore hx hb dBK_looseRead_4 hl (by decide) rfl (fun ls hl => ?_)
  have hl : lv_has ls 7 [(5, .int 0), (4, .int (-1)), (0, .ref (ad 0)), (1, .ref (ad 5)), (2, .int (nI e1)), (3, .int (nI pl))] := hl
  have loop : ∀ (r i : Nat) (fnd : Int32) (H : Heap) (locs : List Loc) (ls : Array Slot), i + r = 5 → okI cn fnd → va_D (Aw 8 ad) (wW 8 ad E) → va_P D vwCl (wW 8 ad E) H → va_S (Aw 8 ad) s.heap H locs → lv_has ls 7 [(5, .int (nI i)), (4, .int fnd), (0, .ref (ad 0)), (1, .ref (ad 5)), (2, .int (nI e1)), (3, .int (nI pl))] → W p l e (rmD 2) s m args below meth c H locs 0 0 (XQ below (CtQ D 8 ad (fun o E2 => ∃ r : Int32, o = .returned (some (.int r)) ∧ E2 = E ∧ True)) args s 0 0 (Aw 8 ad)) (F0 m 6 ls []) := by
    intro r
    induction r with
    | zero =>
      intro i fnd H locs ls hi hfn hD hP hS hl
      refine lv_iload hx hb dBK_looseRead_6 (lv_at hl 0 rfl) ?_
      refine lv_iconst (v := 5) hx hb dBK_looseRead_8 (by decide) ?_
      refine lv_icmp_ge (tgt := 52) hx hb dBK_looseRead_9 rfl (fun h9 => ?_) (fun h9 => absurd (nI_le (a := 5) (b := i) (by omega) (by omega)) h9)
      refine lv_iload hx hb dBK_looseRead_52 (lv_at hl 1 rfl) ?_
      exact q_iret X hlk hr hP hS dBK_looseRead_54 (⟨_, rfl, rfl, trivial⟩)
    | succ r ih =>
      intro i fnd H locs ls hi hfn hD hP hS hl
      refine lv_iload hx hb dBK_looseRead_6 (lv_at hl 0 rfl) ?_
      refine lv_iconst (v := 5) hx hb dBK_looseRead_8 (by decide) ?_
      refine lv_icmp_ge (tgt := 52) hx hb dBK_looseRead_9 rfl (fun h9 => absurd h9 (nI_ge (a := i) (b := 5) (by omega) (by omega))) (fun h9 => ?_)
      refine lv_aload_n hx hb dBK_looseRead_12 rfl (lv_at hl 2 rfl) ?_
      refine g_BK_21 X hP (by omega) (u0) rfl dBK_looseRead_13 ?_
      refine lv_iload_n hx hb dBK_looseRead_16 rfl (lv_at hl 5 rfl) ?_
      refine lv_iconst (v := 5) hx hb dBK_looseRead_17 (by decide) ?_
      refine lv_imul hx hb dBK_looseRead_18 ?_
      refine lv_iload hx hb dBK_looseRead_19 (lv_at hl 0 rfl) ?_
      refine lv_iadd hx hb dBK_looseRead_21 ?_
      rw [show (((nI pl) * 5) + (nI i)) = nI (pl * 5 + i) from mul5 pl i]
      refine q_iald (pl * 5 + i) X hP (by omega) (u4) (rfl) (by omega) (by decide) dBK_looseRead_22 ?_
      refine lv_istore hx hb dBK_looseRead_23 hl (by decide) rfl (fun ls hl => ?_)
      have hl : lv_has ls 7 [(6, .int (fd (pl * 5 + i))), (5, .int (nI i)), (4, .int fnd), (0, .ref (ad 0)), (1, .ref (ad 5)), (2, .int (nI e1)), (3, .int (nI pl))] := hl
      refine lv_iload hx hb dBK_looseRead_25 (lv_at hl 0 rfl) ?_
      refine lv_iload hx hb dBK_looseRead_27 (lv_at hl 2 rfl) ?_
      refine lv_icmp_le (tgt := 46) hx hb dBK_looseRead_29 rfl (fun h29 => ?_) (fun h29 => ?_)
      · refine lv_iinc (k := 1) (v := nI (i + 1)) hx hb dBK_looseRead_46 hl rfl (nI_1 i) (by decide) rfl (fun ls hl => ?_)
        have hl : lv_has ls 7 [(5, .int (nI (i + 1))), (6, .int (fd (pl * 5 + i))), (4, .int fnd), (0, .ref (ad 0)), (1, .ref (ad 5)), (2, .int (nI e1)), (3, .int (nI pl))] := hl
        refine lv_goto (tgt := 6) hx hb dBK_looseRead_49 rfl ?_
        exact ih (i + 1) fnd _ _ _ (by omega) (hfn) hD hP hS (lv_sub hl [0, 2, 3, 4, 5, 6] rfl)
      · obtain ⟨a, ha, hra⟩ := (hfd (pl * 5 + i) (by omega)).gt hfn (by omega) h29
        rw [hra] at hl
        obtain ⟨tt, htt, hft⟩ := hfc a ha
        refine lv_aload_n hx hb dBK_looseRead_32 rfl (lv_at hl 4 rfl) ?_
        refine lv_iload hx hb dBK_looseRead_33 (lv_at hl 0 rfl) ?_
        refine lv_iload_n hx hb dBK_looseRead_35 rfl (lv_at hl 5 rfl) ?_
        refine x_iX (f := fun k => 5 + k) (x_runVN (C := R_TR) (As := [.int (nI a), .int (nI e1)]) (rest := []) X (g_TR_isOrdered l D tc (fun k => ad (5 + k)) (fun k => E (5 + k)) cn fc fk a e1 tt u5 u6 u7 (by omega) (by omega) htt hft) rfl rfl (by decide) (by decide) w_230 w_6 w_480 w_229 sel_TR_isOrdered ry_TR_isOrdered (x_recv X hP (by omega) (u5) rfl) (ct_pre X hP hD (fr_lt 3 8 5 (by omega)) (fr_inj 3 5)) ct_blind hl.1 (Nat.le_of_ble_eq_true rfl) dBK_looseRead_36 ⟨Nat.zero_le _, Nat.zero_le _⟩) hD hP hS (fr_lt 3 8 5 (by omega)) (fr_inj 3 5) (fun z H locs hz hD hP hS => ?_)
        refine lv_if_ne (tgt := 46) hx hb dBK_looseRead_39 rfl (fun h39 => ?_) (fun h39 => ?_)
        · refine lv_iinc (k := 1) (v := nI (i + 1)) hx hb dBK_looseRead_46 hl rfl (nI_1 i) (by decide) rfl (fun ls hl => ?_)
          have hl : lv_has ls 7 [(5, .int (nI (i + 1))), (6, .int (nI a)), (4, .int fnd), (0, .ref (ad 0)), (1, .ref (ad 5)), (2, .int (nI e1)), (3, .int (nI pl))] := hl
          refine lv_goto (tgt := 6) hx hb dBK_looseRead_49 rfl ?_
          exact ih (i + 1) fnd _ _ _ (by omega) (hfn) hD hP hS (lv_sub hl [0, 2, 3, 4, 5, 6] rfl)
        · refine lv_iload hx hb dBK_looseRead_42 (lv_at hl 0 rfl) ?_
          refine lv_istore hx hb dBK_looseRead_44 hl (by decide) rfl (fun ls hl => ?_)
          have hl : lv_has ls 7 [(4, .int (nI a)), (6, .int (nI a)), (5, .int (nI i)), (0, .ref (ad 0)), (1, .ref (ad 5)), (2, .int (nI e1)), (3, .int (nI pl))] := hl
          refine lv_iinc (k := 2) (v := nI (i + 1)) hx hb dBK_looseRead_46 hl rfl (nI_1 i) (by decide) rfl (fun ls hl => ?_)
          have hl : lv_has ls 7 [(5, .int (nI (i + 1))), (4, .int (nI a)), (6, .int (nI a)), (0, .ref (ad 0)), (1, .ref (ad 5)), (2, .int (nI e1)), (3, .int (nI pl))] := hl
          refine lv_goto (tgt := 6) hx hb dBK_looseRead_49 rfl ?_
          exact ih (i + 1) (nI a) _ _ _ (by omega) (Or.inr ⟨a, ha, rfl⟩) hD hP hS (lv_sub hl [0, 1, 3, 4, 5, 6] rfl)
  exact loop 5 0 (-1) _ _ _ (by omega) (Or.inl rfl) hD hP hS hl
set_option maxHeartbeats 4000000 in
set_option maxRecDepth 100000 in
theorem g_BK_rivalOf (l : Launch) (D : va_G) (tc : Nat → ClassId) (ad : Nat → Nat) (E : Nat → va_E) (fr fp fw fd : Nat → Int32) (cn : Nat) (fc fk : Nat → Int32) (e1 pl : Nat) (wr : Int32) (u0 : E 0 = .inr (3, [.ref (ad 1), .ref (ad 2), .ref (ad 3), .ref (ad 4)])) (u1 : E 1 = .inl (tc 0, 8, .inl fr)) (u2 : E 2 = .inl (tc 0, 8, .inl fp)) (u3 : E 3 = .inl (tc 0, 8, .inl fw)) (u4 : E 4 = .inl (tc 0, 40, .inl fd)) (u5 : E 5 = .inr (4, [.ref (ad 6), .ref (ad 7), .int (nI cn)])) (u6 : E 6 = .inl (tc 0, 200, .inl fc)) (u7 : E 7 = .inl (tc 0, 1000, .inl fk)) (hc : cn ≤ 200) (he : e1 < cn) (hpl : pl < 8) (hfw : ∀ j, j < 8 → okI cn (fw j)) (hfd : ∀ j, j < 40 → okI cn (fd j)) (hfc : ∀ k, k < cn → ∃ t, t < 5 ∧ fc k &&& 7 = nI t) : Ct l D tc yBK_rivalOf 3 8 ad E [.ref (ad 0), .ref (ad 5), .int (nI e1), .int (nI pl), .int wr] (fun o E2 => ∃ r : Int32, o = .returned (some (.int r)) ∧ E2 = E ∧ True) := by
  refine Ct.ofW (cc := cBK_rivalOf) (maxL := 6) (ret := (some .int)) (own := R_BK) (by decide) rfl w_479 (Nat.le_of_ble_eq_true rfl) ?_
  intro p e s m args below meth c ls X hlk hr hD hP hS hl
  have hx := X.1
  have hb := X.2.1
  have hl : lv_has ls 6 [(0, .ref (ad 0)), (1, .ref (ad 5)), (2, .int (nI e1)), (3, .int (nI pl)), (4, .int wr)] := hl
  refine lv_aload_n hx hb dBK_rivalOf_0 rfl (lv_at hl 0 rfl) ?_
  refine g_BK_18 X hP (by omega) (u0) rfl dBK_rivalOf_1 ?_
  refine lv_iload_n hx hb dBK_rivalOf_4 rfl (lv_at hl 3 rfl) ?_
  refine q_iald pl X hP (by omega) (u3) (rfl) (by omega) (by decide) dBK_rivalOf_5 ?_
  refine lv_istore hx hb dBK_rivalOf_6 hl (by decide) rfl (fun ls hl => ?_)
  have hl : lv_has ls 6 [(5, .int (fw pl)), (0, .ref (ad 0)), (1, .ref (ad 5)), (2, .int (nI e1)), (3, .int (nI pl)), (4, .int wr)] := hl
  refine lv_iload hx hb dBK_rivalOf_8 (lv_at hl 0 rfl) ?_
  refine lv_iconst (v := (-1)) hx hb dBK_rivalOf_10 (by decide) ?_
  refine lv_icmp_eq (tgt := 27) hx hb dBK_rivalOf_11 rfl (fun h11 => ?_) (fun h11 => ?_)
  · refine lv_iload hx hb dBK_rivalOf_27 (lv_at hl 5 rfl) ?_
    refine lv_if_eq (tgt := 42) hx hb dBK_rivalOf_29 rfl (fun h29 => ?_) (fun h29 => ?_)
    · refine lv_iconst (v := (-1)) hx hb dBK_rivalOf_42 (by decide) ?_
      exact q_iret X hlk hr hP hS dBK_rivalOf_43 (⟨_, rfl, rfl, trivial⟩)
    · refine lv_aload_n hx hb dBK_rivalOf_32 rfl (lv_at hl 1 rfl) ?_
      refine lv_aload_n hx hb dBK_rivalOf_33 rfl (lv_at hl 2 rfl) ?_
      refine lv_iload_n hx hb dBK_rivalOf_34 rfl (lv_at hl 3 rfl) ?_
      refine lv_iload_n hx hb dBK_rivalOf_35 rfl (lv_at hl 4 rfl) ?_
      refine x_iX (f := fun k => 0 + k) (x_runV (C := R_BK) (As := [.ref (ad 5), .int (nI e1), .int (nI pl)]) (rest := []) X (g_BK_looseRead l D tc (fun k => ad (0 + k)) (fun k => E (0 + k)) fr fp fw fd cn fc fk e1 pl u0 u1 u2 u3 u4 u5 u6 u7 hc he hpl hfw hfd hfc) rfl rfl (by decide) (by decide) w_484 w_7 w_481 w_483 sel_BK_looseRead ry_BK_looseRead (x_recv X hP (by omega) (u0) rfl) (ct_pre X hP hD (fr_lt 8 8 0 (by omega)) (fr_inj 8 0)) ct_blind hl.1 (Nat.le_of_ble_eq_true rfl) dBK_rivalOf_36 ⟨Nat.zero_le _, Nat.zero_le _⟩) hD hP hS (fr_lt 8 8 0 (by omega)) (fr_inj 8 0) (fun y H locs hy hD hP hS => ?_)
      refine lv_goto (tgt := 43) hx hb dBK_rivalOf_39 rfl ?_
      exact q_iret X hlk hr hP hS dBK_rivalOf_43 (⟨_, rfl, rfl, trivial⟩)
  · obtain ⟨a, ha, hra⟩ := (hfw pl hpl).resolve_left h11
    rw [hra] at hl
    obtain ⟨tt, htt, hft⟩ := hfc a ha
    refine lv_aload_n hx hb dBK_rivalOf_14 rfl (lv_at hl 2 rfl) ?_
    refine lv_iload hx hb dBK_rivalOf_15 (lv_at hl 0 rfl) ?_
    refine lv_iload_n hx hb dBK_rivalOf_17 rfl (lv_at hl 3 rfl) ?_
    refine x_iX (f := fun k => 5 + k) (x_runVN (C := R_TR) (As := [.int (nI a), .int (nI e1)]) (rest := []) X (g_TR_isOrdered l D tc (fun k => ad (5 + k)) (fun k => E (5 + k)) cn fc fk a e1 tt u5 u6 u7 (by omega) (by omega) htt hft) rfl rfl (by decide) (by decide) w_230 w_6 w_480 w_229 sel_TR_isOrdered ry_TR_isOrdered (x_recv X hP (by omega) (u5) rfl) (ct_pre X hP hD (fr_lt 3 8 5 (by omega)) (fr_inj 3 5)) ct_blind hl.1 (Nat.le_of_ble_eq_true rfl) dBK_rivalOf_18 ⟨Nat.zero_le _, Nat.zero_le _⟩) hD hP hS (fr_lt 3 8 5 (by omega)) (fr_inj 3 5) (fun z H locs hz hD hP hS => ?_)
    refine lv_if_ne (tgt := 27) hx hb dBK_rivalOf_21 rfl (fun h21 => ?_) (fun h21 => ?_)
    · refine lv_iload hx hb dBK_rivalOf_27 (lv_at hl 5 rfl) ?_
      refine lv_if_eq (tgt := 42) hx hb dBK_rivalOf_29 rfl (fun h29 => ?_) (fun h29 => ?_)
      · refine lv_iconst (v := (-1)) hx hb dBK_rivalOf_42 (by decide) ?_
        exact q_iret X hlk hr hP hS dBK_rivalOf_43 (⟨_, rfl, rfl, trivial⟩)
      · refine lv_aload_n hx hb dBK_rivalOf_32 rfl (lv_at hl 1 rfl) ?_
        refine lv_aload_n hx hb dBK_rivalOf_33 rfl (lv_at hl 2 rfl) ?_
        refine lv_iload_n hx hb dBK_rivalOf_34 rfl (lv_at hl 3 rfl) ?_
        refine lv_iload_n hx hb dBK_rivalOf_35 rfl (lv_at hl 4 rfl) ?_
        refine x_iX (f := fun k => 0 + k) (x_runV (C := R_BK) (As := [.ref (ad 5), .int (nI e1), .int (nI pl)]) (rest := []) X (g_BK_looseRead l D tc (fun k => ad (0 + k)) (fun k => E (0 + k)) fr fp fw fd cn fc fk e1 pl u0 u1 u2 u3 u4 u5 u6 u7 hc he hpl hfw hfd hfc) rfl rfl (by decide) (by decide) w_484 w_7 w_481 w_483 sel_BK_looseRead ry_BK_looseRead (x_recv X hP (by omega) (u0) rfl) (ct_pre X hP hD (fr_lt 8 8 0 (by omega)) (fr_inj 8 0)) ct_blind hl.1 (Nat.le_of_ble_eq_true rfl) dBK_rivalOf_36 ⟨Nat.zero_le _, Nat.zero_le _⟩) hD hP hS (fr_lt 8 8 0 (by omega)) (fr_inj 8 0) (fun y H locs hy hD hP hS => ?_)
        refine lv_goto (tgt := 43) hx hb dBK_rivalOf_39 rfl ?_
        exact q_iret X hlk hr hP hS dBK_rivalOf_43 (⟨_, rfl, rfl, trivial⟩)
    · refine lv_iload hx hb dBK_rivalOf_24 (lv_at hl 0 rfl) ?_
      exact q_iret X hlk hr hP hS dBK_rivalOf_26 (⟨_, rfl, rfl, trivial⟩)
set_option maxHeartbeats 4000000 in
set_option maxRecDepth 100000 in
theorem g_BK_enter (l : Launch) (D : va_G) (tc : Nat → ClassId) (ad : Nat → Nat) (E : Nat → va_E) (fr fp fw fd : Nat → Int32) (cn : Nat) (fc fk : Nat → Int32) (e1 pl : Nat) (wr : Int32) (u0 : E 0 = .inr (3, [.ref (ad 1), .ref (ad 2), .ref (ad 3), .ref (ad 4)])) (u1 : E 1 = .inl (tc 0, 8, .inl fr)) (u2 : E 2 = .inl (tc 0, 8, .inl fp)) (u3 : E 3 = .inl (tc 0, 8, .inl fw)) (u4 : E 4 = .inl (tc 0, 40, .inl fd)) (u5 : E 5 = .inr (4, [.ref (ad 6), .ref (ad 7), .int (nI cn)])) (u6 : E 6 = .inl (tc 0, 200, .inl fc)) (u7 : E 7 = .inl (tc 0, 1000, .inl fk)) (hc : cn ≤ 200) (he : e1 < cn) (hpl : pl < 8) (hfw : ∀ j, j < 8 → okI cn (fw j)) (hfd : ∀ j, j < 40 → okI cn (fd j)) (hfc : ∀ k, k < cn → ∃ t, t < 5 ∧ fc k &&& 7 = nI t) : Ct l D tc yBK_enter 4 8 ad E [.ref (ad 0), .ref (ad 5), .int (nI e1), .int (nI pl), .int wr] (fun o E2 => o = .returned none ∧ ∃ fr2 fp2 fw2 fd2 : Nat → Int32, isBK tc ad E2 0 fr2 fp2 fw2 fd2 ∧ (∀ j, j < 8 → okI cn (fw2 j)) ∧ (∀ j, j < 40 → okI cn (fd2 j)) ∧ E2 5 = E 5 ∧ E2 6 = E 6 ∧ E2 7 = E 7) := by
  refine Ct.ofW (cc := cBK_enter) (maxL := 6) (ret := none) (own := R_BK) (by decide) rfl w_475 (Nat.le_of_ble_eq_true rfl) ?_
  intro p e s m args below meth c ls X hlk hr hD hP hS hl
  have hx := X.1
  have hb := X.2.1
  have hl : lv_has ls 6 [(0, .ref (ad 0)), (1, .ref (ad 5)), (2, .int (nI e1)), (3, .int (nI pl)), (4, .int wr)] := hl
  refine lv_aload_n hx hb dBK_enter_0 rfl (lv_at hl 0 rfl) ?_
  refine g_BK_9 X hP (by omega) (u0) rfl dBK_enter_1 ?_
  refine lv_iload_n hx hb dBK_enter_4 rfl (lv_at hl 3 rfl) ?_
  refine q_iald pl X hP (by omega) (u1) (rfl) (by omega) (by decide) dBK_enter_5 ?_
  refine lv_iconst (v := (-1)) hx hb dBK_enter_6 (by decide) ?_
  refine lv_icmp_ne (tgt := 42) hx hb dBK_enter_7 rfl (fun h7 => ?_) (fun h7 => ?_)
  · refine lv_iload hx hb dBK_enter_42 (lv_at hl 4 rfl) ?_
    refine lv_if_eq (tgt := 57) hx hb dBK_enter_44 rfl (fun h44 => ?_) (fun h44 => ?_)
    · refine lv_aload_n hx hb dBK_enter_57 rfl (lv_at hl 0 rfl) ?_
      refine g_BK_21 X hP (by omega) (u0) rfl dBK_enter_58 ?_
      refine lv_iload_n hx hb dBK_enter_61 rfl (lv_at hl 3 rfl) ?_
      refine lv_iconst (v := 5) hx hb dBK_enter_62 (by decide) ?_
      refine lv_imul hx hb dBK_enter_63 ?_
      obtain ⟨tt, htt, hft⟩ := hfc e1 he
      refine lv_aload_n hx hb dBK_enter_64 rfl (lv_at hl 1 rfl) ?_
      refine lv_iload_n hx hb dBK_enter_65 rfl (lv_at hl 2 rfl) ?_
      refine x_iE (f := fun k => 5 + k) (x_runVN (C := R_TR) (As := [.int (nI e1)]) (rest := [.int ((nI pl) * 5), .ref (ad 4)]) X (by have h := g_TR_threadOf l D tc (fun k => ad (5 + k)) (fun k => E (5 + k)) cn fc fk e1 u5 u6 u7 (by omega); rw [hft] at h; exact h) rfl rfl (by decide) (by decide) w_234 w_6 w_485 w_233 sel_TR_threadOf ry_TR_threadOf (x_recv X hP (by omega) (u5) rfl) (ct_pre X hP hD (fr_lt 3 8 5 (by omega)) (fr_inj 3 5)) ct_blind hl.1 (Nat.le_of_ble_eq_true rfl) dBK_enter_66 ⟨Nat.zero_le _, Nat.zero_le _⟩) hD hP hS (fr_lt 3 8 5 (by omega)) (fr_inj 3 5) (fun H locs hD hP hS => ?_)
      refine lv_iadd hx hb dBK_enter_69 ?_
      rw [show (((nI pl) * 5) + (nI tt)) = nI (pl * 5 + tt) from mul5 pl tt]
      refine lv_iload_n hx hb dBK_enter_70 rfl (lv_at hl 2 rfl) ?_
      refine q_iast (pl * 5 + tt) X hD hP hS (by omega) (u4) (rfl) (by omega) (by decide) dBK_enter_71 (fun H locs hD hP hS => ?_)
      have hP : va_P D vwCl (wW 8 ad (va_up E 4 (.inl (tc 0, 40, .inl (upd fd (pl * 5 + tt) (nI e1)))))) H := hP
      have hD : va_D (Aw 8 ad) (wW 8 ad (va_up E 4 (.inl (tc 0, 40, .inl (upd fd (pl * 5 + tt) (nI e1)))))) := hD
      generalize g2 : va_up E 4 (.inl (tc 0, 40, .inl (upd fd (pl * 5 + tt) (nI e1)))) = E1 at hD hP
      have f3 : E1 0 = .inr (3, [.ref (ad 1), .ref (ad 2), .ref (ad 3), .ref (ad 4)]) := by rw [← g2, va_up_ne _ _ (by omega)]; exact u0
      have f4 : E1 1 = .inl (tc 0, 8, .inl fr) := by rw [← g2, va_up_ne _ _ (by omega)]; exact u1
      have f5 : E1 2 = .inl (tc 0, 8, .inl fp) := by rw [← g2, va_up_ne _ _ (by omega)]; exact u2
      have f6 : E1 3 = .inl (tc 0, 8, .inl fw) := by rw [← g2, va_up_ne _ _ (by omega)]; exact u3
      have f7 : E1 4 = .inl (tc 0, 40, .inl (upd fd (pl * 5 + tt) (nI e1))) := by rw [← g2]; exact va_up_self _ _ _
      have f8 : E1 5 = .inr (4, [.ref (ad 6), .ref (ad 7), .int (nI cn)]) := by rw [← g2, va_up_ne _ _ (by omega)]; exact u5
      have f9 : E1 6 = .inl (tc 0, 200, .inl fc) := by rw [← g2, va_up_ne _ _ (by omega)]; exact u6
      have f10 : E1 7 = .inl (tc 0, 1000, .inl fk) := by rw [← g2, va_up_ne _ _ (by omega)]; exact u7
      exact q_vret X hlk hr hP hS dBK_enter_72 ⟨rfl, _, _, _, _, ⟨f3, f4, f5, f6, f7⟩, hfw, okU hfd (Or.inr ⟨e1, he, rfl⟩), f8.trans u5.symm, f9.trans u6.symm, f10.trans u7.symm⟩
    · refine lv_aload_n hx hb dBK_enter_47 rfl (lv_at hl 0 rfl) ?_
      refine g_BK_18 X hP (by omega) (u0) rfl dBK_enter_48 ?_
      refine lv_iload_n hx hb dBK_enter_51 rfl (lv_at hl 3 rfl) ?_
      refine lv_iload_n hx hb dBK_enter_52 rfl (lv_at hl 2 rfl) ?_
      refine q_iast pl X hD hP hS (by omega) (u3) (rfl) (by omega) (by decide) dBK_enter_53 (fun H locs hD hP hS => ?_)
      have hP : va_P D vwCl (wW 8 ad (va_up E 3 (.inl (tc 0, 8, .inl (upd fw pl (nI e1)))))) H := hP
      have hD : va_D (Aw 8 ad) (wW 8 ad (va_up E 3 (.inl (tc 0, 8, .inl (upd fw pl (nI e1)))))) := hD
      generalize g12 : va_up E 3 (.inl (tc 0, 8, .inl (upd fw pl (nI e1)))) = E11 at hD hP
      have f13 : E11 0 = .inr (3, [.ref (ad 1), .ref (ad 2), .ref (ad 3), .ref (ad 4)]) := by rw [← g12, va_up_ne _ _ (by omega)]; exact u0
      have f14 : E11 1 = .inl (tc 0, 8, .inl fr) := by rw [← g12, va_up_ne _ _ (by omega)]; exact u1
      have f15 : E11 2 = .inl (tc 0, 8, .inl fp) := by rw [← g12, va_up_ne _ _ (by omega)]; exact u2
      have f16 : E11 3 = .inl (tc 0, 8, .inl (upd fw pl (nI e1))) := by rw [← g12]; exact va_up_self _ _ _
      have f17 : E11 4 = .inl (tc 0, 40, .inl fd) := by rw [← g12, va_up_ne _ _ (by omega)]; exact u4
      have f18 : E11 5 = .inr (4, [.ref (ad 6), .ref (ad 7), .int (nI cn)]) := by rw [← g12, va_up_ne _ _ (by omega)]; exact u5
      have f19 : E11 6 = .inl (tc 0, 200, .inl fc) := by rw [← g12, va_up_ne _ _ (by omega)]; exact u6
      have f20 : E11 7 = .inl (tc 0, 1000, .inl fk) := by rw [← g12, va_up_ne _ _ (by omega)]; exact u7
      refine lv_goto (tgt := 72) hx hb dBK_enter_54 rfl ?_
      exact q_vret X hlk hr hP hS dBK_enter_72 ⟨rfl, _, _, _, _, ⟨f13, f14, f15, f16, f17⟩, okU hfw (Or.inr ⟨e1, he, rfl⟩), hfd, f18.trans u5.symm, f19.trans u6.symm, f20.trans u7.symm⟩
  · refine lv_aload_n hx hb dBK_enter_10 rfl (lv_at hl 0 rfl) ?_
    refine lv_aload_n hx hb dBK_enter_11 rfl (lv_at hl 1 rfl) ?_
    refine lv_iload_n hx hb dBK_enter_12 rfl (lv_at hl 2 rfl) ?_
    refine lv_iload_n hx hb dBK_enter_13 rfl (lv_at hl 3 rfl) ?_
    refine lv_iload hx hb dBK_enter_14 (lv_at hl 4 rfl) ?_
    refine x_iX (f := fun k => 0 + k) (x_runV (C := R_BK) (As := [.ref (ad 5), .int (nI e1), .int (nI pl), .int wr]) (rest := []) X (g_BK_rivalOf l D tc (fun k => ad (0 + k)) (fun k => E (0 + k)) fr fp fw fd cn fc fk e1 pl wr u0 u1 u2 u3 u4 u5 u6 u7 hc he hpl hfw hfd hfc) rfl rfl (by decide) (by decide) w_479 w_7 w_476 w_478 sel_BK_rivalOf ry_BK_rivalOf (x_recv X hP (by omega) (u0) rfl) (ct_pre X hP hD (fr_lt 8 8 0 (by omega)) (fr_inj 8 0)) ct_blind hl.1 (Nat.le_of_ble_eq_true rfl) dBK_enter_16 ⟨Nat.zero_le _, Nat.zero_le _⟩) hD hP hS (fr_lt 8 8 0 (by omega)) (fr_inj 8 0) (fun z H locs hz hD hP hS => ?_)
    refine lv_istore hx hb dBK_enter_19 hl (by decide) rfl (fun ls hl => ?_)
    have hl : lv_has ls 6 [(5, .int z), (0, .ref (ad 0)), (1, .ref (ad 5)), (2, .int (nI e1)), (3, .int (nI pl)), (4, .int wr)] := hl
    refine lv_iload hx hb dBK_enter_21 (lv_at hl 0 rfl) ?_
    refine lv_iconst (v := (-1)) hx hb dBK_enter_23 (by decide) ?_
    refine lv_icmp_eq (tgt := 42) hx hb dBK_enter_24 rfl (fun h24 => ?_) (fun h24 => ?_)
    · refine lv_iload hx hb dBK_enter_42 (lv_at hl 5 rfl) ?_
      refine lv_if_eq (tgt := 57) hx hb dBK_enter_44 rfl (fun h44 => ?_) (fun h44 => ?_)
      · refine lv_aload_n hx hb dBK_enter_57 rfl (lv_at hl 1 rfl) ?_
        refine g_BK_21 X hP (by omega) (u0) rfl dBK_enter_58 ?_
        refine lv_iload_n hx hb dBK_enter_61 rfl (lv_at hl 4 rfl) ?_
        refine lv_iconst (v := 5) hx hb dBK_enter_62 (by decide) ?_
        refine lv_imul hx hb dBK_enter_63 ?_
        obtain ⟨tt, htt, hft⟩ := hfc e1 he
        refine lv_aload_n hx hb dBK_enter_64 rfl (lv_at hl 2 rfl) ?_
        refine lv_iload_n hx hb dBK_enter_65 rfl (lv_at hl 3 rfl) ?_
        refine x_iE (f := fun k => 5 + k) (x_runVN (C := R_TR) (As := [.int (nI e1)]) (rest := [.int ((nI pl) * 5), .ref (ad 4)]) X (by have h := g_TR_threadOf l D tc (fun k => ad (5 + k)) (fun k => E (5 + k)) cn fc fk e1 u5 u6 u7 (by omega); rw [hft] at h; exact h) rfl rfl (by decide) (by decide) w_234 w_6 w_485 w_233 sel_TR_threadOf ry_TR_threadOf (x_recv X hP (by omega) (u5) rfl) (ct_pre X hP hD (fr_lt 3 8 5 (by omega)) (fr_inj 3 5)) ct_blind hl.1 (Nat.le_of_ble_eq_true rfl) dBK_enter_66 ⟨Nat.zero_le _, Nat.zero_le _⟩) hD hP hS (fr_lt 3 8 5 (by omega)) (fr_inj 3 5) (fun H locs hD hP hS => ?_)
        refine lv_iadd hx hb dBK_enter_69 ?_
        rw [show (((nI pl) * 5) + (nI tt)) = nI (pl * 5 + tt) from mul5 pl tt]
        refine lv_iload_n hx hb dBK_enter_70 rfl (lv_at hl 3 rfl) ?_
        refine q_iast (pl * 5 + tt) X hD hP hS (by omega) (u4) (rfl) (by omega) (by decide) dBK_enter_71 (fun H locs hD hP hS => ?_)
        have hP : va_P D vwCl (wW 8 ad (va_up E 4 (.inl (tc 0, 40, .inl (upd fd (pl * 5 + tt) (nI e1)))))) H := hP
        have hD : va_D (Aw 8 ad) (wW 8 ad (va_up E 4 (.inl (tc 0, 40, .inl (upd fd (pl * 5 + tt) (nI e1)))))) := hD
        generalize g22 : va_up E 4 (.inl (tc 0, 40, .inl (upd fd (pl * 5 + tt) (nI e1)))) = E21 at hD hP
        have f23 : E21 0 = .inr (3, [.ref (ad 1), .ref (ad 2), .ref (ad 3), .ref (ad 4)]) := by rw [← g22, va_up_ne _ _ (by omega)]; exact u0
        have f24 : E21 1 = .inl (tc 0, 8, .inl fr) := by rw [← g22, va_up_ne _ _ (by omega)]; exact u1
        have f25 : E21 2 = .inl (tc 0, 8, .inl fp) := by rw [← g22, va_up_ne _ _ (by omega)]; exact u2
        have f26 : E21 3 = .inl (tc 0, 8, .inl fw) := by rw [← g22, va_up_ne _ _ (by omega)]; exact u3
        have f27 : E21 4 = .inl (tc 0, 40, .inl (upd fd (pl * 5 + tt) (nI e1))) := by rw [← g22]; exact va_up_self _ _ _
        have f28 : E21 5 = .inr (4, [.ref (ad 6), .ref (ad 7), .int (nI cn)]) := by rw [← g22, va_up_ne _ _ (by omega)]; exact u5
        have f29 : E21 6 = .inl (tc 0, 200, .inl fc) := by rw [← g22, va_up_ne _ _ (by omega)]; exact u6
        have f30 : E21 7 = .inl (tc 0, 1000, .inl fk) := by rw [← g22, va_up_ne _ _ (by omega)]; exact u7
        exact q_vret X hlk hr hP hS dBK_enter_72 ⟨rfl, _, _, _, _, ⟨f23, f24, f25, f26, f27⟩, hfw, okU hfd (Or.inr ⟨e1, he, rfl⟩), f28.trans u5.symm, f29.trans u6.symm, f30.trans u7.symm⟩
      · refine lv_aload_n hx hb dBK_enter_47 rfl (lv_at hl 1 rfl) ?_
        refine g_BK_18 X hP (by omega) (u0) rfl dBK_enter_48 ?_
        refine lv_iload_n hx hb dBK_enter_51 rfl (lv_at hl 4 rfl) ?_
        refine lv_iload_n hx hb dBK_enter_52 rfl (lv_at hl 3 rfl) ?_
        refine q_iast pl X hD hP hS (by omega) (u3) (rfl) (by omega) (by decide) dBK_enter_53 (fun H locs hD hP hS => ?_)
        have hP : va_P D vwCl (wW 8 ad (va_up E 3 (.inl (tc 0, 8, .inl (upd fw pl (nI e1)))))) H := hP
        have hD : va_D (Aw 8 ad) (wW 8 ad (va_up E 3 (.inl (tc 0, 8, .inl (upd fw pl (nI e1)))))) := hD
        generalize g32 : va_up E 3 (.inl (tc 0, 8, .inl (upd fw pl (nI e1)))) = E31 at hD hP
        have f33 : E31 0 = .inr (3, [.ref (ad 1), .ref (ad 2), .ref (ad 3), .ref (ad 4)]) := by rw [← g32, va_up_ne _ _ (by omega)]; exact u0
        have f34 : E31 1 = .inl (tc 0, 8, .inl fr) := by rw [← g32, va_up_ne _ _ (by omega)]; exact u1
        have f35 : E31 2 = .inl (tc 0, 8, .inl fp) := by rw [← g32, va_up_ne _ _ (by omega)]; exact u2
        have f36 : E31 3 = .inl (tc 0, 8, .inl (upd fw pl (nI e1))) := by rw [← g32]; exact va_up_self _ _ _
        have f37 : E31 4 = .inl (tc 0, 40, .inl fd) := by rw [← g32, va_up_ne _ _ (by omega)]; exact u4
        have f38 : E31 5 = .inr (4, [.ref (ad 6), .ref (ad 7), .int (nI cn)]) := by rw [← g32, va_up_ne _ _ (by omega)]; exact u5
        have f39 : E31 6 = .inl (tc 0, 200, .inl fc) := by rw [← g32, va_up_ne _ _ (by omega)]; exact u6
        have f40 : E31 7 = .inl (tc 0, 1000, .inl fk) := by rw [← g32, va_up_ne _ _ (by omega)]; exact u7
        refine lv_goto (tgt := 72) hx hb dBK_enter_54 rfl ?_
        exact q_vret X hlk hr hP hS dBK_enter_72 ⟨rfl, _, _, _, _, ⟨f33, f34, f35, f36, f37⟩, okU hfw (Or.inr ⟨e1, he, rfl⟩), hfd, f38.trans u5.symm, f39.trans u6.symm, f40.trans u7.symm⟩
    · refine lv_aload_n hx hb dBK_enter_27 rfl (lv_at hl 1 rfl) ?_
      refine g_BK_9 X hP (by omega) (u0) rfl dBK_enter_28 ?_
      refine lv_iload_n hx hb dBK_enter_31 rfl (lv_at hl 4 rfl) ?_
      refine lv_iload_n hx hb dBK_enter_32 rfl (lv_at hl 3 rfl) ?_
      refine q_iast pl X hD hP hS (by omega) (u1) (rfl) (by omega) (by decide) dBK_enter_33 (fun H locs hD hP hS => ?_)
      have hP : va_P D vwCl (wW 8 ad (va_up E 1 (.inl (tc 0, 8, .inl (upd fr pl (nI e1)))))) H := hP
      have hD : va_D (Aw 8 ad) (wW 8 ad (va_up E 1 (.inl (tc 0, 8, .inl (upd fr pl (nI e1)))))) := hD
      generalize g42 : va_up E 1 (.inl (tc 0, 8, .inl (upd fr pl (nI e1)))) = E41 at hD hP
      have f43 : E41 0 = .inr (3, [.ref (ad 1), .ref (ad 2), .ref (ad 3), .ref (ad 4)]) := by rw [← g42, va_up_ne _ _ (by omega)]; exact u0
      have f44 : E41 1 = .inl (tc 0, 8, .inl (upd fr pl (nI e1))) := by rw [← g42]; exact va_up_self _ _ _
      have f45 : E41 2 = .inl (tc 0, 8, .inl fp) := by rw [← g42, va_up_ne _ _ (by omega)]; exact u2
      have f46 : E41 3 = .inl (tc 0, 8, .inl fw) := by rw [← g42, va_up_ne _ _ (by omega)]; exact u3
      have f47 : E41 4 = .inl (tc 0, 40, .inl fd) := by rw [← g42, va_up_ne _ _ (by omega)]; exact u4
      have f48 : E41 5 = .inr (4, [.ref (ad 6), .ref (ad 7), .int (nI cn)]) := by rw [← g42, va_up_ne _ _ (by omega)]; exact u5
      have f49 : E41 6 = .inl (tc 0, 200, .inl fc) := by rw [← g42, va_up_ne _ _ (by omega)]; exact u6
      have f50 : E41 7 = .inl (tc 0, 1000, .inl fk) := by rw [← g42, va_up_ne _ _ (by omega)]; exact u7
      refine lv_aload_n hx hb dBK_enter_34 rfl (lv_at hl 1 rfl) ?_
      refine g_BK_15 X hP (by omega) (f43) rfl dBK_enter_35 ?_
      refine lv_iload_n hx hb dBK_enter_38 rfl (lv_at hl 4 rfl) ?_
      refine lv_iload hx hb dBK_enter_39 (lv_at hl 0 rfl) ?_
      refine q_iast pl X hD hP hS (by omega) (f45) (rfl) (by omega) (by decide) dBK_enter_41 (fun H locs hD hP hS => ?_)
      have hP : va_P D vwCl (wW 8 ad (va_up E41 2 (.inl (tc 0, 8, .inl (upd fp pl z))))) H := hP
      have hD : va_D (Aw 8 ad) (wW 8 ad (va_up E41 2 (.inl (tc 0, 8, .inl (upd fp pl z))))) := hD
      generalize g52 : va_up E41 2 (.inl (tc 0, 8, .inl (upd fp pl z))) = E51 at hD hP
      have f53 : E51 0 = .inr (3, [.ref (ad 1), .ref (ad 2), .ref (ad 3), .ref (ad 4)]) := by rw [← g52, va_up_ne _ _ (by omega)]; exact f43
      have f54 : E51 1 = .inl (tc 0, 8, .inl (upd fr pl (nI e1))) := by rw [← g52, va_up_ne _ _ (by omega)]; exact f44
      have f55 : E51 2 = .inl (tc 0, 8, .inl (upd fp pl z)) := by rw [← g52]; exact va_up_self _ _ _
      have f56 : E51 3 = .inl (tc 0, 8, .inl fw) := by rw [← g52, va_up_ne _ _ (by omega)]; exact f46
      have f57 : E51 4 = .inl (tc 0, 40, .inl fd) := by rw [← g52, va_up_ne _ _ (by omega)]; exact f47
      have f58 : E51 5 = .inr (4, [.ref (ad 6), .ref (ad 7), .int (nI cn)]) := by rw [← g52, va_up_ne _ _ (by omega)]; exact f48
      have f59 : E51 6 = .inl (tc 0, 200, .inl fc) := by rw [← g52, va_up_ne _ _ (by omega)]; exact f49
      have f60 : E51 7 = .inl (tc 0, 1000, .inl fk) := by rw [← g52, va_up_ne _ _ (by omega)]; exact f50
      refine lv_iload hx hb dBK_enter_42 (lv_at hl 5 rfl) ?_
      refine lv_if_eq (tgt := 57) hx hb dBK_enter_44 rfl (fun h44 => ?_) (fun h44 => ?_)
      · refine lv_aload_n hx hb dBK_enter_57 rfl (lv_at hl 1 rfl) ?_
        refine g_BK_21 X hP (by omega) (f53) rfl dBK_enter_58 ?_
        refine lv_iload_n hx hb dBK_enter_61 rfl (lv_at hl 4 rfl) ?_
        refine lv_iconst (v := 5) hx hb dBK_enter_62 (by decide) ?_
        refine lv_imul hx hb dBK_enter_63 ?_
        obtain ⟨tt, htt, hft⟩ := hfc e1 he
        refine lv_aload_n hx hb dBK_enter_64 rfl (lv_at hl 2 rfl) ?_
        refine lv_iload_n hx hb dBK_enter_65 rfl (lv_at hl 3 rfl) ?_
        refine x_iE (f := fun k => 5 + k) (x_runVN (C := R_TR) (As := [.int (nI e1)]) (rest := [.int ((nI pl) * 5), .ref (ad 4)]) X (by have h := g_TR_threadOf l D tc (fun k => ad (5 + k)) (fun k => E51 (5 + k)) cn fc fk e1 f58 f59 f60 (by omega); rw [hft] at h; exact h) rfl rfl (by decide) (by decide) w_234 w_6 w_485 w_233 sel_TR_threadOf ry_TR_threadOf (x_recv X hP (by omega) (f58) rfl) (ct_pre X hP hD (fr_lt 3 8 5 (by omega)) (fr_inj 3 5)) ct_blind hl.1 (Nat.le_of_ble_eq_true rfl) dBK_enter_66 ⟨Nat.zero_le _, Nat.zero_le _⟩) hD hP hS (fr_lt 3 8 5 (by omega)) (fr_inj 3 5) (fun H locs hD hP hS => ?_)
        refine lv_iadd hx hb dBK_enter_69 ?_
        rw [show (((nI pl) * 5) + (nI tt)) = nI (pl * 5 + tt) from mul5 pl tt]
        refine lv_iload_n hx hb dBK_enter_70 rfl (lv_at hl 3 rfl) ?_
        refine q_iast (pl * 5 + tt) X hD hP hS (by omega) (f57) (rfl) (by omega) (by decide) dBK_enter_71 (fun H locs hD hP hS => ?_)
        have hP : va_P D vwCl (wW 8 ad (va_up E51 4 (.inl (tc 0, 40, .inl (upd fd (pl * 5 + tt) (nI e1)))))) H := hP
        have hD : va_D (Aw 8 ad) (wW 8 ad (va_up E51 4 (.inl (tc 0, 40, .inl (upd fd (pl * 5 + tt) (nI e1)))))) := hD
        generalize g62 : va_up E51 4 (.inl (tc 0, 40, .inl (upd fd (pl * 5 + tt) (nI e1)))) = E61 at hD hP
        have f63 : E61 0 = .inr (3, [.ref (ad 1), .ref (ad 2), .ref (ad 3), .ref (ad 4)]) := by rw [← g62, va_up_ne _ _ (by omega)]; exact f53
        have f64 : E61 1 = .inl (tc 0, 8, .inl (upd fr pl (nI e1))) := by rw [← g62, va_up_ne _ _ (by omega)]; exact f54
        have f65 : E61 2 = .inl (tc 0, 8, .inl (upd fp pl z)) := by rw [← g62, va_up_ne _ _ (by omega)]; exact f55
        have f66 : E61 3 = .inl (tc 0, 8, .inl fw) := by rw [← g62, va_up_ne _ _ (by omega)]; exact f56
        have f67 : E61 4 = .inl (tc 0, 40, .inl (upd fd (pl * 5 + tt) (nI e1))) := by rw [← g62]; exact va_up_self _ _ _
        have f68 : E61 5 = .inr (4, [.ref (ad 6), .ref (ad 7), .int (nI cn)]) := by rw [← g62, va_up_ne _ _ (by omega)]; exact f58
        have f69 : E61 6 = .inl (tc 0, 200, .inl fc) := by rw [← g62, va_up_ne _ _ (by omega)]; exact f59
        have f70 : E61 7 = .inl (tc 0, 1000, .inl fk) := by rw [← g62, va_up_ne _ _ (by omega)]; exact f60
        exact q_vret X hlk hr hP hS dBK_enter_72 ⟨rfl, _, _, _, _, ⟨f63, f64, f65, f66, f67⟩, hfw, okU hfd (Or.inr ⟨e1, he, rfl⟩), f68.trans u5.symm, f69.trans u6.symm, f70.trans u7.symm⟩
      · refine lv_aload_n hx hb dBK_enter_47 rfl (lv_at hl 1 rfl) ?_
        refine g_BK_18 X hP (by omega) (f53) rfl dBK_enter_48 ?_
        refine lv_iload_n hx hb dBK_enter_51 rfl (lv_at hl 4 rfl) ?_
        refine lv_iload_n hx hb dBK_enter_52 rfl (lv_at hl 3 rfl) ?_
        refine q_iast pl X hD hP hS (by omega) (f56) (rfl) (by omega) (by decide) dBK_enter_53 (fun H locs hD hP hS => ?_)
        have hP : va_P D vwCl (wW 8 ad (va_up E51 3 (.inl (tc 0, 8, .inl (upd fw pl (nI e1)))))) H := hP
        have hD : va_D (Aw 8 ad) (wW 8 ad (va_up E51 3 (.inl (tc 0, 8, .inl (upd fw pl (nI e1)))))) := hD
        generalize g72 : va_up E51 3 (.inl (tc 0, 8, .inl (upd fw pl (nI e1)))) = E71 at hD hP
        have f73 : E71 0 = .inr (3, [.ref (ad 1), .ref (ad 2), .ref (ad 3), .ref (ad 4)]) := by rw [← g72, va_up_ne _ _ (by omega)]; exact f53
        have f74 : E71 1 = .inl (tc 0, 8, .inl (upd fr pl (nI e1))) := by rw [← g72, va_up_ne _ _ (by omega)]; exact f54
        have f75 : E71 2 = .inl (tc 0, 8, .inl (upd fp pl z)) := by rw [← g72, va_up_ne _ _ (by omega)]; exact f55
        have f76 : E71 3 = .inl (tc 0, 8, .inl (upd fw pl (nI e1))) := by rw [← g72]; exact va_up_self _ _ _
        have f77 : E71 4 = .inl (tc 0, 40, .inl fd) := by rw [← g72, va_up_ne _ _ (by omega)]; exact f57
        have f78 : E71 5 = .inr (4, [.ref (ad 6), .ref (ad 7), .int (nI cn)]) := by rw [← g72, va_up_ne _ _ (by omega)]; exact f58
        have f79 : E71 6 = .inl (tc 0, 200, .inl fc) := by rw [← g72, va_up_ne _ _ (by omega)]; exact f59
        have f80 : E71 7 = .inl (tc 0, 1000, .inl fk) := by rw [← g72, va_up_ne _ _ (by omega)]; exact f60
        refine lv_goto (tgt := 72) hx hb dBK_enter_54 rfl ?_
        exact q_vret X hlk hr hP hS dBK_enter_72 ⟨rfl, _, _, _, _, ⟨f73, f74, f75, f76, f77⟩, okU hfw (Or.inr ⟨e1, he, rfl⟩), hfd, f78.trans u5.symm, f79.trans u6.symm, f80.trans u7.symm⟩
