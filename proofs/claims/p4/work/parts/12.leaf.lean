theorem dPG_isFull_0 : decode cPG_isFull 0 = .ok (.aload_n 0, 1) := by decide +kernel
theorem dPG_isFull_1 : decode cPG_isFull 1 = .ok (.getfield 21, 3) := by decide +kernel
theorem dPG_isFull_4 : decode cPG_isFull 4 = .ok (.bipush 12, 2) := by decide +kernel
theorem dPG_isFull_6 : decode cPG_isFull 6 = .ok (.if_icmp .lt 7, 3) := by decide +kernel
theorem dPG_isFull_9 : decode cPG_isFull 9 = .ok (.iconst 1, 1) := by decide +kernel
theorem dPG_isFull_10 : decode cPG_isFull 10 = .ok (.goto 4, 3) := by decide +kernel
theorem dPG_isFull_13 : decode cPG_isFull 13 = .ok (.iconst 0, 1) := by decide +kernel
theorem dPG_isFull_14 : decode cPG_isFull 14 = .ok (.ireturn, 1) := by decide +kernel
theorem dPG_append_0 : decode cPG_append 0 = .ok (.aload_n 0, 1) := by decide +kernel
theorem dPG_append_1 : decode cPG_append 1 = .ok (.getfield 21, 3) := by decide +kernel
theorem dPG_append_4 : decode cPG_append 4 = .ok (.istore 4, 2) := by decide +kernel
theorem dPG_append_6 : decode cPG_append 6 = .ok (.aload_n 0, 1) := by decide +kernel
theorem dPG_append_7 : decode cPG_append 7 = .ok (.getfield 9, 3) := by decide +kernel
theorem dPG_append_10 : decode cPG_append 10 = .ok (.iload 4, 2) := by decide +kernel
theorem dPG_append_12 : decode cPG_append 12 = .ok (.iload_n 1, 1) := by decide +kernel
theorem dPG_append_13 : decode cPG_append 13 = .ok (.iastore, 1) := by decide +kernel
theorem dPG_append_14 : decode cPG_append 14 = .ok (.aload_n 0, 1) := by decide +kernel
theorem dPG_append_15 : decode cPG_append 15 = .ok (.getfield 15, 3) := by decide +kernel
theorem dPG_append_18 : decode cPG_append 18 = .ok (.iload 4, 2) := by decide +kernel
theorem dPG_append_20 : decode cPG_append 20 = .ok (.iload_n 2, 1) := by decide +kernel
theorem dPG_append_21 : decode cPG_append 21 = .ok (.iastore, 1) := by decide +kernel
theorem dPG_append_22 : decode cPG_append 22 = .ok (.aload_n 0, 1) := by decide +kernel
theorem dPG_append_23 : decode cPG_append 23 = .ok (.getfield 18, 3) := by decide +kernel
theorem dPG_append_26 : decode cPG_append 26 = .ok (.iload 4, 2) := by decide +kernel
theorem dPG_append_28 : decode cPG_append 28 = .ok (.iload_n 3, 1) := by decide +kernel
theorem dPG_append_29 : decode cPG_append 29 = .ok (.iastore, 1) := by decide +kernel
theorem dPG_append_30 : decode cPG_append 30 = .ok (.aload_n 0, 1) := by decide +kernel
theorem dPG_append_31 : decode cPG_append 31 = .ok (.iload 4, 2) := by decide +kernel
theorem dPG_append_33 : decode cPG_append 33 = .ok (.iconst 1, 1) := by decide +kernel
theorem dPG_append_34 : decode cPG_append 34 = .ok (.iadd, 1) := by decide +kernel
theorem dPG_append_35 : decode cPG_append 35 = .ok (.putfield 21, 3) := by decide +kernel
theorem dPG_append_38 : decode cPG_append 38 = .ok (.iload 4, 2) := by decide +kernel
theorem dPG_append_40 : decode cPG_append 40 = .ok (.ireturn, 1) := by decide +kernel
theorem dPG_forget_0 : decode cPG_forget 0 = .ok (.aload_n 0, 1) := by decide +kernel
theorem dPG_forget_1 : decode cPG_forget 1 = .ok (.iconst 0, 1) := by decide +kernel
theorem dPG_forget_2 : decode cPG_forget 2 = .ok (.putfield 21, 3) := by decide +kernel
theorem dPG_forget_5 : decode cPG_forget 5 = .ok (.return_, 1) := by decide +kernel
theorem dTR_forget_0 : decode cTR_forget 0 = .ok (.aload_n 0, 1) := by decide +kernel
theorem dTR_forget_1 : decode cTR_forget 1 = .ok (.iconst 0, 1) := by decide +kernel
theorem dTR_forget_2 : decode cTR_forget 2 = .ok (.putfield 18, 3) := by decide +kernel
theorem dTR_forget_5 : decode cTR_forget 5 = .ok (.return_, 1) := by decide +kernel
theorem dTR_has_0 : decode cTR_has 0 = .ok (.iload_n 1, 1) := by decide +kernel
theorem dTR_has_1 : decode cTR_has 1 = .ok (.ifCond .lt 15, 3) := by decide +kernel
theorem dTR_has_4 : decode cTR_has 4 = .ok (.iload_n 1, 1) := by decide +kernel
theorem dTR_has_5 : decode cTR_has 5 = .ok (.aload_n 0, 1) := by decide +kernel
theorem dTR_has_6 : decode cTR_has 6 = .ok (.getfield 18, 3) := by decide +kernel
theorem dTR_has_9 : decode cTR_has 9 = .ok (.if_icmp .ge 7, 3) := by decide +kernel
theorem dTR_has_12 : decode cTR_has 12 = .ok (.iconst 1, 1) := by decide +kernel
theorem dTR_has_13 : decode cTR_has 13 = .ok (.goto 4, 3) := by decide +kernel
theorem dTR_has_16 : decode cTR_has 16 = .ok (.iconst 0, 1) := by decide +kernel
theorem dTR_has_17 : decode cTR_has 17 = .ok (.ireturn, 1) := by decide +kernel
theorem dAR_fill_0 : decode cAR_fill 0 = .ok (.iconst 0, 1) := by decide +kernel
theorem dAR_fill_1 : decode cAR_fill 1 = .ok (.istore_n 2, 1) := by decide +kernel
theorem dAR_fill_2 : decode cAR_fill 2 = .ok (.aload_n 0, 1) := by decide +kernel
theorem dAR_fill_3 : decode cAR_fill 3 = .ok (.arraylength, 1) := by decide +kernel
theorem dAR_fill_4 : decode cAR_fill 4 = .ok (.istore_n 3, 1) := by decide +kernel
theorem dAR_fill_5 : decode cAR_fill 5 = .ok (.iload_n 2, 1) := by decide +kernel
theorem dAR_fill_6 : decode cAR_fill 6 = .ok (.iload_n 3, 1) := by decide +kernel
theorem dAR_fill_7 : decode cAR_fill 7 = .ok (.if_icmp .ge 13, 3) := by decide +kernel
theorem dAR_fill_10 : decode cAR_fill 10 = .ok (.aload_n 0, 1) := by decide +kernel
theorem dAR_fill_11 : decode cAR_fill 11 = .ok (.iload_n 2, 1) := by decide +kernel
theorem dAR_fill_12 : decode cAR_fill 12 = .ok (.iload_n 1, 1) := by decide +kernel
theorem dAR_fill_13 : decode cAR_fill 13 = .ok (.iastore, 1) := by decide +kernel
theorem dAR_fill_14 : decode cAR_fill 14 = .ok (.iinc 2 1, 3) := by decide +kernel
theorem dAR_fill_17 : decode cAR_fill 17 = .ok (.goto (-12), 3) := by decide +kernel
theorem dAR_fill_20 : decode cAR_fill 20 = .ok (.return_, 1) := by decide +kernel
set_option maxHeartbeats 4000000 in
set_option maxRecDepth 100000 in
theorem c_PG_isFull (l : Launch) (D : va_G) (tc : Nat → ClassId) (ad : Nat → Nat) (E : Nat → va_E) (sz : Nat) (r1 r2 r3 : Value) (h0 : E 0 = .inr (2, [r1, r2, r3, .int (nI sz)])) (hs : sz ≤ 12) : Ct l D tc yPG_isFull 0 4 ad E [.ref (ad 0)] (fun o E2 => o = .returned (some (.int (bi (decide (12 ≤ sz))))) ∧ E2 = E) := by
  refine Ct.ofW (cc := cPG_isFull) (maxL := 1) (ret := (some .boolean)) (own := R_PG) (by decide) rfl w_161 (Nat.le_of_ble_eq_true rfl) ?_
  intro p e s m args below meth c ls X hlk hr hD hP hS hl
  have hx := X.1
  have hb := X.2.1
  have hl : lv_has ls 1 [(0, .ref (ad 0))] := hl
  refine lv_aload_n hx hb dPG_isFull_0 rfl (lv_at hl 0 rfl) ?_
  refine g_PG_21 X hP (by omega) (h0) rfl dPG_isFull_1 ?_
  refine lv_bipush (v := 12) hx hb dPG_isFull_4 (by decide) ?_
  refine lv_icmp_lt (tgt := 13) hx hb dPG_isFull_6 rfl (fun h6 => ?_) (fun h6 => ?_)
  · refine lv_iconst (v := 0) hx hb dPG_isFull_13 (by decide) ?_
    exact q_zret X hlk hr (by decide) hP hS dPG_isFull_14 (⟨by rw [show decide (12 ≤ sz) = false from (by first | exact decide_eq_true (Nat.not_lt.mp fun q => h6 (nI_lt q (by decide))) | exact decide_eq_false (fun q => nI_nlt q (by omega) h6))]; rfl, rfl⟩)
  · refine lv_iconst (v := 1) hx hb dPG_isFull_9 (by decide) ?_
    refine lv_goto (tgt := 14) hx hb dPG_isFull_10 rfl ?_
    exact q_zret X hlk hr (by decide) hP hS dPG_isFull_14 (⟨by rw [show decide (12 ≤ sz) = true from (by first | exact decide_eq_true (Nat.not_lt.mp fun q => h6 (nI_lt q (by decide))) | exact decide_eq_false (fun q => nI_nlt q (by omega) h6))]; rfl, rfl⟩)
set_option maxHeartbeats 4000000 in
set_option maxRecDepth 100000 in
theorem c_PG_append (l : Launch) (D : va_G) (tc : Nat → ClassId) (ad : Nat → Nat) (E : Nat → va_E) (sz : Nat) (fo fa fb : Nat → Int32) (op a b : Int32) (h0 : E 0 = .inr (2, [.ref (ad 1), .ref (ad 2), .ref (ad 3), .int (nI sz)])) (h1 : E 1 = .inl (tc 0, 12, .inl fo)) (h2 : E 2 = .inl (tc 0, 12, .inl fa)) (h3 : E 3 = .inl (tc 0, 12, .inl fb)) (hs : sz < 12) : Ct l D tc yPG_append 0 4 ad E [.ref (ad 0), .int op, .int a, .int b] (fun o E2 => o = .returned (some (.int (nI sz))) ∧ E2 0 = .inr (2, [.ref (ad 1), .ref (ad 2), .ref (ad 3), .int (nI (sz + 1))]) ∧ E2 1 = .inl (tc 0, 12, .inl (upd fo sz op)) ∧ E2 2 = .inl (tc 0, 12, .inl (upd fa sz a)) ∧ E2 3 = .inl (tc 0, 12, .inl (upd fb sz b))) := by
  refine Ct.ofW (cc := cPG_append) (maxL := 5) (ret := (some .int)) (own := R_PG) (by decide) rfl w_171 (Nat.le_of_ble_eq_true rfl) ?_
  intro p e s m args below meth c ls X hlk hr hD hP hS hl
  have hx := X.1
  have hb := X.2.1
  have hl : lv_has ls 5 [(0, .ref (ad 0)), (1, .int op), (2, .int a), (3, .int b)] := hl
  refine lv_aload_n hx hb dPG_append_0 rfl (lv_at hl 0 rfl) ?_
  refine g_PG_21 X hP (by omega) (h0) rfl dPG_append_1 ?_
  refine lv_istore hx hb dPG_append_4 hl (by decide) rfl (fun ls hl => ?_)
  have hl : lv_has ls 5 [(4, .int (nI sz)), (0, .ref (ad 0)), (1, .int op), (2, .int a), (3, .int b)] := hl
  refine lv_aload_n hx hb dPG_append_6 rfl (lv_at hl 1 rfl) ?_
  refine g_PG_9 X hP (by omega) (h0) rfl dPG_append_7 ?_
  refine lv_iload hx hb dPG_append_10 (lv_at hl 0 rfl) ?_
  refine lv_iload_n hx hb dPG_append_12 rfl (lv_at hl 2 rfl) ?_
  refine q_iast sz X hD hP hS (by omega) (h1) (rfl) (by omega) (by decide) dPG_append_13 (fun H locs hD hP hS => ?_)
  have hP : va_P D vwCl (wW 4 ad (va_up E 1 (.inl (tc 0, 12, .inl (upd fo sz op))))) H := hP
  have hD : va_D (Aw 4 ad) (wW 4 ad (va_up E 1 (.inl (tc 0, 12, .inl (upd fo sz op))))) := hD
  generalize g2 : va_up E 1 (.inl (tc 0, 12, .inl (upd fo sz op))) = E1 at hD hP
  have f3 : E1 0 = .inr (2, [.ref (ad 1), .ref (ad 2), .ref (ad 3), .int (nI sz)]) := by rw [← g2, va_up_ne _ _ (by omega)]; exact h0
  have f4 : E1 1 = .inl (tc 0, 12, .inl (upd fo sz op)) := by rw [← g2]; exact va_up_self _ _ _
  have f5 : E1 2 = .inl (tc 0, 12, .inl fa) := by rw [← g2, va_up_ne _ _ (by omega)]; exact h2
  have f6 : E1 3 = .inl (tc 0, 12, .inl fb) := by rw [← g2, va_up_ne _ _ (by omega)]; exact h3
  refine lv_aload_n hx hb dPG_append_14 rfl (lv_at hl 1 rfl) ?_
  refine g_PG_15 X hP (by omega) (f3) rfl dPG_append_15 ?_
  refine lv_iload hx hb dPG_append_18 (lv_at hl 0 rfl) ?_
  refine lv_iload_n hx hb dPG_append_20 rfl (lv_at hl 3 rfl) ?_
  refine q_iast sz X hD hP hS (by omega) (f5) (rfl) (by omega) (by decide) dPG_append_21 (fun H locs hD hP hS => ?_)
  have hP : va_P D vwCl (wW 4 ad (va_up E1 2 (.inl (tc 0, 12, .inl (upd fa sz a))))) H := hP
  have hD : va_D (Aw 4 ad) (wW 4 ad (va_up E1 2 (.inl (tc 0, 12, .inl (upd fa sz a))))) := hD
  generalize g8 : va_up E1 2 (.inl (tc 0, 12, .inl (upd fa sz a))) = E7 at hD hP
  have f9 : E7 0 = .inr (2, [.ref (ad 1), .ref (ad 2), .ref (ad 3), .int (nI sz)]) := by rw [← g8, va_up_ne _ _ (by omega)]; exact f3
  have f10 : E7 1 = .inl (tc 0, 12, .inl (upd fo sz op)) := by rw [← g8, va_up_ne _ _ (by omega)]; exact f4
  have f11 : E7 2 = .inl (tc 0, 12, .inl (upd fa sz a)) := by rw [← g8]; exact va_up_self _ _ _
  have f12 : E7 3 = .inl (tc 0, 12, .inl fb) := by rw [← g8, va_up_ne _ _ (by omega)]; exact f6
  refine lv_aload_n hx hb dPG_append_22 rfl (lv_at hl 1 rfl) ?_
  refine g_PG_18 X hP (by omega) (f9) rfl dPG_append_23 ?_
  refine lv_iload hx hb dPG_append_26 (lv_at hl 0 rfl) ?_
  refine lv_iload_n hx hb dPG_append_28 rfl (lv_at hl 4 rfl) ?_
  refine q_iast sz X hD hP hS (by omega) (f12) (rfl) (by omega) (by decide) dPG_append_29 (fun H locs hD hP hS => ?_)
  have hP : va_P D vwCl (wW 4 ad (va_up E7 3 (.inl (tc 0, 12, .inl (upd fb sz b))))) H := hP
  have hD : va_D (Aw 4 ad) (wW 4 ad (va_up E7 3 (.inl (tc 0, 12, .inl (upd fb sz b))))) := hD
  generalize g14 : va_up E7 3 (.inl (tc 0, 12, .inl (upd fb sz b))) = E13 at hD hP
  have f15 : E13 0 = .inr (2, [.ref (ad 1), .ref (ad 2), .ref (ad 3), .int (nI sz)]) := by rw [← g14, va_up_ne _ _ (by omega)]; exact f9
  have f16 : E13 1 = .inl (tc 0, 12, .inl (upd fo sz op)) := by rw [← g14, va_up_ne _ _ (by omega)]; exact f10
  have f17 : E13 2 = .inl (tc 0, 12, .inl (upd fa sz a)) := by rw [← g14, va_up_ne _ _ (by omega)]; exact f11
  have f18 : E13 3 = .inl (tc 0, 12, .inl (upd fb sz b)) := by rw [← g14]; exact va_up_self _ _ _
  refine lv_aload_n hx hb dPG_append_30 rfl (lv_at hl 1 rfl) ?_
  refine lv_iload hx hb dPG_append_31 (lv_at hl 0 rfl) ?_
  refine lv_iconst (v := 1) hx hb dPG_append_33 (by decide) ?_
  refine lv_iadd hx hb dPG_append_34 ?_
  rw [show ((nI sz) + 1) = nI (sz + 1) from nI_1 sz]
  refine p_PG_21 X hD hP hS (by omega) (f15) rfl rfl (Nat.le_of_ble_eq_true rfl) dPG_append_35 (fun H locs hD hP hS => ?_)
  have hP : va_P D vwCl (wW 4 ad (va_up E13 0 (.inr (2, [.ref (ad 1), .ref (ad 2), .ref (ad 3), .int (nI (sz + 1))])))) H := hP
  have hD : va_D (Aw 4 ad) (wW 4 ad (va_up E13 0 (.inr (2, [.ref (ad 1), .ref (ad 2), .ref (ad 3), .int (nI (sz + 1))])))) := hD
  generalize g20 : va_up E13 0 (.inr (2, [.ref (ad 1), .ref (ad 2), .ref (ad 3), .int (nI (sz + 1))])) = E19 at hD hP
  have f21 : E19 0 = .inr (2, [.ref (ad 1), .ref (ad 2), .ref (ad 3), .int (nI (sz + 1))]) := by rw [← g20]; exact va_up_self _ _ _
  have f22 : E19 1 = .inl (tc 0, 12, .inl (upd fo sz op)) := by rw [← g20, va_up_ne _ _ (by omega)]; exact f16
  have f23 : E19 2 = .inl (tc 0, 12, .inl (upd fa sz a)) := by rw [← g20, va_up_ne _ _ (by omega)]; exact f17
  have f24 : E19 3 = .inl (tc 0, 12, .inl (upd fb sz b)) := by rw [← g20, va_up_ne _ _ (by omega)]; exact f18
  refine lv_iload hx hb dPG_append_38 (lv_at hl 0 rfl) ?_
  exact q_iret X hlk hr hP hS dPG_append_40 (⟨rfl, f21, f22, f23, f24⟩)
set_option maxHeartbeats 4000000 in
set_option maxRecDepth 100000 in
theorem c_PG_forget (l : Launch) (D : va_G) (tc : Nat → ClassId) (ad : Nat → Nat) (E : Nat → va_E) (sz : Nat) (fo fa fb : Nat → Int32) (h0 : E 0 = .inr (2, [.ref (ad 1), .ref (ad 2), .ref (ad 3), .int (nI sz)])) (h1 : E 1 = .inl (tc 0, 12, .inl fo)) (h2 : E 2 = .inl (tc 0, 12, .inl fa)) (h3 : E 3 = .inl (tc 0, 12, .inl fb)) : Ct l D tc yPG_forget 0 4 ad E [.ref (ad 0)] (fun o E2 => o = .returned none ∧ E2 0 = .inr (2, [.ref (ad 1), .ref (ad 2), .ref (ad 3), .int 0]) ∧ E2 1 = .inl (tc 0, 12, .inl fo) ∧ E2 2 = .inl (tc 0, 12, .inl fa) ∧ E2 3 = .inl (tc 0, 12, .inl fb)) := by
  refine Ct.ofW (cc := cPG_forget) (maxL := 1) (ret := none) (own := R_PG) (by decide) rfl w_179 (Nat.le_of_ble_eq_true rfl) ?_
  intro p e s m args below meth c ls X hlk hr hD hP hS hl
  have hx := X.1
  have hb := X.2.1
  have hl : lv_has ls 1 [(0, .ref (ad 0))] := hl
  refine lv_aload_n hx hb dPG_forget_0 rfl (lv_at hl 0 rfl) ?_
  refine lv_iconst (v := 0) hx hb dPG_forget_1 (by decide) ?_
  refine p_PG_21 X hD hP hS (by omega) (h0) rfl rfl (Nat.le_of_ble_eq_true rfl) dPG_forget_2 (fun H locs hD hP hS => ?_)
  have hP : va_P D vwCl (wW 4 ad (va_up E 0 (.inr (2, [.ref (ad 1), .ref (ad 2), .ref (ad 3), .int 0])))) H := hP
  have hD : va_D (Aw 4 ad) (wW 4 ad (va_up E 0 (.inr (2, [.ref (ad 1), .ref (ad 2), .ref (ad 3), .int 0])))) := hD
  generalize g2 : va_up E 0 (.inr (2, [.ref (ad 1), .ref (ad 2), .ref (ad 3), .int 0])) = E1 at hD hP
  have f3 : E1 0 = .inr (2, [.ref (ad 1), .ref (ad 2), .ref (ad 3), .int 0]) := by rw [← g2]; exact va_up_self _ _ _
  have f4 : E1 1 = .inl (tc 0, 12, .inl fo) := by rw [← g2, va_up_ne _ _ (by omega)]; exact h1
  have f5 : E1 2 = .inl (tc 0, 12, .inl fa) := by rw [← g2, va_up_ne _ _ (by omega)]; exact h2
  have f6 : E1 3 = .inl (tc 0, 12, .inl fb) := by rw [← g2, va_up_ne _ _ (by omega)]; exact h3
  exact q_vret X hlk hr hP hS dPG_forget_5 (⟨rfl, f3, f4, f5, f6⟩)
set_option maxHeartbeats 4000000 in
set_option maxRecDepth 100000 in
theorem c_TR_forget (l : Launch) (D : va_G) (tc : Nat → ClassId) (ad : Nat → Nat) (E : Nat → va_E) (cn : Nat) (fc fk : Nat → Int32) (h0 : E 0 = .inr (4, [.ref (ad 1), .ref (ad 2), .int (nI cn)])) (h1 : E 1 = .inl (tc 0, 200, .inl fc)) (h2 : E 2 = .inl (tc 0, 1000, .inl fk)) : Ct l D tc yTR_forget 0 3 ad E [.ref (ad 0)] (fun o E2 => o = .returned none ∧ E2 0 = .inr (4, [.ref (ad 1), .ref (ad 2), .int 0]) ∧ E2 1 = .inl (tc 0, 200, .inl fc) ∧ E2 2 = .inl (tc 0, 1000, .inl fk)) := by
  refine Ct.ofW (cc := cTR_forget) (maxL := 1) (ret := none) (own := R_TR) (by decide) rfl w_198 (Nat.le_of_ble_eq_true rfl) ?_
  intro p e s m args below meth c ls X hlk hr hD hP hS hl
  have hx := X.1
  have hb := X.2.1
  have hl : lv_has ls 1 [(0, .ref (ad 0))] := hl
  refine lv_aload_n hx hb dTR_forget_0 rfl (lv_at hl 0 rfl) ?_
  refine lv_iconst (v := 0) hx hb dTR_forget_1 (by decide) ?_
  refine p_TR_18 X hD hP hS (by omega) (h0) rfl rfl (Nat.le_of_ble_eq_true rfl) dTR_forget_2 (fun H locs hD hP hS => ?_)
  have hP : va_P D vwCl (wW 3 ad (va_up E 0 (.inr (4, [.ref (ad 1), .ref (ad 2), .int 0])))) H := hP
  have hD : va_D (Aw 3 ad) (wW 3 ad (va_up E 0 (.inr (4, [.ref (ad 1), .ref (ad 2), .int 0])))) := hD
  generalize g2 : va_up E 0 (.inr (4, [.ref (ad 1), .ref (ad 2), .int 0])) = E1 at hD hP
  have f3 : E1 0 = .inr (4, [.ref (ad 1), .ref (ad 2), .int 0]) := by rw [← g2]; exact va_up_self _ _ _
  have f4 : E1 1 = .inl (tc 0, 200, .inl fc) := by rw [← g2, va_up_ne _ _ (by omega)]; exact h1
  have f5 : E1 2 = .inl (tc 0, 1000, .inl fk) := by rw [← g2, va_up_ne _ _ (by omega)]; exact h2
  exact q_vret X hlk hr hP hS dTR_forget_5 (⟨rfl, f3, f4, f5⟩)
set_option maxHeartbeats 4000000 in
set_option maxRecDepth 100000 in
theorem c_TR_has (l : Launch) (D : va_G) (tc : Nat → ClassId) (ad : Nat → Nat) (E : Nat → va_E) (cn : Nat) (r1 r2 : Value) (k : Int32) (h0 : E 0 = .inr (4, [r1, r2, .int (nI cn)])) (hs : cn ≤ 200) : Ct l D tc yTR_has 0 3 ad E [.ref (ad 0), .int k] (fun o E2 => o = .returned (some (.int (bi (wi k cn)))) ∧ E2 = E) := by
  refine Ct.ofW (cc := cTR_has) (maxL := 2) (ret := (some .boolean)) (own := R_TR) (by decide) rfl w_222 (Nat.le_of_ble_eq_true rfl) ?_
  intro p e s m args below meth c ls X hlk hr hD hP hS hl
  have hx := X.1
  have hb := X.2.1
  have hl : lv_has ls 2 [(0, .ref (ad 0)), (1, .int k)] := hl
  have hN : (nI cn).toInt = cn := nI_toInt (by omega)
  refine lv_iload_n hx hb dTR_has_0 rfl (lv_at hl 1 rfl) ?_
  refine lv_if_lt (tgt := 16) hx hb dTR_has_1 rfl (fun h1 => ?_) (fun h1 => ?_)
  · refine lv_iconst (v := 0) hx hb dTR_has_16 (by decide) ?_
    exact q_zret X hlk hr (by decide) hP hS dTR_has_17 (⟨by rw [(show wi k cn = false from (by first | exact wi_t hN (by assumption) (by assumption) | exact wi_f1 (by assumption) | exact wi_f2 hN (by assumption)))]; rfl, rfl⟩)
  · refine lv_iload_n hx hb dTR_has_4 rfl (lv_at hl 1 rfl) ?_
    refine lv_aload_n hx hb dTR_has_5 rfl (lv_at hl 0 rfl) ?_
    refine g_TR_18 X hP (by omega) (h0) rfl dTR_has_6 ?_
    refine lv_icmp_ge (tgt := 16) hx hb dTR_has_9 rfl (fun h9 => ?_) (fun h9 => ?_)
    · refine lv_iconst (v := 0) hx hb dTR_has_16 (by decide) ?_
      exact q_zret X hlk hr (by decide) hP hS dTR_has_17 (⟨by rw [(show wi k cn = false from (by first | exact wi_t hN (by assumption) (by assumption) | exact wi_f1 (by assumption) | exact wi_f2 hN (by assumption)))]; rfl, rfl⟩)
    · refine lv_iconst (v := 1) hx hb dTR_has_12 (by decide) ?_
      refine lv_goto (tgt := 17) hx hb dTR_has_13 rfl ?_
      exact q_zret X hlk hr (by decide) hP hS dTR_has_17 (⟨by rw [(show wi k cn = true from (by first | exact wi_t hN (by assumption) (by assumption) | exact wi_f1 (by assumption) | exact wi_f2 hN (by assumption)))]; rfl, rfl⟩)
set_option maxHeartbeats 4000000 in
set_option maxRecDepth 100000 in
theorem c_AR_fill (l : Launch) (D : va_G) (tc : Nat → ClassId) (ad : Nat → Nat) (E : Nat → va_E) (N : Nat) (f : Nat → Int32) (v : Int32) (h0 : E 0 = .inl (tc 0, N, .inl f)) (hN : N < 2 ^ 31) : Ct l D tc yAR_fill 0 1 ad E [.ref (ad 0), .int v] (fun o E2 => o = .returned none ∧ ∃ g : Nat → Int32, E2 0 = .inl (tc 0, N, .inl g) ∧ ∀ j, j < N → g j = v) := by
  refine Ct.ofW (cc := cAR_fill) (maxL := 4) (ret := none) (own := R_AR) (by decide) rfl w_122 (Nat.le_of_ble_eq_true rfl) ?_
  intro p e s m args below meth c ls X hlk hr hD hP hS hl
  have hx := X.1
  have hb := X.2.1
  have hl : lv_has ls 4 [(0, .ref (ad 0)), (1, .int v)] := hl
  refine lv_iconst (v := 0) hx hb dAR_fill_0 (by decide) ?_
  refine lv_istore_n hx hb dAR_fill_1 rfl hl (by decide) rfl (fun ls hl => ?_)
  have hl : lv_has ls 4 [(2, .int 0), (0, .ref (ad 0)), (1, .int v)] := hl
  refine lv_aload_n hx hb dAR_fill_2 rfl (lv_at hl 1 rfl) ?_
  refine va_alen (D := D) (v := nI N) hx hb X.2.2.2.2.2 hP 0 0 (wW_get (by omega) (h0)) rfl rfl dAR_fill_3 ?_
  refine lv_istore_n hx hb dAR_fill_4 rfl hl (by decide) rfl (fun ls hl => ?_)
  have hl : lv_has ls 4 [(3, .int (nI N)), (2, .int 0), (0, .ref (ad 0)), (1, .int v)] := hl
  have loop : ∀ (r i : Nat) (g : Nat → Int32) (H : Heap) (locs : List Loc) (ls : Array Slot) (F : Nat → va_E), i + r = N → (∀ j, j < i → g j = v) → F 0 = .inl (tc 0, N, .inl g) → va_D (Aw 1 ad) (wW 1 ad F) → va_P D vwCl (wW 1 ad F) H → va_S (Aw 1 ad) s.heap H locs → lv_has ls 4 [(3, .int (nI N)), (2, .int (nI i)), (0, .ref (ad 0)), (1, .int v)] → W p l e (rmD 0) s m args below meth c H locs 0 0 (XQ below (CtQ D 1 ad (fun o E2 => o = .returned none ∧ ∃ g : Nat → Int32, E2 0 = .inl (tc 0, N, .inl g) ∧ ∀ j, j < N → g j = v)) args s 0 0 (Aw 1 ad)) (F0 m 5 ls []) := by
    intro r
    induction r with
    | zero =>
      intro i g H locs ls F hi hg hF hD hP hS hl
      refine lv_iload_n hx hb dAR_fill_5 rfl (lv_at hl 1 rfl) ?_
      refine lv_iload_n hx hb dAR_fill_6 rfl (lv_at hl 0 rfl) ?_
      refine lv_icmp_ge (tgt := 20) hx hb dAR_fill_7 rfl (fun h7 => ?_) (fun h7 => absurd (nI_le (by omega) (by omega)) h7)
      exact q_vret X hlk hr hP hS dAR_fill_20 (⟨rfl, g, hF, fun j hj => hg j (by omega)⟩)
    | succ r ih =>
      intro i g H locs ls F hi hg hF hD hP hS hl
      refine lv_iload_n hx hb dAR_fill_5 rfl (lv_at hl 1 rfl) ?_
      refine lv_iload_n hx hb dAR_fill_6 rfl (lv_at hl 0 rfl) ?_
      refine lv_icmp_ge (tgt := 20) hx hb dAR_fill_7 rfl (fun h7 => absurd h7 (nI_ge (by omega) (by omega))) (fun h7 => ?_)
      refine lv_aload_n hx hb dAR_fill_10 rfl (lv_at hl 2 rfl) ?_
      refine lv_iload_n hx hb dAR_fill_11 rfl (lv_at hl 1 rfl) ?_
      refine lv_iload_n hx hb dAR_fill_12 rfl (lv_at hl 3 rfl) ?_
      refine q_iast i X hD hP hS (by omega) (hF) (rfl) (by omega) (by omega) dAR_fill_13 (fun H locs hD hP hS => ?_)
      have hP : va_P D vwCl (wW 1 ad (va_up F 0 (.inl (tc 0, N, .inl (upd g i v))))) H := hP
      have hD : va_D (Aw 1 ad) (wW 1 ad (va_up F 0 (.inl (tc 0, N, .inl (upd g i v))))) := hD
      generalize g2 : va_up F 0 (.inl (tc 0, N, .inl (upd g i v))) = E1 at hD hP
      have f3 : E1 0 = .inl (tc 0, N, .inl (upd g i v)) := by rw [← g2]; exact va_up_self _ _ _
      refine lv_iinc (k := 1) (v := nI (i + 1)) hx hb dAR_fill_14 hl rfl (nI_1 i) (by decide) rfl (fun ls hl => ?_)
      have hl : lv_has ls 4 [(2, .int (nI (i + 1))), (3, .int (nI N)), (0, .ref (ad 0)), (1, .int v)] := hl
      refine lv_goto (tgt := 5) hx hb dAR_fill_17 rfl ?_
      exact ih (i + 1) _ _ _ _ _ (by omega) (fun j hj => by by_cases h : j = i; (· rw [h]; exact pk_us); (· rw [pk_un h]; exact hg j (by omega))) f3 hD hP hS (lv_sub hl [1, 0, 2, 3] rfl)
  exact loop N 0 f _ _ _ _ (by omega) (fun j hj => absurd hj (Nat.not_lt_zero j)) h0 hD hP hS hl
