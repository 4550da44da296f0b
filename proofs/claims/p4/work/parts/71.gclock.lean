theorem dCK_tick_0 : decode cCK_tick 0 = .ok (.aload_n 0, 1) := by decide +kernel
theorem dCK_tick_1 : decode cCK_tick 1 = .ok (.getfield 9, 3) := by decide +kernel
theorem dCK_tick_4 : decode cCK_tick 4 = .ok (.iload_n 1, 1) := by decide +kernel
theorem dCK_tick_5 : decode cCK_tick 5 = .ok (.dup2, 1) := by decide +kernel
theorem dCK_tick_6 : decode cCK_tick 6 = .ok (.iaload, 1) := by decide +kernel
theorem dCK_tick_7 : decode cCK_tick 7 = .ok (.iconst 1, 1) := by decide +kernel
theorem dCK_tick_8 : decode cCK_tick 8 = .ok (.iadd, 1) := by decide +kernel
theorem dCK_tick_9 : decode cCK_tick 9 = .ok (.iastore, 1) := by decide +kernel
theorem dCK_tick_10 : decode cCK_tick 10 = .ok (.return_, 1) := by decide +kernel
theorem dCK_learn_0 : decode cCK_learn 0 = .ok (.iconst 0, 1) := by decide +kernel
theorem dCK_learn_1 : decode cCK_learn 1 = .ok (.istore_n 2, 1) := by decide +kernel
theorem dCK_learn_2 : decode cCK_learn 2 = .ok (.iload_n 2, 1) := by decide +kernel
theorem dCK_learn_3 : decode cCK_learn 3 = .ok (.iconst 5, 1) := by decide +kernel
theorem dCK_learn_4 : decode cCK_learn 4 = .ok (.if_icmp .ge 30, 3) := by decide +kernel
theorem dCK_learn_7 : decode cCK_learn 7 = .ok (.aload_n 0, 1) := by decide +kernel
theorem dCK_learn_8 : decode cCK_learn 8 = .ok (.getfield 9, 3) := by decide +kernel
theorem dCK_learn_11 : decode cCK_learn 11 = .ok (.iload_n 2, 1) := by decide +kernel
theorem dCK_learn_12 : decode cCK_learn 12 = .ok (.aload_n 0, 1) := by decide +kernel
theorem dCK_learn_13 : decode cCK_learn 13 = .ok (.getfield 9, 3) := by decide +kernel
theorem dCK_learn_16 : decode cCK_learn 16 = .ok (.iload_n 2, 1) := by decide +kernel
theorem dCK_learn_17 : decode cCK_learn 17 = .ok (.iaload, 1) := by decide +kernel
theorem dCK_learn_18 : decode cCK_learn 18 = .ok (.aload_n 1, 1) := by decide +kernel
theorem dCK_learn_19 : decode cCK_learn 19 = .ok (.getfield 9, 3) := by decide +kernel
theorem dCK_learn_22 : decode cCK_learn 22 = .ok (.iload_n 2, 1) := by decide +kernel
theorem dCK_learn_23 : decode cCK_learn 23 = .ok (.iaload, 1) := by decide +kernel
theorem dCK_learn_24 : decode cCK_learn 24 = .ok (.invokestatic 15, 3) := by decide +kernel
theorem dCK_learn_27 : decode cCK_learn 27 = .ok (.iastore, 1) := by decide +kernel
theorem dCK_learn_28 : decode cCK_learn 28 = .ok (.iinc 2 1, 3) := by decide +kernel
theorem dCK_learn_31 : decode cCK_learn 31 = .ok (.goto (-29), 3) := by decide +kernel
theorem dCK_learn_34 : decode cCK_learn 34 = .ok (.return_, 1) := by decide +kernel
theorem dLK_isHeldBy_0 : decode cLK_isHeldBy 0 = .ok (.aload_n 0, 1) := by decide +kernel
theorem dLK_isHeldBy_1 : decode cLK_isHeldBy 1 = .ok (.getfield 22, 3) := by decide +kernel
theorem dLK_isHeldBy_4 : decode cLK_isHeldBy 4 = .ok (.ifCond .le 15, 3) := by decide +kernel
theorem dLK_isHeldBy_7 : decode cLK_isHeldBy 7 = .ok (.aload_n 0, 1) := by decide +kernel
theorem dLK_isHeldBy_8 : decode cLK_isHeldBy 8 = .ok (.getfield 18, 3) := by decide +kernel
theorem dLK_isHeldBy_11 : decode cLK_isHeldBy 11 = .ok (.iload_n 1, 1) := by decide +kernel
theorem dLK_isHeldBy_12 : decode cLK_isHeldBy 12 = .ok (.if_icmp .ne 7, 3) := by decide +kernel
theorem dLK_isHeldBy_15 : decode cLK_isHeldBy 15 = .ok (.iconst 1, 1) := by decide +kernel
theorem dLK_isHeldBy_16 : decode cLK_isHeldBy 16 = .ok (.goto 4, 3) := by decide +kernel
theorem dLK_isHeldBy_19 : decode cLK_isHeldBy 19 = .ok (.iconst 0, 1) := by decide +kernel
theorem dLK_isHeldBy_20 : decode cLK_isHeldBy 20 = .ok (.ireturn, 1) := by decide +kernel
theorem dLK_take_0 : decode cLK_take 0 = .ok (.aload_n 0, 1) := by decide +kernel
theorem dLK_take_1 : decode cLK_take 1 = .ok (.getfield 22, 3) := by decide +kernel
theorem dLK_take_4 : decode cLK_take 4 = .ok (.ifCond .ne 11, 3) := by decide +kernel
theorem dLK_take_7 : decode cLK_take 7 = .ok (.aload_n 2, 1) := by decide +kernel
theorem dLK_take_8 : decode cLK_take 8 = .ok (.aload_n 0, 1) := by decide +kernel
theorem dLK_take_9 : decode cLK_take 9 = .ok (.getfield 12, 3) := by decide +kernel
theorem dLK_take_12 : decode cLK_take 12 = .ok (.invokevirtual 25, 3) := by decide +kernel
theorem dLK_take_15 : decode cLK_take 15 = .ok (.aload_n 0, 1) := by decide +kernel
theorem dLK_take_16 : decode cLK_take 16 = .ok (.iload_n 1, 1) := by decide +kernel
theorem dLK_take_17 : decode cLK_take 17 = .ok (.putfield 18, 3) := by decide +kernel
theorem dLK_take_20 : decode cLK_take 20 = .ok (.aload_n 0, 1) := by decide +kernel
theorem dLK_take_21 : decode cLK_take 21 = .ok (.dup, 1) := by decide +kernel
theorem dLK_take_22 : decode cLK_take 22 = .ok (.getfield 22, 3) := by decide +kernel
theorem dLK_take_25 : decode cLK_take 25 = .ok (.iconst 1, 1) := by decide +kernel
theorem dLK_take_26 : decode cLK_take 26 = .ok (.iadd, 1) := by decide +kernel
theorem dLK_take_27 : decode cLK_take 27 = .ok (.putfield 22, 3) := by decide +kernel
theorem dLK_take_30 : decode cLK_take 30 = .ok (.return_, 1) := by decide +kernel
theorem dLK_letGo_0 : decode cLK_letGo 0 = .ok (.aload_n 0, 1) := by decide +kernel
theorem dLK_letGo_1 : decode cLK_letGo 1 = .ok (.dup, 1) := by decide +kernel
theorem dLK_letGo_2 : decode cLK_letGo 2 = .ok (.getfield 22, 3) := by decide +kernel
theorem dLK_letGo_5 : decode cLK_letGo 5 = .ok (.iconst 1, 1) := by decide +kernel
theorem dLK_letGo_6 : decode cLK_letGo 6 = .ok (.isub, 1) := by decide +kernel
theorem dLK_letGo_7 : decode cLK_letGo 7 = .ok (.putfield 22, 3) := by decide +kernel
theorem dLK_letGo_10 : decode cLK_letGo 10 = .ok (.aload_n 0, 1) := by decide +kernel
theorem dLK_letGo_11 : decode cLK_letGo 11 = .ok (.getfield 22, 3) := by decide +kernel
theorem dLK_letGo_14 : decode cLK_letGo 14 = .ok (.ifCond .ne 16, 3) := by decide +kernel
theorem dLK_letGo_17 : decode cLK_letGo 17 = .ok (.aload_n 0, 1) := by decide +kernel
theorem dLK_letGo_18 : decode cLK_letGo 18 = .ok (.iconst (-1), 1) := by decide +kernel
theorem dLK_letGo_19 : decode cLK_letGo 19 = .ok (.putfield 18, 3) := by decide +kernel
theorem dLK_letGo_22 : decode cLK_letGo 22 = .ok (.aload_n 0, 1) := by decide +kernel
theorem dLK_letGo_23 : decode cLK_letGo 23 = .ok (.getfield 12, 3) := by decide +kernel
theorem dLK_letGo_26 : decode cLK_letGo 26 = .ok (.aload_n 1, 1) := by decide +kernel
theorem dLK_letGo_27 : decode cLK_letGo 27 = .ok (.invokevirtual 25, 3) := by decide +kernel
theorem dLK_letGo_30 : decode cLK_letGo 30 = .ok (.return_, 1) := by decide +kernel
theorem dWK_goTo_0 : decode cWK_goTo 0 = .ok (.aload_n 0, 1) := by decide +kernel
theorem dWK_goTo_1 : decode cWK_goTo 1 = .ok (.iload_n 1, 1) := by decide +kernel
theorem dWK_goTo_2 : decode cWK_goTo 2 = .ok (.putfield 22, 3) := by decide +kernel
theorem dWK_goTo_5 : decode cWK_goTo 5 = .ok (.iload_n 1, 1) := by decide +kernel
theorem dWK_goTo_6 : decode cWK_goTo 6 = .ok (.iload_n 2, 1) := by decide +kernel
theorem dWK_goTo_7 : decode cWK_goTo 7 = .ok (.if_icmp .lt 8, 3) := by decide +kernel
theorem dWK_goTo_10 : decode cWK_goTo 10 = .ok (.aload_n 0, 1) := by decide +kernel
theorem dWK_goTo_11 : decode cWK_goTo 11 = .ok (.iconst 2, 1) := by decide +kernel
theorem dWK_goTo_12 : decode cWK_goTo 12 = .ok (.putfield 18, 3) := by decide +kernel
theorem dWK_goTo_15 : decode cWK_goTo 15 = .ok (.return_, 1) := by decide +kernel
theorem dWK_begin_0 : decode cWK_begin 0 = .ok (.aload_n 0, 1) := by decide +kernel
theorem dWK_begin_1 : decode cWK_begin 1 = .ok (.getfield 12, 3) := by decide +kernel
theorem dWK_begin_4 : decode cWK_begin 4 = .ok (.aload_n 1, 1) := by decide +kernel
theorem dWK_begin_5 : decode cWK_begin 5 = .ok (.invokevirtual 29, 3) := by decide +kernel
theorem dWK_begin_8 : decode cWK_begin 8 = .ok (.aload_n 0, 1) := by decide +kernel
theorem dWK_begin_9 : decode cWK_begin 9 = .ok (.iconst 1, 1) := by decide +kernel
theorem dWK_begin_10 : decode cWK_begin 10 = .ok (.putfield 18, 3) := by decide +kernel
theorem dWK_begin_13 : decode cWK_begin 13 = .ok (.aload_n 0, 1) := by decide +kernel
theorem dWK_begin_14 : decode cWK_begin 14 = .ok (.iconst 0, 1) := by decide +kernel
theorem dWK_begin_15 : decode cWK_begin 15 = .ok (.iload_n 2, 1) := by decide +kernel
theorem dWK_begin_16 : decode cWK_begin 16 = .ok (.invokevirtual 33, 3) := by decide +kernel
theorem dWK_begin_19 : decode cWK_begin 19 = .ok (.return_, 1) := by decide +kernel
set_option maxHeartbeats 4000000 in
set_option maxRecDepth 100000 in
theorem g_CK_tick (l : Launch) (D : va_G) (tc : Nat → ClassId) (ad : Nat → Nat) (E : Nat → va_E) (f : Nat → Int32) (t : Nat) (u0 : E 0 = .inr (0, [.ref (ad 1)])) (u1 : E 1 = .inl (tc 0, 5, .inl f)) (ht : t < 5) : Ct l D tc yCK_tick 0 2 ad E [.ref (ad 0), .int (nI t)] (fun o E2 => o = .returned none ∧ isCK tc ad E2 0) := by
  refine Ct.ofW (cc := cCK_tick) (maxL := 2) (ret := none) (own := R_CK) (by decide) rfl w_432 (Nat.le_of_ble_eq_true rfl) ?_
  intro p e s m args below meth c ls X hlk hr hD hP hS hl
  have hx := X.1
  have hb := X.2.1
  have hl : lv_has ls 2 [(0, .ref (ad 0)), (1, .int (nI t))] := hl
  refine lv_aload_n hx hb dCK_tick_0 rfl (lv_at hl 0 rfl) ?_
  refine g_CK_9 X hP (by omega) (u0) rfl dCK_tick_1 ?_
  refine lv_iload_n hx hb dCK_tick_4 rfl (lv_at hl 1 rfl) ?_
  refine lv_dup2_11 hx hb dCK_tick_5 rfl rfl ?_
  refine q_iald t X hP (by omega) (u1) (rfl) (by omega) (by decide) dCK_tick_6 ?_
  refine lv_iconst (v := 1) hx hb dCK_tick_7 (by decide) ?_
  refine lv_iadd hx hb dCK_tick_8 ?_
  refine q_iast t X hD hP hS (by omega) (u1) (rfl) (by omega) (by decide) dCK_tick_9 (fun H locs hD hP hS => ?_)
  have hP : va_P D vwCl (wW 2 ad (va_up E 1 (.inl (tc 0, 5, .inl (upd f t ((f t) + 1)))))) H := hP
  have hD : va_D (Aw 2 ad) (wW 2 ad (va_up E 1 (.inl (tc 0, 5, .inl (upd f t ((f t) + 1)))))) := hD
  generalize g2 : va_up E 1 (.inl (tc 0, 5, .inl (upd f t ((f t) + 1)))) = E1 at hD hP
  have f3 : E1 0 = .inr (0, [.ref (ad 1)]) := by rw [← g2, va_up_ne _ _ (by omega)]; exact u0
  have f4 : E1 1 = .inl (tc 0, 5, .inl (upd f t ((f t) + 1))) := by rw [← g2]; exact va_up_self _ _ _
  exact q_vret X hlk hr hP hS dCK_tick_10 (⟨rfl, f3, _, f4⟩)
set_option maxHeartbeats 4000000 in
set_option maxRecDepth 100000 in
theorem g_CK_learn (l : Launch) (D : va_G) (tc : Nat → ClassId) (ad : Nat → Nat) (E : Nat → va_E) (f g : Nat → Int32) (u0 : E 0 = .inr (0, [.ref (ad 1)])) (u1 : E 1 = .inl (tc 0, 5, .inl f)) (u2 : E 2 = .inr (0, [.ref (ad 3)])) (u3 : E 3 = .inl (tc 0, 5, .inl g)) : Ct l D tc yCK_learn 1 4 ad E [.ref (ad 0), .ref (ad 2)] (fun o E2 => o = .returned none ∧ isCK tc ad E2 0 ∧ E2 2 = E 2 ∧ E2 3 = E 3) := by
  refine Ct.ofW (cc := cCK_learn) (maxL := 3) (ret := none) (own := R_CK) (by decide) rfl w_444 (Nat.le_of_ble_eq_true rfl) ?_
  intro p e s m args below meth c ls X hlk hr hD hP hS hl
  have hx := X.1
  have hb := X.2.1
  have hl : lv_has ls 3 [(0, .ref (ad 0)), (1, .ref (ad 2))] := hl
  refine lv_iconst (v := 0) hx hb dCK_learn_0 (by decide) ?_
  refine lv_istore_n hx hb dCK_learn_1 rfl hl (by decide) rfl (fun ls hl => ?_)
  have hl : lv_has ls 3 [(2, .int 0), (0, .ref (ad 0)), (1, .ref (ad 2))] := hl
  have loop : ∀ (r i : Nat) (f : Nat → Int32) (H : Heap) (locs : List Loc) (ls : Array Slot) (F : Nat → va_E), i + r = 5 → F 0 = .inr (0, [.ref (ad 1)]) → F 1 = .inl (tc 0, 5, .inl f) → F 2 = .inr (0, [.ref (ad 3)]) → F 3 = .inl (tc 0, 5, .inl g) → va_D (Aw 4 ad) (wW 4 ad F) → va_P D vwCl (wW 4 ad F) H → va_S (Aw 4 ad) s.heap H locs → lv_has ls 3 [(2, .int (nI i)), (0, .ref (ad 0)), (1, .ref (ad 2))] → W p l e (rmD 1) s m args below meth c H locs 0 0 (XQ below (CtQ D 4 ad (fun o E2 => o = .returned none ∧ isCK tc ad E2 0 ∧ E2 2 = E 2 ∧ E2 3 = E 3)) args s 0 0 (Aw 4 ad)) (F0 m 2 ls []) := by
    intro r
    induction r with
    | zero =>
      intro i f H locs ls F hi q0 q1 q2 q3 hD hP hS hl
      refine lv_iload_n hx hb dCK_learn_2 rfl (lv_at hl 0 rfl) ?_
      refine lv_iconst (v := 5) hx hb dCK_learn_3 (by decide) ?_
      refine lv_icmp_ge (tgt := 34) hx hb dCK_learn_4 rfl (fun h4 => ?_) (fun h4 => absurd (nI_le (a := 5) (b := i) (by omega) (by omega)) h4)
      exact q_vret X hlk hr hP hS dCK_learn_34 (⟨rfl, ⟨q0, _, q1⟩, q2.trans u2.symm, q3.trans u3.symm⟩)
    | succ r ih =>
      intro i f H locs ls F hi q0 q1 q2 q3 hD hP hS hl
      refine lv_iload_n hx hb dCK_learn_2 rfl (lv_at hl 0 rfl) ?_
      refine lv_iconst (v := 5) hx hb dCK_learn_3 (by decide) ?_
      refine lv_icmp_ge (tgt := 34) hx hb dCK_learn_4 rfl (fun h4 => absurd h4 (nI_ge (a := i) (b := 5) (by omega) (by omega))) (fun h4 => ?_)
      refine lv_aload_n hx hb dCK_learn_7 rfl (lv_at hl 1 rfl) ?_
      refine g_CK_9 X hP (by omega) (q0) rfl dCK_learn_8 ?_
      refine lv_iload_n hx hb dCK_learn_11 rfl (lv_at hl 0 rfl) ?_
      refine lv_aload_n hx hb dCK_learn_12 rfl (lv_at hl 1 rfl) ?_
      refine g_CK_9 X hP (by omega) (q0) rfl dCK_learn_13 ?_
      refine lv_iload_n hx hb dCK_learn_16 rfl (lv_at hl 0 rfl) ?_
      refine q_iald i X hP (by omega) (q1) (rfl) (by omega) (by decide) dCK_learn_17 ?_
      refine lv_aload_n hx hb dCK_learn_18 rfl (lv_at hl 2 rfl) ?_
      refine g_CK_9 X hP (by omega) (q2) rfl dCK_learn_19 ?_
      refine lv_iload_n hx hb dCK_learn_22 rfl (lv_at hl 0 rfl) ?_
      refine q_iald i X hP (by omega) (q3) (rfl) (by omega) (by decide) dCK_learn_23 ?_
      refine va_mmax hx hb (by rw [X.2.2.1]; exact hl.1.symm) X.2.2.2.1 (X.2.2.2.2.1 _ w_445) (X.2.2.2.2.1 _ w_446) (X.2.2.2.2.1 _ w_17) (X.2.2.2.2.1 _ w_447) (by decide) (Nat.le_of_ble_eq_true rfl) (Nat.zero_le _) (Nat.zero_le _) dCK_learn_24 ?_
      refine q_iast i X hD hP hS (by omega) (q1) (rfl) (by omega) (by decide) dCK_learn_27 (fun H locs hD hP hS => ?_)
      have hP : va_P D vwCl (wW 4 ad (va_up F 1 (.inl (tc 0, 5, .inl (upd f i (if (f i) < (g i) then (g i) else (f i))))))) H := hP
      have hD : va_D (Aw 4 ad) (wW 4 ad (va_up F 1 (.inl (tc 0, 5, .inl (upd f i (if (f i) < (g i) then (g i) else (f i))))))) := hD
      generalize g2 : va_up F 1 (.inl (tc 0, 5, .inl (upd f i (if (f i) < (g i) then (g i) else (f i))))) = E1 at hD hP
      have f3 : E1 0 = .inr (0, [.ref (ad 1)]) := by rw [← g2, va_up_ne _ _ (by omega)]; exact q0
      have f4 : E1 1 = .inl (tc 0, 5, .inl (upd f i (if (f i) < (g i) then (g i) else (f i)))) := by rw [← g2]; exact va_up_self _ _ _
      have f5 : E1 2 = .inr (0, [.ref (ad 3)]) := by rw [← g2, va_up_ne _ _ (by omega)]; exact q2
      have f6 : E1 3 = .inl (tc 0, 5, .inl g) := by rw [← g2, va_up_ne _ _ (by omega)]; exact q3
      refine lv_iinc (k := 0) (v := nI (i + 1)) hx hb dCK_learn_28 hl rfl (nI_1 i) (by decide) rfl (fun ls hl => ?_)
      have hl : lv_has ls 3 [(2, .int (nI (i + 1))), (0, .ref (ad 0)), (1, .ref (ad 2))] := hl
      refine lv_goto (tgt := 2) hx hb dCK_learn_31 rfl ?_
      exact ih (i + 1) _ _ _ _ _ (by omega) f3 f4 f5 f6 hD hP hS hl
  exact loop 5 0 f _ _ _ _ (by omega) u0 u1 u2 u3 hD hP hS hl
set_option maxHeartbeats 4000000 in
set_option maxRecDepth 100000 in
theorem g_LK_isHeldBy (l : Launch) (D : va_G) (tc : Nat → ClassId) (ad : Nat → Nat) (E : Nat → va_E) (r1 : Value) (ow dp t : Int32) (u0 : E 0 = .inr (1, [r1, .int ow, .int dp])) : Ct0 l D tc yLK_isHeldBy 0 3 ad E [.ref (ad 0), .int t] (fun o E2 => ∃ r : Int32, o = .returned (some (.int r)) ∧ E2 = E ∧ True) := by
  refine Ct0.ofW (cc := cLK_isHeldBy) (maxL := 2) (ret := (some .boolean)) (own := R_LK) (by decide) rfl w_398 (Nat.le_of_ble_eq_true rfl) ?_
  intro p e s m args below meth c ls X hlk hr hD hP hS hl
  have hx := X.1
  have hb := X.2.1
  have hl : lv_has ls 2 [(0, .ref (ad 0)), (1, .int t)] := hl
  refine lv_aload_n hx hb dLK_isHeldBy_0 rfl (lv_at hl 0 rfl) ?_
  refine g_LK_22 X hP (by omega) (u0) rfl dLK_isHeldBy_1 ?_
  refine lv_if_le (tgt := 19) hx hb dLK_isHeldBy_4 rfl (fun h4 => ?_) (fun h4 => ?_)
  · refine lv_iconst (v := 0) hx hb dLK_isHeldBy_19 (by decide) ?_
    exact q_zret0 X hlk hr (by decide) hP hS dLK_isHeldBy_20 (⟨_, rfl, rfl, trivial⟩)
  · refine lv_aload_n hx hb dLK_isHeldBy_7 rfl (lv_at hl 0 rfl) ?_
    refine g_LK_18 X hP (by omega) (u0) rfl dLK_isHeldBy_8 ?_
    refine lv_iload_n hx hb dLK_isHeldBy_11 rfl (lv_at hl 1 rfl) ?_
    refine lv_icmp_ne (tgt := 19) hx hb dLK_isHeldBy_12 rfl (fun h12 => ?_) (fun h12 => ?_)
    · refine lv_iconst (v := 0) hx hb dLK_isHeldBy_19 (by decide) ?_
      exact q_zret0 X hlk hr (by decide) hP hS dLK_isHeldBy_20 (⟨_, rfl, rfl, trivial⟩)
    · refine lv_iconst (v := 1) hx hb dLK_isHeldBy_15 (by decide) ?_
      refine lv_goto (tgt := 20) hx hb dLK_isHeldBy_16 rfl ?_
      exact q_zret0 X hlk hr (by decide) hP hS dLK_isHeldBy_20 (⟨_, rfl, rfl, trivial⟩)
set_option maxHeartbeats 4000000 in
set_option maxRecDepth 100000 in
theorem g_LK_take (l : Launch) (D : va_G) (tc : Nat → ClassId) (ad : Nat → Nat) (E : Nat → va_E) (ow dp t : Int32) (f g : Nat → Int32) (u0 : E 0 = .inr (1, [.ref (ad 1), .int ow, .int dp])) (u1 : E 1 = .inr (0, [.ref (ad 2)])) (u2 : E 2 = .inl (tc 0, 5, .inl f)) (u3 : E 3 = .inr (0, [.ref (ad 4)])) (u4 : E 4 = .inl (tc 0, 5, .inl g)) : Ct l D tc yLK_take 2 5 ad E [.ref (ad 0), .int t, .ref (ad 3)] (fun o E2 => o = .returned none ∧ ∃ ow2 dp2 : Int32, E2 0 = .inr (1, [.ref (ad 1), .int ow2, .int dp2]) ∧ isCK tc ad E2 1 ∧ isCK tc ad E2 3) := by
  refine Ct.ofW (cc := cLK_take) (maxL := 3) (ret := none) (own := R_LK) (by decide) rfl w_440 (Nat.le_of_ble_eq_true rfl) ?_
  intro p e s m args below meth c ls X hlk hr hD hP hS hl
  have hx := X.1
  have hb := X.2.1
  have hl : lv_has ls 3 [(0, .ref (ad 0)), (1, .int t), (2, .ref (ad 3))] := hl
  refine lv_aload_n hx hb dLK_take_0 rfl (lv_at hl 0 rfl) ?_
  refine g_LK_22 X hP (by omega) (u0) rfl dLK_take_1 ?_
  refine lv_if_ne (tgt := 15) hx hb dLK_take_4 rfl (fun h4 => ?_) (fun h4 => ?_)
  · refine lv_aload_n hx hb dLK_take_15 rfl (lv_at hl 0 rfl) ?_
    refine lv_iload_n hx hb dLK_take_16 rfl (lv_at hl 1 rfl) ?_
    refine p_LK_18 X hD hP hS (by omega) (u0) rfl rfl (Nat.le_of_ble_eq_true rfl) dLK_take_17 (fun H locs hD hP hS => ?_)
    have hP : va_P D vwCl (wW 5 ad (va_up E 0 (.inr (1, [.ref (ad 1), .int t, .int dp])))) H := hP
    have hD : va_D (Aw 5 ad) (wW 5 ad (va_up E 0 (.inr (1, [.ref (ad 1), .int t, .int dp])))) := hD
    generalize g2 : va_up E 0 (.inr (1, [.ref (ad 1), .int t, .int dp])) = E1 at hD hP
    have f3 : E1 0 = .inr (1, [.ref (ad 1), .int t, .int dp]) := by rw [← g2]; exact va_up_self _ _ _
    have f4 : E1 1 = .inr (0, [.ref (ad 2)]) := by rw [← g2, va_up_ne _ _ (by omega)]; exact u1
    have f5 : E1 2 = .inl (tc 0, 5, .inl f) := by rw [← g2, va_up_ne _ _ (by omega)]; exact u2
    have f6 : E1 3 = .inr (0, [.ref (ad 4)]) := by rw [← g2, va_up_ne _ _ (by omega)]; exact u3
    have f7 : E1 4 = .inl (tc 0, 5, .inl g) := by rw [← g2, va_up_ne _ _ (by omega)]; exact u4
    refine lv_aload_n hx hb dLK_take_20 rfl (lv_at hl 0 rfl) ?_
    refine lv_dup hx hb dLK_take_21 rfl ?_
    refine g_LK_22 X hP (by omega) (f3) rfl dLK_take_22 ?_
    refine lv_iconst (v := 1) hx hb dLK_take_25 (by decide) ?_
    refine lv_iadd hx hb dLK_take_26 ?_
    refine p_LK_22 X hD hP hS (by omega) (f3) rfl rfl (Nat.le_of_ble_eq_true rfl) dLK_take_27 (fun H locs hD hP hS => ?_)
    have hP : va_P D vwCl (wW 5 ad (va_up E1 0 (.inr (1, [.ref (ad 1), .int t, .int (dp + 1)])))) H := hP
    have hD : va_D (Aw 5 ad) (wW 5 ad (va_up E1 0 (.inr (1, [.ref (ad 1), .int t, .int (dp + 1)])))) := hD
    generalize g9 : va_up E1 0 (.inr (1, [.ref (ad 1), .int t, .int (dp + 1)])) = E8 at hD hP
    have f10 : E8 0 = .inr (1, [.ref (ad 1), .int t, .int (dp + 1)]) := by rw [← g9]; exact va_up_self _ _ _
    have f11 : E8 1 = .inr (0, [.ref (ad 2)]) := by rw [← g9, va_up_ne _ _ (by omega)]; exact f4
    have f12 : E8 2 = .inl (tc 0, 5, .inl f) := by rw [← g9, va_up_ne _ _ (by omega)]; exact f5
    have f13 : E8 3 = .inr (0, [.ref (ad 4)]) := by rw [← g9, va_up_ne _ _ (by omega)]; exact f6
    have f14 : E8 4 = .inl (tc 0, 5, .inl g) := by rw [← g9, va_up_ne _ _ (by omega)]; exact f7
    exact q_vret X hlk hr hP hS dLK_take_30 (⟨rfl, _, _, f10, ⟨f11, _, f12⟩, ⟨f13, _, f14⟩⟩)
  · refine lv_aload_n hx hb dLK_take_7 rfl (lv_at hl 2 rfl) ?_
    refine lv_aload_n hx hb dLK_take_8 rfl (lv_at hl 0 rfl) ?_
    refine g_LK_12 X hP (by omega) (u0) rfl dLK_take_9 ?_
    refine x_v (f := fj 2 3 1) (x_runVN (C := R_CK) (As := [.ref (ad 1)]) (rest := []) X (g_CK_learn l D tc (fun k => ad (fj 2 3 1 k)) (fun k => E (fj 2 3 1 k)) _ _ u3 u4 u1 u2) rfl rfl (by decide) (by decide) w_444 w_4 w_441 w_443 sel_CK_learn ry_CK_learn (x_recv X hP (by omega) (u3) rfl) (ct_pre X hP hD (fj_lt 2 2 5 3 1 (by omega) (by omega)) (fj_inj 2 2 3 1 (by omega))) ct_blind hl.1 (Nat.le_of_ble_eq_true rfl) dLK_take_12 ⟨Nat.zero_le _, Nat.zero_le _⟩) hD hP hS (fj_lt 2 2 5 3 1 (by omega) (by omega)) (fj_inj 2 2 3 1 (by omega)) (fun o E1 h => h.1) (fun E15 H locs q18 hD hP hS => ?_)
    obtain ⟨-, ⟨q180, q18f, q181⟩, q182, q183⟩ := q18
    generalize g16 : wU 4 (fj 2 3 1) E E15 = E17 at hD hP
    have f19 : E17 0 = .inr (1, [.ref (ad 1), .int ow, .int dp]) := by rw [← g16]; exact (wU_fjo (a := 2) (c := 2) (b1 := 3) (b2 := 1) (by omega) (by omega)).trans (u0)
    have f20 : E17 3 = .inr (0, [.ref (ad 4)]) := by rw [← g16]; exact (wU_fj1 (a := 2) (c := 2) (b1 := 3) (b2 := 1) (by omega) 0 (by omega)).trans q180
    have f21 : E17 4 = .inl (tc 0, 5, .inl q18f) := by rw [← g16]; exact (wU_fj1 (a := 2) (c := 2) (b1 := 3) (b2 := 1) (by omega) 1 (by omega)).trans q181
    have f22 : E17 1 = .inr (0, [.ref (ad 2)]) := by rw [← g16]; exact (wU_fj2 (a := 2) (c := 2) (b1 := 3) (b2 := 1) (by omega) 0 (by omega)).trans (q182.trans u1)
    have f23 : E17 2 = .inl (tc 0, 5, .inl f) := by rw [← g16]; exact (wU_fj2 (a := 2) (c := 2) (b1 := 3) (b2 := 1) (by omega) 1 (by omega)).trans (q183.trans u2)
    refine lv_aload_n hx hb dLK_take_15 rfl (lv_at hl 0 rfl) ?_
    refine lv_iload_n hx hb dLK_take_16 rfl (lv_at hl 1 rfl) ?_
    refine p_LK_18 X hD hP hS (by omega) (f19) rfl rfl (Nat.le_of_ble_eq_true rfl) dLK_take_17 (fun H locs hD hP hS => ?_)
    have hP : va_P D vwCl (wW 5 ad (va_up E17 0 (.inr (1, [.ref (ad 1), .int t, .int dp])))) H := hP
    have hD : va_D (Aw 5 ad) (wW 5 ad (va_up E17 0 (.inr (1, [.ref (ad 1), .int t, .int dp])))) := hD
    generalize g25 : va_up E17 0 (.inr (1, [.ref (ad 1), .int t, .int dp])) = E24 at hD hP
    have f26 : E24 0 = .inr (1, [.ref (ad 1), .int t, .int dp]) := by rw [← g25]; exact va_up_self _ _ _
    have f27 : E24 3 = .inr (0, [.ref (ad 4)]) := by rw [← g25, va_up_ne _ _ (by omega)]; exact f20
    have f28 : E24 4 = .inl (tc 0, 5, .inl q18f) := by rw [← g25, va_up_ne _ _ (by omega)]; exact f21
    have f29 : E24 1 = .inr (0, [.ref (ad 2)]) := by rw [← g25, va_up_ne _ _ (by omega)]; exact f22
    have f30 : E24 2 = .inl (tc 0, 5, .inl f) := by rw [← g25, va_up_ne _ _ (by omega)]; exact f23
    refine lv_aload_n hx hb dLK_take_20 rfl (lv_at hl 0 rfl) ?_
    refine lv_dup hx hb dLK_take_21 rfl ?_
    refine g_LK_22 X hP (by omega) (f26) rfl dLK_take_22 ?_
    refine lv_iconst (v := 1) hx hb dLK_take_25 (by decide) ?_
    refine lv_iadd hx hb dLK_take_26 ?_
    refine p_LK_22 X hD hP hS (by omega) (f26) rfl rfl (Nat.le_of_ble_eq_true rfl) dLK_take_27 (fun H locs hD hP hS => ?_)
    have hP : va_P D vwCl (wW 5 ad (va_up E24 0 (.inr (1, [.ref (ad 1), .int t, .int (dp + 1)])))) H := hP
    have hD : va_D (Aw 5 ad) (wW 5 ad (va_up E24 0 (.inr (1, [.ref (ad 1), .int t, .int (dp + 1)])))) := hD
    generalize g32 : va_up E24 0 (.inr (1, [.ref (ad 1), .int t, .int (dp + 1)])) = E31 at hD hP
    have f33 : E31 0 = .inr (1, [.ref (ad 1), .int t, .int (dp + 1)]) := by rw [← g32]; exact va_up_self _ _ _
    have f34 : E31 3 = .inr (0, [.ref (ad 4)]) := by rw [← g32, va_up_ne _ _ (by omega)]; exact f27
    have f35 : E31 4 = .inl (tc 0, 5, .inl q18f) := by rw [← g32, va_up_ne _ _ (by omega)]; exact f28
    have f36 : E31 1 = .inr (0, [.ref (ad 2)]) := by rw [← g32, va_up_ne _ _ (by omega)]; exact f29
    have f37 : E31 2 = .inl (tc 0, 5, .inl f) := by rw [← g32, va_up_ne _ _ (by omega)]; exact f30
    exact q_vret X hlk hr hP hS dLK_take_30 (⟨rfl, _, _, f33, ⟨f36, _, f37⟩, ⟨f34, _, f35⟩⟩)
set_option maxHeartbeats 4000000 in
set_option maxRecDepth 100000 in
theorem g_LK_letGo (l : Launch) (D : va_G) (tc : Nat → ClassId) (ad : Nat → Nat) (E : Nat → va_E) (ow dp : Int32) (f g : Nat → Int32) (u0 : E 0 = .inr (1, [.ref (ad 1), .int ow, .int dp])) (u1 : E 1 = .inr (0, [.ref (ad 2)])) (u2 : E 2 = .inl (tc 0, 5, .inl f)) (u3 : E 3 = .inr (0, [.ref (ad 4)])) (u4 : E 4 = .inl (tc 0, 5, .inl g)) : Ct l D tc yLK_letGo 2 5 ad E [.ref (ad 0), .ref (ad 3)] (fun o E2 => o = .returned none ∧ ∃ ow2 dp2 : Int32, E2 0 = .inr (1, [.ref (ad 1), .int ow2, .int dp2]) ∧ isCK tc ad E2 1 ∧ isCK tc ad E2 3) := by
  refine Ct.ofW (cc := cLK_letGo) (maxL := 2) (ret := none) (own := R_LK) (by decide) rfl w_451 (Nat.le_of_ble_eq_true rfl) ?_
  intro p e s m args below meth c ls X hlk hr hD hP hS hl
  have hx := X.1
  have hb := X.2.1
  have hl : lv_has ls 2 [(0, .ref (ad 0)), (1, .ref (ad 3))] := hl
  refine lv_aload_n hx hb dLK_letGo_0 rfl (lv_at hl 0 rfl) ?_
  refine lv_dup hx hb dLK_letGo_1 rfl ?_
  refine g_LK_22 X hP (by omega) (u0) rfl dLK_letGo_2 ?_
  refine lv_iconst (v := 1) hx hb dLK_letGo_5 (by decide) ?_
  refine lv_isub hx hb dLK_letGo_6 ?_
  refine p_LK_22 X hD hP hS (by omega) (u0) rfl rfl (Nat.le_of_ble_eq_true rfl) dLK_letGo_7 (fun H locs hD hP hS => ?_)
  have hP : va_P D vwCl (wW 5 ad (va_up E 0 (.inr (1, [.ref (ad 1), .int ow, .int (dp - 1)])))) H := hP
  have hD : va_D (Aw 5 ad) (wW 5 ad (va_up E 0 (.inr (1, [.ref (ad 1), .int ow, .int (dp - 1)])))) := hD
  generalize g2 : va_up E 0 (.inr (1, [.ref (ad 1), .int ow, .int (dp - 1)])) = E1 at hD hP
  have f3 : E1 0 = .inr (1, [.ref (ad 1), .int ow, .int (dp - 1)]) := by rw [← g2]; exact va_up_self _ _ _
  have f4 : E1 1 = .inr (0, [.ref (ad 2)]) := by rw [← g2, va_up_ne _ _ (by omega)]; exact u1
  have f5 : E1 2 = .inl (tc 0, 5, .inl f) := by rw [← g2, va_up_ne _ _ (by omega)]; exact u2
  have f6 : E1 3 = .inr (0, [.ref (ad 4)]) := by rw [← g2, va_up_ne _ _ (by omega)]; exact u3
  have f7 : E1 4 = .inl (tc 0, 5, .inl g) := by rw [← g2, va_up_ne _ _ (by omega)]; exact u4
  refine lv_aload_n hx hb dLK_letGo_10 rfl (lv_at hl 0 rfl) ?_
  refine g_LK_22 X hP (by omega) (f3) rfl dLK_letGo_11 ?_
  refine lv_if_ne (tgt := 30) hx hb dLK_letGo_14 rfl (fun h14 => ?_) (fun h14 => ?_)
  · exact q_vret X hlk hr hP hS dLK_letGo_30 (⟨rfl, _, _, f3, ⟨f4, _, f5⟩, ⟨f6, _, f7⟩⟩)
  · refine lv_aload_n hx hb dLK_letGo_17 rfl (lv_at hl 0 rfl) ?_
    refine lv_iconst (v := (-1)) hx hb dLK_letGo_18 (by decide) ?_
    refine p_LK_18 X hD hP hS (by omega) (f3) rfl rfl (Nat.le_of_ble_eq_true rfl) dLK_letGo_19 (fun H locs hD hP hS => ?_)
    have hP : va_P D vwCl (wW 5 ad (va_up E1 0 (.inr (1, [.ref (ad 1), .int (-1), .int (dp - 1)])))) H := hP
    have hD : va_D (Aw 5 ad) (wW 5 ad (va_up E1 0 (.inr (1, [.ref (ad 1), .int (-1), .int (dp - 1)])))) := hD
    generalize g9 : va_up E1 0 (.inr (1, [.ref (ad 1), .int (-1), .int (dp - 1)])) = E8 at hD hP
    have f10 : E8 0 = .inr (1, [.ref (ad 1), .int (-1), .int (dp - 1)]) := by rw [← g9]; exact va_up_self _ _ _
    have f11 : E8 1 = .inr (0, [.ref (ad 2)]) := by rw [← g9, va_up_ne _ _ (by omega)]; exact f4
    have f12 : E8 2 = .inl (tc 0, 5, .inl f) := by rw [← g9, va_up_ne _ _ (by omega)]; exact f5
    have f13 : E8 3 = .inr (0, [.ref (ad 4)]) := by rw [← g9, va_up_ne _ _ (by omega)]; exact f6
    have f14 : E8 4 = .inl (tc 0, 5, .inl g) := by rw [← g9, va_up_ne _ _ (by omega)]; exact f7
    refine lv_aload_n hx hb dLK_letGo_22 rfl (lv_at hl 0 rfl) ?_
    refine g_LK_12 X hP (by omega) (f10) rfl dLK_letGo_23 ?_
    refine lv_aload_n hx hb dLK_letGo_26 rfl (lv_at hl 1 rfl) ?_
    refine x_v (f := fj 2 1 3) (x_runVN (C := R_CK) (As := [.ref (ad 3)]) (rest := []) X (g_CK_learn l D tc (fun k => ad (fj 2 1 3 k)) (fun k => E8 (fj 2 1 3 k)) _ _ f11 f12 f13 f14) rfl rfl (by decide) (by decide) w_444 w_4 w_441 w_443 sel_CK_learn ry_CK_learn (x_recv X hP (by omega) (f11) rfl) (ct_pre X hP hD (fj_lt 2 2 5 1 3 (by omega) (by omega)) (fj_inj 2 2 1 3 (by omega))) ct_blind hl.1 (Nat.le_of_ble_eq_true rfl) dLK_letGo_27 ⟨Nat.zero_le _, Nat.zero_le _⟩) hD hP hS (fj_lt 2 2 5 1 3 (by omega) (by omega)) (fj_inj 2 2 1 3 (by omega)) (fun o E1 h => h.1) (fun E15 H locs q18 hD hP hS => ?_)
    obtain ⟨-, ⟨q180, q18f, q181⟩, q182, q183⟩ := q18
    generalize g16 : wU 4 (fj 2 1 3) E8 E15 = E17 at hD hP
    have f19 : E17 0 = .inr (1, [.ref (ad 1), .int (-1), .int (dp - 1)]) := by rw [← g16]; exact (wU_fjo (a := 2) (c := 2) (b1 := 1) (b2 := 3) (by omega) (by omega)).trans (f10)
    have f20 : E17 1 = .inr (0, [.ref (ad 2)]) := by rw [← g16]; exact (wU_fj1 (a := 2) (c := 2) (b1 := 1) (b2 := 3) (by omega) 0 (by omega)).trans q180
    have f21 : E17 2 = .inl (tc 0, 5, .inl q18f) := by rw [← g16]; exact (wU_fj1 (a := 2) (c := 2) (b1 := 1) (b2 := 3) (by omega) 1 (by omega)).trans q181
    have f22 : E17 3 = .inr (0, [.ref (ad 4)]) := by rw [← g16]; exact (wU_fj2 (a := 2) (c := 2) (b1 := 1) (b2 := 3) (by omega) 0 (by omega)).trans (q182.trans f13)
    have f23 : E17 4 = .inl (tc 0, 5, .inl g) := by rw [← g16]; exact (wU_fj2 (a := 2) (c := 2) (b1 := 1) (b2 := 3) (by omega) 1 (by omega)).trans (q183.trans f14)
    exact q_vret X hlk hr hP hS dLK_letGo_30 (⟨rfl, _, _, f19, ⟨f20, _, f21⟩, ⟨f22, _, f23⟩⟩)
set_option maxHeartbeats 4000000 in
set_option maxRecDepth 100000 in
theorem g_WK_goTo (l : Launch) (D : va_G) (tc : Nat → ClassId) (ad : Nat → Nat) (E : Nat → va_E) (r1 : Value) (ph nx nu sz : Int32) (rg : Int64) (u0 : E 0 = .inr (5, [r1, .int ph, .int nx, .long rg])) : Ct l D tc yWK_goTo 0 1 ad E [.ref (ad 0), .int nu, .int sz] (fun o E2 => o = .returned none ∧ E2 0 = .inr (5, [r1, .int (if nu < sz then ph else 2), .int nu, .long rg])) := by
  refine Ct.ofW (cc := cWK_goTo) (maxL := 3) (ret := none) (own := R_WK) (by decide) rfl w_390 (Nat.le_of_ble_eq_true rfl) ?_
  intro p e s m args below meth c ls X hlk hr hD hP hS hl
  have hx := X.1
  have hb := X.2.1
  have hl : lv_has ls 3 [(0, .ref (ad 0)), (1, .int nu), (2, .int sz)] := hl
  refine lv_aload_n hx hb dWK_goTo_0 rfl (lv_at hl 0 rfl) ?_
  refine lv_iload_n hx hb dWK_goTo_1 rfl (lv_at hl 1 rfl) ?_
  refine p_WK_22 X hD hP hS (by omega) (u0) rfl rfl (Nat.le_of_ble_eq_true rfl) dWK_goTo_2 (fun H locs hD hP hS => ?_)
  have hP : va_P D vwCl (wW 1 ad (va_up E 0 (.inr (5, [r1, .int ph, .int nu, .long rg])))) H := hP
  have hD : va_D (Aw 1 ad) (wW 1 ad (va_up E 0 (.inr (5, [r1, .int ph, .int nu, .long rg])))) := hD
  generalize g2 : va_up E 0 (.inr (5, [r1, .int ph, .int nu, .long rg])) = E1 at hD hP
  have f3 : E1 0 = .inr (5, [r1, .int ph, .int nu, .long rg]) := by rw [← g2]; exact va_up_self _ _ _
  refine lv_iload_n hx hb dWK_goTo_5 rfl (lv_at hl 1 rfl) ?_
  refine lv_iload_n hx hb dWK_goTo_6 rfl (lv_at hl 2 rfl) ?_
  refine lv_icmp_lt (tgt := 15) hx hb dWK_goTo_7 rfl (fun h7 => ?_) (fun h7 => ?_)
  · exact q_vret X hlk hr hP hS dWK_goTo_15 (⟨rfl, by rw [if_pos h7]; exact f3⟩)
  · refine lv_aload_n hx hb dWK_goTo_10 rfl (lv_at hl 0 rfl) ?_
    refine lv_iconst (v := 2) hx hb dWK_goTo_11 (by decide) ?_
    refine p_WK_18 X hD hP hS (by omega) (f3) rfl rfl (Nat.le_of_ble_eq_true rfl) dWK_goTo_12 (fun H locs hD hP hS => ?_)
    have hP : va_P D vwCl (wW 1 ad (va_up E1 0 (.inr (5, [r1, .int 2, .int nu, .long rg])))) H := hP
    have hD : va_D (Aw 1 ad) (wW 1 ad (va_up E1 0 (.inr (5, [r1, .int 2, .int nu, .long rg])))) := hD
    generalize g5 : va_up E1 0 (.inr (5, [r1, .int 2, .int nu, .long rg])) = E4 at hD hP
    have f6 : E4 0 = .inr (5, [r1, .int 2, .int nu, .long rg]) := by rw [← g5]; exact va_up_self _ _ _
    exact q_vret X hlk hr hP hS dWK_goTo_15 (⟨rfl, by rw [if_neg h7]; exact f6⟩)
set_option maxHeartbeats 4000000 in
set_option maxRecDepth 100000 in
theorem g_WK_begin (l : Launch) (D : va_G) (tc : Nat → ClassId) (ad : Nat → Nat) (E : Nat → va_E) (ph nx sz : Int32) (rg : Int64) (f g : Nat → Int32) (u0 : E 0 = .inr (5, [.ref (ad 1), .int ph, .int nx, .long rg])) (u1 : E 1 = .inr (0, [.ref (ad 2)])) (u2 : E 2 = .inl (tc 0, 5, .inl f)) (u3 : E 3 = .inr (0, [.ref (ad 4)])) (u4 : E 4 = .inl (tc 0, 5, .inl g)) : Ct l D tc yWK_begin 2 5 ad E [.ref (ad 0), .ref (ad 3), .int sz] (fun o E2 => o = .returned none ∧ E2 0 = .inr (5, [.ref (ad 1), .int (if 0 < sz then 1 else 2), .int 0, .long rg]) ∧ isCK tc ad E2 1 ∧ isCK tc ad E2 3) := by
  refine Ct.ofW (cc := cWK_begin) (maxL := 3) (ret := none) (own := R_WK) (by decide) rfl w_456 (Nat.le_of_ble_eq_true rfl) ?_
  intro p e s m args below meth c ls X hlk hr hD hP hS hl
  have hx := X.1
  have hb := X.2.1
  have hl : lv_has ls 3 [(0, .ref (ad 0)), (1, .ref (ad 3)), (2, .int sz)] := hl
  refine lv_aload_n hx hb dWK_begin_0 rfl (lv_at hl 0 rfl) ?_
  refine g_WK_12 X hP (by omega) (u0) rfl dWK_begin_1 ?_
  refine lv_aload_n hx hb dWK_begin_4 rfl (lv_at hl 1 rfl) ?_
  refine x_v (f := fj 2 1 3) (x_runVN (C := R_CK) (As := [.ref (ad 3)]) (rest := []) X (g_CK_learn l D tc (fun k => ad (fj 2 1 3 k)) (fun k => E (fj 2 1 3 k)) _ _ u1 u2 u3 u4) rfl rfl (by decide) (by decide) w_444 w_4 w_457 w_443 sel_CK_learn ry_CK_learn (x_recv X hP (by omega) (u1) rfl) (ct_pre X hP hD (fj_lt 2 2 5 1 3 (by omega) (by omega)) (fj_inj 2 2 1 3 (by omega))) ct_blind hl.1 (Nat.le_of_ble_eq_true rfl) dWK_begin_5 ⟨Nat.zero_le _, Nat.zero_le _⟩) hD hP hS (fj_lt 2 2 5 1 3 (by omega) (by omega)) (fj_inj 2 2 1 3 (by omega)) (fun o E1 h => h.1) (fun E1 H locs q4 hD hP hS => ?_)
  obtain ⟨-, ⟨q40, q4f, q41⟩, q42, q43⟩ := q4
  generalize g2 : wU 4 (fj 2 1 3) E E1 = E3 at hD hP
  have f5 : E3 0 = .inr (5, [.ref (ad 1), .int ph, .int nx, .long rg]) := by rw [← g2]; exact (wU_fjo (a := 2) (c := 2) (b1 := 1) (b2 := 3) (by omega) (by omega)).trans (u0)
  have f6 : E3 1 = .inr (0, [.ref (ad 2)]) := by rw [← g2]; exact (wU_fj1 (a := 2) (c := 2) (b1 := 1) (b2 := 3) (by omega) 0 (by omega)).trans q40
  have f7 : E3 2 = .inl (tc 0, 5, .inl q4f) := by rw [← g2]; exact (wU_fj1 (a := 2) (c := 2) (b1 := 1) (b2 := 3) (by omega) 1 (by omega)).trans q41
  have f8 : E3 3 = .inr (0, [.ref (ad 4)]) := by rw [← g2]; exact (wU_fj2 (a := 2) (c := 2) (b1 := 1) (b2 := 3) (by omega) 0 (by omega)).trans (q42.trans u3)
  have f9 : E3 4 = .inl (tc 0, 5, .inl g) := by rw [← g2]; exact (wU_fj2 (a := 2) (c := 2) (b1 := 1) (b2 := 3) (by omega) 1 (by omega)).trans (q43.trans u4)
  refine lv_aload_n hx hb dWK_begin_8 rfl (lv_at hl 0 rfl) ?_
  refine lv_iconst (v := 1) hx hb dWK_begin_9 (by decide) ?_
  refine p_WK_18 X hD hP hS (by omega) (f5) rfl rfl (Nat.le_of_ble_eq_true rfl) dWK_begin_10 (fun H locs hD hP hS => ?_)
  have hP : va_P D vwCl (wW 5 ad (va_up E3 0 (.inr (5, [.ref (ad 1), .int 1, .int nx, .long rg])))) H := hP
  have hD : va_D (Aw 5 ad) (wW 5 ad (va_up E3 0 (.inr (5, [.ref (ad 1), .int 1, .int nx, .long rg])))) := hD
  generalize g11 : va_up E3 0 (.inr (5, [.ref (ad 1), .int 1, .int nx, .long rg])) = E10 at hD hP
  have f12 : E10 0 = .inr (5, [.ref (ad 1), .int 1, .int nx, .long rg]) := by rw [← g11]; exact va_up_self _ _ _
  have f13 : E10 1 = .inr (0, [.ref (ad 2)]) := by rw [← g11, va_up_ne _ _ (by omega)]; exact f6
  have f14 : E10 2 = .inl (tc 0, 5, .inl q4f) := by rw [← g11, va_up_ne _ _ (by omega)]; exact f7
  have f15 : E10 3 = .inr (0, [.ref (ad 4)]) := by rw [← g11, va_up_ne _ _ (by omega)]; exact f8
  have f16 : E10 4 = .inl (tc 0, 5, .inl g) := by rw [← g11, va_up_ne _ _ (by omega)]; exact f9
  refine lv_aload_n hx hb dWK_begin_13 rfl (lv_at hl 0 rfl) ?_
  refine lv_iconst (v := 0) hx hb dWK_begin_14 (by decide) ?_
  refine lv_iload_n hx hb dWK_begin_15 rfl (lv_at hl 2 rfl) ?_
  refine x_v (f := fun k => 0 + k) (x_runV (C := R_WK) (As := [.int 0, .int sz]) (rest := []) X (g_WK_goTo l D tc (fun k => ad (0 + k)) (fun k => E10 (0 + k)) (.ref (ad 1)) 1 nx 0 sz rg f12) rfl rfl (by decide) (by decide) w_390 w_3 w_458 w_389 sel_WK_goTo ry_WK_goTo (x_recv X hP (by omega) (f12) rfl) (ct_pre X hP hD (fr_lt 1 5 0 (by omega)) (fr_inj 1 0)) ct_blind hl.1 (Nat.le_of_ble_eq_true rfl) dWK_begin_16 ⟨Nat.zero_le _, Nat.zero_le _⟩) hD hP hS (fr_lt 1 5 0 (by omega)) (fr_inj 1 0) (fun o E1 h => h.1) (fun E17 H locs q20 hD hP hS => ?_)
  obtain ⟨-, q200⟩ := q20
  generalize g18 : wU 1 (fun k => 0 + k) E10 E17 = E19 at hD hP
  have f21 : E19 1 = .inr (0, [.ref (ad 2)]) := by rw [← g18]; exact (wU_far (by omega)).trans (f13)
  have f22 : E19 2 = .inl (tc 0, 5, .inl q4f) := by rw [← g18]; exact (wU_far (by omega)).trans (f14)
  have f23 : E19 3 = .inr (0, [.ref (ad 4)]) := by rw [← g18]; exact (wU_far (by omega)).trans (f15)
  have f24 : E19 4 = .inl (tc 0, 5, .inl g) := by rw [← g18]; exact (wU_far (by omega)).trans (f16)
  have f25 : E19 0 = .inr (5, [.ref (ad 1), .int (if 0 < sz then 1 else 2), .int 0, .long rg]) := by rw [← g18]; exact (wU_own 0 (by omega)).trans q200
  exact q_vret X hlk hr hP hS dWK_begin_19 (⟨rfl, f25, ⟨f21, _, f22⟩, ⟨f23, _, f24⟩⟩)
