theorem dCK_forget_0 : decode cCK_forget 0 = .ok (.aload_n 0, 1) := by decide +kernel
theorem dCK_forget_1 : decode cCK_forget 1 = .ok (.getfield 9, 3) := by decide +kernel
theorem dCK_forget_4 : decode cCK_forget 4 = .ok (.iconst 0, 1) := by decide +kernel
theorem dCK_forget_5 : decode cCK_forget 5 = .ok (.invokestatic 21, 3) := by decide +kernel
theorem dCK_forget_8 : decode cCK_forget 8 = .ok (.return_, 1) := by decide +kernel
theorem dWK_forget_0 : decode cWK_forget 0 = .ok (.aload_n 0, 1) := by decide +kernel
theorem dWK_forget_1 : decode cWK_forget 1 = .ok (.getfield 12, 3) := by decide +kernel
theorem dWK_forget_4 : decode cWK_forget 4 = .ok (.invokevirtual 37, 3) := by decide +kernel
theorem dWK_forget_7 : decode cWK_forget 7 = .ok (.aload_n 0, 1) := by decide +kernel
theorem dWK_forget_8 : decode cWK_forget 8 = .ok (.iconst 0, 1) := by decide +kernel
theorem dWK_forget_9 : decode cWK_forget 9 = .ok (.putfield 18, 3) := by decide +kernel
theorem dWK_forget_12 : decode cWK_forget 12 = .ok (.aload_n 0, 1) := by decide +kernel
theorem dWK_forget_13 : decode cWK_forget 13 = .ok (.iconst 0, 1) := by decide +kernel
theorem dWK_forget_14 : decode cWK_forget 14 = .ok (.putfield 22, 3) := by decide +kernel
theorem dWK_forget_17 : decode cWK_forget 17 = .ok (.aload_n 0, 1) := by decide +kernel
theorem dWK_forget_18 : decode cWK_forget 18 = .ok (.lconst 0, 1) := by decide +kernel
theorem dWK_forget_19 : decode cWK_forget 19 = .ok (.putfield 25, 3) := by decide +kernel
theorem dWK_forget_22 : decode cWK_forget 22 = .ok (.return_, 1) := by decide +kernel
theorem dLK_forget_0 : decode cLK_forget 0 = .ok (.aload_n 0, 1) := by decide +kernel
theorem dLK_forget_1 : decode cLK_forget 1 = .ok (.getfield 12, 3) := by decide +kernel
theorem dLK_forget_4 : decode cLK_forget 4 = .ok (.invokevirtual 29, 3) := by decide +kernel
theorem dLK_forget_7 : decode cLK_forget 7 = .ok (.aload_n 0, 1) := by decide +kernel
theorem dLK_forget_8 : decode cLK_forget 8 = .ok (.iconst (-1), 1) := by decide +kernel
theorem dLK_forget_9 : decode cLK_forget 9 = .ok (.putfield 18, 3) := by decide +kernel
theorem dLK_forget_12 : decode cLK_forget 12 = .ok (.aload_n 0, 1) := by decide +kernel
theorem dLK_forget_13 : decode cLK_forget 13 = .ok (.iconst 0, 1) := by decide +kernel
theorem dLK_forget_14 : decode cLK_forget 14 = .ok (.putfield 22, 3) := by decide +kernel
theorem dLK_forget_17 : decode cLK_forget 17 = .ok (.return_, 1) := by decide +kernel
theorem dBK_forget_0 : decode cBK_forget 0 = .ok (.aload_n 0, 1) := by decide +kernel
theorem dBK_forget_1 : decode cBK_forget 1 = .ok (.getfield 9, 3) := by decide +kernel
theorem dBK_forget_4 : decode cBK_forget 4 = .ok (.iconst (-1), 1) := by decide +kernel
theorem dBK_forget_5 : decode cBK_forget 5 = .ok (.invokestatic 27, 3) := by decide +kernel
theorem dBK_forget_8 : decode cBK_forget 8 = .ok (.aload_n 0, 1) := by decide +kernel
theorem dBK_forget_9 : decode cBK_forget 9 = .ok (.getfield 15, 3) := by decide +kernel
theorem dBK_forget_12 : decode cBK_forget 12 = .ok (.iconst (-1), 1) := by decide +kernel
theorem dBK_forget_13 : decode cBK_forget 13 = .ok (.invokestatic 27, 3) := by decide +kernel
theorem dBK_forget_16 : decode cBK_forget 16 = .ok (.aload_n 0, 1) := by decide +kernel
theorem dBK_forget_17 : decode cBK_forget 17 = .ok (.getfield 18, 3) := by decide +kernel
theorem dBK_forget_20 : decode cBK_forget 20 = .ok (.iconst (-1), 1) := by decide +kernel
theorem dBK_forget_21 : decode cBK_forget 21 = .ok (.invokestatic 27, 3) := by decide +kernel
theorem dBK_forget_24 : decode cBK_forget 24 = .ok (.aload_n 0, 1) := by decide +kernel
theorem dBK_forget_25 : decode cBK_forget 25 = .ok (.getfield 21, 3) := by decide +kernel
theorem dBK_forget_28 : decode cBK_forget 28 = .ok (.iconst (-1), 1) := by decide +kernel
theorem dBK_forget_29 : decode cBK_forget 29 = .ok (.invokestatic 27, 3) := by decide +kernel
theorem dBK_forget_32 : decode cBK_forget 32 = .ok (.return_, 1) := by decide +kernel
set_option maxHeartbeats 4000000 in
set_option maxRecDepth 100000 in
theorem c_CK_forget (l : Launch) (D : va_G) (tc : Nat → ClassId) (ad : Nat → Nat) (E : Nat → va_E) (f : Nat → Int32) (h0 : E 0 = .inr (0, [.ref (ad 1)])) (h1 : E 1 = .inl (tc 0, 5, .inl f)) : Ct l D tc yCK_forget 1 2 ad E [.ref (ad 0)] (fun o E2 => o = .returned none ∧ E2 0 = .inr (0, [.ref (ad 1)]) ∧ ∃ g : Nat → Int32, E2 1 = .inl (tc 0, 5, .inl g) ∧ ∀ j, j < 5 → g j = 0) := by
  refine Ct.ofW (cc := cCK_forget) (maxL := 1) (ret := none) (own := R_CK) (by decide) rfl w_187 (Nat.le_of_ble_eq_true rfl) ?_
  intro p e s m args below meth c ls X hlk hr hD hP hS hl
  have hx := X.1
  have hb := X.2.1
  have hl : lv_has ls 1 [(0, .ref (ad 0))] := hl
  refine lv_aload_n hx hb dCK_forget_0 rfl (lv_at hl 0 rfl) ?_
  refine g_CK_9 X hP (by omega) (h0) rfl dCK_forget_1 ?_
  refine lv_iconst (v := 0) hx hb dCK_forget_4 (by decide) ?_
  refine x_v (f := fun k => 1 + k) (x_runS (As := [.ref (ad 1), .int 0]) (rest := []) X (c_AR_fill l D tc (fun k => ad (1 + k)) (fun k => E (1 + k)) 5 f 0 (h1) (by decide)) rfl rfl (by decide) (by decide) w_122 w_8 w_188 w_121 ry_AR_fill (ct_pre X hP hD (fr_lt 1 2 1 (by omega)) (fr_inj 1 1)) ct_blind hl.1 (Nat.le_of_ble_eq_true rfl) dCK_forget_5 ⟨Nat.zero_le _, Nat.zero_le _⟩) hD hP hS (fr_lt 1 2 1 (by omega)) (fr_inj 1 1) (fun o E1 h => h.1) (fun E1 H locs q4 hD hP hS => ?_)
  obtain ⟨-, q4g, q40, q41⟩ := q4
  generalize g2 : wU 1 (fun k => 1 + k) E E1 = E3 at hD hP
  have f5 : E3 0 = .inr (0, [.ref (ad 1)]) := by rw [← g2, wU_far (by omega)]; exact h0
  have f6 : E3 1 = .inl (tc 0, 5, .inl q4g) := by rw [← g2]; exact (wU_own 0 (by omega)).trans (q40)
  exact q_vret X hlk hr hP hS dCK_forget_8 (⟨rfl, f5, _, f6, q41⟩)
set_option maxHeartbeats 4000000 in
set_option maxRecDepth 100000 in
theorem c_WK_forget (l : Launch) (D : va_G) (tc : Nat → ClassId) (ad : Nat → Nat) (E : Nat → va_E) (ph nx : Int32) (rg : Int64) (f : Nat → Int32) (h0 : E 0 = .inr (5, [.ref (ad 1), .int ph, .int nx, .long rg])) (h1 : E 1 = .inr (0, [.ref (ad 2)])) (h2 : E 2 = .inl (tc 0, 5, .inl f)) : Ct l D tc yWK_forget 2 3 ad E [.ref (ad 0)] (fun o E2 => o = .returned none ∧ isWK tc ad E2 0 0 0 0) := by
  refine Ct.ofW (cc := cWK_forget) (maxL := 1) (ret := none) (own := R_WK) (by decide) rfl w_183 (Nat.le_of_ble_eq_true rfl) ?_
  intro p e s m args below meth c ls X hlk hr hD hP hS hl
  have hx := X.1
  have hb := X.2.1
  have hl : lv_has ls 1 [(0, .ref (ad 0))] := hl
  refine lv_aload_n hx hb dWK_forget_0 rfl (lv_at hl 0 rfl) ?_
  refine g_WK_12 X hP (by omega) (h0) rfl dWK_forget_1 ?_
  refine x_v (f := fun k => 1 + k) (x_runVN (C := R_CK) (As := []) (rest := []) X (c_CK_forget l D tc (fun k => ad (1 + k)) (fun k => E (1 + k)) f (h1) (h2)) rfl rfl (by decide) (by decide) w_187 w_4 w_184 w_186 sel_CK_forget ry_CK_forget (x_recv X hP (by omega) (h1) rfl) (ct_pre X hP hD (fr_lt 2 3 1 (by omega)) (fr_inj 2 1)) ct_blind hl.1 (Nat.le_of_ble_eq_true rfl) dWK_forget_4 ⟨Nat.zero_le _, Nat.zero_le _⟩) hD hP hS (fr_lt 2 3 1 (by omega)) (fr_inj 2 1) (fun o E1 h => h.1) (fun E1 H locs q4 hD hP hS => ?_)
  obtain ⟨-, q40, q4g, q41, q42⟩ := q4
  generalize g2 : wU 2 (fun k => 1 + k) E E1 = E3 at hD hP
  have f5 : E3 0 = .inr (5, [.ref (ad 1), .int ph, .int nx, .long rg]) := by rw [← g2, wU_far (by omega)]; exact h0
  have f6 : E3 1 = .inr (0, [.ref (ad 2)]) := by rw [← g2]; exact (wU_own 0 (by omega)).trans (q40)
  have f7 : E3 2 = .inl (tc 0, 5, .inl q4g) := by rw [← g2]; exact (wU_own 1 (by omega)).trans (q41)
  refine lv_aload_n hx hb dWK_forget_7 rfl (lv_at hl 0 rfl) ?_
  refine lv_iconst (v := 0) hx hb dWK_forget_8 (by decide) ?_
  refine p_WK_18 X hD hP hS (by omega) (f5) rfl rfl (Nat.le_of_ble_eq_true rfl) dWK_forget_9 (fun H locs hD hP hS => ?_)
  have hP : va_P D vwCl (wW 3 ad (va_up E3 0 (.inr (5, [.ref (ad 1), .int 0, .int nx, .long rg])))) H := hP
  have hD : va_D (Aw 3 ad) (wW 3 ad (va_up E3 0 (.inr (5, [.ref (ad 1), .int 0, .int nx, .long rg])))) := hD
  generalize g9 : va_up E3 0 (.inr (5, [.ref (ad 1), .int 0, .int nx, .long rg])) = E8 at hD hP
  have f10 : E8 0 = .inr (5, [.ref (ad 1), .int 0, .int nx, .long rg]) := by rw [← g9]; exact va_up_self _ _ _
  have f11 : E8 1 = .inr (0, [.ref (ad 2)]) := by rw [← g9, va_up_ne _ _ (by omega)]; exact f6
  have f12 : E8 2 = .inl (tc 0, 5, .inl q4g) := by rw [← g9, va_up_ne _ _ (by omega)]; exact f7
  refine lv_aload_n hx hb dWK_forget_12 rfl (lv_at hl 0 rfl) ?_
  refine lv_iconst (v := 0) hx hb dWK_forget_13 (by decide) ?_
  refine p_WK_22 X hD hP hS (by omega) (f10) rfl rfl (Nat.le_of_ble_eq_true rfl) dWK_forget_14 (fun H locs hD hP hS => ?_)
  have hP : va_P D vwCl (wW 3 ad (va_up E8 0 (.inr (5, [.ref (ad 1), .int 0, .int 0, .long rg])))) H := hP
  have hD : va_D (Aw 3 ad) (wW 3 ad (va_up E8 0 (.inr (5, [.ref (ad 1), .int 0, .int 0, .long rg])))) := hD
  generalize g14 : va_up E8 0 (.inr (5, [.ref (ad 1), .int 0, .int 0, .long rg])) = E13 at hD hP
  have f15 : E13 0 = .inr (5, [.ref (ad 1), .int 0, .int 0, .long rg]) := by rw [← g14]; exact va_up_self _ _ _
  have f16 : E13 1 = .inr (0, [.ref (ad 2)]) := by rw [← g14, va_up_ne _ _ (by omega)]; exact f11
  have f17 : E13 2 = .inl (tc 0, 5, .inl q4g) := by rw [← g14, va_up_ne _ _ (by omega)]; exact f12
  refine lv_aload_n hx hb dWK_forget_17 rfl (lv_at hl 0 rfl) ?_
  refine lv_lconst (v := 0) hx hb dWK_forget_18 (by decide) ?_
  refine p_WK_25 X hD hP hS (by omega) (f15) rfl rfl (Nat.le_of_ble_eq_true rfl) dWK_forget_19 (fun H locs hD hP hS => ?_)
  have hP : va_P D vwCl (wW 3 ad (va_up E13 0 (.inr (5, [.ref (ad 1), .int 0, .int 0, .long 0])))) H := hP
  have hD : va_D (Aw 3 ad) (wW 3 ad (va_up E13 0 (.inr (5, [.ref (ad 1), .int 0, .int 0, .long 0])))) := hD
  generalize g19 : va_up E13 0 (.inr (5, [.ref (ad 1), .int 0, .int 0, .long 0])) = E18 at hD hP
  have f20 : E18 0 = .inr (5, [.ref (ad 1), .int 0, .int 0, .long 0]) := by rw [← g19]; exact va_up_self _ _ _
  have f21 : E18 1 = .inr (0, [.ref (ad 2)]) := by rw [← g19, va_up_ne _ _ (by omega)]; exact f16
  have f22 : E18 2 = .inl (tc 0, 5, .inl q4g) := by rw [← g19, va_up_ne _ _ (by omega)]; exact f17
  exact q_vret X hlk hr hP hS dWK_forget_22 (⟨rfl, f20, f21, _, f22⟩)
set_option maxHeartbeats 4000000 in
set_option maxRecDepth 100000 in
theorem c_LK_forget (l : Launch) (D : va_G) (tc : Nat → ClassId) (ad : Nat → Nat) (E : Nat → va_E) (ow dp : Int32) (f : Nat → Int32) (h0 : E 0 = .inr (1, [.ref (ad 1), .int ow, .int dp])) (h1 : E 1 = .inr (0, [.ref (ad 2)])) (h2 : E 2 = .inl (tc 0, 5, .inl f)) : Ct l D tc yLK_forget 2 3 ad E [.ref (ad 0)] (fun o E2 => o = .returned none ∧ isLK tc ad E2 0 (-1) 0) := by
  refine Ct.ofW (cc := cLK_forget) (maxL := 1) (ret := none) (own := R_LK) (by decide) rfl w_192 (Nat.le_of_ble_eq_true rfl) ?_
  intro p e s m args below meth c ls X hlk hr hD hP hS hl
  have hx := X.1
  have hb := X.2.1
  have hl : lv_has ls 1 [(0, .ref (ad 0))] := hl
  refine lv_aload_n hx hb dLK_forget_0 rfl (lv_at hl 0 rfl) ?_
  refine g_LK_12 X hP (by omega) (h0) rfl dLK_forget_1 ?_
  refine x_v (f := fun k => 1 + k) (x_runVN (C := R_CK) (As := []) (rest := []) X (c_CK_forget l D tc (fun k => ad (1 + k)) (fun k => E (1 + k)) f (h1) (h2)) rfl rfl (by decide) (by decide) w_187 w_4 w_193 w_186 sel_CK_forget ry_CK_forget (x_recv X hP (by omega) (h1) rfl) (ct_pre X hP hD (fr_lt 2 3 1 (by omega)) (fr_inj 2 1)) ct_blind hl.1 (Nat.le_of_ble_eq_true rfl) dLK_forget_4 ⟨Nat.zero_le _, Nat.zero_le _⟩) hD hP hS (fr_lt 2 3 1 (by omega)) (fr_inj 2 1) (fun o E1 h => h.1) (fun E1 H locs q4 hD hP hS => ?_)
  obtain ⟨-, q40, q4g, q41, q42⟩ := q4
  generalize g2 : wU 2 (fun k => 1 + k) E E1 = E3 at hD hP
  have f5 : E3 0 = .inr (1, [.ref (ad 1), .int ow, .int dp]) := by rw [← g2, wU_far (by omega)]; exact h0
  have f6 : E3 1 = .inr (0, [.ref (ad 2)]) := by rw [← g2]; exact (wU_own 0 (by omega)).trans (q40)
  have f7 : E3 2 = .inl (tc 0, 5, .inl q4g) := by rw [← g2]; exact (wU_own 1 (by omega)).trans (q41)
  refine lv_aload_n hx hb dLK_forget_7 rfl (lv_at hl 0 rfl) ?_
  refine lv_iconst (v := (-1)) hx hb dLK_forget_8 (by decide) ?_
  refine p_LK_18 X hD hP hS (by omega) (f5) rfl rfl (Nat.le_of_ble_eq_true rfl) dLK_forget_9 (fun H locs hD hP hS => ?_)
  have hP : va_P D vwCl (wW 3 ad (va_up E3 0 (.inr (1, [.ref (ad 1), .int (-1), .int dp])))) H := hP
  have hD : va_D (Aw 3 ad) (wW 3 ad (va_up E3 0 (.inr (1, [.ref (ad 1), .int (-1), .int dp])))) := hD
  generalize g9 : va_up E3 0 (.inr (1, [.ref (ad 1), .int (-1), .int dp])) = E8 at hD hP
  have f10 : E8 0 = .inr (1, [.ref (ad 1), .int (-1), .int dp]) := by rw [← g9]; exact va_up_self _ _ _
  have f11 : E8 1 = .inr (0, [.ref (ad 2)]) := by rw [← g9, va_up_ne _ _ (by omega)]; exact f6
  have f12 : E8 2 = .inl (tc 0, 5, .inl q4g) := by rw [← g9, va_up_ne _ _ (by omega)]; exact f7
  refine lv_aload_n hx hb dLK_forget_12 rfl (lv_at hl 0 rfl) ?_
  refine lv_iconst (v := 0) hx hb dLK_forget_13 (by decide) ?_
  refine p_LK_22 X hD hP hS (by omega) (f10) rfl rfl (Nat.le_of_ble_eq_true rfl) dLK_forget_14 (fun H locs hD hP hS => ?_)
  have hP : va_P D vwCl (wW 3 ad (va_up E8 0 (.inr (1, [.ref (ad 1), .int (-1), .int 0])))) H := hP
  have hD : va_D (Aw 3 ad) (wW 3 ad (va_up E8 0 (.inr (1, [.ref (ad 1), .int (-1), .int 0])))) := hD
  generalize g14 : va_up E8 0 (.inr (1, [.ref (ad 1), .int (-1), .int 0])) = E13 at hD hP
  have f15 : E13 0 = .inr (1, [.ref (ad 1), .int (-1), .int 0]) := by rw [← g14]; exact va_up_self _ _ _
  have f16 : E13 1 = .inr (0, [.ref (ad 2)]) := by rw [← g14, va_up_ne _ _ (by omega)]; exact f11
  have f17 : E13 2 = .inl (tc 0, 5, .inl q4g) := by rw [← g14, va_up_ne _ _ (by omega)]; exact f12
  exact q_vret X hlk hr hP hS dLK_forget_17 (⟨rfl, f15, f16, _, f17⟩)
set_option maxHeartbeats 4000000 in
set_option maxRecDepth 100000 in
theorem c_BK_forget (l : Launch) (D : va_G) (tc : Nat → ClassId) (ad : Nat → Nat) (E : Nat → va_E) (fr fp fw fd : Nat → Int32) (h0 : E 0 = .inr (3, [.ref (ad 1), .ref (ad 2), .ref (ad 3), .ref (ad 4)])) (h1 : E 1 = .inl (tc 0, 8, .inl fr)) (h2 : E 2 = .inl (tc 0, 8, .inl fp)) (h3 : E 3 = .inl (tc 0, 8, .inl fw)) (h4 : E 4 = .inl (tc 0, 40, .inl fd)) : Ct l D tc yBK_forget 1 5 ad E [.ref (ad 0)] (fun o E2 => o = .returned none ∧ ∃ gr gp gw gd : Nat → Int32, isBK tc ad E2 0 gr gp gw gd ∧ (∀ j, j < 8 → gr j = -1) ∧ (∀ j, j < 8 → gp j = -1) ∧ (∀ j, j < 8 → gw j = -1) ∧ ∀ j, j < 40 → gd j = -1) := by
  refine Ct.ofW (cc := cBK_forget) (maxL := 1) (ret := none) (own := R_BK) (by decide) rfl w_119 (Nat.le_of_ble_eq_true rfl) ?_
  intro p e s m args below meth c ls X hlk hr hD hP hS hl
  have hx := X.1
  have hb := X.2.1
  have hl : lv_has ls 1 [(0, .ref (ad 0))] := hl
  refine lv_aload_n hx hb dBK_forget_0 rfl (lv_at hl 0 rfl) ?_
  refine g_BK_9 X hP (by omega) (h0) rfl dBK_forget_1 ?_
  refine lv_iconst (v := (-1)) hx hb dBK_forget_4 (by decide) ?_
  refine x_v (f := fun k => 1 + k) (x_runS (As := [.ref (ad 1), .int (-1)]) (rest := []) X (c_AR_fill l D tc (fun k => ad (1 + k)) (fun k => E (1 + k)) 8 fr (-1) (h1) (by decide)) rfl rfl (by decide) (by decide) w_122 w_8 w_120 w_121 ry_AR_fill (ct_pre X hP hD (fr_lt 1 5 1 (by omega)) (fr_inj 1 1)) ct_blind hl.1 (Nat.le_of_ble_eq_true rfl) dBK_forget_5 ⟨Nat.zero_le _, Nat.zero_le _⟩) hD hP hS (fr_lt 1 5 1 (by omega)) (fr_inj 1 1) (fun o E1 h => h.1) (fun E1 H locs q4 hD hP hS => ?_)
  obtain ⟨-, q4g, q40, q41⟩ := q4
  generalize g2 : wU 1 (fun k => 1 + k) E E1 = E3 at hD hP
  have f5 : E3 0 = .inr (3, [.ref (ad 1), .ref (ad 2), .ref (ad 3), .ref (ad 4)]) := by rw [← g2, wU_far (by omega)]; exact h0
  have f6 : E3 2 = .inl (tc 0, 8, .inl fp) := by rw [← g2, wU_far (by omega)]; exact h2
  have f7 : E3 3 = .inl (tc 0, 8, .inl fw) := by rw [← g2, wU_far (by omega)]; exact h3
  have f8 : E3 4 = .inl (tc 0, 40, .inl fd) := by rw [← g2, wU_far (by omega)]; exact h4
  have f9 : E3 1 = .inl (tc 0, 8, .inl q4g) := by rw [← g2]; exact (wU_own 0 (by omega)).trans (q40)
  refine lv_aload_n hx hb dBK_forget_8 rfl (lv_at hl 0 rfl) ?_
  refine g_BK_15 X hP (by omega) (f5) rfl dBK_forget_9 ?_
  refine lv_iconst (v := (-1)) hx hb dBK_forget_12 (by decide) ?_
  refine x_v (f := fun k => 2 + k) (x_runS (As := [.ref (ad 2), .int (-1)]) (rest := []) X (c_AR_fill l D tc (fun k => ad (2 + k)) (fun k => E3 (2 + k)) 8 fp (-1) (f6) (by decide)) rfl rfl (by decide) (by decide) w_122 w_8 w_120 w_121 ry_AR_fill (ct_pre X hP hD (fr_lt 1 5 2 (by omega)) (fr_inj 1 2)) ct_blind hl.1 (Nat.le_of_ble_eq_true rfl) dBK_forget_13 ⟨Nat.zero_le _, Nat.zero_le _⟩) hD hP hS (fr_lt 1 5 2 (by omega)) (fr_inj 1 2) (fun o E1 h => h.1) (fun E10 H locs q13 hD hP hS => ?_)
  obtain ⟨-, q13g, q130, q131⟩ := q13
  generalize g11 : wU 1 (fun k => 2 + k) E3 E10 = E12 at hD hP
  have f14 : E12 0 = .inr (3, [.ref (ad 1), .ref (ad 2), .ref (ad 3), .ref (ad 4)]) := by rw [← g11, wU_far (by omega)]; exact f5
  have f15 : E12 3 = .inl (tc 0, 8, .inl fw) := by rw [← g11, wU_far (by omega)]; exact f7
  have f16 : E12 4 = .inl (tc 0, 40, .inl fd) := by rw [← g11, wU_far (by omega)]; exact f8
  have f17 : E12 1 = .inl (tc 0, 8, .inl q4g) := by rw [← g11, wU_far (by omega)]; exact f9
  have f18 : E12 2 = .inl (tc 0, 8, .inl q13g) := by rw [← g11]; exact (wU_own 0 (by omega)).trans (q130)
  refine lv_aload_n hx hb dBK_forget_16 rfl (lv_at hl 0 rfl) ?_
  refine g_BK_18 X hP (by omega) (f14) rfl dBK_forget_17 ?_
  refine lv_iconst (v := (-1)) hx hb dBK_forget_20 (by decide) ?_
  refine x_v (f := fun k => 3 + k) (x_runS (As := [.ref (ad 3), .int (-1)]) (rest := []) X (c_AR_fill l D tc (fun k => ad (3 + k)) (fun k => E12 (3 + k)) 8 fw (-1) (f15) (by decide)) rfl rfl (by decide) (by decide) w_122 w_8 w_120 w_121 ry_AR_fill (ct_pre X hP hD (fr_lt 1 5 3 (by omega)) (fr_inj 1 3)) ct_blind hl.1 (Nat.le_of_ble_eq_true rfl) dBK_forget_21 ⟨Nat.zero_le _, Nat.zero_le _⟩) hD hP hS (fr_lt 1 5 3 (by omega)) (fr_inj 1 3) (fun o E1 h => h.1) (fun E19 H locs q22 hD hP hS => ?_)
  obtain ⟨-, q22g, q220, q221⟩ := q22
  generalize g20 : wU 1 (fun k => 3 + k) E12 E19 = E21 at hD hP
  have f23 : E21 0 = .inr (3, [.ref (ad 1), .ref (ad 2), .ref (ad 3), .ref (ad 4)]) := by rw [← g20, wU_far (by omega)]; exact f14
  have f24 : E21 4 = .inl (tc 0, 40, .inl fd) := by rw [← g20, wU_far (by omega)]; exact f16
  have f25 : E21 1 = .inl (tc 0, 8, .inl q4g) := by rw [← g20, wU_far (by omega)]; exact f17
  have f26 : E21 2 = .inl (tc 0, 8, .inl q13g) := by rw [← g20, wU_far (by omega)]; exact f18
  have f27 : E21 3 = .inl (tc 0, 8, .inl q22g) := by rw [← g20]; exact (wU_own 0 (by omega)).trans (q220)
  refine lv_aload_n hx hb dBK_forget_24 rfl (lv_at hl 0 rfl) ?_
  refine g_BK_21 X hP (by omega) (f23) rfl dBK_forget_25 ?_
  refine lv_iconst (v := (-1)) hx hb dBK_forget_28 (by decide) ?_
  refine x_v (f := fun k => 4 + k) (x_runS (As := [.ref (ad 4), .int (-1)]) (rest := []) X (c_AR_fill l D tc (fun k => ad (4 + k)) (fun k => E21 (4 + k)) 40 fd (-1) (f24) (by decide)) rfl rfl (by decide) (by decide) w_122 w_8 w_120 w_121 ry_AR_fill (ct_pre X hP hD (fr_lt 1 5 4 (by omega)) (fr_inj 1 4)) ct_blind hl.1 (Nat.le_of_ble_eq_true rfl) dBK_forget_29 ⟨Nat.zero_le _, Nat.zero_le _⟩) hD hP hS (fr_lt 1 5 4 (by omega)) (fr_inj 1 4) (fun o E1 h => h.1) (fun E28 H locs q31 hD hP hS => ?_)
  obtain ⟨-, q31g, q310, q311⟩ := q31
  generalize g29 : wU 1 (fun k => 4 + k) E21 E28 = E30 at hD hP
  have f32 : E30 0 = .inr (3, [.ref (ad 1), .ref (ad 2), .ref (ad 3), .ref (ad 4)]) := by rw [← g29, wU_far (by omega)]; exact f23
  have f33 : E30 1 = .inl (tc 0, 8, .inl q4g) := by rw [← g29, wU_far (by omega)]; exact f25
  have f34 : E30 2 = .inl (tc 0, 8, .inl q13g) := by rw [← g29, wU_far (by omega)]; exact f26
  have f35 : E30 3 = .inl (tc 0, 8, .inl q22g) := by rw [← g29, wU_far (by omega)]; exact f27
  have f36 : E30 4 = .inl (tc 0, 40, .inl q31g) := by rw [← g29]; exact (wU_own 0 (by omega)).trans (q310)
  exact q_vret X hlk hr hP hS dBK_forget_32 (⟨rfl, _, _, _, _, ⟨f32, f33, f34, f35, f36⟩, q41, q131, q221, q311⟩)
