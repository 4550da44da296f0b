theorem dRW_add_0 : decode cRW_add 0 = .ok (.aload_n 0, 1) := by decide +kernel
theorem dRW_add_1 : decode cRW_add 1 = .ok (.getfield 54, 3) := by decide +kernel
theorem dRW_add_4 : decode cRW_add 4 = .ok (.ifCond .ne 30, 3) := by decide +kernel
theorem dRW_add_7 : decode cRW_add 7 = .ok (.iload_n 1, 1) := by decide +kernel
theorem dRW_add_8 : decode cRW_add 8 = .ok (.invokestatic 61, 3) := by decide +kernel
theorem dRW_add_11 : decode cRW_add 11 = .ok (.ifCond .eq 23, 3) := by decide +kernel
theorem dRW_add_14 : decode cRW_add 14 = .ok (.aload_n 0, 1) := by decide +kernel
theorem dRW_add_15 : decode cRW_add 15 = .ok (.getfield 11, 3) := by decide +kernel
theorem dRW_add_18 : decode cRW_add 18 = .ok (.iload_n 1, 1) := by decide +kernel
theorem dRW_add_19 : decode cRW_add 19 = .ok (.aaload, 1) := by decide +kernel
theorem dRW_add_20 : decode cRW_add 20 = .ok (.invokevirtual 65, 3) := by decide +kernel
theorem dRW_add_23 : decode cRW_add 23 = .ok (.ifCond .ne 11, 3) := by decide +kernel
theorem dRW_add_26 : decode cRW_add 26 = .ok (.iload_n 2, 1) := by decide +kernel
theorem dRW_add_27 : decode cRW_add 27 = .ok (.iload_n 3, 1) := by decide +kernel
theorem dRW_add_28 : decode cRW_add 28 = .ok (.invokestatic 69, 3) := by decide +kernel
theorem dRW_add_31 : decode cRW_add 31 = .ok (.ifCond .ne 5, 3) := by decide +kernel
theorem dRW_add_34 : decode cRW_add 34 = .ok (.iconst (-1), 1) := by decide +kernel
theorem dRW_add_35 : decode cRW_add 35 = .ok (.ireturn, 1) := by decide +kernel
theorem dRW_add_36 : decode cRW_add 36 = .ok (.aload_n 0, 1) := by decide +kernel
theorem dRW_add_37 : decode cRW_add 37 = .ok (.getfield 11, 3) := by decide +kernel
theorem dRW_add_40 : decode cRW_add 40 = .ok (.iload_n 1, 1) := by decide +kernel
theorem dRW_add_41 : decode cRW_add 41 = .ok (.aaload, 1) := by decide +kernel
theorem dRW_add_42 : decode cRW_add 42 = .ok (.iload_n 2, 1) := by decide +kernel
theorem dRW_add_43 : decode cRW_add 43 = .ok (.iload_n 3, 1) := by decide +kernel
theorem dRW_add_44 : decode cRW_add 44 = .ok (.iload 4, 2) := by decide +kernel
theorem dRW_add_46 : decode cRW_add 46 = .ok (.invokevirtual 73, 3) := by decide +kernel
theorem dRW_add_49 : decode cRW_add 49 = .ok (.ireturn, 1) := by decide +kernel
set_option maxHeartbeats 4000000 in
set_option maxRecDepth 100000 in
theorem c_RW_add (l : Launch) (D : va_G) (tc : Nat → ClassId) (ad : Nat → Nat) (E : Nat → va_E) (st cs : Int32) (sz : Nat → Nat) (fo fa fb : Nat → Nat → Int32) (t op a b : Int32) (hR : isRW tc ad E st cs) (hp : ∀ t, t < 5 → isPG tc ad E (3 + 7 * t) (sz t) (fo t) (fa t) (fb t)) (hs : ∀ t, t < 5 → sz t ≤ 12) : Ct l D tc yRW_add 3 66 ad E [.ref (ad 0), .int t, .int op, .int a, .int b] (fun o E2 => o = .returned (some (.int (if addOk st sz t op a = true then nI (sz t.toNatClampNeg) else -1))) ∧ (addOk st sz t op a = false ∧ E2 = E ∨ addOk st sz t op a = true ∧ ∃ j, j < 5 ∧ t = nI j ∧ isPG tc ad E2 (3 + 7 * j) (sz j + 1) (upd (fo j) (sz j) op) (upd (fa j) (sz j) a) (upd (fb j) (sz j) b) ∧ ∀ k, k < 3 + 7 * j ∨ 7 + 7 * j ≤ k → E2 k = E k)) := by
  refine Ct.ofW (cc := cRW_add) (maxL := 5) (ret := (some .int)) (own := R_RW) (by decide) rfl w_154 (Nat.le_of_ble_eq_true rfl) ?_
  intro p e s m args below meth c ls X hlk hr hD hP hS hl
  have hx := X.1
  have hb := X.2.1
  have hl : lv_has ls 5 [(0, .ref (ad 0)), (1, .int t), (2, .int op), (3, .int a), (4, .int b)] := hl
  obtain ⟨rh0, ⟨ra1, rh1, rx1⟩, ⟨ra2, rh2, rx2⟩, ⟨ra3, rh3, rx3⟩, ⟨ra4, rh4, rx4⟩⟩ := hR
  refine lv_aload_n hx hb dRW_add_0 rfl (lv_at hl 0 rfl) ?_
  refine g_RW_54 X hP (by omega) (rh0) rfl dRW_add_1 ?_
  refine lv_if_ne (tgt := 34) hx hb dRW_add_4 rfl (fun h4 => ?_) (fun h4 => ?_)
  · refine lv_iconst (v := (-1)) hx hb dRW_add_34 (by decide) ?_
    exact q_iret X hlk hr hP hS dRW_add_35 (by have hok : addOk st sz t op a = false := (by simp [addOk, h4]); exact ⟨by rw [hok]; rfl, Or.inl ⟨hok, rfl⟩⟩)
  · refine lv_iload_n hx hb dRW_add_7 rfl (lv_at hl 1 rfl) ?_
    refine x_iE (f := fun k => 0 + k) (x_runS (As := [.int t]) (rest := []) X (c_RW_isThread l D tc (fun k => ad (0 + k)) (fun k => E (0 + k)) t) rfl rfl (by decide) (by decide) w_157 w_1 w_155 w_156 ry_RW_isThread (ct_pre X hP hD (fr_lt 0 66 0 (by omega)) (fr_inj 0 0)) ct_blind hl.1 (Nat.le_of_ble_eq_true rfl) dRW_add_8 ⟨Nat.zero_le _, Nat.zero_le _⟩) hD hP hS (fr_lt 0 66 0 (by omega)) (fr_inj 0 0) (fun H locs hD hP hS => ?_)
    refine lv_if_eq (tgt := 34) hx hb dRW_add_11 rfl (fun h11 => ?_) (fun h11 => ?_)
    · refine lv_iconst (v := (-1)) hx hb dRW_add_34 (by decide) ?_
      exact q_iret X hlk hr hP hS dRW_add_35 (by have hok : addOk st sz t op a = false := (by simp [addOk, bi_f h11]); exact ⟨by rw [hok]; rfl, Or.inl ⟨hok, rfl⟩⟩)
    · obtain ⟨j, hj, rfl⟩ := wi_of (by decide) (bi_t h11)
      obtain ⟨p0, p1, p2, p3⟩ := hp j hj
      refine lv_aload_n hx hb dRW_add_14 rfl (lv_at hl 0 rfl) ?_
      refine g_RW_11 X hP (by omega) (rh0) rfl dRW_add_15 ?_
      refine lv_iload_n hx hb dRW_add_18 rfl (lv_at hl 1 rfl) ?_
      refine q_aald (t0 := 3) j X hP (by omega) (rh1) rfl (rfl) (by omega) (by decide) (rx1 j (by omega)) dRW_add_19 ?_
      refine x_iE (f := fun k => (3 + 7 * j) + k) (x_runVN (C := R_PG) (As := []) (rest := []) X (c_PG_isFull l D tc (fun k => ad (3 + 7 * j + k)) (fun k => E (3 + 7 * j + k)) (sz j) _ _ _ p0 (hs j hj)) rfl rfl (by decide) (by decide) w_161 w_2 w_158 w_160 sel_PG_isFull ry_PG_isFull (x_recv X hP (by omega) (p0) rfl) (ct_pre X hP hD (fr_lt 4 66 (3 + 7 * j) (by omega)) (fr_inj 4 (3 + 7 * j))) ct_blind hl.1 (Nat.le_of_ble_eq_true rfl) dRW_add_20 ⟨Nat.zero_le _, Nat.zero_le _⟩) hD hP hS (fr_lt 4 66 (3 + 7 * j) (by omega)) (fr_inj 4 (3 + 7 * j)) (fun H locs hD hP hS => ?_)
      refine lv_if_ne (tgt := 34) hx hb dRW_add_23 rfl (fun h23 => ?_) (fun h23 => ?_)
      · refine lv_iconst (v := (-1)) hx hb dRW_add_34 (by decide) ?_
        exact q_iret X hlk hr hP hS dRW_add_35 (by have hok : addOk st sz (nI j) op a = false := (by simp [addOk, nI_clamp (show j < 2 ^ 31 by omega), Nat.not_lt.mpr (of_decide_eq_true (bi_t h23))]); exact ⟨by rw [hok]; rfl, Or.inl ⟨hok, rfl⟩⟩)
      · refine lv_iload_n hx hb dRW_add_26 rfl (lv_at hl 2 rfl) ?_
        refine lv_iload_n hx hb dRW_add_27 rfl (lv_at hl 3 rfl) ?_
        refine x_iE (f := fun k => 0 + k) (x_runS (As := [.int op, .int a]) (rest := []) X (c_RW_isNamed l D tc (fun k => ad (0 + k)) (fun k => E (0 + k)) op a) rfl rfl (by decide) (by decide) w_164 w_1 w_162 w_163 ry_RW_isNamed (ct_pre X hP hD (fr_lt 0 66 0 (by omega)) (fr_inj 0 0)) ct_blind hl.1 (Nat.le_of_ble_eq_true rfl) dRW_add_28 ⟨Nat.zero_le _, Nat.zero_le _⟩) hD hP hS (fr_lt 0 66 0 (by omega)) (fr_inj 0 0) (fun H locs hD hP hS => ?_)
        refine lv_if_ne (tgt := 36) hx hb dRW_add_31 rfl (fun h31 => ?_) (fun h31 => ?_)
        · have hlt : sz j < 12 := Nat.not_le.mp (of_decide_eq_false (bi_f h23))
          have hok : addOk st sz (nI j) op a = true := by simp [addOk, h4, nI_clamp (show j < 2 ^ 31 by omega), hlt, wi_nI hj (by decide), bi_t h31]
          refine lv_aload_n hx hb dRW_add_36 rfl (lv_at hl 0 rfl) ?_
          refine g_RW_11 X hP (by omega) (rh0) rfl dRW_add_37 ?_
          refine lv_iload_n hx hb dRW_add_40 rfl (lv_at hl 1 rfl) ?_
          refine q_aald (t0 := 3) j X hP (by omega) (rh1) rfl (rfl) (by omega) (by decide) (rx1 j (by omega)) dRW_add_41 ?_
          refine lv_iload_n hx hb dRW_add_42 rfl (lv_at hl 2 rfl) ?_
          refine lv_iload_n hx hb dRW_add_43 rfl (lv_at hl 3 rfl) ?_
          refine lv_iload hx hb dRW_add_44 (lv_at hl 4 rfl) ?_
          refine x_i (f := fun k => (3 + 7 * j) + k) (x_runVN (C := R_PG) (As := [.int op, .int a, .int b]) (rest := []) X (c_PG_append l D tc (fun k => ad (3 + 7 * j + k)) (fun k => E (3 + 7 * j + k)) (sz j) (fo j) (fa j) (fb j) op a b p0 p1 p2 p3 hlt) rfl rfl (by decide) (by decide) w_171 w_2 w_168 w_170 sel_PG_append ry_PG_append (x_recv X hP (by omega) (p0) rfl) (ct_pre X hP hD (fr_lt 4 66 (3 + 7 * j) (by omega)) (fr_inj 4 (3 + 7 * j))) ct_blind hl.1 (Nat.le_of_ble_eq_true rfl) dRW_add_46 ⟨Nat.zero_le _, Nat.zero_le _⟩) hD hP hS (fr_lt 4 66 (3 + 7 * j) (by omega)) (fr_inj 4 (3 + 7 * j)) (fun o E1 h => ⟨_, h.1⟩) (fun r5 E1 H locs q4 hD hP hS => ?_)
          obtain ⟨q4a, q40, q41, q42, q43⟩ := q4
          generalize g2 : wU 4 (fun k => (3 + 7 * j) + k) E E1 = E3 at hD hP
          have f6 : E3 0 = .inr (6, [.ref (ad 1), .ref (ad 2), .ref (ad 38), .ref (ad 48), .ref (ad 53), .ref (ad 56), .ref (ad 61), .int st, .int cs]) := by rw [← g2, wU_far (by omega)]; exact rh0
          have f7 : E3 1 = .inl (tc 3, 5, .inr (.inr (.inr (.inr ra1)))) := by rw [← g2, wU_far (by omega)]; exact rh1
          have f8 : E3 2 = .inl (tc 4, 5, .inr (.inr (.inr (.inr ra2)))) := by rw [← g2, wU_far (by omega)]; exact rh2
          have f9 : E3 38 = .inl (tc 5, 3, .inr (.inr (.inr (.inr ra3)))) := by rw [← g2, wU_far (by omega)]; exact rh3
          have f10 : E3 48 = .inl (tc 6, 2, .inr (.inr (.inr (.inr ra4)))) := by rw [← g2, wU_far (by omega)]; exact rh4
          have f11 : E3 (3 + 7 * j) = .inr (2, [.ref (ad (3 + 7 * j + 1)), .ref (ad (3 + 7 * j + 2)), .ref (ad (3 + 7 * j + 3)), .int (nI (sz j + 1))]) := by rw [← g2]; exact (wU_own 0 (by omega)).trans (q40)
          have f12 : E3 (3 + 7 * j + 1) = .inl (tc 0, 12, .inl (upd (fo j) (sz j) op)) := by rw [← g2]; exact (wU_own 1 (by omega)).trans (q41)
          have f13 : E3 (3 + 7 * j + 2) = .inl (tc 0, 12, .inl (upd (fa j) (sz j) a)) := by rw [← g2]; exact (wU_own 2 (by omega)).trans (q42)
          have f14 : E3 (3 + 7 * j + 3) = .inl (tc 0, 12, .inl (upd (fb j) (sz j) b)) := by rw [← g2]; exact (wU_own 3 (by omega)).trans (q43)
          exact q_iret (v := r5) X hlk hr hP hS dRW_add_49 (by rw [q4a]; exact ⟨by rw [if_pos hok, nI_clamp (by omega)], Or.inr ⟨hok, j, hj, rfl, ⟨f11, f12, f13, f14⟩, fun k hk => by rw [← g2, wU_far (by omega)]⟩⟩)
        · refine lv_iconst (v := (-1)) hx hb dRW_add_34 (by decide) ?_
          exact q_iret X hlk hr hP hS dRW_add_35 (by have hok : addOk st sz (nI j) op a = false := (by simp [addOk, bi_f h31]); exact ⟨by rw [hok]; rfl, Or.inl ⟨hok, rfl⟩⟩)
