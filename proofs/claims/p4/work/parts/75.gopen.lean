theorem dMD_join_0 : decode cMD_join 0 = .ok (.iconst 0, 1) := by decide +kernel
theorem dMD_join_1 : decode cMD_join 1 = .ok (.istore_n 3, 1) := by decide +kernel
theorem dMD_join_2 : decode cMD_join 2 = .ok (.iload_n 3, 1) := by decide +kernel
theorem dMD_join_3 : decode cMD_join 3 = .ok (.iconst 4, 1) := by decide +kernel
theorem dMD_join_4 : decode cMD_join 4 = .ok (.if_icmp .ge 32, 3) := by decide +kernel
theorem dMD_join_7 : decode cMD_join 7 = .ok (.aload_n 0, 1) := by decide +kernel
theorem dMD_join_8 : decode cMD_join 8 = .ok (.getfield 50, 3) := by decide +kernel
theorem dMD_join_11 : decode cMD_join 11 = .ok (.iconst 4, 1) := by decide +kernel
theorem dMD_join_12 : decode cMD_join 12 = .ok (.iload_n 2, 1) := by decide +kernel
theorem dMD_join_13 : decode cMD_join 13 = .ok (.imul, 1) := by decide +kernel
theorem dMD_join_14 : decode cMD_join 14 = .ok (.iload_n 3, 1) := by decide +kernel
theorem dMD_join_15 : decode cMD_join 15 = .ok (.iadd, 1) := by decide +kernel
theorem dMD_join_16 : decode cMD_join 16 = .ok (.dup2, 1) := by decide +kernel
theorem dMD_join_17 : decode cMD_join 17 = .ok (.laload, 1) := by decide +kernel
theorem dMD_join_18 : decode cMD_join 18 = .ok (.aload_n 0, 1) := by decide +kernel
theorem dMD_join_19 : decode cMD_join 19 = .ok (.getfield 50, 3) := by decide +kernel
theorem dMD_join_22 : decode cMD_join 22 = .ok (.iconst 4, 1) := by decide +kernel
theorem dMD_join_23 : decode cMD_join 23 = .ok (.iload_n 1, 1) := by decide +kernel
theorem dMD_join_24 : decode cMD_join 24 = .ok (.imul, 1) := by decide +kernel
theorem dMD_join_25 : decode cMD_join 25 = .ok (.iload_n 3, 1) := by decide +kernel
theorem dMD_join_26 : decode cMD_join 26 = .ok (.iadd, 1) := by decide +kernel
theorem dMD_join_27 : decode cMD_join 27 = .ok (.laload, 1) := by decide +kernel
theorem dMD_join_28 : decode cMD_join 28 = .ok (.lor, 1) := by decide +kernel
theorem dMD_join_29 : decode cMD_join 29 = .ok (.lastore, 1) := by decide +kernel
theorem dMD_join_30 : decode cMD_join 30 = .ok (.iinc 3 1, 3) := by decide +kernel
theorem dMD_join_33 : decode cMD_join 33 = .ok (.goto (-31), 3) := by decide +kernel
theorem dMD_join_36 : decode cMD_join 36 = .ok (.aload_n 0, 1) := by decide +kernel
theorem dMD_join_37 : decode cMD_join 37 = .ok (.getfield 50, 3) := by decide +kernel
theorem dMD_join_40 : decode cMD_join 40 = .ok (.iconst 4, 1) := by decide +kernel
theorem dMD_join_41 : decode cMD_join 41 = .ok (.iload_n 2, 1) := by decide +kernel
theorem dMD_join_42 : decode cMD_join 42 = .ok (.imul, 1) := by decide +kernel
theorem dMD_join_43 : decode cMD_join 43 = .ok (.iload_n 1, 1) := by decide +kernel
theorem dMD_join_44 : decode cMD_join 44 = .ok (.bipush 64, 2) := by decide +kernel
theorem dMD_join_46 : decode cMD_join 46 = .ok (.idiv, 1) := by decide +kernel
theorem dMD_join_47 : decode cMD_join 47 = .ok (.iadd, 1) := by decide +kernel
theorem dMD_join_48 : decode cMD_join 48 = .ok (.dup2, 1) := by decide +kernel
theorem dMD_join_49 : decode cMD_join 49 = .ok (.laload, 1) := by decide +kernel
theorem dMD_join_50 : decode cMD_join 50 = .ok (.lconst 1, 1) := by decide +kernel
theorem dMD_join_51 : decode cMD_join 51 = .ok (.iload_n 1, 1) := by decide +kernel
theorem dMD_join_52 : decode cMD_join 52 = .ok (.bipush 64, 2) := by decide +kernel
theorem dMD_join_54 : decode cMD_join 54 = .ok (.irem, 1) := by decide +kernel
theorem dMD_join_55 : decode cMD_join 55 = .ok (.lshl, 1) := by decide +kernel
theorem dMD_join_56 : decode cMD_join 56 = .ok (.lor, 1) := by decide +kernel
theorem dMD_join_57 : decode cMD_join 57 = .ok (.lastore, 1) := by decide +kernel
theorem dMD_join_58 : decode cMD_join 58 = .ok (.return_, 1) := by decide +kernel
set_option maxHeartbeats 4000000 in
set_option maxRecDepth 100000 in
theorem g_MD_join (l : Launch) (D : va_G) (tc : Nat → ClassId) (ad : Nat → Nat) (E : Nat → va_E) (th st ic : Int32) (cn : Nat) (A : Nat → Nat → Int32) (J : Nat → Int64) (a b : Nat) (hM : isMD tc ad E th st ic (nI cn) A J) (ha : a < 200) (hb2 : b < 200) : Ct l D tc yMD_join 0 17 ad E [.ref (ad 0), .int (nI a), .int (nI b)] (fun o E2 => o = .returned none ∧ ∃ J2 : Nat → Int64, isMD tc ad E2 th st ic (nI cn) A J2) := by
  refine Ct.ofW (cc := cMD_join) (maxL := 4) (ret := none) (own := R_MD) (by decide) rfl w_591 (Nat.le_of_ble_eq_true rfl) ?_
  intro p e s m args below meth c ls X hlk hr hD hP hS hl
  have hx := X.1
  have hb := X.2.1
  have hl : lv_has ls 4 [(0, .ref (ad 0)), (1, .int (nI a)), (2, .int (nI b))] := hl
  have hM0 := hM
  obtain ⟨m0, m1, m2, m3, m4, m5, m6, m7, m8, m9, m10, m11, m12, m13, m14, m15, m16⟩ := hM
  refine lv_iconst (v := 0) hx hb dMD_join_0 (by decide) ?_
  refine lv_istore_n hx hb dMD_join_1 rfl hl (by decide) rfl (fun ls hl => ?_)
  have hl : lv_has ls 4 [(3, .int 0), (0, .ref (ad 0)), (1, .int (nI a)), (2, .int (nI b))] := hl
  have loop : ∀ (r i : Nat) (J : Nat → Int64) (H : Heap) (locs : List Loc) (ls : Array Slot) (F : Nat → va_E), i + r = 4 → isMD tc ad F th st ic (nI cn) A J → va_D (Aw 17 ad) (wW 17 ad F) → va_P D vwCl (wW 17 ad F) H → va_S (Aw 17 ad) s.heap H locs → lv_has ls 4 [(3, .int (nI i)), (0, .ref (ad 0)), (1, .int (nI a)), (2, .int (nI b))] → W p l e (rmD 0) s m args below meth c H locs 0 0 (XQ below (CtQ D 17 ad (fun o E2 => o = .returned none ∧ ∃ J2 : Nat → Int64, isMD tc ad E2 th st ic (nI cn) A J2)) args s 0 0 (Aw 17 ad)) (F0 m 2 ls []) := by
    intro r
    induction r with
    | zero =>
      intro i J H locs ls F hi hM hD hP hS hl
      obtain ⟨m0, m1, m2, m3, m4, m5, m6, m7, m8, m9, m10, m11, m12, m13, m14, m15, m16⟩ := hM
      refine lv_iload_n hx hb dMD_join_2 rfl (lv_at hl 0 rfl) ?_
      refine lv_iconst (v := 4) hx hb dMD_join_3 (by decide) ?_
      refine lv_icmp_ge (tgt := 36) hx hb dMD_join_4 rfl (fun h4 => ?_) (fun h4 => absurd (nI_le (a := 4) (b := i) (by omega) (by omega)) h4)
      refine lv_aload_n hx hb dMD_join_36 rfl (lv_at hl 1 rfl) ?_
      refine g_MD_50 X hP (by omega) (m0) rfl dMD_join_37 ?_
      refine lv_iconst (v := 4) hx hb dMD_join_40 (by decide) ?_
      refine lv_iload_n hx hb dMD_join_41 rfl (lv_at hl 3 rfl) ?_
      refine lv_imul hx hb dMD_join_42 ?_
      rw [show (4 * (nI b)) = nI (4 * b) from mul4 b]
      refine lv_iload_n hx hb dMD_join_43 rfl (lv_at hl 2 rfl) ?_
      refine lv_bipush (v := 64) hx hb dMD_join_44 (by decide) ?_
      refine lv_idiv hx hb dMD_join_46 (by decide) ?_
      rw [show ((nI a) / 64) = nI (a / 64) from div64 a ha]
      refine lv_iadd hx hb dMD_join_47 ?_
      rw [show ((nI (4 * b)) + (nI (a / 64))) = nI (4 * b + a / 64) from nI_add _ _]
      refine lv_dup2_11 hx hb dMD_join_48 rfl rfl ?_
      refine q_lald (4 * b + a / 64) X hP (by omega) (m14) (rfl) (by omega) (by decide) dMD_join_49 ?_
      refine lv_lconst (v := 1) hx hb dMD_join_50 (by decide) ?_
      refine lv_iload_n hx hb dMD_join_51 rfl (lv_at hl 2 rfl) ?_
      refine lv_bipush (v := 64) hx hb dMD_join_52 (by decide) ?_
      refine lv_irem hx hb dMD_join_54 (by decide) ?_
      refine lv_lshl hx hb dMD_join_55 rfl ?_
      refine lv_lor hx hb dMD_join_56 ?_
      refine q_last (4 * b + a / 64) X hD hP hS (by omega) (m14) (rfl) (by omega) (by decide) dMD_join_57 (fun H locs hD hP hS => ?_)
      have hP : va_P D vwCl (wW 17 ad (va_up F 14 (.inl (tc 1, 800, .inr (.inl (vp_updL J (4 * b + a / 64) ((J (4 * b + a / 64)) ||| (1 <<< (((nI a) - (nI a) / 64 * 64).toInt64 &&& 63))))))))) H := hP
      have hD : va_D (Aw 17 ad) (wW 17 ad (va_up F 14 (.inl (tc 1, 800, .inr (.inl (vp_updL J (4 * b + a / 64) ((J (4 * b + a / 64)) ||| (1 <<< (((nI a) - (nI a) / 64 * 64).toInt64 &&& 63))))))))) := hD
      generalize g2 : va_up F 14 (.inl (tc 1, 800, .inr (.inl (vp_updL J (4 * b + a / 64) ((J (4 * b + a / 64)) ||| (1 <<< (((nI a) - (nI a) / 64 * 64).toInt64 &&& 63))))))) = E1 at hD hP
      have f3 : E1 0 = .inr (7, [.int th, .int st, .int ic, .ref (ad 1), .ref (ad 2), .ref (ad 3), .ref (ad 4), .ref (ad 5), .ref (ad 6), .ref (ad 7), .ref (ad 8), .ref (ad 9), .int (nI cn), .ref (ad 10), .ref (ad 11), .ref (ad 12), .ref (ad 13), .ref (ad 14), .ref (ad 15), .ref (ad 16)]) := by rw [← g2, va_up_ne _ _ (by omega)]; exact m0
      have f4 : E1 1 = .inl (tc 0, 5, .inl (A 1)) := by rw [← g2, va_up_ne _ _ (by omega)]; exact m1
      have f5 : E1 2 = .inl (tc 0, 60, .inl (A 2)) := by rw [← g2, va_up_ne _ _ (by omega)]; exact m2
      have f6 : E1 3 = .inl (tc 0, 60, .inl (A 3)) := by rw [← g2, va_up_ne _ _ (by omega)]; exact m3
      have f7 : E1 4 = .inl (tc 0, 60, .inl (A 4)) := by rw [← g2, va_up_ne _ _ (by omega)]; exact m4
      have f8 : E1 5 = .inl (tc 0, 5, .inl (A 5)) := by rw [← g2, va_up_ne _ _ (by omega)]; exact m5
      have f9 : E1 6 = .inl (tc 0, 5, .inl (A 6)) := by rw [← g2, va_up_ne _ _ (by omega)]; exact m6
      have f10 : E1 7 = .inl (tc 0, 5, .inl (A 7)) := by rw [← g2, va_up_ne _ _ (by omega)]; exact m7
      have f11 : E1 8 = .inl (tc 0, 3, .inl (A 8)) := by rw [← g2, va_up_ne _ _ (by omega)]; exact m8
      have f12 : E1 9 = .inl (tc 0, 3, .inl (A 9)) := by rw [← g2, va_up_ne _ _ (by omega)]; exact m9
      have f13 : E1 10 = .inl (tc 0, 200, .inl (A 10)) := by rw [← g2, va_up_ne _ _ (by omega)]; exact m10
      have f14 : E1 11 = .inl (tc 0, 200, .inl (A 11)) := by rw [← g2, va_up_ne _ _ (by omega)]; exact m11
      have f15 : E1 12 = .inl (tc 0, 200, .inl (A 12)) := by rw [← g2, va_up_ne _ _ (by omega)]; exact m12
      have f16 : E1 13 = .inl (tc 2, 200, .inl (A 13)) := by rw [← g2, va_up_ne _ _ (by omega)]; exact m13
      have f17 : E1 15 = .inl (tc 0, 8, .inl (A 15)) := by rw [← g2, va_up_ne _ _ (by omega)]; exact m15
      have f18 : E1 16 = .inl (tc 0, 8, .inl (A 16)) := by rw [← g2, va_up_ne _ _ (by omega)]; exact m16
      have f19 : E1 14 = .inl (tc 1, 800, .inr (.inl (vp_updL J (4 * b + a / 64) ((J (4 * b + a / 64)) ||| (1 <<< (((nI a) - (nI a) / 64 * 64).toInt64 &&& 63)))))) := by rw [← g2]; exact va_up_self _ _ _
      exact q_vret X hlk hr hP hS dMD_join_58 (⟨rfl, _, ⟨f3, f4, f5, f6, f7, f8, f9, f10, f11, f12, f13, f14, f15, f16, f19, f17, f18⟩⟩)
    | succ r ih =>
      intro i J H locs ls F hi hM hD hP hS hl
      obtain ⟨m0, m1, m2, m3, m4, m5, m6, m7, m8, m9, m10, m11, m12, m13, m14, m15, m16⟩ := hM
      refine lv_iload_n hx hb dMD_join_2 rfl (lv_at hl 0 rfl) ?_
      refine lv_iconst (v := 4) hx hb dMD_join_3 (by decide) ?_
      refine lv_icmp_ge (tgt := 36) hx hb dMD_join_4 rfl (fun h4 => absurd h4 (nI_ge (a := i) (b := 4) (by omega) (by omega))) (fun h4 => ?_)
      refine lv_aload_n hx hb dMD_join_7 rfl (lv_at hl 1 rfl) ?_
      refine g_MD_50 X hP (by omega) (m0) rfl dMD_join_8 ?_
      refine lv_iconst (v := 4) hx hb dMD_join_11 (by decide) ?_
      refine lv_iload_n hx hb dMD_join_12 rfl (lv_at hl 3 rfl) ?_
      refine lv_imul hx hb dMD_join_13 ?_
      rw [show (4 * (nI b)) = nI (4 * b) from mul4 b]
      refine lv_iload_n hx hb dMD_join_14 rfl (lv_at hl 0 rfl) ?_
      refine lv_iadd hx hb dMD_join_15 ?_
      rw [show ((nI (4 * b)) + (nI i)) = nI (4 * b + i) from nI_add _ _]
      refine lv_dup2_11 hx hb dMD_join_16 rfl rfl ?_
      refine q_lald (4 * b + i) X hP (by omega) (m14) (rfl) (by omega) (by decide) dMD_join_17 ?_
      refine lv_aload_n hx hb dMD_join_18 rfl (lv_at hl 1 rfl) ?_
      refine g_MD_50 X hP (by omega) (m0) rfl dMD_join_19 ?_
      refine lv_iconst (v := 4) hx hb dMD_join_22 (by decide) ?_
      refine lv_iload_n hx hb dMD_join_23 rfl (lv_at hl 2 rfl) ?_
      refine lv_imul hx hb dMD_join_24 ?_
      rw [show (4 * (nI a)) = nI (4 * a) from mul4 a]
      refine lv_iload_n hx hb dMD_join_25 rfl (lv_at hl 0 rfl) ?_
      refine lv_iadd hx hb dMD_join_26 ?_
      rw [show ((nI (4 * a)) + (nI i)) = nI (4 * a + i) from nI_add _ _]
      refine q_lald (4 * a + i) X hP (by omega) (m14) (rfl) (by omega) (by decide) dMD_join_27 ?_
      refine lv_lor hx hb dMD_join_28 ?_
      refine q_last (4 * b + i) X hD hP hS (by omega) (m14) (rfl) (by omega) (by decide) dMD_join_29 (fun H locs hD hP hS => ?_)
      have hP : va_P D vwCl (wW 17 ad (va_up F 14 (.inl (tc 1, 800, .inr (.inl (vp_updL J (4 * b + i) ((J (4 * b + i)) ||| (J (4 * a + i))))))))) H := hP
      have hD : va_D (Aw 17 ad) (wW 17 ad (va_up F 14 (.inl (tc 1, 800, .inr (.inl (vp_updL J (4 * b + i) ((J (4 * b + i)) ||| (J (4 * a + i))))))))) := hD
      generalize g21 : va_up F 14 (.inl (tc 1, 800, .inr (.inl (vp_updL J (4 * b + i) ((J (4 * b + i)) ||| (J (4 * a + i))))))) = E20 at hD hP
      have f22 : E20 0 = .inr (7, [.int th, .int st, .int ic, .ref (ad 1), .ref (ad 2), .ref (ad 3), .ref (ad 4), .ref (ad 5), .ref (ad 6), .ref (ad 7), .ref (ad 8), .ref (ad 9), .int (nI cn), .ref (ad 10), .ref (ad 11), .ref (ad 12), .ref (ad 13), .ref (ad 14), .ref (ad 15), .ref (ad 16)]) := by rw [← g21, va_up_ne _ _ (by omega)]; exact m0
      have f23 : E20 1 = .inl (tc 0, 5, .inl (A 1)) := by rw [← g21, va_up_ne _ _ (by omega)]; exact m1
      have f24 : E20 2 = .inl (tc 0, 60, .inl (A 2)) := by rw [← g21, va_up_ne _ _ (by omega)]; exact m2
      have f25 : E20 3 = .inl (tc 0, 60, .inl (A 3)) := by rw [← g21, va_up_ne _ _ (by omega)]; exact m3
      have f26 : E20 4 = .inl (tc 0, 60, .inl (A 4)) := by rw [← g21, va_up_ne _ _ (by omega)]; exact m4
      have f27 : E20 5 = .inl (tc 0, 5, .inl (A 5)) := by rw [← g21, va_up_ne _ _ (by omega)]; exact m5
      have f28 : E20 6 = .inl (tc 0, 5, .inl (A 6)) := by rw [← g21, va_up_ne _ _ (by omega)]; exact m6
      have f29 : E20 7 = .inl (tc 0, 5, .inl (A 7)) := by rw [← g21, va_up_ne _ _ (by omega)]; exact m7
      have f30 : E20 8 = .inl (tc 0, 3, .inl (A 8)) := by rw [← g21, va_up_ne _ _ (by omega)]; exact m8
      have f31 : E20 9 = .inl (tc 0, 3, .inl (A 9)) := by rw [← g21, va_up_ne _ _ (by omega)]; exact m9
      have f32 : E20 10 = .inl (tc 0, 200, .inl (A 10)) := by rw [← g21, va_up_ne _ _ (by omega)]; exact m10
      have f33 : E20 11 = .inl (tc 0, 200, .inl (A 11)) := by rw [← g21, va_up_ne _ _ (by omega)]; exact m11
      have f34 : E20 12 = .inl (tc 0, 200, .inl (A 12)) := by rw [← g21, va_up_ne _ _ (by omega)]; exact m12
      have f35 : E20 13 = .inl (tc 2, 200, .inl (A 13)) := by rw [← g21, va_up_ne _ _ (by omega)]; exact m13
      have f36 : E20 15 = .inl (tc 0, 8, .inl (A 15)) := by rw [← g21, va_up_ne _ _ (by omega)]; exact m15
      have f37 : E20 16 = .inl (tc 0, 8, .inl (A 16)) := by rw [← g21, va_up_ne _ _ (by omega)]; exact m16
      have f38 : E20 14 = .inl (tc 1, 800, .inr (.inl (vp_updL J (4 * b + i) ((J (4 * b + i)) ||| (J (4 * a + i)))))) := by rw [← g21]; exact va_up_self _ _ _
      refine lv_iinc (k := 0) (v := nI (i + 1)) hx hb dMD_join_30 hl rfl (nI_1 i) (by decide) rfl (fun ls hl => ?_)
      have hl : lv_has ls 4 [(3, .int (nI (i + 1))), (0, .ref (ad 0)), (1, .int (nI a)), (2, .int (nI b))] := hl
      refine lv_goto (tgt := 2) hx hb dMD_join_33 rfl ?_
      exact ih (i + 1) _ _ _ _ _ (by omega) ⟨f22, f23, f24, f25, f26, f27, f28, f29, f30, f31, f32, f33, f34, f35, f38, f36, f37⟩ hD hP hS hl
  exact loop 4 0 J _ _ _ _ (by omega) hM0 hD hP hS hl
set_option maxHeartbeats 4000000 in
set_option maxRecDepth 100000 in
theorem g_MD_state (l : Launch) (D : va_G) (tc : Nat → ClassId) (ad : Nat → Nat) (E : Nat → va_E) (th st ic : Int32) (cn : Nat) (A : Nat → Nat → Int32) (J : Nat → Int64) (t : Int32) (hM : isMD tc ad E th st ic (nI cn) A J) (hc : cn ≤ 200) : Ct l D tc yMD_state 1 17 ad E [.ref (ad 0), .int t] (fun o E2 => ∃ r : Int64, o = .returned (some (.long r)) ∧ isMD tc ad E2 0 st ic (nI cn) A J) := by
  refine Ct.ofW (cc := cMD_state) (maxL := 2) (ret := (some .long)) (own := R_MD) (by decide) rfl w_623 (Nat.le_of_ble_eq_true rfl) ?_
  intro p e s m args below meth c ls X hlk hr hD hP hS hl
  have hx := X.1
  have hb := X.2.1
  have hl : lv_has ls 2 [(0, .ref (ad 0)), (1, .int t)] := hl
  have hM0 := hM
  obtain ⟨m0, m1, m2, m3, m4, m5, m6, m7, m8, m9, m10, m11, m12, m13, m14, m15, m16⟩ := hM
  refine lv_aload_n hx hb dMD_state_0 rfl (lv_at hl 0 rfl) ?_
  refine lv_iconst (v := 0) hx hb dMD_state_1 (by decide) ?_
  refine p_MD_63 X hD hP hS (by omega) (m0) rfl rfl (Nat.le_of_ble_eq_true rfl) dMD_state_2 (fun H locs hD hP hS => ?_)
  have hP : va_P D vwCl (wW 17 ad (va_up E 0 (.inr (7, [.int 0, .int st, .int ic, .ref (ad 1), .ref (ad 2), .ref (ad 3), .ref (ad 4), .ref (ad 5), .ref (ad 6), .ref (ad 7), .ref (ad 8), .ref (ad 9), .int (nI cn), .ref (ad 10), .ref (ad 11), .ref (ad 12), .ref (ad 13), .ref (ad 14), .ref (ad 15), .ref (ad 16)])))) H := hP
  have hD : va_D (Aw 17 ad) (wW 17 ad (va_up E 0 (.inr (7, [.int 0, .int st, .int ic, .ref (ad 1), .ref (ad 2), .ref (ad 3), .ref (ad 4), .ref (ad 5), .ref (ad 6), .ref (ad 7), .ref (ad 8), .ref (ad 9), .int (nI cn), .ref (ad 10), .ref (ad 11), .ref (ad 12), .ref (ad 13), .ref (ad 14), .ref (ad 15), .ref (ad 16)])))) := hD
  generalize g2 : va_up E 0 (.inr (7, [.int 0, .int st, .int ic, .ref (ad 1), .ref (ad 2), .ref (ad 3), .ref (ad 4), .ref (ad 5), .ref (ad 6), .ref (ad 7), .ref (ad 8), .ref (ad 9), .int (nI cn), .ref (ad 10), .ref (ad 11), .ref (ad 12), .ref (ad 13), .ref (ad 14), .ref (ad 15), .ref (ad 16)])) = E1 at hD hP
  have f3 : E1 0 = .inr (7, [.int 0, .int st, .int ic, .ref (ad 1), .ref (ad 2), .ref (ad 3), .ref (ad 4), .ref (ad 5), .ref (ad 6), .ref (ad 7), .ref (ad 8), .ref (ad 9), .int (nI cn), .ref (ad 10), .ref (ad 11), .ref (ad 12), .ref (ad 13), .ref (ad 14), .ref (ad 15), .ref (ad 16)]) := by rw [← g2]; exact va_up_self _ _ _
  have f4 : E1 1 = .inl (tc 0, 5, .inl (A 1)) := by rw [← g2, va_up_ne _ _ (by omega)]; exact m1
  have f5 : E1 2 = .inl (tc 0, 60, .inl (A 2)) := by rw [← g2, va_up_ne _ _ (by omega)]; exact m2
  have f6 : E1 3 = .inl (tc 0, 60, .inl (A 3)) := by rw [← g2, va_up_ne _ _ (by omega)]; exact m3
  have f7 : E1 4 = .inl (tc 0, 60, .inl (A 4)) := by rw [← g2, va_up_ne _ _ (by omega)]; exact m4
  have f8 : E1 5 = .inl (tc 0, 5, .inl (A 5)) := by rw [← g2, va_up_ne _ _ (by omega)]; exact m5
  have f9 : E1 6 = .inl (tc 0, 5, .inl (A 6)) := by rw [← g2, va_up_ne _ _ (by omega)]; exact m6
  have f10 : E1 7 = .inl (tc 0, 5, .inl (A 7)) := by rw [← g2, va_up_ne _ _ (by omega)]; exact m7
  have f11 : E1 8 = .inl (tc 0, 3, .inl (A 8)) := by rw [← g2, va_up_ne _ _ (by omega)]; exact m8
  have f12 : E1 9 = .inl (tc 0, 3, .inl (A 9)) := by rw [← g2, va_up_ne _ _ (by omega)]; exact m9
  have f13 : E1 10 = .inl (tc 0, 200, .inl (A 10)) := by rw [← g2, va_up_ne _ _ (by omega)]; exact m10
  have f14 : E1 11 = .inl (tc 0, 200, .inl (A 11)) := by rw [← g2, va_up_ne _ _ (by omega)]; exact m11
  have f15 : E1 12 = .inl (tc 0, 200, .inl (A 12)) := by rw [← g2, va_up_ne _ _ (by omega)]; exact m12
  have f16 : E1 13 = .inl (tc 2, 200, .inl (A 13)) := by rw [← g2, va_up_ne _ _ (by omega)]; exact m13
  have f17 : E1 15 = .inl (tc 0, 8, .inl (A 15)) := by rw [← g2, va_up_ne _ _ (by omega)]; exact m15
  have f18 : E1 16 = .inl (tc 0, 8, .inl (A 16)) := by rw [← g2, va_up_ne _ _ (by omega)]; exact m16
  have f19 : E1 14 = .inl (tc 1, 800, .inr (.inl J)) := by rw [← g2, va_up_ne _ _ (by omega)]; exact m14
  refine lv_aload_n hx hb dMD_state_5 rfl (lv_at hl 0 rfl) ?_
  refine g_MD_71 X hP (by omega) (f3) rfl dMD_state_6 ?_
  refine lv_if_eq (tgt := 51) hx hb dMD_state_9 rfl (fun h9 => ?_) (fun h9 => ?_)
  · refine lv_ldc2 (v := (-1)) hx hb X.2.2.2.1 (X.2.2.2.2.1 _ w_625) dMD_state_51 ?_
    exact q_lret X hlk hr hP hS dMD_state_54 (⟨_, rfl, ⟨f3, f4, f5, f6, f7, f8, f9, f10, f11, f12, f13, f14, f15, f16, f19, f17, f18⟩⟩)
  · refine lv_iload_n hx hb dMD_state_12 rfl (lv_at hl 1 rfl) ?_
    refine lv_iconst (v := 5) hx hb dMD_state_13 (by decide) ?_
    refine x_iE (f := fun k => 0 + k) (x_runS (As := [.int t, .int 5]) (rest := []) X (c_MD_within l D tc (fun k => ad (0 + k)) (fun k => E1 (0 + k)) t 5 (n := 5) (by decide)) rfl rfl (by decide) (by decide) w_551 w_9 w_549 w_550 ry_MD_within (ct_pre X hP hD (fr_lt 0 17 0 (by omega)) (fr_inj 0 0)) ct_blind hl.1 (Nat.le_of_ble_eq_true rfl) dMD_state_14 ⟨Nat.zero_le _, Nat.zero_le _⟩) hD hP hS (fr_lt 0 17 0 (by omega)) (fr_inj 0 0) (fun H locs hD hP hS => ?_)
    refine lv_if_eq (tgt := 51) hx hb dMD_state_17 rfl (fun h17 => ?_) (fun h17 => ?_)
    · refine lv_ldc2 (v := (-1)) hx hb X.2.2.2.1 (X.2.2.2.2.1 _ w_625) dMD_state_51 ?_
      exact q_lret X hlk hr hP hS dMD_state_54 (⟨_, rfl, ⟨f3, f4, f5, f6, f7, f8, f9, f10, f11, f12, f13, f14, f15, f16, f19, f17, f18⟩⟩)
    · obtain ⟨j, hj, rfl⟩ := wi_of (n := 5) (by decide) (bi_t h17)
      refine lv_aload_n hx hb dMD_state_20 rfl (lv_at hl 0 rfl) ?_
      refine g_MD_22 X hP (by omega) (f3) rfl dMD_state_21 ?_
      refine lv_iload_n hx hb dMD_state_24 rfl (lv_at hl 1 rfl) ?_
      refine q_iald j X hP (by omega) (f8) (rfl) (by omega) (by decide) dMD_state_25 ?_
      refine lv_iconst (v := 4) hx hb dMD_state_26 (by decide) ?_
      refine lv_aload_n hx hb dMD_state_27 rfl (lv_at hl 0 rfl) ?_
      refine g_MD_25 X hP (by omega) (f3) rfl dMD_state_28 ?_
      refine lv_iload_n hx hb dMD_state_31 rfl (lv_at hl 1 rfl) ?_
      refine q_iald j X hP (by omega) (f9) (rfl) (by omega) (by decide) dMD_state_32 ?_
      refine lv_imul hx hb dMD_state_33 ?_
      refine lv_iadd hx hb dMD_state_34 ?_
      refine lv_i2l hx hb dMD_state_35 rfl ?_
      refine lv_ldc2 (v := 64) hx hb X.2.2.2.1 (X.2.2.2.2.1 _ w_624) dMD_state_36 ?_
      refine lv_aload_n hx hb dMD_state_39 rfl (lv_at hl 0 rfl) ?_
      refine g_MD_28 X hP (by omega) (f3) rfl dMD_state_40 ?_
      refine lv_iload_n hx hb dMD_state_43 rfl (lv_at hl 1 rfl) ?_
      refine q_iald j X hP (by omega) (f10) (rfl) (by omega) (by decide) dMD_state_44 ?_
      refine lv_i2l hx hb dMD_state_45 rfl ?_
      refine lv_lmul hx hb dMD_state_46 ?_
      refine lv_ladd hx hb dMD_state_47 ?_
      refine lv_goto (tgt := 54) hx hb dMD_state_48 rfl ?_
      exact q_lret X hlk hr hP hS dMD_state_54 (⟨_, rfl, ⟨f3, f4, f5, f6, f7, f8, f9, f10, f11, f12, f13, f14, f15, f16, f19, f17, f18⟩⟩)
set_option maxHeartbeats 4000000 in
set_option maxRecDepth 100000 in
theorem g_MD_holder (l : Launch) (D : va_G) (tc : Nat → ClassId) (ad : Nat → Nat) (E : Nat → va_E) (th st ic : Int32) (cn : Nat) (A : Nat → Nat → Int32) (J : Nat → Int64) (l1 : Int32) (hM : isMD tc ad E th st ic (nI cn) A J) (hc : cn ≤ 200) : Ct l D tc yMD_holder 1 17 ad E [.ref (ad 0), .int l1] (fun o E2 => ∃ r : Int32, o = .returned (some (.int r)) ∧ isMD tc ad E2 0 st ic (nI cn) A J) := by
  refine Ct.ofW (cc := cMD_holder) (maxL := 2) (ret := (some .int)) (own := R_MD) (by decide) rfl w_629 (Nat.le_of_ble_eq_true rfl) ?_
  intro p e s m args below meth c ls X hlk hr hD hP hS hl
  have hx := X.1
  have hb := X.2.1
  have hl : lv_has ls 2 [(0, .ref (ad 0)), (1, .int l1)] := hl
  have hM0 := hM
  obtain ⟨m0, m1, m2, m3, m4, m5, m6, m7, m8, m9, m10, m11, m12, m13, m14, m15, m16⟩ := hM
  refine lv_aload_n hx hb dMD_holder_0 rfl (lv_at hl 0 rfl) ?_
  refine lv_iconst (v := 0) hx hb dMD_holder_1 (by decide) ?_
  refine p_MD_63 X hD hP hS (by omega) (m0) rfl rfl (Nat.le_of_ble_eq_true rfl) dMD_holder_2 (fun H locs hD hP hS => ?_)
  have hP : va_P D vwCl (wW 17 ad (va_up E 0 (.inr (7, [.int 0, .int st, .int ic, .ref (ad 1), .ref (ad 2), .ref (ad 3), .ref (ad 4), .ref (ad 5), .ref (ad 6), .ref (ad 7), .ref (ad 8), .ref (ad 9), .int (nI cn), .ref (ad 10), .ref (ad 11), .ref (ad 12), .ref (ad 13), .ref (ad 14), .ref (ad 15), .ref (ad 16)])))) H := hP
  have hD : va_D (Aw 17 ad) (wW 17 ad (va_up E 0 (.inr (7, [.int 0, .int st, .int ic, .ref (ad 1), .ref (ad 2), .ref (ad 3), .ref (ad 4), .ref (ad 5), .ref (ad 6), .ref (ad 7), .ref (ad 8), .ref (ad 9), .int (nI cn), .ref (ad 10), .ref (ad 11), .ref (ad 12), .ref (ad 13), .ref (ad 14), .ref (ad 15), .ref (ad 16)])))) := hD
  generalize g2 : va_up E 0 (.inr (7, [.int 0, .int st, .int ic, .ref (ad 1), .ref (ad 2), .ref (ad 3), .ref (ad 4), .ref (ad 5), .ref (ad 6), .ref (ad 7), .ref (ad 8), .ref (ad 9), .int (nI cn), .ref (ad 10), .ref (ad 11), .ref (ad 12), .ref (ad 13), .ref (ad 14), .ref (ad 15), .ref (ad 16)])) = E1 at hD hP
  have f3 : E1 0 = .inr (7, [.int 0, .int st, .int ic, .ref (ad 1), .ref (ad 2), .ref (ad 3), .ref (ad 4), .ref (ad 5), .ref (ad 6), .ref (ad 7), .ref (ad 8), .ref (ad 9), .int (nI cn), .ref (ad 10), .ref (ad 11), .ref (ad 12), .ref (ad 13), .ref (ad 14), .ref (ad 15), .ref (ad 16)]) := by rw [← g2]; exact va_up_self _ _ _
  have f4 : E1 1 = .inl (tc 0, 5, .inl (A 1)) := by rw [← g2, va_up_ne _ _ (by omega)]; exact m1
  have f5 : E1 2 = .inl (tc 0, 60, .inl (A 2)) := by rw [← g2, va_up_ne _ _ (by omega)]; exact m2
  have f6 : E1 3 = .inl (tc 0, 60, .inl (A 3)) := by rw [← g2, va_up_ne _ _ (by omega)]; exact m3
  have f7 : E1 4 = .inl (tc 0, 60, .inl (A 4)) := by rw [← g2, va_up_ne _ _ (by omega)]; exact m4
  have f8 : E1 5 = .inl (tc 0, 5, .inl (A 5)) := by rw [← g2, va_up_ne _ _ (by omega)]; exact m5
  have f9 : E1 6 = .inl (tc 0, 5, .inl (A 6)) := by rw [← g2, va_up_ne _ _ (by omega)]; exact m6
  have f10 : E1 7 = .inl (tc 0, 5, .inl (A 7)) := by rw [← g2, va_up_ne _ _ (by omega)]; exact m7
  have f11 : E1 8 = .inl (tc 0, 3, .inl (A 8)) := by rw [← g2, va_up_ne _ _ (by omega)]; exact m8
  have f12 : E1 9 = .inl (tc 0, 3, .inl (A 9)) := by rw [← g2, va_up_ne _ _ (by omega)]; exact m9
  have f13 : E1 10 = .inl (tc 0, 200, .inl (A 10)) := by rw [← g2, va_up_ne _ _ (by omega)]; exact m10
  have f14 : E1 11 = .inl (tc 0, 200, .inl (A 11)) := by rw [← g2, va_up_ne _ _ (by omega)]; exact m11
  have f15 : E1 12 = .inl (tc 0, 200, .inl (A 12)) := by rw [← g2, va_up_ne _ _ (by omega)]; exact m12
  have f16 : E1 13 = .inl (tc 2, 200, .inl (A 13)) := by rw [← g2, va_up_ne _ _ (by omega)]; exact m13
  have f17 : E1 15 = .inl (tc 0, 8, .inl (A 15)) := by rw [← g2, va_up_ne _ _ (by omega)]; exact m15
  have f18 : E1 16 = .inl (tc 0, 8, .inl (A 16)) := by rw [← g2, va_up_ne _ _ (by omega)]; exact m16
  have f19 : E1 14 = .inl (tc 1, 800, .inr (.inl J)) := by rw [← g2, va_up_ne _ _ (by omega)]; exact m14
  refine lv_iload_n hx hb dMD_holder_5 rfl (lv_at hl 1 rfl) ?_
  refine lv_iconst (v := 3) hx hb dMD_holder_6 (by decide) ?_
  refine x_iE (f := fun k => 0 + k) (x_runS (As := [.int l1, .int 3]) (rest := []) X (c_MD_within l D tc (fun k => ad (0 + k)) (fun k => E1 (0 + k)) l1 3 (n := 3) (by decide)) rfl rfl (by decide) (by decide) w_551 w_9 w_549 w_550 ry_MD_within (ct_pre X hP hD (fr_lt 0 17 0 (by omega)) (fr_inj 0 0)) ct_blind hl.1 (Nat.le_of_ble_eq_true rfl) dMD_holder_7 ⟨Nat.zero_le _, Nat.zero_le _⟩) hD hP hS (fr_lt 0 17 0 (by omega)) (fr_inj 0 0) (fun H locs hD hP hS => ?_)
  refine lv_if_eq (tgt := 41) hx hb dMD_holder_10 rfl (fun h10 => ?_) (fun h10 => ?_)
  · refine lv_iconst (v := (-1)) hx hb dMD_holder_41 (by decide) ?_
    exact q_iret X hlk hr hP hS dMD_holder_42 (⟨_, rfl, ⟨f3, f4, f5, f6, f7, f8, f9, f10, f11, f12, f13, f14, f15, f16, f19, f17, f18⟩⟩)
  · obtain ⟨j, hj, rfl⟩ := wi_of (n := 3) (by decide) (bi_t h10)
    refine lv_aload_n hx hb dMD_holder_13 rfl (lv_at hl 0 rfl) ?_
    refine g_MD_31 X hP (by omega) (f3) rfl dMD_holder_14 ?_
    refine lv_iload_n hx hb dMD_holder_17 rfl (lv_at hl 1 rfl) ?_
    refine q_iald j X hP (by omega) (f11) (rfl) (by omega) (by decide) dMD_holder_18 ?_
    refine lv_if_lt (tgt := 41) hx hb dMD_holder_19 rfl (fun h19 => ?_) (fun h19 => ?_)
    · refine lv_iconst (v := (-1)) hx hb dMD_holder_41 (by decide) ?_
      exact q_iret X hlk hr hP hS dMD_holder_42 (⟨_, rfl, ⟨f3, f4, f5, f6, f7, f8, f9, f10, f11, f12, f13, f14, f15, f16, f19, f17, f18⟩⟩)
    · refine lv_aload_n hx hb dMD_holder_22 rfl (lv_at hl 0 rfl) ?_
      refine g_MD_31 X hP (by omega) (f3) rfl dMD_holder_23 ?_
      refine lv_iload_n hx hb dMD_holder_26 rfl (lv_at hl 1 rfl) ?_
      refine q_iald j X hP (by omega) (f11) (rfl) (by omega) (by decide) dMD_holder_27 ?_
      refine lv_bipush (v := 8) hx hb dMD_holder_28 (by decide) ?_
      refine lv_aload_n hx hb dMD_holder_30 rfl (lv_at hl 0 rfl) ?_
      refine g_MD_34 X hP (by omega) (f3) rfl dMD_holder_31 ?_
      refine lv_iload_n hx hb dMD_holder_34 rfl (lv_at hl 1 rfl) ?_
      refine q_iald j X hP (by omega) (f12) (rfl) (by omega) (by decide) dMD_holder_35 ?_
      refine lv_imul hx hb dMD_holder_36 ?_
      refine lv_iadd hx hb dMD_holder_37 ?_
      refine lv_goto (tgt := 42) hx hb dMD_holder_38 rfl ?_
      exact q_iret X hlk hr hP hS dMD_holder_42 (⟨_, rfl, ⟨f3, f4, f5, f6, f7, f8, f9, f10, f11, f12, f13, f14, f15, f16, f19, f17, f18⟩⟩)
set_option maxHeartbeats 4000000 in
set_option maxRecDepth 100000 in
theorem g_MD_events (l : Launch) (D : va_G) (tc : Nat → ClassId) (ad : Nat → Nat) (E : Nat → va_E) (th st ic : Int32) (cn : Nat) (A : Nat → Nat → Int32) (J : Nat → Int64) (hM : isMD tc ad E th st ic (nI cn) A J) (hc : cn ≤ 200) : Ct l D tc yMD_events 0 17 ad E [.ref (ad 0)] (fun o E2 => ∃ r : Int32, o = .returned (some (.int r)) ∧ isMD tc ad E2 0 st ic (nI cn) A J) := by
  refine Ct.ofW (cc := cMD_events) (maxL := 1) (ret := (some .int)) (own := R_MD) (by decide) rfl w_633 (Nat.le_of_ble_eq_true rfl) ?_
  intro p e s m args below meth c ls X hlk hr hD hP hS hl
  have hx := X.1
  have hb := X.2.1
  have hl : lv_has ls 1 [(0, .ref (ad 0))] := hl
  have hM0 := hM
  obtain ⟨m0, m1, m2, m3, m4, m5, m6, m7, m8, m9, m10, m11, m12, m13, m14, m15, m16⟩ := hM
  refine lv_aload_n hx hb dMD_events_0 rfl (lv_at hl 0 rfl) ?_
  refine lv_iconst (v := 0) hx hb dMD_events_1 (by decide) ?_
  refine p_MD_63 X hD hP hS (by omega) (m0) rfl rfl (Nat.le_of_ble_eq_true rfl) dMD_events_2 (fun H locs hD hP hS => ?_)
  have hP : va_P D vwCl (wW 17 ad (va_up E 0 (.inr (7, [.int 0, .int st, .int ic, .ref (ad 1), .ref (ad 2), .ref (ad 3), .ref (ad 4), .ref (ad 5), .ref (ad 6), .ref (ad 7), .ref (ad 8), .ref (ad 9), .int (nI cn), .ref (ad 10), .ref (ad 11), .ref (ad 12), .ref (ad 13), .ref (ad 14), .ref (ad 15), .ref (ad 16)])))) H := hP
  have hD : va_D (Aw 17 ad) (wW 17 ad (va_up E 0 (.inr (7, [.int 0, .int st, .int ic, .ref (ad 1), .ref (ad 2), .ref (ad 3), .ref (ad 4), .ref (ad 5), .ref (ad 6), .ref (ad 7), .ref (ad 8), .ref (ad 9), .int (nI cn), .ref (ad 10), .ref (ad 11), .ref (ad 12), .ref (ad 13), .ref (ad 14), .ref (ad 15), .ref (ad 16)])))) := hD
  generalize g2 : va_up E 0 (.inr (7, [.int 0, .int st, .int ic, .ref (ad 1), .ref (ad 2), .ref (ad 3), .ref (ad 4), .ref (ad 5), .ref (ad 6), .ref (ad 7), .ref (ad 8), .ref (ad 9), .int (nI cn), .ref (ad 10), .ref (ad 11), .ref (ad 12), .ref (ad 13), .ref (ad 14), .ref (ad 15), .ref (ad 16)])) = E1 at hD hP
  have f3 : E1 0 = .inr (7, [.int 0, .int st, .int ic, .ref (ad 1), .ref (ad 2), .ref (ad 3), .ref (ad 4), .ref (ad 5), .ref (ad 6), .ref (ad 7), .ref (ad 8), .ref (ad 9), .int (nI cn), .ref (ad 10), .ref (ad 11), .ref (ad 12), .ref (ad 13), .ref (ad 14), .ref (ad 15), .ref (ad 16)]) := by rw [← g2]; exact va_up_self _ _ _
  have f4 : E1 1 = .inl (tc 0, 5, .inl (A 1)) := by rw [← g2, va_up_ne _ _ (by omega)]; exact m1
  have f5 : E1 2 = .inl (tc 0, 60, .inl (A 2)) := by rw [← g2, va_up_ne _ _ (by omega)]; exact m2
  have f6 : E1 3 = .inl (tc 0, 60, .inl (A 3)) := by rw [← g2, va_up_ne _ _ (by omega)]; exact m3
  have f7 : E1 4 = .inl (tc 0, 60, .inl (A 4)) := by rw [← g2, va_up_ne _ _ (by omega)]; exact m4
  have f8 : E1 5 = .inl (tc 0, 5, .inl (A 5)) := by rw [← g2, va_up_ne _ _ (by omega)]; exact m5
  have f9 : E1 6 = .inl (tc 0, 5, .inl (A 6)) := by rw [← g2, va_up_ne _ _ (by omega)]; exact m6
  have f10 : E1 7 = .inl (tc 0, 5, .inl (A 7)) := by rw [← g2, va_up_ne _ _ (by omega)]; exact m7
  have f11 : E1 8 = .inl (tc 0, 3, .inl (A 8)) := by rw [← g2, va_up_ne _ _ (by omega)]; exact m8
  have f12 : E1 9 = .inl (tc 0, 3, .inl (A 9)) := by rw [← g2, va_up_ne _ _ (by omega)]; exact m9
  have f13 : E1 10 = .inl (tc 0, 200, .inl (A 10)) := by rw [← g2, va_up_ne _ _ (by omega)]; exact m10
  have f14 : E1 11 = .inl (tc 0, 200, .inl (A 11)) := by rw [← g2, va_up_ne _ _ (by omega)]; exact m11
  have f15 : E1 12 = .inl (tc 0, 200, .inl (A 12)) := by rw [← g2, va_up_ne _ _ (by omega)]; exact m12
  have f16 : E1 13 = .inl (tc 2, 200, .inl (A 13)) := by rw [← g2, va_up_ne _ _ (by omega)]; exact m13
  have f17 : E1 15 = .inl (tc 0, 8, .inl (A 15)) := by rw [← g2, va_up_ne _ _ (by omega)]; exact m15
  have f18 : E1 16 = .inl (tc 0, 8, .inl (A 16)) := by rw [← g2, va_up_ne _ _ (by omega)]; exact m16
  have f19 : E1 14 = .inl (tc 1, 800, .inr (.inl J)) := by rw [← g2, va_up_ne _ _ (by omega)]; exact m14
  refine lv_aload_n hx hb dMD_events_5 rfl (lv_at hl 0 rfl) ?_
  refine g_MD_78 X hP (by omega) (f3) rfl dMD_events_6 ?_
  exact q_iret X hlk hr hP hS dMD_events_9 (⟨_, rfl, ⟨f3, f4, f5, f6, f7, f8, f9, f10, f11, f12, f13, f14, f15, f16, f19, f17, f18⟩⟩)
set_option maxHeartbeats 4000000 in
set_option maxRecDepth 100000 in
theorem g_MD_event (l : Launch) (D : va_G) (tc : Nat → ClassId) (ad : Nat → Nat) (E : Nat → va_E) (th st ic : Int32) (cn : Nat) (A : Nat → Nat → Int32) (J : Nat → Int64) (k : Int32) (hM : isMD tc ad E th st ic (nI cn) A J) (hc : cn ≤ 200) : Ct l D tc yMD_event 1 17 ad E [.ref (ad 0), .int k] (fun o E2 => ∃ r : Int32, o = .returned (some (.int r)) ∧ isMD tc ad E2 0 st ic (nI cn) A J) := by
  refine Ct.ofW (cc := cMD_event) (maxL := 2) (ret := (some .int)) (own := R_MD) (by decide) rfl w_637 (Nat.le_of_ble_eq_true rfl) ?_
  intro p e s m args below meth c ls X hlk hr hD hP hS hl
  have hx := X.1
  have hb := X.2.1
  have hl : lv_has ls 2 [(0, .ref (ad 0)), (1, .int k)] := hl
  have hM0 := hM
  obtain ⟨m0, m1, m2, m3, m4, m5, m6, m7, m8, m9, m10, m11, m12, m13, m14, m15, m16⟩ := hM
  refine lv_aload_n hx hb dMD_event_0 rfl (lv_at hl 0 rfl) ?_
  refine lv_iconst (v := 0) hx hb dMD_event_1 (by decide) ?_
  refine p_MD_63 X hD hP hS (by omega) (m0) rfl rfl (Nat.le_of_ble_eq_true rfl) dMD_event_2 (fun H locs hD hP hS => ?_)
  have hP : va_P D vwCl (wW 17 ad (va_up E 0 (.inr (7, [.int 0, .int st, .int ic, .ref (ad 1), .ref (ad 2), .ref (ad 3), .ref (ad 4), .ref (ad 5), .ref (ad 6), .ref (ad 7), .ref (ad 8), .ref (ad 9), .int (nI cn), .ref (ad 10), .ref (ad 11), .ref (ad 12), .ref (ad 13), .ref (ad 14), .ref (ad 15), .ref (ad 16)])))) H := hP
  have hD : va_D (Aw 17 ad) (wW 17 ad (va_up E 0 (.inr (7, [.int 0, .int st, .int ic, .ref (ad 1), .ref (ad 2), .ref (ad 3), .ref (ad 4), .ref (ad 5), .ref (ad 6), .ref (ad 7), .ref (ad 8), .ref (ad 9), .int (nI cn), .ref (ad 10), .ref (ad 11), .ref (ad 12), .ref (ad 13), .ref (ad 14), .ref (ad 15), .ref (ad 16)])))) := hD
  generalize g2 : va_up E 0 (.inr (7, [.int 0, .int st, .int ic, .ref (ad 1), .ref (ad 2), .ref (ad 3), .ref (ad 4), .ref (ad 5), .ref (ad 6), .ref (ad 7), .ref (ad 8), .ref (ad 9), .int (nI cn), .ref (ad 10), .ref (ad 11), .ref (ad 12), .ref (ad 13), .ref (ad 14), .ref (ad 15), .ref (ad 16)])) = E1 at hD hP
  have f3 : E1 0 = .inr (7, [.int 0, .int st, .int ic, .ref (ad 1), .ref (ad 2), .ref (ad 3), .ref (ad 4), .ref (ad 5), .ref (ad 6), .ref (ad 7), .ref (ad 8), .ref (ad 9), .int (nI cn), .ref (ad 10), .ref (ad 11), .ref (ad 12), .ref (ad 13), .ref (ad 14), .ref (ad 15), .ref (ad 16)]) := by rw [← g2]; exact va_up_self _ _ _
  have f4 : E1 1 = .inl (tc 0, 5, .inl (A 1)) := by rw [← g2, va_up_ne _ _ (by omega)]; exact m1
  have f5 : E1 2 = .inl (tc 0, 60, .inl (A 2)) := by rw [← g2, va_up_ne _ _ (by omega)]; exact m2
  have f6 : E1 3 = .inl (tc 0, 60, .inl (A 3)) := by rw [← g2, va_up_ne _ _ (by omega)]; exact m3
  have f7 : E1 4 = .inl (tc 0, 60, .inl (A 4)) := by rw [← g2, va_up_ne _ _ (by omega)]; exact m4
  have f8 : E1 5 = .inl (tc 0, 5, .inl (A 5)) := by rw [← g2, va_up_ne _ _ (by omega)]; exact m5
  have f9 : E1 6 = .inl (tc 0, 5, .inl (A 6)) := by rw [← g2, va_up_ne _ _ (by omega)]; exact m6
  have f10 : E1 7 = .inl (tc 0, 5, .inl (A 7)) := by rw [← g2, va_up_ne _ _ (by omega)]; exact m7
  have f11 : E1 8 = .inl (tc 0, 3, .inl (A 8)) := by rw [← g2, va_up_ne _ _ (by omega)]; exact m8
  have f12 : E1 9 = .inl (tc 0, 3, .inl (A 9)) := by rw [← g2, va_up_ne _ _ (by omega)]; exact m9
  have f13 : E1 10 = .inl (tc 0, 200, .inl (A 10)) := by rw [← g2, va_up_ne _ _ (by omega)]; exact m10
  have f14 : E1 11 = .inl (tc 0, 200, .inl (A 11)) := by rw [← g2, va_up_ne _ _ (by omega)]; exact m11
  have f15 : E1 12 = .inl (tc 0, 200, .inl (A 12)) := by rw [← g2, va_up_ne _ _ (by omega)]; exact m12
  have f16 : E1 13 = .inl (tc 2, 200, .inl (A 13)) := by rw [← g2, va_up_ne _ _ (by omega)]; exact m13
  have f17 : E1 15 = .inl (tc 0, 8, .inl (A 15)) := by rw [← g2, va_up_ne _ _ (by omega)]; exact m15
  have f18 : E1 16 = .inl (tc 0, 8, .inl (A 16)) := by rw [← g2, va_up_ne _ _ (by omega)]; exact m16
  have f19 : E1 14 = .inl (tc 1, 800, .inr (.inl J)) := by rw [← g2, va_up_ne _ _ (by omega)]; exact m14
  refine lv_iload_n hx hb dMD_event_5 rfl (lv_at hl 1 rfl) ?_
  refine lv_aload_n hx hb dMD_event_6 rfl (lv_at hl 0 rfl) ?_
  refine g_MD_78 X hP (by omega) (f3) rfl dMD_event_7 ?_
  refine x_iE (f := fun k => 0 + k) (x_runS (As := [.int k, .int (nI cn)]) (rest := []) X (c_MD_within l D tc (fun k => ad (0 + k)) (fun k => E1 (0 + k)) k (nI cn) (n := cn) (nI_toInt (by omega))) rfl rfl (by decide) (by decide) w_551 w_9 w_549 w_550 ry_MD_within (ct_pre X hP hD (fr_lt 0 17 0 (by omega)) (fr_inj 0 0)) ct_blind hl.1 (Nat.le_of_ble_eq_true rfl) dMD_event_10 ⟨Nat.zero_le _, Nat.zero_le _⟩) hD hP hS (fr_lt 0 17 0 (by omega)) (fr_inj 0 0) (fun H locs hD hP hS => ?_)
  refine lv_if_eq (tgt := 46) hx hb dMD_event_13 rfl (fun h13 => ?_) (fun h13 => ?_)
  · refine lv_iconst (v := (-1)) hx hb dMD_event_46 (by decide) ?_
    exact q_iret X hlk hr hP hS dMD_event_47 (⟨_, rfl, ⟨f3, f4, f5, f6, f7, f8, f9, f10, f11, f12, f13, f14, f15, f16, f19, f17, f18⟩⟩)
  · obtain ⟨j, hj, rfl⟩ := wi_of (n := cn) (by omega) (bi_t h13)
    refine lv_aload_n hx hb dMD_event_16 rfl (lv_at hl 0 rfl) ?_
    refine g_MD_37 X hP (by omega) (f3) rfl dMD_event_17 ?_
    refine lv_iload_n hx hb dMD_event_20 rfl (lv_at hl 1 rfl) ?_
    refine q_iald j X hP (by omega) (f13) (rfl) (by omega) (by decide) dMD_event_21 ?_
    refine lv_bipush (v := 8) hx hb dMD_event_22 (by decide) ?_
    refine lv_aload_n hx hb dMD_event_24 rfl (lv_at hl 0 rfl) ?_
    refine g_MD_40 X hP (by omega) (f3) rfl dMD_event_25 ?_
    refine lv_iload_n hx hb dMD_event_28 rfl (lv_at hl 1 rfl) ?_
    refine q_iald j X hP (by omega) (f14) (rfl) (by omega) (by decide) dMD_event_29 ?_
    refine lv_imul hx hb dMD_event_30 ?_
    refine lv_iadd hx hb dMD_event_31 ?_
    refine lv_sipush (v := 128) hx hb dMD_event_32 (by decide) ?_
    refine lv_aload_n hx hb dMD_event_35 rfl (lv_at hl 0 rfl) ?_
    refine g_MD_43 X hP (by omega) (f3) rfl dMD_event_36 ?_
    refine lv_iload_n hx hb dMD_event_39 rfl (lv_at hl 1 rfl) ?_
    refine q_iald j X hP (by omega) (f15) (rfl) (by omega) (by decide) dMD_event_40 ?_
    refine lv_imul hx hb dMD_event_41 ?_
    refine lv_iadd hx hb dMD_event_42 ?_
    refine lv_goto (tgt := 47) hx hb dMD_event_43 rfl ?_
    exact q_iret X hlk hr hP hS dMD_event_47 (⟨_, rfl, ⟨f3, f4, f5, f6, f7, f8, f9, f10, f11, f12, f13, f14, f15, f16, f19, f17, f18⟩⟩)
set_option maxHeartbeats 4000000 in
set_option maxRecDepth 100000 in
theorem g_MD_before (l : Launch) (D : va_G) (tc : Nat → ClassId) (ad : Nat → Nat) (E : Nat → va_E) (th st ic : Int32) (cn : Nat) (A : Nat → Nat → Int32) (J : Nat → Int64) (x y : Int32) (hM : isMD tc ad E th st ic (nI cn) A J) (hc : cn ≤ 200) : Ct l D tc yMD_before 1 17 ad E [.ref (ad 0), .int x, .int y] (fun o E2 => ∃ r : Int32, o = .returned (some (.int r)) ∧ isMD tc ad E2 0 st ic (nI cn) A J) := by
  refine Ct.ofW (cc := cMD_before) (maxL := 3) (ret := (some .boolean)) (own := R_MD) (by decide) rfl w_641 (Nat.le_of_ble_eq_true rfl) ?_
  intro p e s m args below meth c ls X hlk hr hD hP hS hl
  have hx := X.1
  have hb := X.2.1
  have hl : lv_has ls 3 [(0, .ref (ad 0)), (1, .int x), (2, .int y)] := hl
  have hM0 := hM
  obtain ⟨m0, m1, m2, m3, m4, m5, m6, m7, m8, m9, m10, m11, m12, m13, m14, m15, m16⟩ := hM
  refine lv_aload_n hx hb dMD_before_0 rfl (lv_at hl 0 rfl) ?_
  refine lv_iconst (v := 0) hx hb dMD_before_1 (by decide) ?_
  refine p_MD_63 X hD hP hS (by omega) (m0) rfl rfl (Nat.le_of_ble_eq_true rfl) dMD_before_2 (fun H locs hD hP hS => ?_)
  have hP : va_P D vwCl (wW 17 ad (va_up E 0 (.inr (7, [.int 0, .int st, .int ic, .ref (ad 1), .ref (ad 2), .ref (ad 3), .ref (ad 4), .ref (ad 5), .ref (ad 6), .ref (ad 7), .ref (ad 8), .ref (ad 9), .int (nI cn), .ref (ad 10), .ref (ad 11), .ref (ad 12), .ref (ad 13), .ref (ad 14), .ref (ad 15), .ref (ad 16)])))) H := hP
  have hD : va_D (Aw 17 ad) (wW 17 ad (va_up E 0 (.inr (7, [.int 0, .int st, .int ic, .ref (ad 1), .ref (ad 2), .ref (ad 3), .ref (ad 4), .ref (ad 5), .ref (ad 6), .ref (ad 7), .ref (ad 8), .ref (ad 9), .int (nI cn), .ref (ad 10), .ref (ad 11), .ref (ad 12), .ref (ad 13), .ref (ad 14), .ref (ad 15), .ref (ad 16)])))) := hD
  generalize g2 : va_up E 0 (.inr (7, [.int 0, .int st, .int ic, .ref (ad 1), .ref (ad 2), .ref (ad 3), .ref (ad 4), .ref (ad 5), .ref (ad 6), .ref (ad 7), .ref (ad 8), .ref (ad 9), .int (nI cn), .ref (ad 10), .ref (ad 11), .ref (ad 12), .ref (ad 13), .ref (ad 14), .ref (ad 15), .ref (ad 16)])) = E1 at hD hP
  have f3 : E1 0 = .inr (7, [.int 0, .int st, .int ic, .ref (ad 1), .ref (ad 2), .ref (ad 3), .ref (ad 4), .ref (ad 5), .ref (ad 6), .ref (ad 7), .ref (ad 8), .ref (ad 9), .int (nI cn), .ref (ad 10), .ref (ad 11), .ref (ad 12), .ref (ad 13), .ref (ad 14), .ref (ad 15), .ref (ad 16)]) := by rw [← g2]; exact va_up_self _ _ _
  have f4 : E1 1 = .inl (tc 0, 5, .inl (A 1)) := by rw [← g2, va_up_ne _ _ (by omega)]; exact m1
  have f5 : E1 2 = .inl (tc 0, 60, .inl (A 2)) := by rw [← g2, va_up_ne _ _ (by omega)]; exact m2
  have f6 : E1 3 = .inl (tc 0, 60, .inl (A 3)) := by rw [← g2, va_up_ne _ _ (by omega)]; exact m3
  have f7 : E1 4 = .inl (tc 0, 60, .inl (A 4)) := by rw [← g2, va_up_ne _ _ (by omega)]; exact m4
  have f8 : E1 5 = .inl (tc 0, 5, .inl (A 5)) := by rw [← g2, va_up_ne _ _ (by omega)]; exact m5
  have f9 : E1 6 = .inl (tc 0, 5, .inl (A 6)) := by rw [← g2, va_up_ne _ _ (by omega)]; exact m6
  have f10 : E1 7 = .inl (tc 0, 5, .inl (A 7)) := by rw [← g2, va_up_ne _ _ (by omega)]; exact m7
  have f11 : E1 8 = .inl (tc 0, 3, .inl (A 8)) := by rw [← g2, va_up_ne _ _ (by omega)]; exact m8
  have f12 : E1 9 = .inl (tc 0, 3, .inl (A 9)) := by rw [← g2, va_up_ne _ _ (by omega)]; exact m9
  have f13 : E1 10 = .inl (tc 0, 200, .inl (A 10)) := by rw [← g2, va_up_ne _ _ (by omega)]; exact m10
  have f14 : E1 11 = .inl (tc 0, 200, .inl (A 11)) := by rw [← g2, va_up_ne _ _ (by omega)]; exact m11
  have f15 : E1 12 = .inl (tc 0, 200, .inl (A 12)) := by rw [← g2, va_up_ne _ _ (by omega)]; exact m12
  have f16 : E1 13 = .inl (tc 2, 200, .inl (A 13)) := by rw [← g2, va_up_ne _ _ (by omega)]; exact m13
  have f17 : E1 15 = .inl (tc 0, 8, .inl (A 15)) := by rw [← g2, va_up_ne _ _ (by omega)]; exact m15
  have f18 : E1 16 = .inl (tc 0, 8, .inl (A 16)) := by rw [← g2, va_up_ne _ _ (by omega)]; exact m16
  have f19 : E1 14 = .inl (tc 1, 800, .inr (.inl J)) := by rw [← g2, va_up_ne _ _ (by omega)]; exact m14
  refine lv_iload_n hx hb dMD_before_5 rfl (lv_at hl 1 rfl) ?_
  refine lv_aload_n hx hb dMD_before_6 rfl (lv_at hl 0 rfl) ?_
  refine g_MD_78 X hP (by omega) (f3) rfl dMD_before_7 ?_
  refine x_iE (f := fun k => 0 + k) (x_runS (As := [.int x, .int (nI cn)]) (rest := []) X (c_MD_within l D tc (fun k => ad (0 + k)) (fun k => E1 (0 + k)) x (nI cn) (n := cn) (nI_toInt (by omega))) rfl rfl (by decide) (by decide) w_551 w_9 w_549 w_550 ry_MD_within (ct_pre X hP hD (fr_lt 0 17 0 (by omega)) (fr_inj 0 0)) ct_blind hl.1 (Nat.le_of_ble_eq_true rfl) dMD_before_10 ⟨Nat.zero_le _, Nat.zero_le _⟩) hD hP hS (fr_lt 0 17 0 (by omega)) (fr_inj 0 0) (fun H locs hD hP hS => ?_)
  refine lv_if_eq (tgt := 40) hx hb dMD_before_13 rfl (fun h13 => ?_) (fun h13 => ?_)
  · refine lv_iconst (v := 0) hx hb dMD_before_40 (by decide) ?_
    exact q_zret X hlk hr (by decide) hP hS dMD_before_41 (⟨_, rfl, ⟨f3, f4, f5, f6, f7, f8, f9, f10, f11, f12, f13, f14, f15, f16, f19, f17, f18⟩⟩)
  · obtain ⟨i, hi, rfl⟩ := wi_of (n := cn) (by omega) (bi_t h13)
    refine lv_iload_n hx hb dMD_before_16 rfl (lv_at hl 2 rfl) ?_
    refine lv_aload_n hx hb dMD_before_17 rfl (lv_at hl 0 rfl) ?_
    refine g_MD_78 X hP (by omega) (f3) rfl dMD_before_18 ?_
    refine x_iE (f := fun k => 0 + k) (x_runS (As := [.int y, .int (nI cn)]) (rest := []) X (c_MD_within l D tc (fun k => ad (0 + k)) (fun k => E1 (0 + k)) y (nI cn) (n := cn) (nI_toInt (by omega))) rfl rfl (by decide) (by decide) w_551 w_9 w_549 w_550 ry_MD_within (ct_pre X hP hD (fr_lt 0 17 0 (by omega)) (fr_inj 0 0)) ct_blind hl.1 (Nat.le_of_ble_eq_true rfl) dMD_before_21 ⟨Nat.zero_le _, Nat.zero_le _⟩) hD hP hS (fr_lt 0 17 0 (by omega)) (fr_inj 0 0) (fun H locs hD hP hS => ?_)
    refine lv_if_eq (tgt := 40) hx hb dMD_before_24 rfl (fun h24 => ?_) (fun h24 => ?_)
    · refine lv_iconst (v := 0) hx hb dMD_before_40 (by decide) ?_
      exact q_zret X hlk hr (by decide) hP hS dMD_before_41 (⟨_, rfl, ⟨f3, f4, f5, f6, f7, f8, f9, f10, f11, f12, f13, f14, f15, f16, f19, f17, f18⟩⟩)
    · obtain ⟨j, hj, rfl⟩ := wi_of (n := cn) (by omega) (bi_t h24)
      refine lv_aload_n hx hb dMD_before_27 rfl (lv_at hl 0 rfl) ?_
      refine lv_iload_n hx hb dMD_before_28 rfl (lv_at hl 1 rfl) ?_
      refine lv_iload_n hx hb dMD_before_29 rfl (lv_at hl 2 rfl) ?_
      refine x_iX (f := fun k => 0 + k) (x_runV (C := R_MD) (As := [.int (nI i), .int (nI j)]) (rest := []) X (g_MD_isBefore l D tc (fun k => ad (0 + k)) (fun k => E1 (0 + k)) 0 st ic cn A J i j (by simpa only [Nat.zero_add] using (show isMD tc ad E1 0 st ic (nI cn) A J from ⟨f3, f4, f5, f6, f7, f8, f9, f10, f11, f12, f13, f14, f15, f16, f19, f17, f18⟩)) (by omega) (by omega)) rfl rfl (by decide) (by decide) w_615 w_9 w_612 w_614 sel_MD_isBefore ry_MD_isBefore (x_recv X hP (by omega) (f3) rfl) (ct_pre X hP hD (fr_lt 17 17 0 (by omega)) (fr_inj 17 0)) ct_blind hl.1 (Nat.le_of_ble_eq_true rfl) dMD_before_30 ⟨Nat.zero_le _, Nat.zero_le _⟩) hD hP hS (fr_lt 17 17 0 (by omega)) (fr_inj 17 0) (fun z H locs hz hD hP hS => ?_)
      refine lv_if_eq (tgt := 40) hx hb dMD_before_33 rfl (fun h33 => ?_) (fun h33 => ?_)
      · refine lv_iconst (v := 0) hx hb dMD_before_40 (by decide) ?_
        exact q_zret X hlk hr (by decide) hP hS dMD_before_41 (⟨_, rfl, ⟨f3, f4, f5, f6, f7, f8, f9, f10, f11, f12, f13, f14, f15, f16, f19, f17, f18⟩⟩)
      · refine lv_iconst (v := 1) hx hb dMD_before_36 (by decide) ?_
        refine lv_goto (tgt := 41) hx hb dMD_before_37 rfl ?_
        exact q_zret X hlk hr (by decide) hP hS dMD_before_41 (⟨_, rfl, ⟨f3, f4, f5, f6, f7, f8, f9, f10, f11, f12, f13, f14, f15, f16, f19, f17, f18⟩⟩)
set_option maxHeartbeats 4000000 in
set_option maxRecDepth 100000 in
theorem g_MD_race (l : Launch) (D : va_G) (tc : Nat → ClassId) (ad : Nat → Nat) (E : Nat → va_E) (th st ic : Int32) (cn : Nat) (A : Nat → Nat → Int32) (J : Nat → Int64) (p1 : Int32) (hM : isMD tc ad E th st ic (nI cn) A J) (hc : cn ≤ 200) : Ct l D tc yMD_race 1 17 ad E [.ref (ad 0), .int p1] (fun o E2 => ∃ r : Int32, o = .returned (some (.int r)) ∧ isMD tc ad E2 0 st ic (nI cn) A J) := by
  refine Ct.ofW (cc := cMD_race) (maxL := 2) (ret := (some .int)) (own := R_MD) (by decide) rfl w_645 (Nat.le_of_ble_eq_true rfl) ?_
  intro p e s m args below meth c ls X hlk hr hD hP hS hl
  have hx := X.1
  have hb := X.2.1
  have hl : lv_has ls 2 [(0, .ref (ad 0)), (1, .int p1)] := hl
  have hM0 := hM
  obtain ⟨m0, m1, m2, m3, m4, m5, m6, m7, m8, m9, m10, m11, m12, m13, m14, m15, m16⟩ := hM
  refine lv_aload_n hx hb dMD_race_0 rfl (lv_at hl 0 rfl) ?_
  refine lv_iconst (v := 0) hx hb dMD_race_1 (by decide) ?_
  refine p_MD_63 X hD hP hS (by omega) (m0) rfl rfl (Nat.le_of_ble_eq_true rfl) dMD_race_2 (fun H locs hD hP hS => ?_)
  have hP : va_P D vwCl (wW 17 ad (va_up E 0 (.inr (7, [.int 0, .int st, .int ic, .ref (ad 1), .ref (ad 2), .ref (ad 3), .ref (ad 4), .ref (ad 5), .ref (ad 6), .ref (ad 7), .ref (ad 8), .ref (ad 9), .int (nI cn), .ref (ad 10), .ref (ad 11), .ref (ad 12), .ref (ad 13), .ref (ad 14), .ref (ad 15), .ref (ad 16)])))) H := hP
  have hD : va_D (Aw 17 ad) (wW 17 ad (va_up E 0 (.inr (7, [.int 0, .int st, .int ic, .ref (ad 1), .ref (ad 2), .ref (ad 3), .ref (ad 4), .ref (ad 5), .ref (ad 6), .ref (ad 7), .ref (ad 8), .ref (ad 9), .int (nI cn), .ref (ad 10), .ref (ad 11), .ref (ad 12), .ref (ad 13), .ref (ad 14), .ref (ad 15), .ref (ad 16)])))) := hD
  generalize g2 : va_up E 0 (.inr (7, [.int 0, .int st, .int ic, .ref (ad 1), .ref (ad 2), .ref (ad 3), .ref (ad 4), .ref (ad 5), .ref (ad 6), .ref (ad 7), .ref (ad 8), .ref (ad 9), .int (nI cn), .ref (ad 10), .ref (ad 11), .ref (ad 12), .ref (ad 13), .ref (ad 14), .ref (ad 15), .ref (ad 16)])) = E1 at hD hP
  have f3 : E1 0 = .inr (7, [.int 0, .int st, .int ic, .ref (ad 1), .ref (ad 2), .ref (ad 3), .ref (ad 4), .ref (ad 5), .ref (ad 6), .ref (ad 7), .ref (ad 8), .ref (ad 9), .int (nI cn), .ref (ad 10), .ref (ad 11), .ref (ad 12), .ref (ad 13), .ref (ad 14), .ref (ad 15), .ref (ad 16)]) := by rw [← g2]; exact va_up_self _ _ _
  have f4 : E1 1 = .inl (tc 0, 5, .inl (A 1)) := by rw [← g2, va_up_ne _ _ (by omega)]; exact m1
  have f5 : E1 2 = .inl (tc 0, 60, .inl (A 2)) := by rw [← g2, va_up_ne _ _ (by omega)]; exact m2
  have f6 : E1 3 = .inl (tc 0, 60, .inl (A 3)) := by rw [← g2, va_up_ne _ _ (by omega)]; exact m3
  have f7 : E1 4 = .inl (tc 0, 60, .inl (A 4)) := by rw [← g2, va_up_ne _ _ (by omega)]; exact m4
  have f8 : E1 5 = .inl (tc 0, 5, .inl (A 5)) := by rw [← g2, va_up_ne _ _ (by omega)]; exact m5
  have f9 : E1 6 = .inl (tc 0, 5, .inl (A 6)) := by rw [← g2, va_up_ne _ _ (by omega)]; exact m6
  have f10 : E1 7 = .inl (tc 0, 5, .inl (A 7)) := by rw [← g2, va_up_ne _ _ (by omega)]; exact m7
  have f11 : E1 8 = .inl (tc 0, 3, .inl (A 8)) := by rw [← g2, va_up_ne _ _ (by omega)]; exact m8
  have f12 : E1 9 = .inl (tc 0, 3, .inl (A 9)) := by rw [← g2, va_up_ne _ _ (by omega)]; exact m9
  have f13 : E1 10 = .inl (tc 0, 200, .inl (A 10)) := by rw [← g2, va_up_ne _ _ (by omega)]; exact m10
  have f14 : E1 11 = .inl (tc 0, 200, .inl (A 11)) := by rw [← g2, va_up_ne _ _ (by omega)]; exact m11
  have f15 : E1 12 = .inl (tc 0, 200, .inl (A 12)) := by rw [← g2, va_up_ne _ _ (by omega)]; exact m12
  have f16 : E1 13 = .inl (tc 2, 200, .inl (A 13)) := by rw [← g2, va_up_ne _ _ (by omega)]; exact m13
  have f17 : E1 15 = .inl (tc 0, 8, .inl (A 15)) := by rw [← g2, va_up_ne _ _ (by omega)]; exact m15
  have f18 : E1 16 = .inl (tc 0, 8, .inl (A 16)) := by rw [← g2, va_up_ne _ _ (by omega)]; exact m16
  have f19 : E1 14 = .inl (tc 1, 800, .inr (.inl J)) := by rw [← g2, va_up_ne _ _ (by omega)]; exact m14
  refine lv_iload_n hx hb dMD_race_5 rfl (lv_at hl 1 rfl) ?_
  refine lv_bipush (v := 8) hx hb dMD_race_6 (by decide) ?_
  refine x_iE (f := fun k => 0 + k) (x_runS (As := [.int p1, .int 8]) (rest := []) X (c_MD_within l D tc (fun k => ad (0 + k)) (fun k => E1 (0 + k)) p1 8 (n := 8) (by decide)) rfl rfl (by decide) (by decide) w_551 w_9 w_549 w_550 ry_MD_within (ct_pre X hP hD (fr_lt 0 17 0 (by omega)) (fr_inj 0 0)) ct_blind hl.1 (Nat.le_of_ble_eq_true rfl) dMD_race_8 ⟨Nat.zero_le _, Nat.zero_le _⟩) hD hP hS (fr_lt 0 17 0 (by omega)) (fr_inj 0 0) (fun H locs hD hP hS => ?_)
  refine lv_if_eq (tgt := 23) hx hb dMD_race_11 rfl (fun h11 => ?_) (fun h11 => ?_)
  · refine lv_iconst (v := (-1)) hx hb dMD_race_23 (by decide) ?_
    exact q_iret X hlk hr hP hS dMD_race_24 (⟨_, rfl, ⟨f3, f4, f5, f6, f7, f8, f9, f10, f11, f12, f13, f14, f15, f16, f19, f17, f18⟩⟩)
  · obtain ⟨j, hj, rfl⟩ := wi_of (n := 8) (by decide) (bi_t h11)
    refine lv_aload_n hx hb dMD_race_14 rfl (lv_at hl 0 rfl) ?_
    refine g_MD_54 X hP (by omega) (f3) rfl dMD_race_15 ?_
    refine lv_iload_n hx hb dMD_race_18 rfl (lv_at hl 1 rfl) ?_
    refine q_iald j X hP (by omega) (f17) (rfl) (by omega) (by decide) dMD_race_19 ?_
    refine lv_goto (tgt := 24) hx hb dMD_race_20 rfl ?_
    exact q_iret X hlk hr hP hS dMD_race_24 (⟨_, rfl, ⟨f3, f4, f5, f6, f7, f8, f9, f10, f11, f12, f13, f14, f15, f16, f19, f17, f18⟩⟩)
set_option maxHeartbeats 4000000 in
set_option maxRecDepth 100000 in
theorem g_MD_partner (l : Launch) (D : va_G) (tc : Nat → ClassId) (ad : Nat → Nat) (E : Nat → va_E) (th st ic : Int32) (cn : Nat) (A : Nat → Nat → Int32) (J : Nat → Int64) (p1 : Int32) (hM : isMD tc ad E th st ic (nI cn) A J) (hc : cn ≤ 200) : Ct l D tc yMD_partner 1 17 ad E [.ref (ad 0), .int p1] (fun o E2 => ∃ r : Int32, o = .returned (some (.int r)) ∧ isMD tc ad E2 0 st ic (nI cn) A J) := by
  refine Ct.ofW (cc := cMD_partner) (maxL := 2) (ret := (some .int)) (own := R_MD) (by decide) rfl w_649 (Nat.le_of_ble_eq_true rfl) ?_
  intro p e s m args below meth c ls X hlk hr hD hP hS hl
  have hx := X.1
  have hb := X.2.1
  have hl : lv_has ls 2 [(0, .ref (ad 0)), (1, .int p1)] := hl
  have hM0 := hM
  obtain ⟨m0, m1, m2, m3, m4, m5, m6, m7, m8, m9, m10, m11, m12, m13, m14, m15, m16⟩ := hM
  refine lv_aload_n hx hb dMD_partner_0 rfl (lv_at hl 0 rfl) ?_
  refine lv_iconst (v := 0) hx hb dMD_partner_1 (by decide) ?_
  refine p_MD_63 X hD hP hS (by omega) (m0) rfl rfl (Nat.le_of_ble_eq_true rfl) dMD_partner_2 (fun H locs hD hP hS => ?_)
  have hP : va_P D vwCl (wW 17 ad (va_up E 0 (.inr (7, [.int 0, .int st, .int ic, .ref (ad 1), .ref (ad 2), .ref (ad 3), .ref (ad 4), .ref (ad 5), .ref (ad 6), .ref (ad 7), .ref (ad 8), .ref (ad 9), .int (nI cn), .ref (ad 10), .ref (ad 11), .ref (ad 12), .ref (ad 13), .ref (ad 14), .ref (ad 15), .ref (ad 16)])))) H := hP
  have hD : va_D (Aw 17 ad) (wW 17 ad (va_up E 0 (.inr (7, [.int 0, .int st, .int ic, .ref (ad 1), .ref (ad 2), .ref (ad 3), .ref (ad 4), .ref (ad 5), .ref (ad 6), .ref (ad 7), .ref (ad 8), .ref (ad 9), .int (nI cn), .ref (ad 10), .ref (ad 11), .ref (ad 12), .ref (ad 13), .ref (ad 14), .ref (ad 15), .ref (ad 16)])))) := hD
  generalize g2 : va_up E 0 (.inr (7, [.int 0, .int st, .int ic, .ref (ad 1), .ref (ad 2), .ref (ad 3), .ref (ad 4), .ref (ad 5), .ref (ad 6), .ref (ad 7), .ref (ad 8), .ref (ad 9), .int (nI cn), .ref (ad 10), .ref (ad 11), .ref (ad 12), .ref (ad 13), .ref (ad 14), .ref (ad 15), .ref (ad 16)])) = E1 at hD hP
  have f3 : E1 0 = .inr (7, [.int 0, .int st, .int ic, .ref (ad 1), .ref (ad 2), .ref (ad 3), .ref (ad 4), .ref (ad 5), .ref (ad 6), .ref (ad 7), .ref (ad 8), .ref (ad 9), .int (nI cn), .ref (ad 10), .ref (ad 11), .ref (ad 12), .ref (ad 13), .ref (ad 14), .ref (ad 15), .ref (ad 16)]) := by rw [← g2]; exact va_up_self _ _ _
  have f4 : E1 1 = .inl (tc 0, 5, .inl (A 1)) := by rw [← g2, va_up_ne _ _ (by omega)]; exact m1
  have f5 : E1 2 = .inl (tc 0, 60, .inl (A 2)) := by rw [← g2, va_up_ne _ _ (by omega)]; exact m2
  have f6 : E1 3 = .inl (tc 0, 60, .inl (A 3)) := by rw [← g2, va_up_ne _ _ (by omega)]; exact m3
  have f7 : E1 4 = .inl (tc 0, 60, .inl (A 4)) := by rw [← g2, va_up_ne _ _ (by omega)]; exact m4
  have f8 : E1 5 = .inl (tc 0, 5, .inl (A 5)) := by rw [← g2, va_up_ne _ _ (by omega)]; exact m5
  have f9 : E1 6 = .inl (tc 0, 5, .inl (A 6)) := by rw [← g2, va_up_ne _ _ (by omega)]; exact m6
  have f10 : E1 7 = .inl (tc 0, 5, .inl (A 7)) := by rw [← g2, va_up_ne _ _ (by omega)]; exact m7
  have f11 : E1 8 = .inl (tc 0, 3, .inl (A 8)) := by rw [← g2, va_up_ne _ _ (by omega)]; exact m8
  have f12 : E1 9 = .inl (tc 0, 3, .inl (A 9)) := by rw [← g2, va_up_ne _ _ (by omega)]; exact m9
  have f13 : E1 10 = .inl (tc 0, 200, .inl (A 10)) := by rw [← g2, va_up_ne _ _ (by omega)]; exact m10
  have f14 : E1 11 = .inl (tc 0, 200, .inl (A 11)) := by rw [← g2, va_up_ne _ _ (by omega)]; exact m11
  have f15 : E1 12 = .inl (tc 0, 200, .inl (A 12)) := by rw [← g2, va_up_ne _ _ (by omega)]; exact m12
  have f16 : E1 13 = .inl (tc 2, 200, .inl (A 13)) := by rw [← g2, va_up_ne _ _ (by omega)]; exact m13
  have f17 : E1 15 = .inl (tc 0, 8, .inl (A 15)) := by rw [← g2, va_up_ne _ _ (by omega)]; exact m15
  have f18 : E1 16 = .inl (tc 0, 8, .inl (A 16)) := by rw [← g2, va_up_ne _ _ (by omega)]; exact m16
  have f19 : E1 14 = .inl (tc 1, 800, .inr (.inl J)) := by rw [← g2, va_up_ne _ _ (by omega)]; exact m14
  refine lv_iload_n hx hb dMD_partner_5 rfl (lv_at hl 1 rfl) ?_
  refine lv_bipush (v := 8) hx hb dMD_partner_6 (by decide) ?_
  refine x_iE (f := fun k => 0 + k) (x_runS (As := [.int p1, .int 8]) (rest := []) X (c_MD_within l D tc (fun k => ad (0 + k)) (fun k => E1 (0 + k)) p1 8 (n := 8) (by decide)) rfl rfl (by decide) (by decide) w_551 w_9 w_549 w_550 ry_MD_within (ct_pre X hP hD (fr_lt 0 17 0 (by omega)) (fr_inj 0 0)) ct_blind hl.1 (Nat.le_of_ble_eq_true rfl) dMD_partner_8 ⟨Nat.zero_le _, Nat.zero_le _⟩) hD hP hS (fr_lt 0 17 0 (by omega)) (fr_inj 0 0) (fun H locs hD hP hS => ?_)
  refine lv_if_eq (tgt := 23) hx hb dMD_partner_11 rfl (fun h11 => ?_) (fun h11 => ?_)
  · refine lv_iconst (v := (-1)) hx hb dMD_partner_23 (by decide) ?_
    exact q_iret X hlk hr hP hS dMD_partner_24 (⟨_, rfl, ⟨f3, f4, f5, f6, f7, f8, f9, f10, f11, f12, f13, f14, f15, f16, f19, f17, f18⟩⟩)
  · obtain ⟨j, hj, rfl⟩ := wi_of (n := 8) (by decide) (bi_t h11)
    refine lv_aload_n hx hb dMD_partner_14 rfl (lv_at hl 0 rfl) ?_
    refine g_MD_57 X hP (by omega) (f3) rfl dMD_partner_15 ?_
    refine lv_iload_n hx hb dMD_partner_18 rfl (lv_at hl 1 rfl) ?_
    refine q_iald j X hP (by omega) (f18) (rfl) (by omega) (by decide) dMD_partner_19 ?_
    refine lv_goto (tgt := 24) hx hb dMD_partner_20 rfl ?_
    exact q_iret X hlk hr hP hS dMD_partner_24 (⟨_, rfl, ⟨f3, f4, f5, f6, f7, f8, f9, f10, f11, f12, f13, f14, f15, f16, f19, f17, f18⟩⟩)
set_option maxHeartbeats 4000000 in
set_option maxRecDepth 100000 in
theorem g_MD_races (l : Launch) (D : va_G) (tc : Nat → ClassId) (ad : Nat → Nat) (E : Nat → va_E) (th st ic : Int32) (cn : Nat) (A : Nat → Nat → Int32) (J : Nat → Int64) (hM : isMD tc ad E th st ic (nI cn) A J) (hc : cn ≤ 200) : Ct l D tc yMD_races 0 17 ad E [.ref (ad 0)] (fun o E2 => ∃ r : Int32, o = .returned (some (.int r)) ∧ isMD tc ad E2 0 st ic (nI cn) A J) := by
  refine Ct.ofW (cc := cMD_races) (maxL := 3) (ret := (some .int)) (own := R_MD) (by decide) rfl w_653 (Nat.le_of_ble_eq_true rfl) ?_
  intro p e s m args below meth c ls X hlk hr hD hP hS hl
  have hx := X.1
  have hb := X.2.1
  have hl : lv_has ls 3 [(0, .ref (ad 0))] := hl
  have hM0 := hM
  obtain ⟨m0, m1, m2, m3, m4, m5, m6, m7, m8, m9, m10, m11, m12, m13, m14, m15, m16⟩ := hM
  refine lv_aload_n hx hb dMD_races_0 rfl (lv_at hl 0 rfl) ?_
  refine lv_iconst (v := 0) hx hb dMD_races_1 (by decide) ?_
  refine p_MD_63 X hD hP hS (by omega) (m0) rfl rfl (Nat.le_of_ble_eq_true rfl) dMD_races_2 (fun H locs hD hP hS => ?_)
  have hP : va_P D vwCl (wW 17 ad (va_up E 0 (.inr (7, [.int 0, .int st, .int ic, .ref (ad 1), .ref (ad 2), .ref (ad 3), .ref (ad 4), .ref (ad 5), .ref (ad 6), .ref (ad 7), .ref (ad 8), .ref (ad 9), .int (nI cn), .ref (ad 10), .ref (ad 11), .ref (ad 12), .ref (ad 13), .ref (ad 14), .ref (ad 15), .ref (ad 16)])))) H := hP
  have hD : va_D (Aw 17 ad) (wW 17 ad (va_up E 0 (.inr (7, [.int 0, .int st, .int ic, .ref (ad 1), .ref (ad 2), .ref (ad 3), .ref (ad 4), .ref (ad 5), .ref (ad 6), .ref (ad 7), .ref (ad 8), .ref (ad 9), .int (nI cn), .ref (ad 10), .ref (ad 11), .ref (ad 12), .ref (ad 13), .ref (ad 14), .ref (ad 15), .ref (ad 16)])))) := hD
  generalize g2 : va_up E 0 (.inr (7, [.int 0, .int st, .int ic, .ref (ad 1), .ref (ad 2), .ref (ad 3), .ref (ad 4), .ref (ad 5), .ref (ad 6), .ref (ad 7), .ref (ad 8), .ref (ad 9), .int (nI cn), .ref (ad 10), .ref (ad 11), .ref (ad 12), .ref (ad 13), .ref (ad 14), .ref (ad 15), .ref (ad 16)])) = E1 at hD hP
  have f3 : E1 0 = .inr (7, [.int 0, .int st, .int ic, .ref (ad 1), .ref (ad 2), .ref (ad 3), .ref (ad 4), .ref (ad 5), .ref (ad 6), .ref (ad 7), .ref (ad 8), .ref (ad 9), .int (nI cn), .ref (ad 10), .ref (ad 11), .ref (ad 12), .ref (ad 13), .ref (ad 14), .ref (ad 15), .ref (ad 16)]) := by rw [← g2]; exact va_up_self _ _ _
  have f4 : E1 1 = .inl (tc 0, 5, .inl (A 1)) := by rw [← g2, va_up_ne _ _ (by omega)]; exact m1
  have f5 : E1 2 = .inl (tc 0, 60, .inl (A 2)) := by rw [← g2, va_up_ne _ _ (by omega)]; exact m2
  have f6 : E1 3 = .inl (tc 0, 60, .inl (A 3)) := by rw [← g2, va_up_ne _ _ (by omega)]; exact m3
  have f7 : E1 4 = .inl (tc 0, 60, .inl (A 4)) := by rw [← g2, va_up_ne _ _ (by omega)]; exact m4
  have f8 : E1 5 = .inl (tc 0, 5, .inl (A 5)) := by rw [← g2, va_up_ne _ _ (by omega)]; exact m5
  have f9 : E1 6 = .inl (tc 0, 5, .inl (A 6)) := by rw [← g2, va_up_ne _ _ (by omega)]; exact m6
  have f10 : E1 7 = .inl (tc 0, 5, .inl (A 7)) := by rw [← g2, va_up_ne _ _ (by omega)]; exact m7
  have f11 : E1 8 = .inl (tc 0, 3, .inl (A 8)) := by rw [← g2, va_up_ne _ _ (by omega)]; exact m8
  have f12 : E1 9 = .inl (tc 0, 3, .inl (A 9)) := by rw [← g2, va_up_ne _ _ (by omega)]; exact m9
  have f13 : E1 10 = .inl (tc 0, 200, .inl (A 10)) := by rw [← g2, va_up_ne _ _ (by omega)]; exact m10
  have f14 : E1 11 = .inl (tc 0, 200, .inl (A 11)) := by rw [← g2, va_up_ne _ _ (by omega)]; exact m11
  have f15 : E1 12 = .inl (tc 0, 200, .inl (A 12)) := by rw [← g2, va_up_ne _ _ (by omega)]; exact m12
  have f16 : E1 13 = .inl (tc 2, 200, .inl (A 13)) := by rw [← g2, va_up_ne _ _ (by omega)]; exact m13
  have f17 : E1 15 = .inl (tc 0, 8, .inl (A 15)) := by rw [← g2, va_up_ne _ _ (by omega)]; exact m15
  have f18 : E1 16 = .inl (tc 0, 8, .inl (A 16)) := by rw [← g2, va_up_ne _ _ (by omega)]; exact m16
  have f19 : E1 14 = .inl (tc 1, 800, .inr (.inl J)) := by rw [← g2, va_up_ne _ _ (by omega)]; exact m14
  refine lv_iconst (v := 0) hx hb dMD_races_5 (by decide) ?_
  refine lv_istore_n hx hb dMD_races_6 rfl hl (by decide) rfl (fun ls hl => ?_)
  have hl : lv_has ls 3 [(1, .int 0), (0, .ref (ad 0))] := hl
  refine lv_iconst (v := 0) hx hb dMD_races_7 (by decide) ?_
  refine lv_istore_n hx hb dMD_races_8 rfl hl (by decide) rfl (fun ls hl => ?_)
  have hl : lv_has ls 3 [(2, .int 0), (1, .int 0), (0, .ref (ad 0))] := hl
  have loop : ∀ (r i : Nat) (sm : Int32) (H : Heap) (locs : List Loc) (ls : Array Slot) (F : Nat → va_E), i + r = 8 → isMD tc ad F 0 st ic (nI cn) A J → va_D (Aw 17 ad) (wW 17 ad F) → va_P D vwCl (wW 17 ad F) H → va_S (Aw 17 ad) s.heap H locs → lv_has ls 3 [(2, .int (nI i)), (1, .int sm), (0, .ref (ad 0))] → W p l e (rmD 0) s m args below meth c H locs 0 0 (XQ below (CtQ D 17 ad (fun o E2 => ∃ r : Int32, o = .returned (some (.int r)) ∧ isMD tc ad E2 0 st ic (nI cn) A J)) args s 0 0 (Aw 17 ad)) (F0 m 9 ls []) := by
    intro r
    induction r with
    | zero =>
      intro i sm H locs ls F hi hM hD hP hS hl
      have hM9 := hM
      obtain ⟨m0, m1, m2, m3, m4, m5, m6, m7, m8, m9, m10, m11, m12, m13, m14, m15, m16⟩ := hM
      refine lv_iload_n hx hb dMD_races_9 rfl (lv_at hl 0 rfl) ?_
      refine lv_bipush (v := 8) hx hb dMD_races_10 (by decide) ?_
      refine lv_icmp_ge (tgt := 38) hx hb dMD_races_12 rfl (fun h12 => ?_) (fun h12 => absurd (nI_le (a := 8) (b := i) (by omega) (by omega)) h12)
      refine lv_iload_n hx hb dMD_races_38 rfl (lv_at hl 1 rfl) ?_
      exact q_iret X hlk hr hP hS dMD_races_39 (⟨_, rfl, hM9⟩)
    | succ r ih =>
      intro i sm H locs ls F hi hM hD hP hS hl
      have hM9 := hM
      obtain ⟨m0, m1, m2, m3, m4, m5, m6, m7, m8, m9, m10, m11, m12, m13, m14, m15, m16⟩ := hM
      refine lv_iload_n hx hb dMD_races_9 rfl (lv_at hl 0 rfl) ?_
      refine lv_bipush (v := 8) hx hb dMD_races_10 (by decide) ?_
      refine lv_icmp_ge (tgt := 38) hx hb dMD_races_12 rfl (fun h12 => absurd h12 (nI_ge (a := i) (b := 8) (by omega) (by omega))) (fun h12 => ?_)
      refine lv_aload_n hx hb dMD_races_15 rfl (lv_at hl 2 rfl) ?_
      refine g_MD_54 X hP (by omega) (m0) rfl dMD_races_16 ?_
      refine lv_iload_n hx hb dMD_races_19 rfl (lv_at hl 0 rfl) ?_
      refine q_iald i X hP (by omega) (m15) (rfl) (by omega) (by decide) dMD_races_20 ?_
      refine lv_if_lt (tgt := 30) hx hb dMD_races_21 rfl (fun h21 => ?_) (fun h21 => ?_)
      · refine lv_iload_n hx hb dMD_races_30 rfl (lv_at hl 1 rfl) ?_
        refine lv_istore_n hx hb dMD_races_31 rfl hl (by decide) rfl (fun ls hl => ?_)
        have hl : lv_has ls 3 [(1, .int sm), (2, .int (nI i)), (0, .ref (ad 0))] := hl
        refine lv_iinc (k := 1) (v := nI (i + 1)) hx hb dMD_races_32 hl rfl (nI_1 i) (by decide) rfl (fun ls hl => ?_)
        have hl : lv_has ls 3 [(2, .int (nI (i + 1))), (1, .int sm), (0, .ref (ad 0))] := hl
        refine lv_goto (tgt := 9) hx hb dMD_races_35 rfl ?_
        exact ih (i + 1) sm _ _ _ _ (by omega) hM9 hD hP hS hl
      · refine lv_iload_n hx hb dMD_races_24 rfl (lv_at hl 1 rfl) ?_
        refine lv_iconst (v := 1) hx hb dMD_races_25 (by decide) ?_
        refine lv_iadd hx hb dMD_races_26 ?_
        refine lv_goto (tgt := 31) hx hb dMD_races_27 rfl ?_
        refine lv_istore_n hx hb dMD_races_31 rfl hl (by decide) rfl (fun ls hl => ?_)
        have hl : lv_has ls 3 [(1, .int (sm + 1)), (2, .int (nI i)), (0, .ref (ad 0))] := hl
        refine lv_iinc (k := 1) (v := nI (i + 1)) hx hb dMD_races_32 hl rfl (nI_1 i) (by decide) rfl (fun ls hl => ?_)
        have hl : lv_has ls 3 [(2, .int (nI (i + 1))), (1, .int (sm + 1)), (0, .ref (ad 0))] := hl
        refine lv_goto (tgt := 9) hx hb dMD_races_35 rfl ?_
        exact ih (i + 1) (sm + 1) _ _ _ _ (by omega) hM9 hD hP hS hl
  exact loop 8 0 0 _ _ _ _ (by omega) ⟨f3, f4, f5, f6, f7, f8, f9, f10, f11, f12, f13, f14, f15, f16, f19, f17, f18⟩ hD hP hS hl
set_option maxHeartbeats 4000000 in
set_option maxRecDepth 100000 in
theorem g_MD_again (l : Launch) (D : va_G) (tc : Nat → ClassId) (ad : Nat → Nat) (E : Nat → va_E) (th st ic : Int32) (cn : Nat) (A : Nat → Nat → Int32) (J : Nat → Int64) (k cb : Int32) (hM : isMD tc ad E th st ic (nI cn) A J) (hc : cn ≤ 200) : Ct l D tc yMD_again 3 17 ad E [.ref (ad 0), .int k, .int cb] (fun o E2 => ∃ r : Int32, o = .returned (some (.int r)) ∧ isMD tc ad E2 0 st ic (nI cn) A J) := by
  refine Ct.ofW (cc := cMD_again) (maxL := 5) (ret := (some .int)) (own := R_MD) (by decide) rfl w_657 (Nat.le_of_ble_eq_true rfl) ?_
  intro p e s m args below meth c ls X hlk hr hD hP hS hl
  have hx := X.1
  have hb := X.2.1
  have hl : lv_has ls 5 [(0, .ref (ad 0)), (1, .int k), (2, .int cb)] := hl
  have hM0 := hM
  obtain ⟨m0, m1, m2, m3, m4, m5, m6, m7, m8, m9, m10, m11, m12, m13, m14, m15, m16⟩ := hM
  refine lv_aload_n hx hb dMD_again_0 rfl (lv_at hl 0 rfl) ?_
  refine lv_iconst (v := 0) hx hb dMD_again_1 (by decide) ?_
  refine p_MD_63 X hD hP hS (by omega) (m0) rfl rfl (Nat.le_of_ble_eq_true rfl) dMD_again_2 (fun H locs hD hP hS => ?_)
  have hP : va_P D vwCl (wW 17 ad (va_up E 0 (.inr (7, [.int 0, .int st, .int ic, .ref (ad 1), .ref (ad 2), .ref (ad 3), .ref (ad 4), .ref (ad 5), .ref (ad 6), .ref (ad 7), .ref (ad 8), .ref (ad 9), .int (nI cn), .ref (ad 10), .ref (ad 11), .ref (ad 12), .ref (ad 13), .ref (ad 14), .ref (ad 15), .ref (ad 16)])))) H := hP
  have hD : va_D (Aw 17 ad) (wW 17 ad (va_up E 0 (.inr (7, [.int 0, .int st, .int ic, .ref (ad 1), .ref (ad 2), .ref (ad 3), .ref (ad 4), .ref (ad 5), .ref (ad 6), .ref (ad 7), .ref (ad 8), .ref (ad 9), .int (nI cn), .ref (ad 10), .ref (ad 11), .ref (ad 12), .ref (ad 13), .ref (ad 14), .ref (ad 15), .ref (ad 16)])))) := hD
  generalize g2 : va_up E 0 (.inr (7, [.int 0, .int st, .int ic, .ref (ad 1), .ref (ad 2), .ref (ad 3), .ref (ad 4), .ref (ad 5), .ref (ad 6), .ref (ad 7), .ref (ad 8), .ref (ad 9), .int (nI cn), .ref (ad 10), .ref (ad 11), .ref (ad 12), .ref (ad 13), .ref (ad 14), .ref (ad 15), .ref (ad 16)])) = E1 at hD hP
  have f3 : E1 0 = .inr (7, [.int 0, .int st, .int ic, .ref (ad 1), .ref (ad 2), .ref (ad 3), .ref (ad 4), .ref (ad 5), .ref (ad 6), .ref (ad 7), .ref (ad 8), .ref (ad 9), .int (nI cn), .ref (ad 10), .ref (ad 11), .ref (ad 12), .ref (ad 13), .ref (ad 14), .ref (ad 15), .ref (ad 16)]) := by rw [← g2]; exact va_up_self _ _ _
  have f4 : E1 1 = .inl (tc 0, 5, .inl (A 1)) := by rw [← g2, va_up_ne _ _ (by omega)]; exact m1
  have f5 : E1 2 = .inl (tc 0, 60, .inl (A 2)) := by rw [← g2, va_up_ne _ _ (by omega)]; exact m2
  have f6 : E1 3 = .inl (tc 0, 60, .inl (A 3)) := by rw [← g2, va_up_ne _ _ (by omega)]; exact m3
  have f7 : E1 4 = .inl (tc 0, 60, .inl (A 4)) := by rw [← g2, va_up_ne _ _ (by omega)]; exact m4
  have f8 : E1 5 = .inl (tc 0, 5, .inl (A 5)) := by rw [← g2, va_up_ne _ _ (by omega)]; exact m5
  have f9 : E1 6 = .inl (tc 0, 5, .inl (A 6)) := by rw [← g2, va_up_ne _ _ (by omega)]; exact m6
  have f10 : E1 7 = .inl (tc 0, 5, .inl (A 7)) := by rw [← g2, va_up_ne _ _ (by omega)]; exact m7
  have f11 : E1 8 = .inl (tc 0, 3, .inl (A 8)) := by rw [← g2, va_up_ne _ _ (by omega)]; exact m8
  have f12 : E1 9 = .inl (tc 0, 3, .inl (A 9)) := by rw [← g2, va_up_ne _ _ (by omega)]; exact m9
  have f13 : E1 10 = .inl (tc 0, 200, .inl (A 10)) := by rw [← g2, va_up_ne _ _ (by omega)]; exact m10
  have f14 : E1 11 = .inl (tc 0, 200, .inl (A 11)) := by rw [← g2, va_up_ne _ _ (by omega)]; exact m11
  have f15 : E1 12 = .inl (tc 0, 200, .inl (A 12)) := by rw [← g2, va_up_ne _ _ (by omega)]; exact m12
  have f16 : E1 13 = .inl (tc 2, 200, .inl (A 13)) := by rw [← g2, va_up_ne _ _ (by omega)]; exact m13
  have f17 : E1 15 = .inl (tc 0, 8, .inl (A 15)) := by rw [← g2, va_up_ne _ _ (by omega)]; exact m15
  have f18 : E1 16 = .inl (tc 0, 8, .inl (A 16)) := by rw [← g2, va_up_ne _ _ (by omega)]; exact m16
  have f19 : E1 14 = .inl (tc 1, 800, .inr (.inl J)) := by rw [← g2, va_up_ne _ _ (by omega)]; exact m14
  refine lv_iload_n hx hb dMD_again_5 rfl (lv_at hl 1 rfl) ?_
  refine lv_if_lt (tgt := 17) hx hb dMD_again_6 rfl (fun h6 => ?_) (fun h6 => ?_)
  · refine lv_iconst (v := (-1)) hx hb dMD_again_17 (by decide) ?_
    exact q_iret X hlk hr hP hS dMD_again_18 (⟨_, rfl, ⟨f3, f4, f5, f6, f7, f8, f9, f10, f11, f12, f13, f14, f15, f16, f19, f17, f18⟩⟩)
  · refine lv_iload_n hx hb dMD_again_9 rfl (lv_at hl 1 rfl) ?_
    refine lv_aload_n hx hb dMD_again_10 rfl (lv_at hl 0 rfl) ?_
    refine g_MD_78 X hP (by omega) (f3) rfl dMD_again_11 ?_
    refine lv_icmp_le (tgt := 19) hx hb dMD_again_14 rfl (fun h14 => ?_) (fun h14 => ?_)
    · refine lv_iconst (v := 0) hx hb dMD_again_19 (by decide) ?_
      refine lv_istore_n hx hb dMD_again_20 rfl hl (by decide) rfl (fun ls hl => ?_)
      have hl : lv_has ls 5 [(3, .int 0), (0, .ref (ad 0)), (1, .int k), (2, .int cb)] := hl
      refine lv_iconst (v := 0) hx hb dMD_again_21 (by decide) ?_
      refine lv_istore hx hb dMD_again_22 hl (by decide) rfl (fun ls hl => ?_)
      have hl : lv_has ls 5 [(4, .int 0), (3, .int 0), (0, .ref (ad 0)), (1, .int k), (2, .int cb)] := hl
      obtain ⟨kk, hkk, rfl⟩ := nI_of2 (nI_toInt (show cn < 2 ^ 31 by omega)) h6 h14
      have loop : ∀ (r i : Nat) (sm : Int32) (H : Heap) (locs : List Loc) (ls : Array Slot) (F : Nat → va_E), i + r = kk → isMD tc ad F 0 st ic (nI cn) A J → va_D (Aw 17 ad) (wW 17 ad F) → va_P D vwCl (wW 17 ad F) H → va_S (Aw 17 ad) s.heap H locs → lv_has ls 5 [(4, .int (nI i)), (3, .int sm), (0, .ref (ad 0)), (1, .int (nI kk)), (2, .int cb)] → W p l e (rmD 3) s m args below meth c H locs 0 0 (XQ below (CtQ D 17 ad (fun o E2 => ∃ r : Int32, o = .returned (some (.int r)) ∧ isMD tc ad E2 0 st ic (nI cn) A J)) args s 0 0 (Aw 17 ad)) (F0 m 24 ls []) := by
        intro r
        induction r with
        | zero =>
          intro i sm H locs ls F hi hM hD hP hS hl
          have hM9 := hM
          obtain ⟨m0, m1, m2, m3, m4, m5, m6, m7, m8, m9, m10, m11, m12, m13, m14, m15, m16⟩ := hM
          refine lv_iload hx hb dMD_again_24 (lv_at hl 0 rfl) ?_
          refine lv_iload_n hx hb dMD_again_26 rfl (lv_at hl 3 rfl) ?_
          refine lv_icmp_ge (tgt := 81) hx hb dMD_again_27 rfl (fun h27 => ?_) (fun h27 => absurd (nI_le (by omega) (by omega)) h27)
          refine lv_iload_n hx hb dMD_again_81 rfl (lv_at hl 1 rfl) ?_
          exact q_iret X hlk hr hP hS dMD_again_82 (⟨_, rfl, ⟨m0, m1, m2, m3, m4, m5, m6, m7, m8, m9, m10, m11, m12, m13, m14, m15, m16⟩⟩)
        | succ r ih =>
          intro i sm H locs ls F hi hM hD hP hS hl
          have hM9 := hM
          obtain ⟨m0, m1, m2, m3, m4, m5, m6, m7, m8, m9, m10, m11, m12, m13, m14, m15, m16⟩ := hM
          refine lv_iload hx hb dMD_again_24 (lv_at hl 0 rfl) ?_
          refine lv_iload_n hx hb dMD_again_26 rfl (lv_at hl 3 rfl) ?_
          refine lv_icmp_ge (tgt := 81) hx hb dMD_again_27 rfl (fun h27 => absurd h27 (nI_ge (by omega) (by omega))) (fun h27 => ?_)
          refine lv_aload_n hx hb dMD_again_30 rfl (lv_at hl 2 rfl) ?_
          refine lv_iload hx hb dMD_again_31 (lv_at hl 0 rfl) ?_
          refine x_iX (f := fun k => 0 + k) (x_runV (C := R_MD) (As := [.int (nI i)]) (rest := []) X (g_MD_isAccess l D tc (fun k => ad (0 + k)) (fun k => F (0 + k)) 0 st ic cn A J i (by simpa only [Nat.zero_add] using (show isMD tc ad F 0 st ic (nI cn) A J from ⟨m0, m1, m2, m3, m4, m5, m6, m7, m8, m9, m10, m11, m12, m13, m14, m15, m16⟩)) (by omega)) rfl rfl (by decide) (by decide) w_607 w_9 w_604 w_606 sel_MD_isAccess ry_MD_isAccess (x_recv X hP (by omega) (m0) rfl) (ct_pre X hP hD (fr_lt 17 17 0 (by omega)) (fr_inj 17 0)) ct_blind hl.1 (Nat.le_of_ble_eq_true rfl) dMD_again_33 ⟨Nat.zero_le _, Nat.zero_le _⟩) hD hP hS (fr_lt 17 17 0 (by omega)) (fr_inj 17 0) (fun y1 H locs hy1 hD hP hS => ?_)
          refine lv_if_eq (tgt := 75) hx hb dMD_again_36 rfl (fun h36 => ?_) (fun h36 => ?_)
          · refine lv_iinc (k := 0) (v := nI (i + 1)) hx hb dMD_again_75 hl rfl (nI_1 i) (by decide) rfl (fun ls hl => ?_)
            have hl : lv_has ls 5 [(4, .int (nI (i + 1))), (3, .int sm), (0, .ref (ad 0)), (1, .int (nI kk)), (2, .int cb)] := hl
            refine lv_goto (tgt := 24) hx hb dMD_again_78 rfl ?_
            exact ih (i + 1) sm _ _ _ _ (by omega) ⟨m0, m1, m2, m3, m4, m5, m6, m7, m8, m9, m10, m11, m12, m13, m14, m15, m16⟩ hD hP hS hl
          · refine lv_iload_n hx hb dMD_again_39 rfl (lv_at hl 1 rfl) ?_
            refine lv_aload_n hx hb dMD_again_40 rfl (lv_at hl 2 rfl) ?_
            refine lv_iload hx hb dMD_again_41 (lv_at hl 0 rfl) ?_
            refine lv_iload_n hx hb dMD_again_43 rfl (lv_at hl 4 rfl) ?_
            refine x_iX (f := fun k => 0 + k) (x_runV (C := R_MD) (As := [.int (nI i), .int cb]) (rest := [.int sm]) X (g_MD_spot l D tc (fun k => ad (0 + k)) (fun k => F (0 + k)) 0 st ic cn A J i cb (by simpa only [Nat.zero_add] using (show isMD tc ad F 0 st ic (nI cn) A J from ⟨m0, m1, m2, m3, m4, m5, m6, m7, m8, m9, m10, m11, m12, m13, m14, m15, m16⟩)) (by omega)) rfl rfl (by decide) (by decide) w_595 w_9 w_592 w_594 sel_MD_spot ry_MD_spot (x_recv X hP (by omega) (m0) rfl) (ct_pre X hP hD (fr_lt 17 17 0 (by omega)) (fr_inj 17 0)) ct_blind hl.1 (Nat.le_of_ble_eq_true rfl) dMD_again_44 ⟨Nat.zero_le _, Nat.zero_le _⟩) hD hP hS (fr_lt 17 17 0 (by omega)) (fr_inj 17 0) (fun y2 H locs hy2 hD hP hS => ?_)
            refine lv_ishr hx hb dMD_again_47 ?_
            refine lv_iconst (v := 1) hx hb dMD_again_48 (by decide) ?_
            refine lv_iand hx hb dMD_again_49 ?_
            refine lv_if_ne (tgt := 75) hx hb dMD_again_50 rfl (fun h50 => ?_) (fun h50 => ?_)
            · refine lv_iinc (k := 0) (v := nI (i + 1)) hx hb dMD_again_75 hl rfl (nI_1 i) (by decide) rfl (fun ls hl => ?_)
              have hl : lv_has ls 5 [(4, .int (nI (i + 1))), (3, .int sm), (0, .ref (ad 0)), (1, .int (nI kk)), (2, .int cb)] := hl
              refine lv_goto (tgt := 24) hx hb dMD_again_78 rfl ?_
              exact ih (i + 1) sm _ _ _ _ (by omega) ⟨m0, m1, m2, m3, m4, m5, m6, m7, m8, m9, m10, m11, m12, m13, m14, m15, m16⟩ hD hP hS hl
            · refine lv_aload_n hx hb dMD_again_53 rfl (lv_at hl 2 rfl) ?_
              refine lv_iload hx hb dMD_again_54 (lv_at hl 0 rfl) ?_
              refine lv_iload_n hx hb dMD_again_56 rfl (lv_at hl 4 rfl) ?_
              refine x_iX (f := fun k => 0 + k) (x_runV (C := R_MD) (As := [.int (nI i), .int cb]) (rest := []) X (g_MD_meets l D tc (fun k => ad (0 + k)) (fun k => F (0 + k)) 0 st ic cn A J i cb (by simpa only [Nat.zero_add] using (show isMD tc ad F 0 st ic (nI cn) A J from ⟨m0, m1, m2, m3, m4, m5, m6, m7, m8, m9, m10, m11, m12, m13, m14, m15, m16⟩)) (by omega)) rfl rfl (by decide) (by decide) w_599 w_9 w_596 w_598 sel_MD_meets ry_MD_meets (x_recv X hP (by omega) (m0) rfl) (ct_pre X hP hD (fr_lt 17 17 0 (by omega)) (fr_inj 17 0)) ct_blind hl.1 (Nat.le_of_ble_eq_true rfl) dMD_again_57 ⟨Nat.zero_le _, Nat.zero_le _⟩) hD hP hS (fr_lt 17 17 0 (by omega)) (fr_inj 17 0) (fun y3 H locs hy3 hD hP hS => ?_)
              refine lv_if_eq (tgt := 75) hx hb dMD_again_60 rfl (fun h60 => ?_) (fun h60 => ?_)
              · refine lv_iinc (k := 0) (v := nI (i + 1)) hx hb dMD_again_75 hl rfl (nI_1 i) (by decide) rfl (fun ls hl => ?_)
                have hl : lv_has ls 5 [(4, .int (nI (i + 1))), (3, .int sm), (0, .ref (ad 0)), (1, .int (nI kk)), (2, .int cb)] := hl
                refine lv_goto (tgt := 24) hx hb dMD_again_78 rfl ?_
                exact ih (i + 1) sm _ _ _ _ (by omega) ⟨m0, m1, m2, m3, m4, m5, m6, m7, m8, m9, m10, m11, m12, m13, m14, m15, m16⟩ hD hP hS hl
              · refine lv_iload_n hx hb dMD_again_63 rfl (lv_at hl 1 rfl) ?_
                refine lv_iconst (v := 1) hx hb dMD_again_64 (by decide) ?_
                refine lv_aload_n hx hb dMD_again_65 rfl (lv_at hl 2 rfl) ?_
                refine lv_iload hx hb dMD_again_66 (lv_at hl 0 rfl) ?_
                refine lv_iload_n hx hb dMD_again_68 rfl (lv_at hl 4 rfl) ?_
                refine x_iX (f := fun k => 0 + k) (x_runV (C := R_MD) (As := [.int (nI i), .int cb]) (rest := [.int 1, .int sm]) X (g_MD_spot l D tc (fun k => ad (0 + k)) (fun k => F (0 + k)) 0 st ic cn A J i cb (by simpa only [Nat.zero_add] using (show isMD tc ad F 0 st ic (nI cn) A J from ⟨m0, m1, m2, m3, m4, m5, m6, m7, m8, m9, m10, m11, m12, m13, m14, m15, m16⟩)) (by omega)) rfl rfl (by decide) (by decide) w_595 w_9 w_592 w_594 sel_MD_spot ry_MD_spot (x_recv X hP (by omega) (m0) rfl) (ct_pre X hP hD (fr_lt 17 17 0 (by omega)) (fr_inj 17 0)) ct_blind hl.1 (Nat.le_of_ble_eq_true rfl) dMD_again_69 ⟨Nat.zero_le _, Nat.zero_le _⟩) hD hP hS (fr_lt 17 17 0 (by omega)) (fr_inj 17 0) (fun y4 H locs hy4 hD hP hS => ?_)
                refine lv_ishl hx hb dMD_again_72 ?_
                refine lv_ior hx hb dMD_again_73 ?_
                refine lv_istore_n hx hb dMD_again_74 rfl hl (by decide) rfl (fun ls hl => ?_)
                have hl : lv_has ls 5 [(3, .int (sm ||| (1 <<< (y4 &&& 31)))), (4, .int (nI i)), (0, .ref (ad 0)), (1, .int (nI kk)), (2, .int cb)] := hl
                refine lv_iinc (k := 1) (v := nI (i + 1)) hx hb dMD_again_75 hl rfl (nI_1 i) (by decide) rfl (fun ls hl => ?_)
                have hl : lv_has ls 5 [(4, .int (nI (i + 1))), (3, .int (sm ||| (1 <<< (y4 &&& 31)))), (0, .ref (ad 0)), (1, .int (nI kk)), (2, .int cb)] := hl
                refine lv_goto (tgt := 24) hx hb dMD_again_78 rfl ?_
                exact ih (i + 1) (sm ||| (1 <<< (y4 &&& 31))) _ _ _ _ (by omega) ⟨m0, m1, m2, m3, m4, m5, m6, m7, m8, m9, m10, m11, m12, m13, m14, m15, m16⟩ hD hP hS hl
      exact loop kk 0 0 _ _ _ _ (by omega) ⟨f3, f4, f5, f6, f7, f8, f9, f10, f11, f12, f13, f14, f15, f16, f19, f17, f18⟩ hD hP hS hl
    · refine lv_iconst (v := (-1)) hx hb dMD_again_17 (by decide) ?_
      exact q_iret X hlk hr hP hS dMD_again_18 (⟨_, rfl, ⟨f3, f4, f5, f6, f7, f8, f9, f10, f11, f12, f13, f14, f15, f16, f19, f17, f18⟩⟩)
