theorem dMD_go_0 : decode cMD_go 0 = .ok (.aload_n 0, 1) := by decide +kernel
theorem dMD_go_1 : decode cMD_go 1 = .ok (.getfield 25, 3) := by decide +kernel
theorem dMD_go_4 : decode cMD_go 4 = .ok (.iload_n 1, 1) := by decide +kernel
theorem dMD_go_5 : decode cMD_go 5 = .ok (.iload_n 2, 1) := by decide +kernel
theorem dMD_go_6 : decode cMD_go 6 = .ok (.iastore, 1) := by decide +kernel
theorem dMD_go_7 : decode cMD_go 7 = .ok (.aload_n 0, 1) := by decide +kernel
theorem dMD_go_8 : decode cMD_go 8 = .ok (.getfield 22, 3) := by decide +kernel
theorem dMD_go_11 : decode cMD_go 11 = .ok (.iload_n 1, 1) := by decide +kernel
theorem dMD_go_12 : decode cMD_go 12 = .ok (.iload_n 2, 1) := by decide +kernel
theorem dMD_go_13 : decode cMD_go 13 = .ok (.aload_n 0, 1) := by decide +kernel
theorem dMD_go_14 : decode cMD_go 14 = .ok (.getfield 7, 3) := by decide +kernel
theorem dMD_go_17 : decode cMD_go 17 = .ok (.iload_n 1, 1) := by decide +kernel
theorem dMD_go_18 : decode cMD_go 18 = .ok (.iaload, 1) := by decide +kernel
theorem dMD_go_19 : decode cMD_go 19 = .ok (.if_icmp .ge 7, 3) := by decide +kernel
theorem dMD_go_22 : decode cMD_go 22 = .ok (.iconst 1, 1) := by decide +kernel
theorem dMD_go_23 : decode cMD_go 23 = .ok (.goto 4, 3) := by decide +kernel
theorem dMD_go_26 : decode cMD_go 26 = .ok (.iconst 2, 1) := by decide +kernel
theorem dMD_go_27 : decode cMD_go 27 = .ok (.iastore, 1) := by decide +kernel
theorem dMD_go_28 : decode cMD_go 28 = .ok (.return_, 1) := by decide +kernel
set_option maxHeartbeats 4000000 in
set_option maxRecDepth 100000 in
theorem g_MD_go (l : Launch) (D : va_G) (tc : Nat → ClassId) (ad : Nat → Nat) (E : Nat → va_E) (th st ic : Int32) (cn : Nat) (A : Nat → Nat → Int32) (J : Nat → Int64) (t : Nat) (nx : Int32) (hM : isMD tc ad E th st ic (nI cn) A J) (ht : t < 5) : Ct l D tc yMD_go 0 17 ad E [.ref (ad 0), .int (nI t), .int nx] (fun o E2 => o = .returned none ∧ ∃ v : Int32, isMD tc ad E2 th st ic (nI cn) (va_up (va_up A 6 (upd (A 6) t nx)) 5 (upd (A 5) t v)) J ∧ (v = 1 → nx < A 1 t) ∧ ¬ v = 0) := by
  refine Ct.ofW (cc := cMD_go) (maxL := 3) (ret := none) (own := R_MD) (by decide) rfl w_579 (Nat.le_of_ble_eq_true rfl) ?_
  intro p e s m args below meth c ls X hlk hr hD hP hS hl
  have hx := X.1
  have hb := X.2.1
  have hl : lv_has ls 3 [(0, .ref (ad 0)), (1, .int (nI t)), (2, .int nx)] := hl
  have hM0 := hM
  obtain ⟨m0, m1, m2, m3, m4, m5, m6, m7, m8, m9, m10, m11, m12, m13, m14, m15, m16⟩ := hM
  refine lv_aload_n hx hb dMD_go_0 rfl (lv_at hl 0 rfl) ?_
  refine g_MD_25 X hP (by omega) (m0) rfl dMD_go_1 ?_
  refine lv_iload_n hx hb dMD_go_4 rfl (lv_at hl 1 rfl) ?_
  refine lv_iload_n hx hb dMD_go_5 rfl (lv_at hl 2 rfl) ?_
  refine q_iast t X hD hP hS (by omega) (m6) (rfl) (by omega) (by decide) dMD_go_6 (fun H locs hD hP hS => ?_)
  have hP : va_P D vwCl (wW 17 ad (va_up E 6 (.inl (tc 0, 5, .inl (upd (A 6) t nx))))) H := hP
  have hD : va_D (Aw 17 ad) (wW 17 ad (va_up E 6 (.inl (tc 0, 5, .inl (upd (A 6) t nx))))) := hD
  generalize g2 : va_up E 6 (.inl (tc 0, 5, .inl (upd (A 6) t nx))) = E1 at hD hP
  have f3 : E1 0 = .inr (7, [.int th, .int st, .int ic, .ref (ad 1), .ref (ad 2), .ref (ad 3), .ref (ad 4), .ref (ad 5), .ref (ad 6), .ref (ad 7), .ref (ad 8), .ref (ad 9), .int (nI cn), .ref (ad 10), .ref (ad 11), .ref (ad 12), .ref (ad 13), .ref (ad 14), .ref (ad 15), .ref (ad 16)]) := by rw [← g2, va_up_ne _ _ (by omega)]; exact m0
  have f4 : E1 1 = .inl (tc 0, 5, .inl (A 1)) := by rw [← g2, va_up_ne _ _ (by omega)]; exact m1
  have f5 : E1 2 = .inl (tc 0, 60, .inl (A 2)) := by rw [← g2, va_up_ne _ _ (by omega)]; exact m2
  have f6 : E1 3 = .inl (tc 0, 60, .inl (A 3)) := by rw [← g2, va_up_ne _ _ (by omega)]; exact m3
  have f7 : E1 4 = .inl (tc 0, 60, .inl (A 4)) := by rw [← g2, va_up_ne _ _ (by omega)]; exact m4
  have f8 : E1 5 = .inl (tc 0, 5, .inl (A 5)) := by rw [← g2, va_up_ne _ _ (by omega)]; exact m5
  have f9 : E1 6 = .inl (tc 0, 5, .inl (upd (A 6) t nx)) := by rw [← g2]; exact va_up_self _ _ _
  have f10 : E1 7 = .inl (tc 0, 5, .inl (A 7)) := by rw [← g2, va_up_ne _ _ (by omega)]; exact m7
  have f11 : E1 8 = .inl (tc 0, 3, .inl (A 8)) := by rw [← g2, va_up_ne _ _ (by omega)]; exact m8
  have f12 : E1 9 = .inl (tc 0, 3, .inl (A 9)) := by rw [← g2, va_up_ne _ _ (by omega)]; exact m9
  have f13 : E1 10 = .inl (tc 0, 200, .inl (A 10)) := by rw [← g2, va_up_ne _ _ (by omega)]; exact m10
  have f14 : E1 11 = .inl (tc 0, 200, .inl (A 11)) := by rw [← g2, va_up_ne _ _ (by omega)]; exact m11
  have f15 : E1 12 = .inl (tc 0, 200, .inl (A 12)) := by rw [← g2, va_up_ne _ _ (by omega)]; exact m12
  have f16 : E1 13 = .inl (tc 2, 200, .inl (A 13)) := by rw [← g2, va_up_ne _ _ (by omega)]; exact m13
  have f17 : E1 15 = .inl (tc 0, 8, .inl (A 15)) := by rw [← g2, va_up_ne _ _ (by omega)]; exact m15
  have f18 : E1 16 = .inl (tc 0, 8, .inl (A 16)) := by rw [← g2, va_up_ne _ _ (by omega)]; exact m16
  have f19 : E1 14 = .inl (tc 1, 800, .inr (.inl J)) := by rw [← g2, va_up_ne _ _ (by omega)]; exact m14
  refine lv_aload_n hx hb dMD_go_7 rfl (lv_at hl 0 rfl) ?_
  refine g_MD_22 X hP (by omega) (f3) rfl dMD_go_8 ?_
  refine lv_iload_n hx hb dMD_go_11 rfl (lv_at hl 1 rfl) ?_
  refine lv_iload_n hx hb dMD_go_12 rfl (lv_at hl 2 rfl) ?_
  refine lv_aload_n hx hb dMD_go_13 rfl (lv_at hl 0 rfl) ?_
  refine g_MD_7 X hP (by omega) (f3) rfl dMD_go_14 ?_
  refine lv_iload_n hx hb dMD_go_17 rfl (lv_at hl 1 rfl) ?_
  refine q_iald t X hP (by omega) (f4) (rfl) (by omega) (by decide) dMD_go_18 ?_
  refine lv_icmp_ge (tgt := 26) hx hb dMD_go_19 rfl (fun h19 => ?_) (fun h19 => ?_)
  · refine lv_iconst (v := 2) hx hb dMD_go_26 (by decide) ?_
    refine q_iast t X hD hP hS (by omega) (f8) (rfl) (by omega) (by decide) dMD_go_27 (fun H locs hD hP hS => ?_)
    have hP : va_P D vwCl (wW 17 ad (va_up E1 5 (.inl (tc 0, 5, .inl (upd (A 5) t 2))))) H := hP
    have hD : va_D (Aw 17 ad) (wW 17 ad (va_up E1 5 (.inl (tc 0, 5, .inl (upd (A 5) t 2))))) := hD
    generalize g21 : va_up E1 5 (.inl (tc 0, 5, .inl (upd (A 5) t 2))) = E20 at hD hP
    have f22 : E20 0 = .inr (7, [.int th, .int st, .int ic, .ref (ad 1), .ref (ad 2), .ref (ad 3), .ref (ad 4), .ref (ad 5), .ref (ad 6), .ref (ad 7), .ref (ad 8), .ref (ad 9), .int (nI cn), .ref (ad 10), .ref (ad 11), .ref (ad 12), .ref (ad 13), .ref (ad 14), .ref (ad 15), .ref (ad 16)]) := by rw [← g21, va_up_ne _ _ (by omega)]; exact f3
    have f23 : E20 1 = .inl (tc 0, 5, .inl (A 1)) := by rw [← g21, va_up_ne _ _ (by omega)]; exact f4
    have f24 : E20 2 = .inl (tc 0, 60, .inl (A 2)) := by rw [← g21, va_up_ne _ _ (by omega)]; exact f5
    have f25 : E20 3 = .inl (tc 0, 60, .inl (A 3)) := by rw [← g21, va_up_ne _ _ (by omega)]; exact f6
    have f26 : E20 4 = .inl (tc 0, 60, .inl (A 4)) := by rw [← g21, va_up_ne _ _ (by omega)]; exact f7
    have f27 : E20 5 = .inl (tc 0, 5, .inl (upd (A 5) t 2)) := by rw [← g21]; exact va_up_self _ _ _
    have f28 : E20 6 = .inl (tc 0, 5, .inl (upd (A 6) t nx)) := by rw [← g21, va_up_ne _ _ (by omega)]; exact f9
    have f29 : E20 7 = .inl (tc 0, 5, .inl (A 7)) := by rw [← g21, va_up_ne _ _ (by omega)]; exact f10
    have f30 : E20 8 = .inl (tc 0, 3, .inl (A 8)) := by rw [← g21, va_up_ne _ _ (by omega)]; exact f11
    have f31 : E20 9 = .inl (tc 0, 3, .inl (A 9)) := by rw [← g21, va_up_ne _ _ (by omega)]; exact f12
    have f32 : E20 10 = .inl (tc 0, 200, .inl (A 10)) := by rw [← g21, va_up_ne _ _ (by omega)]; exact f13
    have f33 : E20 11 = .inl (tc 0, 200, .inl (A 11)) := by rw [← g21, va_up_ne _ _ (by omega)]; exact f14
    have f34 : E20 12 = .inl (tc 0, 200, .inl (A 12)) := by rw [← g21, va_up_ne _ _ (by omega)]; exact f15
    have f35 : E20 13 = .inl (tc 2, 200, .inl (A 13)) := by rw [← g21, va_up_ne _ _ (by omega)]; exact f16
    have f36 : E20 15 = .inl (tc 0, 8, .inl (A 15)) := by rw [← g21, va_up_ne _ _ (by omega)]; exact f17
    have f37 : E20 16 = .inl (tc 0, 8, .inl (A 16)) := by rw [← g21, va_up_ne _ _ (by omega)]; exact f18
    have f38 : E20 14 = .inl (tc 1, 800, .inr (.inl J)) := by rw [← g21, va_up_ne _ _ (by omega)]; exact f19
    exact q_vret X hlk hr hP hS dMD_go_28 ⟨rfl, 2, ⟨f22, f23, f24, f25, f26, f27, f28, f29, f30, f31, f32, f33, f34, f35, f38, f36, f37⟩, fun q => absurd q (by decide), by decide⟩
  · refine lv_iconst (v := 1) hx hb dMD_go_22 (by decide) ?_
    refine lv_goto (tgt := 27) hx hb dMD_go_23 rfl ?_
    refine q_iast t X hD hP hS (by omega) (f8) (rfl) (by omega) (by decide) dMD_go_27 (fun H locs hD hP hS => ?_)
    have hP : va_P D vwCl (wW 17 ad (va_up E1 5 (.inl (tc 0, 5, .inl (upd (A 5) t 1))))) H := hP
    have hD : va_D (Aw 17 ad) (wW 17 ad (va_up E1 5 (.inl (tc 0, 5, .inl (upd (A 5) t 1))))) := hD
    generalize g40 : va_up E1 5 (.inl (tc 0, 5, .inl (upd (A 5) t 1))) = E39 at hD hP
    have f41 : E39 0 = .inr (7, [.int th, .int st, .int ic, .ref (ad 1), .ref (ad 2), .ref (ad 3), .ref (ad 4), .ref (ad 5), .ref (ad 6), .ref (ad 7), .ref (ad 8), .ref (ad 9), .int (nI cn), .ref (ad 10), .ref (ad 11), .ref (ad 12), .ref (ad 13), .ref (ad 14), .ref (ad 15), .ref (ad 16)]) := by rw [← g40, va_up_ne _ _ (by omega)]; exact f3
    have f42 : E39 1 = .inl (tc 0, 5, .inl (A 1)) := by rw [← g40, va_up_ne _ _ (by omega)]; exact f4
    have f43 : E39 2 = .inl (tc 0, 60, .inl (A 2)) := by rw [← g40, va_up_ne _ _ (by omega)]; exact f5
    have f44 : E39 3 = .inl (tc 0, 60, .inl (A 3)) := by rw [← g40, va_up_ne _ _ (by omega)]; exact f6
    have f45 : E39 4 = .inl (tc 0, 60, .inl (A 4)) := by rw [← g40, va_up_ne _ _ (by omega)]; exact f7
    have f46 : E39 5 = .inl (tc 0, 5, .inl (upd (A 5) t 1)) := by rw [← g40]; exact va_up_self _ _ _
    have f47 : E39 6 = .inl (tc 0, 5, .inl (upd (A 6) t nx)) := by rw [← g40, va_up_ne _ _ (by omega)]; exact f9
    have f48 : E39 7 = .inl (tc 0, 5, .inl (A 7)) := by rw [← g40, va_up_ne _ _ (by omega)]; exact f10
    have f49 : E39 8 = .inl (tc 0, 3, .inl (A 8)) := by rw [← g40, va_up_ne _ _ (by omega)]; exact f11
    have f50 : E39 9 = .inl (tc 0, 3, .inl (A 9)) := by rw [← g40, va_up_ne _ _ (by omega)]; exact f12
    have f51 : E39 10 = .inl (tc 0, 200, .inl (A 10)) := by rw [← g40, va_up_ne _ _ (by omega)]; exact f13
    have f52 : E39 11 = .inl (tc 0, 200, .inl (A 11)) := by rw [← g40, va_up_ne _ _ (by omega)]; exact f14
    have f53 : E39 12 = .inl (tc 0, 200, .inl (A 12)) := by rw [← g40, va_up_ne _ _ (by omega)]; exact f15
    have f54 : E39 13 = .inl (tc 2, 200, .inl (A 13)) := by rw [← g40, va_up_ne _ _ (by omega)]; exact f16
    have f55 : E39 15 = .inl (tc 0, 8, .inl (A 15)) := by rw [← g40, va_up_ne _ _ (by omega)]; exact f17
    have f56 : E39 16 = .inl (tc 0, 8, .inl (A 16)) := by rw [← g40, va_up_ne _ _ (by omega)]; exact f18
    have f57 : E39 14 = .inl (tc 1, 800, .inr (.inl J)) := by rw [← g40, va_up_ne _ _ (by omega)]; exact f19
    exact q_vret X hlk hr hP hS dMD_go_28 ⟨rfl, 1, ⟨f41, f42, f43, f44, f45, f46, f47, f48, f49, f50, f51, f52, f53, f54, f57, f55, f56⟩, fun _ => Int32.not_le.mp h19, by decide⟩
