theorem dBK_init_0 : decode cBK_init 0 = .ok (.aload_n 0, 1) := by decide +kernel
theorem dBK_init_1 : decode cBK_init 1 = .ok (.invokespecial 3, 3) := by decide +kernel
theorem dBK_init_4 : decode cBK_init 4 = .ok (.aload_n 0, 1) := by decide +kernel
theorem dBK_init_5 : decode cBK_init 5 = .ok (.bipush 8, 2) := by decide +kernel
theorem dBK_init_7 : decode cBK_init 7 = .ok (.newarray .int, 2) := by decide +kernel
theorem dBK_init_9 : decode cBK_init 9 = .ok (.putfield 9, 3) := by decide +kernel
theorem dBK_init_12 : decode cBK_init 12 = .ok (.aload_n 0, 1) := by decide +kernel
theorem dBK_init_13 : decode cBK_init 13 = .ok (.bipush 8, 2) := by decide +kernel
theorem dBK_init_15 : decode cBK_init 15 = .ok (.newarray .int, 2) := by decide +kernel
theorem dBK_init_17 : decode cBK_init 17 = .ok (.putfield 15, 3) := by decide +kernel
theorem dBK_init_20 : decode cBK_init 20 = .ok (.aload_n 0, 1) := by decide +kernel
theorem dBK_init_21 : decode cBK_init 21 = .ok (.bipush 8, 2) := by decide +kernel
theorem dBK_init_23 : decode cBK_init 23 = .ok (.newarray .int, 2) := by decide +kernel
theorem dBK_init_25 : decode cBK_init 25 = .ok (.putfield 18, 3) := by decide +kernel
theorem dBK_init_28 : decode cBK_init 28 = .ok (.aload_n 0, 1) := by decide +kernel
theorem dBK_init_29 : decode cBK_init 29 = .ok (.bipush 40, 2) := by decide +kernel
theorem dBK_init_31 : decode cBK_init 31 = .ok (.newarray .int, 2) := by decide +kernel
theorem dBK_init_33 : decode cBK_init 33 = .ok (.putfield 21, 3) := by decide +kernel
theorem dBK_init_36 : decode cBK_init 36 = .ok (.aload_n 0, 1) := by decide +kernel
theorem dBK_init_37 : decode cBK_init 37 = .ok (.invokevirtual 24, 3) := by decide +kernel
theorem dBK_init_40 : decode cBK_init 40 = .ok (.return_, 1) := by decide +kernel
set_option maxHeartbeats 4000000 in
set_option maxRecDepth 100000 in
theorem c_BK_init (l : Launch) (D : va_G) (tc : Nat → ClassId) (ad : Nat → Nat) (E : Nat → va_E)  (h0 : E 0 = .inr (3, [.null, .null, .null, .null])) : CtN l D tc yBK_init 2 4 64 ad E [.ref (ad 0)] (fun E2 => nonB tc ad E2 0) := by
  refine CtN.ofW (cc := cBK_init) (maxL := 1) (ret := none) (own := R_BK) (by decide) rfl rfl w_114 (Nat.le_of_ble_eq_true rfl) ?_
  intro p e s m args below meth c ls X hlk hr hin hsq hDD hP hS hl
  have hx := X.1
  have hb := X.2.1
  have hD := hDD 1 (by decide) E
  have hl : lv_has ls 1 [(0, .ref (ad 0))] := hl
  refine lv_aload_n hx hb dBK_init_0 rfl (lv_at hl 0 rfl) ?_
  refine W.objInit hx hb X.2.2.2.1 (X.2.2.2.2.1 _ w_115) (X.2.2.2.2.1 _ w_26) (X.2.2.2.2.1 _ w_27) rfl (by rw [X.2.2.1]; exact hl.1) rfl dBK_init_1 (Nat.le_of_ble_eq_true rfl) (Nat.le_of_ble_eq_true rfl) ?_
  refine W.eq (g2 := F0 m 4 ls []) rfl ?_
  refine lv_aload_n hx hb dBK_init_4 rfl (lv_at hl 0 rfl) ?_
  refine lv_bipush (v := 8) hx hb dBK_init_5 (by decide) ?_
  refine q_newI 8 X w_49 hP hS (fun j hj => hsq j (by omega)) ⟨1, by decide, rfl⟩ rfl (by decide) (by decide) (by decide) dBK_init_7 (fun H hP9 hS9 => ?_)
  clear hP hS hD
  have hP : va_P D vwCl (wW 2 ad (va_up E 1 (.inl (tc 0, 8, .inl (fun _ => 0))))) H := hP9
  have hS := hS9
  clear hP9 hS9
  generalize g2 : va_up E 1 (.inl (tc 0, 8, .inl (fun _ => 0))) = E1 at hP
  have f3 : E1 0 = .inr (3, [.null, .null, .null, .null]) := by rw [← g2, va_up_ne _ _ (by decide)]; exact h0
  have f4 : E1 1 = .inl (tc 0, 8, .inl (fun _ => 0)) := by rw [← g2]; exact va_up_self _ _ _
  clear g2
  have hD := hDD 2 (by decide) E1
  refine p_BK_9 X hin hD hP hS (by omega) (f3) rfl rfl (Nat.le_of_ble_eq_true rfl) dBK_init_9 (fun H locs hD9 hP9 hS9 => ?_)
  clear hP hS hD
  have hP : va_P D vwCl (wW 2 ad (va_up E1 0 (.inr (3, [.ref (ad 1), .null, .null, .null])))) H := hP9
  have hD : va_D (Aw (1 + 4) ad) (wW 2 ad (va_up E1 0 (.inr (3, [.ref (ad 1), .null, .null, .null])))) := hD9
  have hS := hS9
  clear hP9 hS9 hD9
  generalize g6 : va_up E1 0 (.inr (3, [.ref (ad 1), .null, .null, .null])) = E5 at hD hP
  have f7 : E5 0 = .inr (3, [.ref (ad 1), .null, .null, .null]) := by rw [← g6]; exact va_up_self _ _ _
  have f8 : E5 1 = .inl (tc 0, 8, .inl (fun _ => 0)) := by rw [← g6, va_up_ne _ _ (by omega)]; exact f4
  clear f3 f4 g6
  refine lv_aload_n hx hb dBK_init_12 rfl (lv_at hl 0 rfl) ?_
  refine lv_bipush (v := 8) hx hb dBK_init_13 (by decide) ?_
  refine q_newI 8 X w_49 hP hS (fun j hj => hsq j (by omega)) ⟨2, by decide, rfl⟩ rfl (by decide) (by decide) (by decide) dBK_init_15 (fun H hP9 hS9 => ?_)
  clear hP hS hD
  have hP : va_P D vwCl (wW 3 ad (va_up E5 2 (.inl (tc 0, 8, .inl (fun _ => 0))))) H := hP9
  have hS := hS9
  clear hP9 hS9
  generalize g10 : va_up E5 2 (.inl (tc 0, 8, .inl (fun _ => 0))) = E9 at hP
  have f11 : E9 0 = .inr (3, [.ref (ad 1), .null, .null, .null]) := by rw [← g10, va_up_ne _ _ (by decide)]; exact f7
  have f12 : E9 1 = .inl (tc 0, 8, .inl (fun _ => 0)) := by rw [← g10, va_up_ne _ _ (by decide)]; exact f8
  have f13 : E9 2 = .inl (tc 0, 8, .inl (fun _ => 0)) := by rw [← g10]; exact va_up_self _ _ _
  clear f7 f8 g10
  have hD := hDD 3 (by decide) E9
  refine p_BK_15 X hin hD hP hS (by omega) (f11) rfl rfl (Nat.le_of_ble_eq_true rfl) dBK_init_17 (fun H locs hD9 hP9 hS9 => ?_)
  clear hP hS hD
  have hP : va_P D vwCl (wW 3 ad (va_up E9 0 (.inr (3, [.ref (ad 1), .ref (ad 2), .null, .null])))) H := hP9
  have hD : va_D (Aw (1 + 4) ad) (wW 3 ad (va_up E9 0 (.inr (3, [.ref (ad 1), .ref (ad 2), .null, .null])))) := hD9
  have hS := hS9
  clear hP9 hS9 hD9
  generalize g15 : va_up E9 0 (.inr (3, [.ref (ad 1), .ref (ad 2), .null, .null])) = E14 at hD hP
  have f16 : E14 0 = .inr (3, [.ref (ad 1), .ref (ad 2), .null, .null]) := by rw [← g15]; exact va_up_self _ _ _
  have f17 : E14 1 = .inl (tc 0, 8, .inl (fun _ => 0)) := by rw [← g15, va_up_ne _ _ (by omega)]; exact f12
  have f18 : E14 2 = .inl (tc 0, 8, .inl (fun _ => 0)) := by rw [← g15, va_up_ne _ _ (by omega)]; exact f13
  clear f11 f12 f13 g15
  refine lv_aload_n hx hb dBK_init_20 rfl (lv_at hl 0 rfl) ?_
  refine lv_bipush (v := 8) hx hb dBK_init_21 (by decide) ?_
  refine q_newI 8 X w_49 hP hS (fun j hj => hsq j (by omega)) ⟨3, by decide, rfl⟩ rfl (by decide) (by decide) (by decide) dBK_init_23 (fun H hP9 hS9 => ?_)
  clear hP hS hD
  have hP : va_P D vwCl (wW 4 ad (va_up E14 3 (.inl (tc 0, 8, .inl (fun _ => 0))))) H := hP9
  have hS := hS9
  clear hP9 hS9
  generalize g20 : va_up E14 3 (.inl (tc 0, 8, .inl (fun _ => 0))) = E19 at hP
  have f21 : E19 0 = .inr (3, [.ref (ad 1), .ref (ad 2), .null, .null]) := by rw [← g20, va_up_ne _ _ (by decide)]; exact f16
  have f22 : E19 1 = .inl (tc 0, 8, .inl (fun _ => 0)) := by rw [← g20, va_up_ne _ _ (by decide)]; exact f17
  have f23 : E19 2 = .inl (tc 0, 8, .inl (fun _ => 0)) := by rw [← g20, va_up_ne _ _ (by decide)]; exact f18
  have f24 : E19 3 = .inl (tc 0, 8, .inl (fun _ => 0)) := by rw [← g20]; exact va_up_self _ _ _
  clear f16 f17 f18 g20
  have hD := hDD 4 (by decide) E19
  refine p_BK_18 X hin hD hP hS (by omega) (f21) rfl rfl (Nat.le_of_ble_eq_true rfl) dBK_init_25 (fun H locs hD9 hP9 hS9 => ?_)
  clear hP hS hD
  have hP : va_P D vwCl (wW 4 ad (va_up E19 0 (.inr (3, [.ref (ad 1), .ref (ad 2), .ref (ad 3), .null])))) H := hP9
  have hD : va_D (Aw (1 + 4) ad) (wW 4 ad (va_up E19 0 (.inr (3, [.ref (ad 1), .ref (ad 2), .ref (ad 3), .null])))) := hD9
  have hS := hS9
  clear hP9 hS9 hD9
  generalize g26 : va_up E19 0 (.inr (3, [.ref (ad 1), .ref (ad 2), .ref (ad 3), .null])) = E25 at hD hP
  have f27 : E25 0 = .inr (3, [.ref (ad 1), .ref (ad 2), .ref (ad 3), .null]) := by rw [← g26]; exact va_up_self _ _ _
  have f28 : E25 1 = .inl (tc 0, 8, .inl (fun _ => 0)) := by rw [← g26, va_up_ne _ _ (by omega)]; exact f22
  have f29 : E25 2 = .inl (tc 0, 8, .inl (fun _ => 0)) := by rw [← g26, va_up_ne _ _ (by omega)]; exact f23
  have f30 : E25 3 = .inl (tc 0, 8, .inl (fun _ => 0)) := by rw [← g26, va_up_ne _ _ (by omega)]; exact f24
  clear f21 f22 f23 f24 g26
  refine lv_aload_n hx hb dBK_init_28 rfl (lv_at hl 0 rfl) ?_
  refine lv_bipush (v := 40) hx hb dBK_init_29 (by decide) ?_
  refine q_newI 40 X w_49 hP hS (fun j hj => hsq j (by omega)) ⟨4, by decide, rfl⟩ rfl (by decide) (by decide) (by decide) dBK_init_31 (fun H hP9 hS9 => ?_)
  clear hP hS hD
  have hP : va_P D vwCl (wW 5 ad (va_up E25 4 (.inl (tc 0, 40, .inl (fun _ => 0))))) H := hP9
  have hS := hS9
  clear hP9 hS9
  generalize g32 : va_up E25 4 (.inl (tc 0, 40, .inl (fun _ => 0))) = E31 at hP
  have f33 : E31 0 = .inr (3, [.ref (ad 1), .ref (ad 2), .ref (ad 3), .null]) := by rw [← g32, va_up_ne _ _ (by decide)]; exact f27
  have f34 : E31 1 = .inl (tc 0, 8, .inl (fun _ => 0)) := by rw [← g32, va_up_ne _ _ (by decide)]; exact f28
  have f35 : E31 2 = .inl (tc 0, 8, .inl (fun _ => 0)) := by rw [← g32, va_up_ne _ _ (by decide)]; exact f29
  have f36 : E31 3 = .inl (tc 0, 8, .inl (fun _ => 0)) := by rw [← g32, va_up_ne _ _ (by decide)]; exact f30
  have f37 : E31 4 = .inl (tc 0, 40, .inl (fun _ => 0)) := by rw [← g32]; exact va_up_self _ _ _
  clear f27 f28 f29 f30 g32
  have hD := hDD 5 (by decide) E31
  refine p_BK_21 X hin hD hP hS (by omega) (f33) rfl rfl (Nat.le_of_ble_eq_true rfl) dBK_init_33 (fun H locs hD9 hP9 hS9 => ?_)
  clear hP hS hD
  have hP : va_P D vwCl (wW 5 ad (va_up E31 0 (.inr (3, [.ref (ad 1), .ref (ad 2), .ref (ad 3), .ref (ad 4)])))) H := hP9
  have hD : va_D (Aw (1 + 4) ad) (wW 5 ad (va_up E31 0 (.inr (3, [.ref (ad 1), .ref (ad 2), .ref (ad 3), .ref (ad 4)])))) := hD9
  have hS := hS9
  clear hP9 hS9 hD9
  generalize g39 : va_up E31 0 (.inr (3, [.ref (ad 1), .ref (ad 2), .ref (ad 3), .ref (ad 4)])) = E38 at hD hP
  have f40 : E38 0 = .inr (3, [.ref (ad 1), .ref (ad 2), .ref (ad 3), .ref (ad 4)]) := by rw [← g39]; exact va_up_self _ _ _
  have f41 : E38 1 = .inl (tc 0, 8, .inl (fun _ => 0)) := by rw [← g39, va_up_ne _ _ (by omega)]; exact f34
  have f42 : E38 2 = .inl (tc 0, 8, .inl (fun _ => 0)) := by rw [← g39, va_up_ne _ _ (by omega)]; exact f35
  have f43 : E38 3 = .inl (tc 0, 8, .inl (fun _ => 0)) := by rw [← g39, va_up_ne _ _ (by omega)]; exact f36
  have f44 : E38 4 = .inl (tc 0, 40, .inl (fun _ => 0)) := by rw [← g39, va_up_ne _ _ (by omega)]; exact f37
  clear f33 f34 f35 f36 f37 g39
  refine lv_aload_n hx hb dBK_init_36 rfl (lv_at hl 0 rfl) ?_
  refine x_v (f := fun k => 0 + k) (x_runV (C := R_BK) (As := []) (rest := []) X (c_BK_forget l D tc (fun k => ad (0 + k)) (fun k => E38 (0 + k)) (fun _ => 0) (fun _ => 0) (fun _ => 0) (fun _ => 0) (f40) (f41) (f42) (f43) (f44)) rfl rfl (by decide) (by decide) w_119 w_7 w_116 w_118 sel_BK_forget ry_BK_forget (x_recv X hP (by omega) (f40) rfl) (ct_pre X hP hD (fr_lt 5 5 0 (by omega)) (fr_inj 5 0)) ct_blind hl.1 (Nat.le_of_ble_eq_true rfl) dBK_init_37 ⟨by decide, by decide⟩) hD hP hS (fr_lt 5 5 0 (by omega)) (fr_inj 5 0) (fun o E1 h => h.1) (fun E45 H locs q48 hD hP hS => ?_)
  obtain ⟨-, q48r⟩ := q48
  generalize g46 : wU 5 (fun k => 0 + k) E38 E45 = E47 at hD hP
  exact q_vretN X hlk hr hP hS dBK_init_40 (nonB.upZ q48r (fun j hj => by rw [← g46]; exact wU_own (b := 0) j (by omega)))
