theorem dCK_init_0 : decode cCK_init 0 = .ok (.aload_n 0, 1) := by decide +kernel
theorem dCK_init_1 : decode cCK_init 1 = .ok (.invokespecial 3, 3) := by decide +kernel
theorem dCK_init_4 : decode cCK_init 4 = .ok (.aload_n 0, 1) := by decide +kernel
theorem dCK_init_5 : decode cCK_init 5 = .ok (.iconst 5, 1) := by decide +kernel
theorem dCK_init_6 : decode cCK_init 6 = .ok (.newarray .int, 2) := by decide +kernel
theorem dCK_init_8 : decode cCK_init 8 = .ok (.putfield 9, 3) := by decide +kernel
theorem dCK_init_11 : decode cCK_init 11 = .ok (.return_, 1) := by decide +kernel
theorem dPG_init_0 : decode cPG_init 0 = .ok (.aload_n 0, 1) := by decide +kernel
theorem dPG_init_1 : decode cPG_init 1 = .ok (.invokespecial 3, 3) := by decide +kernel
theorem dPG_init_4 : decode cPG_init 4 = .ok (.aload_n 0, 1) := by decide +kernel
theorem dPG_init_5 : decode cPG_init 5 = .ok (.bipush 12, 2) := by decide +kernel
theorem dPG_init_7 : decode cPG_init 7 = .ok (.newarray .int, 2) := by decide +kernel
theorem dPG_init_9 : decode cPG_init 9 = .ok (.putfield 9, 3) := by decide +kernel
theorem dPG_init_12 : decode cPG_init 12 = .ok (.aload_n 0, 1) := by decide +kernel
theorem dPG_init_13 : decode cPG_init 13 = .ok (.bipush 12, 2) := by decide +kernel
theorem dPG_init_15 : decode cPG_init 15 = .ok (.newarray .int, 2) := by decide +kernel
theorem dPG_init_17 : decode cPG_init 17 = .ok (.putfield 15, 3) := by decide +kernel
theorem dPG_init_20 : decode cPG_init 20 = .ok (.aload_n 0, 1) := by decide +kernel
theorem dPG_init_21 : decode cPG_init 21 = .ok (.bipush 12, 2) := by decide +kernel
theorem dPG_init_23 : decode cPG_init 23 = .ok (.newarray .int, 2) := by decide +kernel
theorem dPG_init_25 : decode cPG_init 25 = .ok (.putfield 18, 3) := by decide +kernel
theorem dPG_init_28 : decode cPG_init 28 = .ok (.aload_n 0, 1) := by decide +kernel
theorem dPG_init_29 : decode cPG_init 29 = .ok (.iconst 0, 1) := by decide +kernel
theorem dPG_init_30 : decode cPG_init 30 = .ok (.putfield 21, 3) := by decide +kernel
theorem dPG_init_33 : decode cPG_init 33 = .ok (.return_, 1) := by decide +kernel
theorem dWK_init_0 : decode cWK_init 0 = .ok (.aload_n 0, 1) := by decide +kernel
theorem dWK_init_1 : decode cWK_init 1 = .ok (.invokespecial 3, 3) := by decide +kernel
theorem dWK_init_4 : decode cWK_init 4 = .ok (.aload_n 0, 1) := by decide +kernel
theorem dWK_init_5 : decode cWK_init 5 = .ok (.new 9, 3) := by decide +kernel
theorem dWK_init_8 : decode cWK_init 8 = .ok (.dup, 1) := by decide +kernel
theorem dWK_init_9 : decode cWK_init 9 = .ok (.invokespecial 11, 3) := by decide +kernel
theorem dWK_init_12 : decode cWK_init 12 = .ok (.putfield 12, 3) := by decide +kernel
theorem dWK_init_15 : decode cWK_init 15 = .ok (.aload_n 0, 1) := by decide +kernel
theorem dWK_init_16 : decode cWK_init 16 = .ok (.iconst 0, 1) := by decide +kernel
theorem dWK_init_17 : decode cWK_init 17 = .ok (.putfield 18, 3) := by decide +kernel
theorem dWK_init_20 : decode cWK_init 20 = .ok (.aload_n 0, 1) := by decide +kernel
theorem dWK_init_21 : decode cWK_init 21 = .ok (.iconst 0, 1) := by decide +kernel
theorem dWK_init_22 : decode cWK_init 22 = .ok (.putfield 22, 3) := by decide +kernel
theorem dWK_init_25 : decode cWK_init 25 = .ok (.aload_n 0, 1) := by decide +kernel
theorem dWK_init_26 : decode cWK_init 26 = .ok (.lconst 0, 1) := by decide +kernel
theorem dWK_init_27 : decode cWK_init 27 = .ok (.putfield 25, 3) := by decide +kernel
theorem dWK_init_30 : decode cWK_init 30 = .ok (.return_, 1) := by decide +kernel
theorem dLK_init_0 : decode cLK_init 0 = .ok (.aload_n 0, 1) := by decide +kernel
theorem dLK_init_1 : decode cLK_init 1 = .ok (.invokespecial 3, 3) := by decide +kernel
theorem dLK_init_4 : decode cLK_init 4 = .ok (.aload_n 0, 1) := by decide +kernel
theorem dLK_init_5 : decode cLK_init 5 = .ok (.new 9, 3) := by decide +kernel
theorem dLK_init_8 : decode cLK_init 8 = .ok (.dup, 1) := by decide +kernel
theorem dLK_init_9 : decode cLK_init 9 = .ok (.invokespecial 11, 3) := by decide +kernel
theorem dLK_init_12 : decode cLK_init 12 = .ok (.putfield 12, 3) := by decide +kernel
theorem dLK_init_15 : decode cLK_init 15 = .ok (.aload_n 0, 1) := by decide +kernel
theorem dLK_init_16 : decode cLK_init 16 = .ok (.iconst (-1), 1) := by decide +kernel
theorem dLK_init_17 : decode cLK_init 17 = .ok (.putfield 18, 3) := by decide +kernel
theorem dLK_init_20 : decode cLK_init 20 = .ok (.aload_n 0, 1) := by decide +kernel
theorem dLK_init_21 : decode cLK_init 21 = .ok (.iconst 0, 1) := by decide +kernel
theorem dLK_init_22 : decode cLK_init 22 = .ok (.putfield 22, 3) := by decide +kernel
theorem dLK_init_25 : decode cLK_init 25 = .ok (.return_, 1) := by decide +kernel
theorem dTR_init_0 : decode cTR_init 0 = .ok (.aload_n 0, 1) := by decide +kernel
theorem dTR_init_1 : decode cTR_init 1 = .ok (.invokespecial 3, 3) := by decide +kernel
theorem dTR_init_4 : decode cTR_init 4 = .ok (.aload_n 0, 1) := by decide +kernel
theorem dTR_init_5 : decode cTR_init 5 = .ok (.sipush 200, 3) := by decide +kernel
theorem dTR_init_8 : decode cTR_init 8 = .ok (.newarray .int, 2) := by decide +kernel
theorem dTR_init_10 : decode cTR_init 10 = .ok (.putfield 9, 3) := by decide +kernel
theorem dTR_init_13 : decode cTR_init 13 = .ok (.aload_n 0, 1) := by decide +kernel
theorem dTR_init_14 : decode cTR_init 14 = .ok (.sipush 1000, 3) := by decide +kernel
theorem dTR_init_17 : decode cTR_init 17 = .ok (.newarray .int, 2) := by decide +kernel
theorem dTR_init_19 : decode cTR_init 19 = .ok (.putfield 15, 3) := by decide +kernel
theorem dTR_init_22 : decode cTR_init 22 = .ok (.aload_n 0, 1) := by decide +kernel
theorem dTR_init_23 : decode cTR_init 23 = .ok (.iconst 0, 1) := by decide +kernel
theorem dTR_init_24 : decode cTR_init 24 = .ok (.putfield 18, 3) := by decide +kernel
theorem dTR_init_27 : decode cTR_init 27 = .ok (.return_, 1) := by decide +kernel
set_option maxHeartbeats 4000000 in
set_option maxRecDepth 100000 in
theorem c_CK_init (l : Launch) (D : va_G) (tc : Nat → ClassId) (ad : Nat → Nat) (E : Nat → va_E)  (h0 : E 0 = .inr (0, [.null])) : CtN l D tc yCK_init 1 1 5 ad E [.ref (ad 0)] (fun E2 => isCK tc ad E2 0) := by
  refine CtN.ofW (cc := cCK_init) (maxL := 1) (ret := none) (own := R_CK) (by decide) rfl rfl w_59 (Nat.le_of_ble_eq_true rfl) ?_
  intro p e s m args below meth c ls X hlk hr hin hsq hDD hP hS hl
  have hx := X.1
  have hb := X.2.1
  have hD := hDD 1 (by decide) E
  have hl : lv_has ls 1 [(0, .ref (ad 0))] := hl
  refine lv_aload_n hx hb dCK_init_0 rfl (lv_at hl 0 rfl) ?_
  refine W.objInit hx hb X.2.2.2.1 (X.2.2.2.2.1 _ w_60) (X.2.2.2.2.1 _ w_26) (X.2.2.2.2.1 _ w_27) rfl (by rw [X.2.2.1]; exact hl.1) rfl dCK_init_1 (Nat.le_of_ble_eq_true rfl) (Nat.le_of_ble_eq_true rfl) ?_
  refine W.eq (g2 := F0 m 4 ls []) rfl ?_
  refine lv_aload_n hx hb dCK_init_4 rfl (lv_at hl 0 rfl) ?_
  refine lv_iconst (v := 5) hx hb dCK_init_5 (by decide) ?_
  refine q_newI 5 X w_49 hP hS (fun j hj => hsq j (by omega)) ⟨1, by decide, rfl⟩ rfl (by decide) (by decide) (by decide) dCK_init_6 (fun H hP9 hS9 => ?_)
  clear hP hS hD
  have hP : va_P D vwCl (wW 2 ad (va_up E 1 (.inl (tc 0, 5, .inl (fun _ => 0))))) H := hP9
  have hS := hS9
  clear hP9 hS9
  generalize g2 : va_up E 1 (.inl (tc 0, 5, .inl (fun _ => 0))) = E1 at hP
  have f3 : E1 0 = .inr (0, [.null]) := by rw [← g2, va_up_ne _ _ (by decide)]; exact h0
  have f4 : E1 1 = .inl (tc 0, 5, .inl (fun _ => 0)) := by rw [← g2]; exact va_up_self _ _ _
  clear g2
  have hD := hDD 2 (by decide) E1
  refine p_CK_9 X hin hD hP hS (by omega) (f3) rfl rfl (Nat.le_of_ble_eq_true rfl) dCK_init_8 (fun H locs hD9 hP9 hS9 => ?_)
  clear hP hS hD
  have hP : va_P D vwCl (wW 2 ad (va_up E1 0 (.inr (0, [.ref (ad 1)])))) H := hP9
  have hD : va_D (Aw (1 + 1) ad) (wW 2 ad (va_up E1 0 (.inr (0, [.ref (ad 1)])))) := hD9
  have hS := hS9
  clear hP9 hS9 hD9
  generalize g6 : va_up E1 0 (.inr (0, [.ref (ad 1)])) = E5 at hD hP
  have f7 : E5 0 = .inr (0, [.ref (ad 1)]) := by rw [← g6]; exact va_up_self _ _ _
  have f8 : E5 1 = .inl (tc 0, 5, .inl (fun _ => 0)) := by rw [← g6, va_up_ne _ _ (by omega)]; exact f4
  clear f3 f4 g6
  exact q_vretN X hlk hr hP hS dCK_init_11 (⟨f7, _, f8⟩)
set_option maxHeartbeats 4000000 in
set_option maxRecDepth 100000 in
theorem c_PG_init (l : Launch) (D : va_G) (tc : Nat → ClassId) (ad : Nat → Nat) (E : Nat → va_E)  (h0 : E 0 = .inr (2, [.null, .null, .null, .int 0])) : CtN l D tc yPG_init 1 3 36 ad E [.ref (ad 0)] (fun E2 => ∃ fo fa fb : Nat → Int32, isPG tc ad E2 0 0 fo fa fb) := by
  refine CtN.ofW (cc := cPG_init) (maxL := 1) (ret := none) (own := R_PG) (by decide) rfl rfl w_35 (Nat.le_of_ble_eq_true rfl) ?_
  intro p e s m args below meth c ls X hlk hr hin hsq hDD hP hS hl
  have hx := X.1
  have hb := X.2.1
  have hD := hDD 1 (by decide) E
  have hl : lv_has ls 1 [(0, .ref (ad 0))] := hl
  refine lv_aload_n hx hb dPG_init_0 rfl (lv_at hl 0 rfl) ?_
  refine W.objInit hx hb X.2.2.2.1 (X.2.2.2.2.1 _ w_36) (X.2.2.2.2.1 _ w_26) (X.2.2.2.2.1 _ w_27) rfl (by rw [X.2.2.1]; exact hl.1) rfl dPG_init_1 (Nat.le_of_ble_eq_true rfl) (Nat.le_of_ble_eq_true rfl) ?_
  refine W.eq (g2 := F0 m 4 ls []) rfl ?_
  refine lv_aload_n hx hb dPG_init_4 rfl (lv_at hl 0 rfl) ?_
  refine lv_bipush (v := 12) hx hb dPG_init_5 (by decide) ?_
  refine q_newI 12 X w_49 hP hS (fun j hj => hsq j (by omega)) ⟨1, by decide, rfl⟩ rfl (by decide) (by decide) (by decide) dPG_init_7 (fun H hP9 hS9 => ?_)
  clear hP hS hD
  have hP : va_P D vwCl (wW 2 ad (va_up E 1 (.inl (tc 0, 12, .inl (fun _ => 0))))) H := hP9
  have hS := hS9
  clear hP9 hS9
  generalize g2 : va_up E 1 (.inl (tc 0, 12, .inl (fun _ => 0))) = E1 at hP
  have f3 : E1 0 = .inr (2, [.null, .null, .null, .int 0]) := by rw [← g2, va_up_ne _ _ (by decide)]; exact h0
  have f4 : E1 1 = .inl (tc 0, 12, .inl (fun _ => 0)) := by rw [← g2]; exact va_up_self _ _ _
  clear g2
  have hD := hDD 2 (by decide) E1
  refine p_PG_9 X hin hD hP hS (by omega) (f3) rfl rfl (Nat.le_of_ble_eq_true rfl) dPG_init_9 (fun H locs hD9 hP9 hS9 => ?_)
  clear hP hS hD
  have hP : va_P D vwCl (wW 2 ad (va_up E1 0 (.inr (2, [.ref (ad 1), .null, .null, .int 0])))) H := hP9
  have hD : va_D (Aw (1 + 3) ad) (wW 2 ad (va_up E1 0 (.inr (2, [.ref (ad 1), .null, .null, .int 0])))) := hD9
  have hS := hS9
  clear hP9 hS9 hD9
  generalize g6 : va_up E1 0 (.inr (2, [.ref (ad 1), .null, .null, .int 0])) = E5 at hD hP
  have f7 : E5 0 = .inr (2, [.ref (ad 1), .null, .null, .int 0]) := by rw [← g6]; exact va_up_self _ _ _
  have f8 : E5 1 = .inl (tc 0, 12, .inl (fun _ => 0)) := by rw [← g6, va_up_ne _ _ (by omega)]; exact f4
  clear f3 f4 g6
  refine lv_aload_n hx hb dPG_init_12 rfl (lv_at hl 0 rfl) ?_
  refine lv_bipush (v := 12) hx hb dPG_init_13 (by decide) ?_
  refine q_newI 12 X w_49 hP hS (fun j hj => hsq j (by omega)) ⟨2, by decide, rfl⟩ rfl (by decide) (by decide) (by decide) dPG_init_15 (fun H hP9 hS9 => ?_)
  clear hP hS hD
  have hP : va_P D vwCl (wW 3 ad (va_up E5 2 (.inl (tc 0, 12, .inl (fun _ => 0))))) H := hP9
  have hS := hS9
  clear hP9 hS9
  generalize g10 : va_up E5 2 (.inl (tc 0, 12, .inl (fun _ => 0))) = E9 at hP
  have f11 : E9 0 = .inr (2, [.ref (ad 1), .null, .null, .int 0]) := by rw [← g10, va_up_ne _ _ (by decide)]; exact f7
  have f12 : E9 1 = .inl (tc 0, 12, .inl (fun _ => 0)) := by rw [← g10, va_up_ne _ _ (by decide)]; exact f8
  have f13 : E9 2 = .inl (tc 0, 12, .inl (fun _ => 0)) := by rw [← g10]; exact va_up_self _ _ _
  clear f7 f8 g10
  have hD := hDD 3 (by decide) E9
  refine p_PG_15 X hin hD hP hS (by omega) (f11) rfl rfl (Nat.le_of_ble_eq_true rfl) dPG_init_17 (fun H locs hD9 hP9 hS9 => ?_)
  clear hP hS hD
  have hP : va_P D vwCl (wW 3 ad (va_up E9 0 (.inr (2, [.ref (ad 1), .ref (ad 2), .null, .int 0])))) H := hP9
  have hD : va_D (Aw (1 + 3) ad) (wW 3 ad (va_up E9 0 (.inr (2, [.ref (ad 1), .ref (ad 2), .null, .int 0])))) := hD9
  have hS := hS9
  clear hP9 hS9 hD9
  generalize g15 : va_up E9 0 (.inr (2, [.ref (ad 1), .ref (ad 2), .null, .int 0])) = E14 at hD hP
  have f16 : E14 0 = .inr (2, [.ref (ad 1), .ref (ad 2), .null, .int 0]) := by rw [← g15]; exact va_up_self _ _ _
  have f17 : E14 1 = .inl (tc 0, 12, .inl (fun _ => 0)) := by rw [← g15, va_up_ne _ _ (by omega)]; exact f12
  have f18 : E14 2 = .inl (tc 0, 12, .inl (fun _ => 0)) := by rw [← g15, va_up_ne _ _ (by omega)]; exact f13
  clear f11 f12 f13 g15
  refine lv_aload_n hx hb dPG_init_20 rfl (lv_at hl 0 rfl) ?_
  refine lv_bipush (v := 12) hx hb dPG_init_21 (by decide) ?_
  refine q_newI 12 X w_49 hP hS (fun j hj => hsq j (by omega)) ⟨3, by decide, rfl⟩ rfl (by decide) (by decide) (by decide) dPG_init_23 (fun H hP9 hS9 => ?_)
  clear hP hS hD
  have hP : va_P D vwCl (wW 4 ad (va_up E14 3 (.inl (tc 0, 12, .inl (fun _ => 0))))) H := hP9
  have hS := hS9
  clear hP9 hS9
  generalize g20 : va_up E14 3 (.inl (tc 0, 12, .inl (fun _ => 0))) = E19 at hP
  have f21 : E19 0 = .inr (2, [.ref (ad 1), .ref (ad 2), .null, .int 0]) := by rw [← g20, va_up_ne _ _ (by decide)]; exact f16
  have f22 : E19 1 = .inl (tc 0, 12, .inl (fun _ => 0)) := by rw [← g20, va_up_ne _ _ (by decide)]; exact f17
  have f23 : E19 2 = .inl (tc 0, 12, .inl (fun _ => 0)) := by rw [← g20, va_up_ne _ _ (by decide)]; exact f18
  have f24 : E19 3 = .inl (tc 0, 12, .inl (fun _ => 0)) := by rw [← g20]; exact va_up_self _ _ _
  clear f16 f17 f18 g20
  have hD := hDD 4 (by decide) E19
  refine p_PG_18 X hin hD hP hS (by omega) (f21) rfl rfl (Nat.le_of_ble_eq_true rfl) dPG_init_25 (fun H locs hD9 hP9 hS9 => ?_)
  clear hP hS hD
  have hP : va_P D vwCl (wW 4 ad (va_up E19 0 (.inr (2, [.ref (ad 1), .ref (ad 2), .ref (ad 3), .int 0])))) H := hP9
  have hD : va_D (Aw (1 + 3) ad) (wW 4 ad (va_up E19 0 (.inr (2, [.ref (ad 1), .ref (ad 2), .ref (ad 3), .int 0])))) := hD9
  have hS := hS9
  clear hP9 hS9 hD9
  generalize g26 : va_up E19 0 (.inr (2, [.ref (ad 1), .ref (ad 2), .ref (ad 3), .int 0])) = E25 at hD hP
  have f27 : E25 0 = .inr (2, [.ref (ad 1), .ref (ad 2), .ref (ad 3), .int 0]) := by rw [← g26]; exact va_up_self _ _ _
  have f28 : E25 1 = .inl (tc 0, 12, .inl (fun _ => 0)) := by rw [← g26, va_up_ne _ _ (by omega)]; exact f22
  have f29 : E25 2 = .inl (tc 0, 12, .inl (fun _ => 0)) := by rw [← g26, va_up_ne _ _ (by omega)]; exact f23
  have f30 : E25 3 = .inl (tc 0, 12, .inl (fun _ => 0)) := by rw [← g26, va_up_ne _ _ (by omega)]; exact f24
  clear f21 f22 f23 f24 g26
  refine lv_aload_n hx hb dPG_init_28 rfl (lv_at hl 0 rfl) ?_
  refine lv_iconst (v := 0) hx hb dPG_init_29 (by decide) ?_
  refine p_PG_21 X hD hP hS (by omega) (f27) rfl rfl (Nat.le_of_ble_eq_true rfl) dPG_init_30 (fun H locs hD9 hP9 hS9 => ?_)
  clear hP hS hD
  have hP : va_P D vwCl (wW 4 ad (va_up E25 0 (.inr (2, [.ref (ad 1), .ref (ad 2), .ref (ad 3), .int 0])))) H := hP9
  have hD : va_D (Aw (1 + 3) ad) (wW 4 ad (va_up E25 0 (.inr (2, [.ref (ad 1), .ref (ad 2), .ref (ad 3), .int 0])))) := hD9
  have hS := hS9
  clear hP9 hS9 hD9
  generalize g32 : va_up E25 0 (.inr (2, [.ref (ad 1), .ref (ad 2), .ref (ad 3), .int 0])) = E31 at hD hP
  have f33 : E31 0 = .inr (2, [.ref (ad 1), .ref (ad 2), .ref (ad 3), .int 0]) := by rw [← g32]; exact va_up_self _ _ _
  have f34 : E31 1 = .inl (tc 0, 12, .inl (fun _ => 0)) := by rw [← g32, va_up_ne _ _ (by omega)]; exact f28
  have f35 : E31 2 = .inl (tc 0, 12, .inl (fun _ => 0)) := by rw [← g32, va_up_ne _ _ (by omega)]; exact f29
  have f36 : E31 3 = .inl (tc 0, 12, .inl (fun _ => 0)) := by rw [← g32, va_up_ne _ _ (by omega)]; exact f30
  clear f27 f28 f29 f30 g32
  exact q_vretN X hlk hr hP hS dPG_init_33 (⟨_, _, _, f33, f34, f35, f36⟩)
set_option maxHeartbeats 4000000 in
set_option maxRecDepth 100000 in
theorem c_WK_init (l : Launch) (D : va_G) (tc : Nat → ClassId) (ad : Nat → Nat) (E : Nat → va_E)  (h0 : E 0 = .inr (5, [.null, .int 0, .int 0, .long 0])) : CtN l D tc yWK_init 2 2 6 ad E [.ref (ad 0)] (fun E2 => isWK tc ad E2 0 0 0 0) := by
  refine CtN.ofW (cc := cWK_init) (maxL := 1) (ret := none) (own := R_WK) (by decide) rfl rfl w_53 (Nat.le_of_ble_eq_true rfl) ?_
  intro p e s m args below meth c ls X hlk hr hin hsq hDD hP hS hl
  have hx := X.1
  have hb := X.2.1
  have hD := hDD 1 (by decide) E
  have hl : lv_has ls 1 [(0, .ref (ad 0))] := hl
  refine lv_aload_n hx hb dWK_init_0 rfl (lv_at hl 0 rfl) ?_
  refine W.objInit hx hb X.2.2.2.1 (X.2.2.2.2.1 _ w_54) (X.2.2.2.2.1 _ w_26) (X.2.2.2.2.1 _ w_27) rfl (by rw [X.2.2.1]; exact hl.1) rfl dWK_init_1 (Nat.le_of_ble_eq_true rfl) (Nat.le_of_ble_eq_true rfl) ?_
  refine W.eq (g2 := F0 m 4 ls []) rfl ?_
  refine lv_aload_n hx hb dWK_init_4 rfl (lv_at hl 0 rfl) ?_
  refine q_newO (T := T_CK) (ci := 0) (fs := [.null]) ty_CK X in_CK tok_CK w_55 w_56 w_4 rfl (by decide) hP hS (fun j hj => hsq j (by omega)) ⟨1, by decide, rfl⟩ (by decide) (by decide) dWK_init_5 (fun H hP9 hS9 => ?_)
  clear hP hS hD
  have hP : va_P D vwCl (wW 2 ad (va_up E 1 (.inr (0, [.null])))) H := hP9
  have hS := hS9
  clear hP9 hS9
  generalize g2 : va_up E 1 (.inr (0, [.null])) = E1 at hP
  have f3 : E1 0 = .inr (5, [.null, .int 0, .int 0, .long 0]) := by rw [← g2, va_up_ne _ _ (by decide)]; exact h0
  have f4 : E1 1 = .inr (0, [.null]) := by rw [← g2]; exact va_up_self _ _ _
  clear g2
  have hD := hDD 2 (by decide) E1
  refine lv_dup hx hb dWK_init_8 rfl ?_
  refine x_n (b := 1) (fun hz => x_runIN (b := ad 1) (As := []) (rest := [.ref (ad 1), .ref (ad 0)]) X (c_CK_init l D tc (fun k => ad (1 + k)) (fun k => E1 (1 + k)) (f4)) rfl rfl (by decide) (by decide) w_59 w_4 w_57 w_58 rfl ry_CK_init (ctN_pre (b := 1) X rfl hP (fun j hj => hsq j (by omega)) hz) ctN_blind hl.1 (Nat.le_of_ble_eq_true rfl) dWK_init_9 ⟨by decide, by decide⟩) rfl hP hS (fun j hj => hsq j (by omega)) (fun n hn E' => hDD n (by omega) E') (fun E5 H locs q8 hP9 hS9 => ?_)
  clear hP hS hD
  have hP : va_P D vwCl (wW 3 ad (wU (1 + 1) (fun k => 1 + k) E1 E5)) H := hP9
  have hS := hS9
  clear hP9 hS9
  obtain ⟨q80, q8f, q81⟩ := q8
  generalize g6 : wU (1 + 1) (fun k => 1 + k) E1 E5 = E7 at hP
  have f9 : E7 0 = .inr (5, [.null, .int 0, .int 0, .long 0]) := by rw [← g6, wU_far (by omega)]; exact f3
  have f10 : E7 1 = .inr (0, [.ref (ad 2)]) := by rw [← g6]; exact (wU_own 0 (by omega)).trans (q80)
  have f11 : E7 2 = .inl (tc 0, 5, .inl q8f) := by rw [← g6]; exact (wU_own 1 (by omega)).trans (q81)
  clear f3 f4 g6
  have hD := hDD 3 (by decide) E7
  refine p_WK_12 X hin hD hP hS (by omega) (f9) rfl rfl (Nat.le_of_ble_eq_true rfl) dWK_init_12 (fun H locs hD9 hP9 hS9 => ?_)
  clear hP hS hD
  have hP : va_P D vwCl (wW 3 ad (va_up E7 0 (.inr (5, [.ref (ad 1), .int 0, .int 0, .long 0])))) H := hP9
  have hD : va_D (Aw (1 + 2) ad) (wW 3 ad (va_up E7 0 (.inr (5, [.ref (ad 1), .int 0, .int 0, .long 0])))) := hD9
  have hS := hS9
  clear hP9 hS9 hD9
  generalize g13 : va_up E7 0 (.inr (5, [.ref (ad 1), .int 0, .int 0, .long 0])) = E12 at hD hP
  have f14 : E12 0 = .inr (5, [.ref (ad 1), .int 0, .int 0, .long 0]) := by rw [← g13]; exact va_up_self _ _ _
  have f15 : E12 1 = .inr (0, [.ref (ad 2)]) := by rw [← g13, va_up_ne _ _ (by omega)]; exact f10
  have f16 : E12 2 = .inl (tc 0, 5, .inl q8f) := by rw [← g13, va_up_ne _ _ (by omega)]; exact f11
  clear f9 f10 f11 g13
  refine lv_aload_n hx hb dWK_init_15 rfl (lv_at hl 0 rfl) ?_
  refine lv_iconst (v := 0) hx hb dWK_init_16 (by decide) ?_
  refine p_WK_18 X hD hP hS (by omega) (f14) rfl rfl (Nat.le_of_ble_eq_true rfl) dWK_init_17 (fun H locs hD9 hP9 hS9 => ?_)
  clear hP hS hD
  have hP : va_P D vwCl (wW 3 ad (va_up E12 0 (.inr (5, [.ref (ad 1), .int 0, .int 0, .long 0])))) H := hP9
  have hD : va_D (Aw (1 + 2) ad) (wW 3 ad (va_up E12 0 (.inr (5, [.ref (ad 1), .int 0, .int 0, .long 0])))) := hD9
  have hS := hS9
  clear hP9 hS9 hD9
  generalize g18 : va_up E12 0 (.inr (5, [.ref (ad 1), .int 0, .int 0, .long 0])) = E17 at hD hP
  have f19 : E17 0 = .inr (5, [.ref (ad 1), .int 0, .int 0, .long 0]) := by rw [← g18]; exact va_up_self _ _ _
  have f20 : E17 1 = .inr (0, [.ref (ad 2)]) := by rw [← g18, va_up_ne _ _ (by omega)]; exact f15
  have f21 : E17 2 = .inl (tc 0, 5, .inl q8f) := by rw [← g18, va_up_ne _ _ (by omega)]; exact f16
  clear f14 f15 f16 g18
  refine lv_aload_n hx hb dWK_init_20 rfl (lv_at hl 0 rfl) ?_
  refine lv_iconst (v := 0) hx hb dWK_init_21 (by decide) ?_
  refine p_WK_22 X hD hP hS (by omega) (f19) rfl rfl (Nat.le_of_ble_eq_true rfl) dWK_init_22 (fun H locs hD9 hP9 hS9 => ?_)
  clear hP hS hD
  have hP : va_P D vwCl (wW 3 ad (va_up E17 0 (.inr (5, [.ref (ad 1), .int 0, .int 0, .long 0])))) H := hP9
  have hD : va_D (Aw (1 + 2) ad) (wW 3 ad (va_up E17 0 (.inr (5, [.ref (ad 1), .int 0, .int 0, .long 0])))) := hD9
  have hS := hS9
  clear hP9 hS9 hD9
  generalize g23 : va_up E17 0 (.inr (5, [.ref (ad 1), .int 0, .int 0, .long 0])) = E22 at hD hP
  have f24 : E22 0 = .inr (5, [.ref (ad 1), .int 0, .int 0, .long 0]) := by rw [← g23]; exact va_up_self _ _ _
  have f25 : E22 1 = .inr (0, [.ref (ad 2)]) := by rw [← g23, va_up_ne _ _ (by omega)]; exact f20
  have f26 : E22 2 = .inl (tc 0, 5, .inl q8f) := by rw [← g23, va_up_ne _ _ (by omega)]; exact f21
  clear f19 f20 f21 g23
  refine lv_aload_n hx hb dWK_init_25 rfl (lv_at hl 0 rfl) ?_
  refine lv_lconst (v := 0) hx hb dWK_init_26 (by decide) ?_
  refine p_WK_25 X hD hP hS (by omega) (f24) rfl rfl (Nat.le_of_ble_eq_true rfl) dWK_init_27 (fun H locs hD9 hP9 hS9 => ?_)
  clear hP hS hD
  have hP : va_P D vwCl (wW 3 ad (va_up E22 0 (.inr (5, [.ref (ad 1), .int 0, .int 0, .long 0])))) H := hP9
  have hD : va_D (Aw (1 + 2) ad) (wW 3 ad (va_up E22 0 (.inr (5, [.ref (ad 1), .int 0, .int 0, .long 0])))) := hD9
  have hS := hS9
  clear hP9 hS9 hD9
  generalize g28 : va_up E22 0 (.inr (5, [.ref (ad 1), .int 0, .int 0, .long 0])) = E27 at hD hP
  have f29 : E27 0 = .inr (5, [.ref (ad 1), .int 0, .int 0, .long 0]) := by rw [← g28]; exact va_up_self _ _ _
  have f30 : E27 1 = .inr (0, [.ref (ad 2)]) := by rw [← g28, va_up_ne _ _ (by omega)]; exact f25
  have f31 : E27 2 = .inl (tc 0, 5, .inl q8f) := by rw [← g28, va_up_ne _ _ (by omega)]; exact f26
  clear f24 f25 f26 g28
  exact q_vretN X hlk hr hP hS dWK_init_30 (⟨f29, f30, _, f31⟩)
set_option maxHeartbeats 4000000 in
set_option maxRecDepth 100000 in
theorem c_LK_init (l : Launch) (D : va_G) (tc : Nat → ClassId) (ad : Nat → Nat) (E : Nat → va_E)  (h0 : E 0 = .inr (1, [.null, .int 0, .int 0])) : CtN l D tc yLK_init 2 2 6 ad E [.ref (ad 0)] (fun E2 => isLK tc ad E2 0 (-1) 0) := by
  refine CtN.ofW (cc := cLK_init) (maxL := 1) (ret := none) (own := R_LK) (by decide) rfl rfl w_81 (Nat.le_of_ble_eq_true rfl) ?_
  intro p e s m args below meth c ls X hlk hr hin hsq hDD hP hS hl
  have hx := X.1
  have hb := X.2.1
  have hD := hDD 1 (by decide) E
  have hl : lv_has ls 1 [(0, .ref (ad 0))] := hl
  refine lv_aload_n hx hb dLK_init_0 rfl (lv_at hl 0 rfl) ?_
  refine W.objInit hx hb X.2.2.2.1 (X.2.2.2.2.1 _ w_82) (X.2.2.2.2.1 _ w_26) (X.2.2.2.2.1 _ w_27) rfl (by rw [X.2.2.1]; exact hl.1) rfl dLK_init_1 (Nat.le_of_ble_eq_true rfl) (Nat.le_of_ble_eq_true rfl) ?_
  refine W.eq (g2 := F0 m 4 ls []) rfl ?_
  refine lv_aload_n hx hb dLK_init_4 rfl (lv_at hl 0 rfl) ?_
  refine q_newO (T := T_CK) (ci := 0) (fs := [.null]) ty_CK X in_CK tok_CK w_83 w_56 w_4 rfl (by decide) hP hS (fun j hj => hsq j (by omega)) ⟨1, by decide, rfl⟩ (by decide) (by decide) dLK_init_5 (fun H hP9 hS9 => ?_)
  clear hP hS hD
  have hP : va_P D vwCl (wW 2 ad (va_up E 1 (.inr (0, [.null])))) H := hP9
  have hS := hS9
  clear hP9 hS9
  generalize g2 : va_up E 1 (.inr (0, [.null])) = E1 at hP
  have f3 : E1 0 = .inr (1, [.null, .int 0, .int 0]) := by rw [← g2, va_up_ne _ _ (by decide)]; exact h0
  have f4 : E1 1 = .inr (0, [.null]) := by rw [← g2]; exact va_up_self _ _ _
  clear g2
  have hD := hDD 2 (by decide) E1
  refine lv_dup hx hb dLK_init_8 rfl ?_
  refine x_n (b := 1) (fun hz => x_runIN (b := ad 1) (As := []) (rest := [.ref (ad 1), .ref (ad 0)]) X (c_CK_init l D tc (fun k => ad (1 + k)) (fun k => E1 (1 + k)) (f4)) rfl rfl (by decide) (by decide) w_59 w_4 w_84 w_58 rfl ry_CK_init (ctN_pre (b := 1) X rfl hP (fun j hj => hsq j (by omega)) hz) ctN_blind hl.1 (Nat.le_of_ble_eq_true rfl) dLK_init_9 ⟨by decide, by decide⟩) rfl hP hS (fun j hj => hsq j (by omega)) (fun n hn E' => hDD n (by omega) E') (fun E5 H locs q8 hP9 hS9 => ?_)
  clear hP hS hD
  have hP : va_P D vwCl (wW 3 ad (wU (1 + 1) (fun k => 1 + k) E1 E5)) H := hP9
  have hS := hS9
  clear hP9 hS9
  obtain ⟨q80, q8f, q81⟩ := q8
  generalize g6 : wU (1 + 1) (fun k => 1 + k) E1 E5 = E7 at hP
  have f9 : E7 0 = .inr (1, [.null, .int 0, .int 0]) := by rw [← g6, wU_far (by omega)]; exact f3
  have f10 : E7 1 = .inr (0, [.ref (ad 2)]) := by rw [← g6]; exact (wU_own 0 (by omega)).trans (q80)
  have f11 : E7 2 = .inl (tc 0, 5, .inl q8f) := by rw [← g6]; exact (wU_own 1 (by omega)).trans (q81)
  clear f3 f4 g6
  have hD := hDD 3 (by decide) E7
  refine p_LK_12 X hin hD hP hS (by omega) (f9) rfl rfl (Nat.le_of_ble_eq_true rfl) dLK_init_12 (fun H locs hD9 hP9 hS9 => ?_)
  clear hP hS hD
  have hP : va_P D vwCl (wW 3 ad (va_up E7 0 (.inr (1, [.ref (ad 1), .int 0, .int 0])))) H := hP9
  have hD : va_D (Aw (1 + 2) ad) (wW 3 ad (va_up E7 0 (.inr (1, [.ref (ad 1), .int 0, .int 0])))) := hD9
  have hS := hS9
  clear hP9 hS9 hD9
  generalize g13 : va_up E7 0 (.inr (1, [.ref (ad 1), .int 0, .int 0])) = E12 at hD hP
  have f14 : E12 0 = .inr (1, [.ref (ad 1), .int 0, .int 0]) := by rw [← g13]; exact va_up_self _ _ _
  have f15 : E12 1 = .inr (0, [.ref (ad 2)]) := by rw [← g13, va_up_ne _ _ (by omega)]; exact f10
  have f16 : E12 2 = .inl (tc 0, 5, .inl q8f) := by rw [← g13, va_up_ne _ _ (by omega)]; exact f11
  clear f9 f10 f11 g13
  refine lv_aload_n hx hb dLK_init_15 rfl (lv_at hl 0 rfl) ?_
  refine lv_iconst (v := (-1)) hx hb dLK_init_16 (by decide) ?_
  refine p_LK_18 X hD hP hS (by omega) (f14) rfl rfl (Nat.le_of_ble_eq_true rfl) dLK_init_17 (fun H locs hD9 hP9 hS9 => ?_)
  clear hP hS hD
  have hP : va_P D vwCl (wW 3 ad (va_up E12 0 (.inr (1, [.ref (ad 1), .int (-1), .int 0])))) H := hP9
  have hD : va_D (Aw (1 + 2) ad) (wW 3 ad (va_up E12 0 (.inr (1, [.ref (ad 1), .int (-1), .int 0])))) := hD9
  have hS := hS9
  clear hP9 hS9 hD9
  generalize g18 : va_up E12 0 (.inr (1, [.ref (ad 1), .int (-1), .int 0])) = E17 at hD hP
  have f19 : E17 0 = .inr (1, [.ref (ad 1), .int (-1), .int 0]) := by rw [← g18]; exact va_up_self _ _ _
  have f20 : E17 1 = .inr (0, [.ref (ad 2)]) := by rw [← g18, va_up_ne _ _ (by omega)]; exact f15
  have f21 : E17 2 = .inl (tc 0, 5, .inl q8f) := by rw [← g18, va_up_ne _ _ (by omega)]; exact f16
  clear f14 f15 f16 g18
  refine lv_aload_n hx hb dLK_init_20 rfl (lv_at hl 0 rfl) ?_
  refine lv_iconst (v := 0) hx hb dLK_init_21 (by decide) ?_
  refine p_LK_22 X hD hP hS (by omega) (f19) rfl rfl (Nat.le_of_ble_eq_true rfl) dLK_init_22 (fun H locs hD9 hP9 hS9 => ?_)
  clear hP hS hD
  have hP : va_P D vwCl (wW 3 ad (va_up E17 0 (.inr (1, [.ref (ad 1), .int (-1), .int 0])))) H := hP9
  have hD : va_D (Aw (1 + 2) ad) (wW 3 ad (va_up E17 0 (.inr (1, [.ref (ad 1), .int (-1), .int 0])))) := hD9
  have hS := hS9
  clear hP9 hS9 hD9
  generalize g23 : va_up E17 0 (.inr (1, [.ref (ad 1), .int (-1), .int 0])) = E22 at hD hP
  have f24 : E22 0 = .inr (1, [.ref (ad 1), .int (-1), .int 0]) := by rw [← g23]; exact va_up_self _ _ _
  have f25 : E22 1 = .inr (0, [.ref (ad 2)]) := by rw [← g23, va_up_ne _ _ (by omega)]; exact f20
  have f26 : E22 2 = .inl (tc 0, 5, .inl q8f) := by rw [← g23, va_up_ne _ _ (by omega)]; exact f21
  clear f19 f20 f21 g23
  exact q_vretN X hlk hr hP hS dLK_init_25 (⟨f24, f25, _, f26⟩)
set_option maxHeartbeats 4000000 in
set_option maxRecDepth 100000 in
theorem c_TR_init (l : Launch) (D : va_G) (tc : Nat → ClassId) (ad : Nat → Nat) (E : Nat → va_E)  (h0 : E 0 = .inr (4, [.null, .null, .int 0])) : CtN l D tc yTR_init 1 2 1200 ad E [.ref (ad 0)] (fun E2 => ∃ fc fk : Nat → Int32, isTR tc ad E2 0 0 fc fk) := by
  refine CtN.ofW (cc := cTR_init) (maxL := 1) (ret := none) (own := R_TR) (by decide) rfl rfl w_100 (Nat.le_of_ble_eq_true rfl) ?_
  intro p e s m args below meth c ls X hlk hr hin hsq hDD hP hS hl
  have hx := X.1
  have hb := X.2.1
  have hD := hDD 1 (by decide) E
  have hl : lv_has ls 1 [(0, .ref (ad 0))] := hl
  refine lv_aload_n hx hb dTR_init_0 rfl (lv_at hl 0 rfl) ?_
  refine W.objInit hx hb X.2.2.2.1 (X.2.2.2.2.1 _ w_101) (X.2.2.2.2.1 _ w_26) (X.2.2.2.2.1 _ w_27) rfl (by rw [X.2.2.1]; exact hl.1) rfl dTR_init_1 (Nat.le_of_ble_eq_true rfl) (Nat.le_of_ble_eq_true rfl) ?_
  refine W.eq (g2 := F0 m 4 ls []) rfl ?_
  refine lv_aload_n hx hb dTR_init_4 rfl (lv_at hl 0 rfl) ?_
  refine lv_sipush (v := 200) hx hb dTR_init_5 (by decide) ?_
  refine q_newI 200 X w_49 hP hS (fun j hj => hsq j (by omega)) ⟨1, by decide, rfl⟩ rfl (by decide) (by decide) (by decide) dTR_init_8 (fun H hP9 hS9 => ?_)
  clear hP hS hD
  have hP : va_P D vwCl (wW 2 ad (va_up E 1 (.inl (tc 0, 200, .inl (fun _ => 0))))) H := hP9
  have hS := hS9
  clear hP9 hS9
  generalize g2 : va_up E 1 (.inl (tc 0, 200, .inl (fun _ => 0))) = E1 at hP
  have f3 : E1 0 = .inr (4, [.null, .null, .int 0]) := by rw [← g2, va_up_ne _ _ (by decide)]; exact h0
  have f4 : E1 1 = .inl (tc 0, 200, .inl (fun _ => 0)) := by rw [← g2]; exact va_up_self _ _ _
  clear g2
  have hD := hDD 2 (by decide) E1
  refine p_TR_9 X hin hD hP hS (by omega) (f3) rfl rfl (Nat.le_of_ble_eq_true rfl) dTR_init_10 (fun H locs hD9 hP9 hS9 => ?_)
  clear hP hS hD
  have hP : va_P D vwCl (wW 2 ad (va_up E1 0 (.inr (4, [.ref (ad 1), .null, .int 0])))) H := hP9
  have hD : va_D (Aw (1 + 2) ad) (wW 2 ad (va_up E1 0 (.inr (4, [.ref (ad 1), .null, .int 0])))) := hD9
  have hS := hS9
  clear hP9 hS9 hD9
  generalize g6 : va_up E1 0 (.inr (4, [.ref (ad 1), .null, .int 0])) = E5 at hD hP
  have f7 : E5 0 = .inr (4, [.ref (ad 1), .null, .int 0]) := by rw [← g6]; exact va_up_self _ _ _
  have f8 : E5 1 = .inl (tc 0, 200, .inl (fun _ => 0)) := by rw [← g6, va_up_ne _ _ (by omega)]; exact f4
  clear f3 f4 g6
  refine lv_aload_n hx hb dTR_init_13 rfl (lv_at hl 0 rfl) ?_
  refine lv_sipush (v := 1000) hx hb dTR_init_14 (by decide) ?_
  refine q_newI 1000 X w_49 hP hS (fun j hj => hsq j (by omega)) ⟨2, by decide, rfl⟩ rfl (by decide) (by decide) (by decide) dTR_init_17 (fun H hP9 hS9 => ?_)
  clear hP hS hD
  have hP : va_P D vwCl (wW 3 ad (va_up E5 2 (.inl (tc 0, 1000, .inl (fun _ => 0))))) H := hP9
  have hS := hS9
  clear hP9 hS9
  generalize g10 : va_up E5 2 (.inl (tc 0, 1000, .inl (fun _ => 0))) = E9 at hP
  have f11 : E9 0 = .inr (4, [.ref (ad 1), .null, .int 0]) := by rw [← g10, va_up_ne _ _ (by decide)]; exact f7
  have f12 : E9 1 = .inl (tc 0, 200, .inl (fun _ => 0)) := by rw [← g10, va_up_ne _ _ (by decide)]; exact f8
  have f13 : E9 2 = .inl (tc 0, 1000, .inl (fun _ => 0)) := by rw [← g10]; exact va_up_self _ _ _
  clear f7 f8 g10
  have hD := hDD 3 (by decide) E9
  refine p_TR_15 X hin hD hP hS (by omega) (f11) rfl rfl (Nat.le_of_ble_eq_true rfl) dTR_init_19 (fun H locs hD9 hP9 hS9 => ?_)
  clear hP hS hD
  have hP : va_P D vwCl (wW 3 ad (va_up E9 0 (.inr (4, [.ref (ad 1), .ref (ad 2), .int 0])))) H := hP9
  have hD : va_D (Aw (1 + 2) ad) (wW 3 ad (va_up E9 0 (.inr (4, [.ref (ad 1), .ref (ad 2), .int 0])))) := hD9
  have hS := hS9
  clear hP9 hS9 hD9
  generalize g15 : va_up E9 0 (.inr (4, [.ref (ad 1), .ref (ad 2), .int 0])) = E14 at hD hP
  have f16 : E14 0 = .inr (4, [.ref (ad 1), .ref (ad 2), .int 0]) := by rw [← g15]; exact va_up_self _ _ _
  have f17 : E14 1 = .inl (tc 0, 200, .inl (fun _ => 0)) := by rw [← g15, va_up_ne _ _ (by omega)]; exact f12
  have f18 : E14 2 = .inl (tc 0, 1000, .inl (fun _ => 0)) := by rw [← g15, va_up_ne _ _ (by omega)]; exact f13
  clear f11 f12 f13 g15
  refine lv_aload_n hx hb dTR_init_22 rfl (lv_at hl 0 rfl) ?_
  refine lv_iconst (v := 0) hx hb dTR_init_23 (by decide) ?_
  refine p_TR_18 X hD hP hS (by omega) (f16) rfl rfl (Nat.le_of_ble_eq_true rfl) dTR_init_24 (fun H locs hD9 hP9 hS9 => ?_)
  clear hP hS hD
  have hP : va_P D vwCl (wW 3 ad (va_up E14 0 (.inr (4, [.ref (ad 1), .ref (ad 2), .int 0])))) H := hP9
  have hD : va_D (Aw (1 + 2) ad) (wW 3 ad (va_up E14 0 (.inr (4, [.ref (ad 1), .ref (ad 2), .int 0])))) := hD9
  have hS := hS9
  clear hP9 hS9 hD9
  generalize g20 : va_up E14 0 (.inr (4, [.ref (ad 1), .ref (ad 2), .int 0])) = E19 at hD hP
  have f21 : E19 0 = .inr (4, [.ref (ad 1), .ref (ad 2), .int 0]) := by rw [← g20]; exact va_up_self _ _ _
  have f22 : E19 1 = .inl (tc 0, 200, .inl (fun _ => 0)) := by rw [← g20, va_up_ne _ _ (by omega)]; exact f17
  have f23 : E19 2 = .inl (tc 0, 1000, .inl (fun _ => 0)) := by rw [← g20, va_up_ne _ _ (by omega)]; exact f18
  clear f16 f17 f18 g20
  exact q_vretN X hlk hr hP hS dTR_init_27 (⟨_, _, f21, f22, f23⟩)
