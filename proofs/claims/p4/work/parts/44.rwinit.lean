theorem dRW_init_0 : decode cRW_init 0 = .ok (.aload_n 0, 1) := by decide +kernel
theorem dRW_init_1 : decode cRW_init 1 = .ok (.invokespecial 1, 3) := by decide +kernel
theorem dRW_init_4 : decode cRW_init 4 = .ok (.aload_n 0, 1) := by decide +kernel
theorem dRW_init_5 : decode cRW_init 5 = .ok (.iconst 5, 1) := by decide +kernel
theorem dRW_init_6 : decode cRW_init 6 = .ok (.anewarray 9, 3) := by decide +kernel
theorem dRW_init_9 : decode cRW_init 9 = .ok (.putfield 11, 3) := by decide +kernel
theorem dRW_init_12 : decode cRW_init 12 = .ok (.aload_n 0, 1) := by decide +kernel
theorem dRW_init_13 : decode cRW_init 13 = .ok (.iconst 5, 1) := by decide +kernel
theorem dRW_init_14 : decode cRW_init 14 = .ok (.anewarray 15, 3) := by decide +kernel
theorem dRW_init_17 : decode cRW_init 17 = .ok (.putfield 17, 3) := by decide +kernel
theorem dRW_init_20 : decode cRW_init 20 = .ok (.iconst 0, 1) := by decide +kernel
theorem dRW_init_21 : decode cRW_init 21 = .ok (.istore_n 1, 1) := by decide +kernel
theorem dRW_init_22 : decode cRW_init 22 = .ok (.iload_n 1, 1) := by decide +kernel
theorem dRW_init_23 : decode cRW_init 23 = .ok (.iconst 5, 1) := by decide +kernel
theorem dRW_init_24 : decode cRW_init 24 = .ok (.if_icmp .ge 35, 3) := by decide +kernel
theorem dRW_init_27 : decode cRW_init 27 = .ok (.aload_n 0, 1) := by decide +kernel
theorem dRW_init_28 : decode cRW_init 28 = .ok (.getfield 11, 3) := by decide +kernel
theorem dRW_init_31 : decode cRW_init 31 = .ok (.iload_n 1, 1) := by decide +kernel
theorem dRW_init_32 : decode cRW_init 32 = .ok (.new 9, 3) := by decide +kernel
theorem dRW_init_35 : decode cRW_init 35 = .ok (.dup, 1) := by decide +kernel
theorem dRW_init_36 : decode cRW_init 36 = .ok (.invokespecial 21, 3) := by decide +kernel
theorem dRW_init_39 : decode cRW_init 39 = .ok (.aastore, 1) := by decide +kernel
theorem dRW_init_40 : decode cRW_init 40 = .ok (.aload_n 0, 1) := by decide +kernel
theorem dRW_init_41 : decode cRW_init 41 = .ok (.getfield 17, 3) := by decide +kernel
theorem dRW_init_44 : decode cRW_init 44 = .ok (.iload_n 1, 1) := by decide +kernel
theorem dRW_init_45 : decode cRW_init 45 = .ok (.new 15, 3) := by decide +kernel
theorem dRW_init_48 : decode cRW_init 48 = .ok (.dup, 1) := by decide +kernel
theorem dRW_init_49 : decode cRW_init 49 = .ok (.invokespecial 22, 3) := by decide +kernel
theorem dRW_init_52 : decode cRW_init 52 = .ok (.aastore, 1) := by decide +kernel
theorem dRW_init_53 : decode cRW_init 53 = .ok (.iinc 1 1, 3) := by decide +kernel
theorem dRW_init_56 : decode cRW_init 56 = .ok (.goto (-34), 3) := by decide +kernel
theorem dRW_init_59 : decode cRW_init 59 = .ok (.aload_n 0, 1) := by decide +kernel
theorem dRW_init_60 : decode cRW_init 60 = .ok (.iconst 3, 1) := by decide +kernel
theorem dRW_init_61 : decode cRW_init 61 = .ok (.anewarray 23, 3) := by decide +kernel
theorem dRW_init_64 : decode cRW_init 64 = .ok (.putfield 25, 3) := by decide +kernel
theorem dRW_init_67 : decode cRW_init 67 = .ok (.iconst 0, 1) := by decide +kernel
theorem dRW_init_68 : decode cRW_init 68 = .ok (.istore_n 1, 1) := by decide +kernel
theorem dRW_init_69 : decode cRW_init 69 = .ok (.iload_n 1, 1) := by decide +kernel
theorem dRW_init_70 : decode cRW_init 70 = .ok (.iconst 3, 1) := by decide +kernel
theorem dRW_init_71 : decode cRW_init 71 = .ok (.if_icmp .ge 22, 3) := by decide +kernel
theorem dRW_init_74 : decode cRW_init 74 = .ok (.aload_n 0, 1) := by decide +kernel
theorem dRW_init_75 : decode cRW_init 75 = .ok (.getfield 25, 3) := by decide +kernel
theorem dRW_init_78 : decode cRW_init 78 = .ok (.iload_n 1, 1) := by decide +kernel
theorem dRW_init_79 : decode cRW_init 79 = .ok (.new 23, 3) := by decide +kernel
theorem dRW_init_82 : decode cRW_init 82 = .ok (.dup, 1) := by decide +kernel
theorem dRW_init_83 : decode cRW_init 83 = .ok (.invokespecial 29, 3) := by decide +kernel
theorem dRW_init_86 : decode cRW_init 86 = .ok (.aastore, 1) := by decide +kernel
theorem dRW_init_87 : decode cRW_init 87 = .ok (.iinc 1 1, 3) := by decide +kernel
theorem dRW_init_90 : decode cRW_init 90 = .ok (.goto (-21), 3) := by decide +kernel
theorem dRW_init_93 : decode cRW_init 93 = .ok (.aload_n 0, 1) := by decide +kernel
theorem dRW_init_94 : decode cRW_init 94 = .ok (.iconst 2, 1) := by decide +kernel
theorem dRW_init_95 : decode cRW_init 95 = .ok (.anewarray 30, 3) := by decide +kernel
theorem dRW_init_98 : decode cRW_init 98 = .ok (.putfield 32, 3) := by decide +kernel
theorem dRW_init_101 : decode cRW_init 101 = .ok (.iconst 0, 1) := by decide +kernel
theorem dRW_init_102 : decode cRW_init 102 = .ok (.istore_n 1, 1) := by decide +kernel
theorem dRW_init_103 : decode cRW_init 103 = .ok (.iload_n 1, 1) := by decide +kernel
theorem dRW_init_104 : decode cRW_init 104 = .ok (.iconst 2, 1) := by decide +kernel
theorem dRW_init_105 : decode cRW_init 105 = .ok (.if_icmp .ge 22, 3) := by decide +kernel
theorem dRW_init_108 : decode cRW_init 108 = .ok (.aload_n 0, 1) := by decide +kernel
theorem dRW_init_109 : decode cRW_init 109 = .ok (.getfield 32, 3) := by decide +kernel
theorem dRW_init_112 : decode cRW_init 112 = .ok (.iload_n 1, 1) := by decide +kernel
theorem dRW_init_113 : decode cRW_init 113 = .ok (.new 30, 3) := by decide +kernel
theorem dRW_init_116 : decode cRW_init 116 = .ok (.dup, 1) := by decide +kernel
theorem dRW_init_117 : decode cRW_init 117 = .ok (.invokespecial 36, 3) := by decide +kernel
theorem dRW_init_120 : decode cRW_init 120 = .ok (.aastore, 1) := by decide +kernel
theorem dRW_init_121 : decode cRW_init 121 = .ok (.iinc 1 1, 3) := by decide +kernel
theorem dRW_init_124 : decode cRW_init 124 = .ok (.goto (-21), 3) := by decide +kernel
theorem dRW_init_127 : decode cRW_init 127 = .ok (.aload_n 0, 1) := by decide +kernel
theorem dRW_init_128 : decode cRW_init 128 = .ok (.new 37, 3) := by decide +kernel
theorem dRW_init_131 : decode cRW_init 131 = .ok (.dup, 1) := by decide +kernel
theorem dRW_init_132 : decode cRW_init 132 = .ok (.invokespecial 39, 3) := by decide +kernel
theorem dRW_init_135 : decode cRW_init 135 = .ok (.putfield 40, 3) := by decide +kernel
theorem dRW_init_138 : decode cRW_init 138 = .ok (.aload_n 0, 1) := by decide +kernel
theorem dRW_init_139 : decode cRW_init 139 = .ok (.new 44, 3) := by decide +kernel
theorem dRW_init_142 : decode cRW_init 142 = .ok (.dup, 1) := by decide +kernel
theorem dRW_init_143 : decode cRW_init 143 = .ok (.invokespecial 46, 3) := by decide +kernel
theorem dRW_init_146 : decode cRW_init 146 = .ok (.putfield 47, 3) := by decide +kernel
theorem dRW_init_149 : decode cRW_init 149 = .ok (.aload_n 0, 1) := by decide +kernel
theorem dRW_init_150 : decode cRW_init 150 = .ok (.new 44, 3) := by decide +kernel
theorem dRW_init_153 : decode cRW_init 153 = .ok (.dup, 1) := by decide +kernel
theorem dRW_init_154 : decode cRW_init 154 = .ok (.invokespecial 46, 3) := by decide +kernel
theorem dRW_init_157 : decode cRW_init 157 = .ok (.putfield 51, 3) := by decide +kernel
theorem dRW_init_160 : decode cRW_init 160 = .ok (.aload_n 0, 1) := by decide +kernel
theorem dRW_init_161 : decode cRW_init 161 = .ok (.iconst 0, 1) := by decide +kernel
theorem dRW_init_162 : decode cRW_init 162 = .ok (.putfield 54, 3) := by decide +kernel
theorem dRW_init_165 : decode cRW_init 165 = .ok (.aload_n 0, 1) := by decide +kernel
theorem dRW_init_166 : decode cRW_init 166 = .ok (.iconst 0, 1) := by decide +kernel
theorem dRW_init_167 : decode cRW_init 167 = .ok (.putfield 58, 3) := by decide +kernel
theorem dRW_init_170 : decode cRW_init 170 = .ok (.return_, 1) := by decide +kernel
set_option maxHeartbeats 4000000 in
set_option maxRecDepth 100000 in
theorem c_RW_init (l : Launch) (D : va_G) (tc : Nat → ClassId) (ad : Nat → Nat) (E : Nat → va_E)  (h0 : E 0 = .inr (6, [.null, .null, .null, .null, .null, .null, .null, .int 0, .int 0])) : CtN l D tc yRW_init 3 65 1643 ad E [.ref (ad 0)] (fun E2 => RWf tc ad E2) := by
  refine CtN.ofW (cc := cRW_init) (maxL := 2) (ret := none) (own := R_RW) (by decide) rfl rfl w_24 (Nat.le_of_ble_eq_true rfl) ?_
  intro p e s m args below meth c ls X hlk hr hin hsq hDD hP hS hl
  have hx := X.1
  have hb := X.2.1
  have hD := hDD 1 (by decide) E
  have hl : lv_has ls 2 [(0, .ref (ad 0))] := hl
  refine lv_aload_n hx hb dRW_init_0 rfl (lv_at hl 0 rfl) ?_
  refine W.objInit hx hb X.2.2.2.1 (X.2.2.2.2.1 _ w_25) (X.2.2.2.2.1 _ w_26) (X.2.2.2.2.1 _ w_27) rfl (by rw [X.2.2.1]; exact hl.1) rfl dRW_init_1 (Nat.le_of_ble_eq_true rfl) (Nat.le_of_ble_eq_true rfl) ?_
  refine W.eq (g2 := F0 m 4 ls []) rfl ?_
  refine lv_aload_n hx hb dRW_init_4 rfl (lv_at hl 0 rfl) ?_
  refine lv_iconst (v := 5) hx hb dRW_init_5 (by decide) ?_
  refine q_newQ 5 3 X w_28 w_29 rfl hP hS (fun j hj => hsq j (by omega)) ⟨1, by decide, rfl⟩ rfl (by decide) (by decide) (by decide) dRW_init_6 (fun H hP9 hS9 => ?_)
  clear hP hS hD
  have hP : va_P D vwCl (wW 2 ad (va_up E 1 (.inl (tc 3, 5, .inr (.inr (.inr (.inr (fun _ => none)))))))) H := hP9
  have hS := hS9
  clear hP9 hS9
  generalize g2 : va_up E 1 (.inl (tc 3, 5, .inr (.inr (.inr (.inr (fun _ => none)))))) = E1 at hP
  have f3 : E1 0 = .inr (6, [.null, .null, .null, .null, .null, .null, .null, .int 0, .int 0]) := by rw [← g2, va_up_ne _ _ (by decide)]; exact h0
  have f4 : E1 1 = .inl (tc 3, 5, .inr (.inr (.inr (.inr (fun _ => none))))) := by rw [← g2]; exact va_up_self _ _ _
  clear g2
  have hD := hDD 2 (by decide) E1
  refine p_RW_11 X hin hD hP hS (by omega) (f3) rfl rfl (Nat.le_of_ble_eq_true rfl) dRW_init_9 (fun H locs hD9 hP9 hS9 => ?_)
  clear hP hS hD
  have hP : va_P D vwCl (wW 2 ad (va_up E1 0 (.inr (6, [.ref (ad 1), .null, .null, .null, .null, .null, .null, .int 0, .int 0])))) H := hP9
  have hD : va_D (Aw (1 + 65) ad) (wW 2 ad (va_up E1 0 (.inr (6, [.ref (ad 1), .null, .null, .null, .null, .null, .null, .int 0, .int 0])))) := hD9
  have hS := hS9
  clear hP9 hS9 hD9
  generalize g6 : va_up E1 0 (.inr (6, [.ref (ad 1), .null, .null, .null, .null, .null, .null, .int 0, .int 0])) = E5 at hD hP
  have f7 : E5 0 = .inr (6, [.ref (ad 1), .null, .null, .null, .null, .null, .null, .int 0, .int 0]) := by rw [← g6]; exact va_up_self _ _ _
  have f8 : E5 1 = .inl (tc 3, 5, .inr (.inr (.inr (.inr (fun _ => none))))) := by rw [← g6, va_up_ne _ _ (by omega)]; exact f4
  clear f3 f4 g6
  refine lv_aload_n hx hb dRW_init_12 rfl (lv_at hl 0 rfl) ?_
  refine lv_iconst (v := 5) hx hb dRW_init_13 (by decide) ?_
  refine q_newQ 5 4 X w_30 w_31 rfl hP hS (fun j hj => hsq j (by omega)) ⟨2, by decide, rfl⟩ rfl (by decide) (by decide) (by decide) dRW_init_14 (fun H hP9 hS9 => ?_)
  clear hP hS hD
  have hP : va_P D vwCl (wW 3 ad (va_up E5 2 (.inl (tc 4, 5, .inr (.inr (.inr (.inr (fun _ => none)))))))) H := hP9
  have hS := hS9
  clear hP9 hS9
  generalize g10 : va_up E5 2 (.inl (tc 4, 5, .inr (.inr (.inr (.inr (fun _ => none)))))) = E9 at hP
  have f11 : E9 0 = .inr (6, [.ref (ad 1), .null, .null, .null, .null, .null, .null, .int 0, .int 0]) := by rw [← g10, va_up_ne _ _ (by decide)]; exact f7
  have f12 : E9 1 = .inl (tc 3, 5, .inr (.inr (.inr (.inr (fun _ => none))))) := by rw [← g10, va_up_ne _ _ (by decide)]; exact f8
  have f13 : E9 2 = .inl (tc 4, 5, .inr (.inr (.inr (.inr (fun _ => none))))) := by rw [← g10]; exact va_up_self _ _ _
  clear f7 f8 g10
  have hD := hDD 3 (by decide) E9
  refine p_RW_17 X hin hD hP hS (by omega) (f11) rfl rfl (Nat.le_of_ble_eq_true rfl) dRW_init_17 (fun H locs hD9 hP9 hS9 => ?_)
  clear hP hS hD
  have hP : va_P D vwCl (wW 3 ad (va_up E9 0 (.inr (6, [.ref (ad 1), .ref (ad 2), .null, .null, .null, .null, .null, .int 0, .int 0])))) H := hP9
  have hD : va_D (Aw (1 + 65) ad) (wW 3 ad (va_up E9 0 (.inr (6, [.ref (ad 1), .ref (ad 2), .null, .null, .null, .null, .null, .int 0, .int 0])))) := hD9
  have hS := hS9
  clear hP9 hS9 hD9
  generalize g15 : va_up E9 0 (.inr (6, [.ref (ad 1), .ref (ad 2), .null, .null, .null, .null, .null, .int 0, .int 0])) = E14 at hD hP
  have f16 : E14 0 = .inr (6, [.ref (ad 1), .ref (ad 2), .null, .null, .null, .null, .null, .int 0, .int 0]) := by rw [← g15]; exact va_up_self _ _ _
  have f17 : E14 1 = .inl (tc 3, 5, .inr (.inr (.inr (.inr (fun _ => none))))) := by rw [← g15, va_up_ne _ _ (by omega)]; exact f12
  have f18 : E14 2 = .inl (tc 4, 5, .inr (.inr (.inr (.inr (fun _ => none))))) := by rw [← g15, va_up_ne _ _ (by omega)]; exact f13
  clear f11 f12 f13 g15
  refine lv_iconst (v := 0) hx hb dRW_init_20 (by decide) ?_
  refine lv_istore_n hx hb dRW_init_21 rfl hl (by decide) rfl (fun ls hl => ?_)
  have hl : lv_has ls 2 [(1, .int 0), (0, .ref (ad 0))] := hl
  refine lv_iload_n hx hb dRW_init_22 rfl (lv_at hl 0 rfl) ?_
  refine lv_iconst (v := 5) hx hb dRW_init_23 (by decide) ?_
  refine lv_icmp_ge (tgt := 59) hx hb dRW_init_24 rfl (fun h24 => absurd h24 (by decide)) (fun h24 => ?_)
  refine lv_aload_n hx hb dRW_init_27 rfl (lv_at hl 1 rfl) ?_
  refine g_RW_11 X hP (by omega) (f16) rfl dRW_init_28 ?_
  refine lv_iload_n hx hb dRW_init_31 rfl (lv_at hl 0 rfl) ?_
  refine q_newO (T := T_PG) (ci := 2) (fs := [.null, .null, .null, .int 0]) ty_PG X in_PG tok_PG w_28 w_32 w_2 rfl (by decide) hP hS (fun j hj => hsq j (by omega)) ⟨3, by decide, rfl⟩ (by decide) (by decide) dRW_init_32 (fun H hP9 hS9 => ?_)
  clear hP hS hD
  have hP : va_P D vwCl (wW 4 ad (va_up E14 3 (.inr (2, [.null, .null, .null, .int 0])))) H := hP9
  have hS := hS9
  clear hP9 hS9
  generalize g20 : va_up E14 3 (.inr (2, [.null, .null, .null, .int 0])) = E19 at hP
  have f21 : E19 0 = .inr (6, [.ref (ad 1), .ref (ad 2), .null, .null, .null, .null, .null, .int 0, .int 0]) := by rw [← g20, va_up_ne _ _ (by decide)]; exact f16
  have f22 : E19 1 = .inl (tc 3, 5, .inr (.inr (.inr (.inr (fun _ => none))))) := by rw [← g20, va_up_ne _ _ (by decide)]; exact f17
  have f23 : E19 2 = .inl (tc 4, 5, .inr (.inr (.inr (.inr (fun _ => none))))) := by rw [← g20, va_up_ne _ _ (by decide)]; exact f18
  have f24 : E19 3 = .inr (2, [.null, .null, .null, .int 0]) := by rw [← g20]; exact va_up_self _ _ _
  clear f16 f17 f18 g20
  have hD := hDD 4 (by decide) E19
  refine lv_dup hx hb dRW_init_35 rfl ?_
  refine x_n (b := 3) (fun hz => x_runIN (b := ad 3) (As := []) (rest := [.ref (ad 3), .int 0, .ref (ad 1)]) X (c_PG_init l D tc (fun k => ad (3 + k)) (fun k => E19 (3 + k)) (f24)) rfl rfl (by decide) (by decide) w_35 w_2 w_33 w_34 rfl ry_PG_init (ctN_pre (b := 3) X rfl hP (fun j hj => hsq j (by omega)) hz) ctN_blind hl.1 (Nat.le_of_ble_eq_true rfl) dRW_init_36 ⟨by decide, by decide⟩) rfl hP hS (fun j hj => hsq j (by omega)) (fun n hn E' => hDD n (by omega) E') (fun E25 H locs q28 hP9 hS9 => ?_)
  clear hP hS hD
  have hP : va_P D vwCl (wW 7 ad (wU (1 + 3) (fun k => 3 + k) E19 E25)) H := hP9
  have hS := hS9
  clear hP9 hS9
  obtain ⟨q28o, q28a, q28b, q28z⟩ := q28
  generalize g26 : wU (1 + 3) (fun k => 3 + k) E19 E25 = E27 at hP
  have f29 : E27 0 = .inr (6, [.ref (ad 1), .ref (ad 2), .null, .null, .null, .null, .null, .int 0, .int 0]) := by rw [← g26, wU_far (by omega)]; exact f21
  have f30 : E27 1 = .inl (tc 3, 5, .inr (.inr (.inr (.inr (fun _ => none))))) := by rw [← g26, wU_far (by omega)]; exact f22
  have f31 : E27 2 = .inl (tc 4, 5, .inr (.inr (.inr (.inr (fun _ => none))))) := by rw [← g26, wU_far (by omega)]; exact f23
  have f32 : isPG tc ad E27 3 0 q28o q28a q28b := q28z.up (fun j hj => by rw [← g26]; exact wU_own j (by omega))
  have f33 : E27 3 = .inr (2, [.ref (ad 4), .ref (ad 5), .ref (ad 6), .int (nI 0)]) := by have h := q28z.up (G := E27) (fun j hj => by rw [← g26]; exact wU_own j (by omega)); exact h.1
  clear f21 f22 f23 f24 g26
  have hD := hDD 7 (by decide) E27
  refine q_aast (t0 := 3) 0 X hD hP hS (by omega) (f30) rfl (by omega) (f33) rfl (rfl) (by decide) (by decide) dRW_init_39 (fun H locs hD9 hP9 hS9 => ?_)
  clear hP hS hD
  have hP : va_P D vwCl (wW 7 ad (va_up E27 1 (.inl (tc 3, 5, .inr (.inr (.inr (.inr (va_up (fun _ => none) 0 (some (ad 3)))))))))) H := hP9
  have hD : va_D (Aw (1 + 65) ad) (wW 7 ad (va_up E27 1 (.inl (tc 3, 5, .inr (.inr (.inr (.inr (va_up (fun _ => none) 0 (some (ad 3)))))))))) := hD9
  have hS := hS9
  clear hP9 hS9 hD9
  generalize g35 : va_up E27 1 (.inl (tc 3, 5, .inr (.inr (.inr (.inr (va_up (fun _ => none) 0 (some (ad 3)))))))) = E34 at hD hP
  have f36 : E34 0 = .inr (6, [.ref (ad 1), .ref (ad 2), .null, .null, .null, .null, .null, .int 0, .int 0]) := by rw [← g35, va_up_ne _ _ (by omega)]; exact f29
  have f37 : E34 1 = .inl (tc 3, 5, .inr (.inr (.inr (.inr (va_up (fun _ => none) 0 (some (ad 3))))))) := by rw [← g35]; exact va_up_self _ _ _
  have f38 : E34 2 = .inl (tc 4, 5, .inr (.inr (.inr (.inr (fun _ => none))))) := by rw [← g35, va_up_ne _ _ (by omega)]; exact f31
  have f39 := f32.cong (G := E34) (fun k q1 q2 => by rw [← g35, va_up_ne _ _ (by omega)])
  have f40 : E34 3 = .inr (2, [.ref (ad 4), .ref (ad 5), .ref (ad 6), .int (nI 0)]) := by rw [← g35, va_up_ne _ _ (by omega)]; exact f33
  clear f29 f30 f31 f32 f33 g35
  refine lv_aload_n hx hb dRW_init_40 rfl (lv_at hl 1 rfl) ?_
  refine g_RW_17 X hP (by omega) (f36) rfl dRW_init_41 ?_
  refine lv_iload_n hx hb dRW_init_44 rfl (lv_at hl 0 rfl) ?_
  refine q_newO (T := T_WK) (ci := 5) (fs := [.null, .int 0, .int 0, .long 0]) ty_WK X in_WK tok_WK w_30 w_50 w_3 rfl (by decide) hP hS (fun j hj => hsq j (by omega)) ⟨7, by decide, rfl⟩ (by decide) (by decide) dRW_init_45 (fun H hP9 hS9 => ?_)
  clear hP hS hD
  have hP : va_P D vwCl (wW 8 ad (va_up E34 7 (.inr (5, [.null, .int 0, .int 0, .long 0])))) H := hP9
  have hS := hS9
  clear hP9 hS9
  generalize g42 : va_up E34 7 (.inr (5, [.null, .int 0, .int 0, .long 0])) = E41 at hP
  have f43 : E41 0 = .inr (6, [.ref (ad 1), .ref (ad 2), .null, .null, .null, .null, .null, .int 0, .int 0]) := by rw [← g42, va_up_ne _ _ (by decide)]; exact f36
  have f44 : E41 1 = .inl (tc 3, 5, .inr (.inr (.inr (.inr (va_up (fun _ => none) 0 (some (ad 3))))))) := by rw [← g42, va_up_ne _ _ (by decide)]; exact f37
  have f45 : E41 2 = .inl (tc 4, 5, .inr (.inr (.inr (.inr (fun _ => none))))) := by rw [← g42, va_up_ne _ _ (by decide)]; exact f38
  have f46 := f39.cong (G := E41) (fun k q1 q2 => by rw [← g42, va_up_ne _ _ (by omega)])
  have f47 : E41 7 = .inr (5, [.null, .int 0, .int 0, .long 0]) := by rw [← g42]; exact va_up_self _ _ _
  clear f36 f37 f38 f39 g42
  have hD := hDD 8 (by decide) E41
  refine lv_dup hx hb dRW_init_48 rfl ?_
  refine x_n (b := 7) (fun hz => x_runIN (b := ad 7) (As := []) (rest := [.ref (ad 7), .int 0, .ref (ad 2)]) X (c_WK_init l D tc (fun k => ad (7 + k)) (fun k => E41 (7 + k)) (f47)) rfl rfl (by decide) (by decide) w_53 w_3 w_51 w_52 rfl ry_WK_init (ctN_pre (b := 7) X rfl hP (fun j hj => hsq j (by omega)) hz) ctN_blind hl.1 (Nat.le_of_ble_eq_true rfl) dRW_init_49 ⟨by decide, by decide⟩) rfl hP hS (fun j hj => hsq j (by omega)) (fun n hn E' => hDD n (by omega) E') (fun E48 H locs q51 hP9 hS9 => ?_)
  clear hP hS hD
  have hP : va_P D vwCl (wW 10 ad (wU (1 + 2) (fun k => 7 + k) E41 E48)) H := hP9
  have hS := hS9
  clear hP9 hS9
  generalize g49 : wU (1 + 2) (fun k => 7 + k) E41 E48 = E50 at hP
  have f52 : E50 0 = .inr (6, [.ref (ad 1), .ref (ad 2), .null, .null, .null, .null, .null, .int 0, .int 0]) := by rw [← g49, wU_far (by omega)]; exact f43
  have f53 : E50 1 = .inl (tc 3, 5, .inr (.inr (.inr (.inr (va_up (fun _ => none) 0 (some (ad 3))))))) := by rw [← g49, wU_far (by omega)]; exact f44
  have f54 : E50 2 = .inl (tc 4, 5, .inr (.inr (.inr (.inr (fun _ => none))))) := by rw [← g49, wU_far (by omega)]; exact f45
  have f55 := f46.cong (G := E50) (fun k q1 q2 => by rw [← g49, wU_far (by omega)])
  have f56 : isWK tc ad E50 7 0 0 0 := q51.up (fun j hj => by rw [← g49]; exact wU_own j (by omega))
  have f57 : E50 7 = .inr (5, [.ref (ad 8), .int 0, .int 0, .long 0]) := by have h := q51.up (G := E50) (fun j hj => by rw [← g49]; exact wU_own j (by omega)); exact h.1
  clear f43 f44 f45 f46 f47 g49
  have hD := hDD 10 (by decide) E50
  refine q_aast (t0 := 4) 0 X hD hP hS (by omega) (f54) rfl (by omega) (f57) rfl (rfl) (by decide) (by decide) dRW_init_52 (fun H locs hD9 hP9 hS9 => ?_)
  clear hP hS hD
  have hP : va_P D vwCl (wW 10 ad (va_up E50 2 (.inl (tc 4, 5, .inr (.inr (.inr (.inr (va_up (fun _ => none) 0 (some (ad 7)))))))))) H := hP9
  have hD : va_D (Aw (1 + 65) ad) (wW 10 ad (va_up E50 2 (.inl (tc 4, 5, .inr (.inr (.inr (.inr (va_up (fun _ => none) 0 (some (ad 7)))))))))) := hD9
  have hS := hS9
  clear hP9 hS9 hD9
  generalize g59 : va_up E50 2 (.inl (tc 4, 5, .inr (.inr (.inr (.inr (va_up (fun _ => none) 0 (some (ad 7)))))))) = E58 at hD hP
  have f60 : E58 0 = .inr (6, [.ref (ad 1), .ref (ad 2), .null, .null, .null, .null, .null, .int 0, .int 0]) := by rw [← g59, va_up_ne _ _ (by omega)]; exact f52
  have f61 : E58 1 = .inl (tc 3, 5, .inr (.inr (.inr (.inr (va_up (fun _ => none) 0 (some (ad 3))))))) := by rw [← g59, va_up_ne _ _ (by omega)]; exact f53
  have f62 : E58 2 = .inl (tc 4, 5, .inr (.inr (.inr (.inr (va_up (fun _ => none) 0 (some (ad 7))))))) := by rw [← g59]; exact va_up_self _ _ _
  have f63 := f55.cong (G := E58) (fun k q1 q2 => by rw [← g59, va_up_ne _ _ (by omega)])
  have f64 := f56.cong (G := E58) (fun k q1 q2 => by rw [← g59, va_up_ne _ _ (by omega)])
  have f65 : E58 7 = .inr (5, [.ref (ad 8), .int 0, .int 0, .long 0]) := by rw [← g59, va_up_ne _ _ (by omega)]; exact f57
  clear f52 f53 f54 f55 f56 f57 g59
  refine lv_iinc (k := 0) (v := 1) hx hb dRW_init_53 hl rfl (by decide) (by decide) rfl (fun ls hl => ?_)
  have hl : lv_has ls 2 [(1, .int 1), (0, .ref (ad 0))] := hl
  refine lv_goto (tgt := 22) hx hb dRW_init_56 rfl ?_
  refine lv_iload_n hx hb dRW_init_22 rfl (lv_at hl 0 rfl) ?_
  refine lv_iconst (v := 5) hx hb dRW_init_23 (by decide) ?_
  refine lv_icmp_ge (tgt := 59) hx hb dRW_init_24 rfl (fun h24 => absurd h24 (by decide)) (fun h24 => ?_)
  refine lv_aload_n hx hb dRW_init_27 rfl (lv_at hl 1 rfl) ?_
  refine g_RW_11 X hP (by omega) (f60) rfl dRW_init_28 ?_
  refine lv_iload_n hx hb dRW_init_31 rfl (lv_at hl 0 rfl) ?_
  refine q_newO (T := T_PG) (ci := 2) (fs := [.null, .null, .null, .int 0]) ty_PG X in_PG tok_PG w_28 w_32 w_2 rfl (by decide) hP hS (fun j hj => hsq j (by omega)) ⟨10, by decide, rfl⟩ (by decide) (by decide) dRW_init_32 (fun H hP9 hS9 => ?_)
  clear hP hS hD
  have hP : va_P D vwCl (wW 11 ad (va_up E58 10 (.inr (2, [.null, .null, .null, .int 0])))) H := hP9
  have hS := hS9
  clear hP9 hS9
  generalize g67 : va_up E58 10 (.inr (2, [.null, .null, .null, .int 0])) = E66 at hP
  have f68 : E66 0 = .inr (6, [.ref (ad 1), .ref (ad 2), .null, .null, .null, .null, .null, .int 0, .int 0]) := by rw [← g67, va_up_ne _ _ (by decide)]; exact f60
  have f69 : E66 1 = .inl (tc 3, 5, .inr (.inr (.inr (.inr (va_up (fun _ => none) 0 (some (ad 3))))))) := by rw [← g67, va_up_ne _ _ (by decide)]; exact f61
  have f70 : E66 2 = .inl (tc 4, 5, .inr (.inr (.inr (.inr (va_up (fun _ => none) 0 (some (ad 7))))))) := by rw [← g67, va_up_ne _ _ (by decide)]; exact f62
  have f71 := f63.cong (G := E66) (fun k q1 q2 => by rw [← g67, va_up_ne _ _ (by omega)])
  have f72 := f64.cong (G := E66) (fun k q1 q2 => by rw [← g67, va_up_ne _ _ (by omega)])
  have f73 : E66 10 = .inr (2, [.null, .null, .null, .int 0]) := by rw [← g67]; exact va_up_self _ _ _
  clear f60 f61 f62 f63 f64 g67
  have hD := hDD 11 (by decide) E66
  refine lv_dup hx hb dRW_init_35 rfl ?_
  refine x_n (b := 10) (fun hz => x_runIN (b := ad 10) (As := []) (rest := [.ref (ad 10), .int 1, .ref (ad 1)]) X (c_PG_init l D tc (fun k => ad (10 + k)) (fun k => E66 (10 + k)) (f73)) rfl rfl (by decide) (by decide) w_35 w_2 w_33 w_34 rfl ry_PG_init (ctN_pre (b := 10) X rfl hP (fun j hj => hsq j (by omega)) hz) ctN_blind hl.1 (Nat.le_of_ble_eq_true rfl) dRW_init_36 ⟨by decide, by decide⟩) rfl hP hS (fun j hj => hsq j (by omega)) (fun n hn E' => hDD n (by omega) E') (fun E74 H locs q77 hP9 hS9 => ?_)
  clear hP hS hD
  have hP : va_P D vwCl (wW 14 ad (wU (1 + 3) (fun k => 10 + k) E66 E74)) H := hP9
  have hS := hS9
  clear hP9 hS9
  obtain ⟨q77o, q77a, q77b, q77z⟩ := q77
  generalize g75 : wU (1 + 3) (fun k => 10 + k) E66 E74 = E76 at hP
  have f78 : E76 0 = .inr (6, [.ref (ad 1), .ref (ad 2), .null, .null, .null, .null, .null, .int 0, .int 0]) := by rw [← g75, wU_far (by omega)]; exact f68
  have f79 : E76 1 = .inl (tc 3, 5, .inr (.inr (.inr (.inr (va_up (fun _ => none) 0 (some (ad 3))))))) := by rw [← g75, wU_far (by omega)]; exact f69
  have f80 : E76 2 = .inl (tc 4, 5, .inr (.inr (.inr (.inr (va_up (fun _ => none) 0 (some (ad 7))))))) := by rw [← g75, wU_far (by omega)]; exact f70
  have f81 := f71.cong (G := E76) (fun k q1 q2 => by rw [← g75, wU_far (by omega)])
  have f82 := f72.cong (G := E76) (fun k q1 q2 => by rw [← g75, wU_far (by omega)])
  have f83 : isPG tc ad E76 10 0 q77o q77a q77b := q77z.up (fun j hj => by rw [← g75]; exact wU_own j (by omega))
  have f84 : E76 10 = .inr (2, [.ref (ad 11), .ref (ad 12), .ref (ad 13), .int (nI 0)]) := by have h := q77z.up (G := E76) (fun j hj => by rw [← g75]; exact wU_own j (by omega)); exact h.1
  clear f68 f69 f70 f71 f72 f73 g75
  have hD := hDD 14 (by decide) E76
  refine q_aast (t0 := 3) 1 X hD hP hS (by omega) (f79) rfl (by omega) (f84) rfl (rfl) (by decide) (by decide) dRW_init_39 (fun H locs hD9 hP9 hS9 => ?_)
  clear hP hS hD
  have hP : va_P D vwCl (wW 14 ad (va_up E76 1 (.inl (tc 3, 5, .inr (.inr (.inr (.inr (va_up (va_up (fun _ => none) 0 (some (ad 3))) 1 (some (ad 10)))))))))) H := hP9
  have hD : va_D (Aw (1 + 65) ad) (wW 14 ad (va_up E76 1 (.inl (tc 3, 5, .inr (.inr (.inr (.inr (va_up (va_up (fun _ => none) 0 (some (ad 3))) 1 (some (ad 10)))))))))) := hD9
  have hS := hS9
  clear hP9 hS9 hD9
  generalize g86 : va_up E76 1 (.inl (tc 3, 5, .inr (.inr (.inr (.inr (va_up (va_up (fun _ => none) 0 (some (ad 3))) 1 (some (ad 10)))))))) = E85 at hD hP
  have f87 : E85 0 = .inr (6, [.ref (ad 1), .ref (ad 2), .null, .null, .null, .null, .null, .int 0, .int 0]) := by rw [← g86, va_up_ne _ _ (by omega)]; exact f78
  have f88 : E85 1 = .inl (tc 3, 5, .inr (.inr (.inr (.inr (va_up (va_up (fun _ => none) 0 (some (ad 3))) 1 (some (ad 10))))))) := by rw [← g86]; exact va_up_self _ _ _
  have f89 : E85 2 = .inl (tc 4, 5, .inr (.inr (.inr (.inr (va_up (fun _ => none) 0 (some (ad 7))))))) := by rw [← g86, va_up_ne _ _ (by omega)]; exact f80
  have f90 := f81.cong (G := E85) (fun k q1 q2 => by rw [← g86, va_up_ne _ _ (by omega)])
  have f91 := f82.cong (G := E85) (fun k q1 q2 => by rw [← g86, va_up_ne _ _ (by omega)])
  have f92 := f83.cong (G := E85) (fun k q1 q2 => by rw [← g86, va_up_ne _ _ (by omega)])
  have f93 : E85 10 = .inr (2, [.ref (ad 11), .ref (ad 12), .ref (ad 13), .int (nI 0)]) := by rw [← g86, va_up_ne _ _ (by omega)]; exact f84
  clear f78 f79 f80 f81 f82 f83 f84 g86
  refine lv_aload_n hx hb dRW_init_40 rfl (lv_at hl 1 rfl) ?_
  refine g_RW_17 X hP (by omega) (f87) rfl dRW_init_41 ?_
  refine lv_iload_n hx hb dRW_init_44 rfl (lv_at hl 0 rfl) ?_
  refine q_newO (T := T_WK) (ci := 5) (fs := [.null, .int 0, .int 0, .long 0]) ty_WK X in_WK tok_WK w_30 w_50 w_3 rfl (by decide) hP hS (fun j hj => hsq j (by omega)) ⟨14, by decide, rfl⟩ (by decide) (by decide) dRW_init_45 (fun H hP9 hS9 => ?_)
  clear hP hS hD
  have hP : va_P D vwCl (wW 15 ad (va_up E85 14 (.inr (5, [.null, .int 0, .int 0, .long 0])))) H := hP9
  have hS := hS9
  clear hP9 hS9
  generalize g95 : va_up E85 14 (.inr (5, [.null, .int 0, .int 0, .long 0])) = E94 at hP
  have f96 : E94 0 = .inr (6, [.ref (ad 1), .ref (ad 2), .null, .null, .null, .null, .null, .int 0, .int 0]) := by rw [← g95, va_up_ne _ _ (by decide)]; exact f87
  have f97 : E94 1 = .inl (tc 3, 5, .inr (.inr (.inr (.inr (va_up (va_up (fun _ => none) 0 (some (ad 3))) 1 (some (ad 10))))))) := by rw [← g95, va_up_ne _ _ (by decide)]; exact f88
  have f98 : E94 2 = .inl (tc 4, 5, .inr (.inr (.inr (.inr (va_up (fun _ => none) 0 (some (ad 7))))))) := by rw [← g95, va_up_ne _ _ (by decide)]; exact f89
  have f99 := f90.cong (G := E94) (fun k q1 q2 => by rw [← g95, va_up_ne _ _ (by omega)])
  have f100 := f91.cong (G := E94) (fun k q1 q2 => by rw [← g95, va_up_ne _ _ (by omega)])
  have f101 := f92.cong (G := E94) (fun k q1 q2 => by rw [← g95, va_up_ne _ _ (by omega)])
  have f102 : E94 14 = .inr (5, [.null, .int 0, .int 0, .long 0]) := by rw [← g95]; exact va_up_self _ _ _
  clear f87 f88 f89 f90 f91 f92 g95
  have hD := hDD 15 (by decide) E94
  refine lv_dup hx hb dRW_init_48 rfl ?_
  refine x_n (b := 14) (fun hz => x_runIN (b := ad 14) (As := []) (rest := [.ref (ad 14), .int 1, .ref (ad 2)]) X (c_WK_init l D tc (fun k => ad (14 + k)) (fun k => E94 (14 + k)) (f102)) rfl rfl (by decide) (by decide) w_53 w_3 w_51 w_52 rfl ry_WK_init (ctN_pre (b := 14) X rfl hP (fun j hj => hsq j (by omega)) hz) ctN_blind hl.1 (Nat.le_of_ble_eq_true rfl) dRW_init_49 ⟨by decide, by decide⟩) rfl hP hS (fun j hj => hsq j (by omega)) (fun n hn E' => hDD n (by omega) E') (fun E103 H locs q106 hP9 hS9 => ?_)
  clear hP hS hD
  have hP : va_P D vwCl (wW 17 ad (wU (1 + 2) (fun k => 14 + k) E94 E103)) H := hP9
  have hS := hS9
  clear hP9 hS9
  generalize g104 : wU (1 + 2) (fun k => 14 + k) E94 E103 = E105 at hP
  have f107 : E105 0 = .inr (6, [.ref (ad 1), .ref (ad 2), .null, .null, .null, .null, .null, .int 0, .int 0]) := by rw [← g104, wU_far (by omega)]; exact f96
  have f108 : E105 1 = .inl (tc 3, 5, .inr (.inr (.inr (.inr (va_up (va_up (fun _ => none) 0 (some (ad 3))) 1 (some (ad 10))))))) := by rw [← g104, wU_far (by omega)]; exact f97
  have f109 : E105 2 = .inl (tc 4, 5, .inr (.inr (.inr (.inr (va_up (fun _ => none) 0 (some (ad 7))))))) := by rw [← g104, wU_far (by omega)]; exact f98
  have f110 := f99.cong (G := E105) (fun k q1 q2 => by rw [← g104, wU_far (by omega)])
  have f111 := f100.cong (G := E105) (fun k q1 q2 => by rw [← g104, wU_far (by omega)])
  have f112 := f101.cong (G := E105) (fun k q1 q2 => by rw [← g104, wU_far (by omega)])
  have f113 : isWK tc ad E105 14 0 0 0 := q106.up (fun j hj => by rw [← g104]; exact wU_own j (by omega))
  have f114 : E105 14 = .inr (5, [.ref (ad 15), .int 0, .int 0, .long 0]) := by have h := q106.up (G := E105) (fun j hj => by rw [← g104]; exact wU_own j (by omega)); exact h.1
  clear f96 f97 f98 f99 f100 f101 f102 g104
  have hD := hDD 17 (by decide) E105
  refine q_aast (t0 := 4) 1 X hD hP hS (by omega) (f109) rfl (by omega) (f114) rfl (rfl) (by decide) (by decide) dRW_init_52 (fun H locs hD9 hP9 hS9 => ?_)
  clear hP hS hD
  have hP : va_P D vwCl (wW 17 ad (va_up E105 2 (.inl (tc 4, 5, .inr (.inr (.inr (.inr (va_up (va_up (fun _ => none) 0 (some (ad 7))) 1 (some (ad 14)))))))))) H := hP9
  have hD : va_D (Aw (1 + 65) ad) (wW 17 ad (va_up E105 2 (.inl (tc 4, 5, .inr (.inr (.inr (.inr (va_up (va_up (fun _ => none) 0 (some (ad 7))) 1 (some (ad 14)))))))))) := hD9
  have hS := hS9
  clear hP9 hS9 hD9
  generalize g116 : va_up E105 2 (.inl (tc 4, 5, .inr (.inr (.inr (.inr (va_up (va_up (fun _ => none) 0 (some (ad 7))) 1 (some (ad 14)))))))) = E115 at hD hP
  have f117 : E115 0 = .inr (6, [.ref (ad 1), .ref (ad 2), .null, .null, .null, .null, .null, .int 0, .int 0]) := by rw [← g116, va_up_ne _ _ (by omega)]; exact f107
  have f118 : E115 1 = .inl (tc 3, 5, .inr (.inr (.inr (.inr (va_up (va_up (fun _ => none) 0 (some (ad 3))) 1 (some (ad 10))))))) := by rw [← g116, va_up_ne _ _ (by omega)]; exact f108
  have f119 : E115 2 = .inl (tc 4, 5, .inr (.inr (.inr (.inr (va_up (va_up (fun _ => none) 0 (some (ad 7))) 1 (some (ad 14))))))) := by rw [← g116]; exact va_up_self _ _ _
  have f120 := f110.cong (G := E115) (fun k q1 q2 => by rw [← g116, va_up_ne _ _ (by omega)])
  have f121 := f111.cong (G := E115) (fun k q1 q2 => by rw [← g116, va_up_ne _ _ (by omega)])
  have f122 := f112.cong (G := E115) (fun k q1 q2 => by rw [← g116, va_up_ne _ _ (by omega)])
  have f123 := f113.cong (G := E115) (fun k q1 q2 => by rw [← g116, va_up_ne _ _ (by omega)])
  have f124 : E115 14 = .inr (5, [.ref (ad 15), .int 0, .int 0, .long 0]) := by rw [← g116, va_up_ne _ _ (by omega)]; exact f114
  clear f107 f108 f109 f110 f111 f112 f113 f114 g116
  refine lv_iinc (k := 0) (v := 2) hx hb dRW_init_53 hl rfl (by decide) (by decide) rfl (fun ls hl => ?_)
  have hl : lv_has ls 2 [(1, .int 2), (0, .ref (ad 0))] := hl
  refine lv_goto (tgt := 22) hx hb dRW_init_56 rfl ?_
  refine lv_iload_n hx hb dRW_init_22 rfl (lv_at hl 0 rfl) ?_
  refine lv_iconst (v := 5) hx hb dRW_init_23 (by decide) ?_
  refine lv_icmp_ge (tgt := 59) hx hb dRW_init_24 rfl (fun h24 => absurd h24 (by decide)) (fun h24 => ?_)
  refine lv_aload_n hx hb dRW_init_27 rfl (lv_at hl 1 rfl) ?_
  refine g_RW_11 X hP (by omega) (f117) rfl dRW_init_28 ?_
  refine lv_iload_n hx hb dRW_init_31 rfl (lv_at hl 0 rfl) ?_
  refine q_newO (T := T_PG) (ci := 2) (fs := [.null, .null, .null, .int 0]) ty_PG X in_PG tok_PG w_28 w_32 w_2 rfl (by decide) hP hS (fun j hj => hsq j (by omega)) ⟨17, by decide, rfl⟩ (by decide) (by decide) dRW_init_32 (fun H hP9 hS9 => ?_)
  clear hP hS hD
  have hP : va_P D vwCl (wW 18 ad (va_up E115 17 (.inr (2, [.null, .null, .null, .int 0])))) H := hP9
  have hS := hS9
  clear hP9 hS9
  generalize g126 : va_up E115 17 (.inr (2, [.null, .null, .null, .int 0])) = E125 at hP
  have f127 : E125 0 = .inr (6, [.ref (ad 1), .ref (ad 2), .null, .null, .null, .null, .null, .int 0, .int 0]) := by rw [← g126, va_up_ne _ _ (by decide)]; exact f117
  have f128 : E125 1 = .inl (tc 3, 5, .inr (.inr (.inr (.inr (va_up (va_up (fun _ => none) 0 (some (ad 3))) 1 (some (ad 10))))))) := by rw [← g126, va_up_ne _ _ (by decide)]; exact f118
  have f129 : E125 2 = .inl (tc 4, 5, .inr (.inr (.inr (.inr (va_up (va_up (fun _ => none) 0 (some (ad 7))) 1 (some (ad 14))))))) := by rw [← g126, va_up_ne _ _ (by decide)]; exact f119
  have f130 := f120.cong (G := E125) (fun k q1 q2 => by rw [← g126, va_up_ne _ _ (by omega)])
  have f131 := f121.cong (G := E125) (fun k q1 q2 => by rw [← g126, va_up_ne _ _ (by omega)])
  have f132 := f122.cong (G := E125) (fun k q1 q2 => by rw [← g126, va_up_ne _ _ (by omega)])
  have f133 := f123.cong (G := E125) (fun k q1 q2 => by rw [← g126, va_up_ne _ _ (by omega)])
  have f134 : E125 17 = .inr (2, [.null, .null, .null, .int 0]) := by rw [← g126]; exact va_up_self _ _ _
  clear f117 f118 f119 f120 f121 f122 f123 g126
  have hD := hDD 18 (by decide) E125
  refine lv_dup hx hb dRW_init_35 rfl ?_
  refine x_n (b := 17) (fun hz => x_runIN (b := ad 17) (As := []) (rest := [.ref (ad 17), .int 2, .ref (ad 1)]) X (c_PG_init l D tc (fun k => ad (17 + k)) (fun k => E125 (17 + k)) (f134)) rfl rfl (by decide) (by decide) w_35 w_2 w_33 w_34 rfl ry_PG_init (ctN_pre (b := 17) X rfl hP (fun j hj => hsq j (by omega)) hz) ctN_blind hl.1 (Nat.le_of_ble_eq_true rfl) dRW_init_36 ⟨by decide, by decide⟩) rfl hP hS (fun j hj => hsq j (by omega)) (fun n hn E' => hDD n (by omega) E') (fun E135 H locs q138 hP9 hS9 => ?_)
  clear hP hS hD
  have hP : va_P D vwCl (wW 21 ad (wU (1 + 3) (fun k => 17 + k) E125 E135)) H := hP9
  have hS := hS9
  clear hP9 hS9
  obtain ⟨q138o, q138a, q138b, q138z⟩ := q138
  generalize g136 : wU (1 + 3) (fun k => 17 + k) E125 E135 = E137 at hP
  have f139 : E137 0 = .inr (6, [.ref (ad 1), .ref (ad 2), .null, .null, .null, .null, .null, .int 0, .int 0]) := by rw [← g136, wU_far (by omega)]; exact f127
  have f140 : E137 1 = .inl (tc 3, 5, .inr (.inr (.inr (.inr (va_up (va_up (fun _ => none) 0 (some (ad 3))) 1 (some (ad 10))))))) := by rw [← g136, wU_far (by omega)]; exact f128
  have f141 : E137 2 = .inl (tc 4, 5, .inr (.inr (.inr (.inr (va_up (va_up (fun _ => none) 0 (some (ad 7))) 1 (some (ad 14))))))) := by rw [← g136, wU_far (by omega)]; exact f129
  have f142 := f130.cong (G := E137) (fun k q1 q2 => by rw [← g136, wU_far (by omega)])
  have f143 := f131.cong (G := E137) (fun k q1 q2 => by rw [← g136, wU_far (by omega)])
  have f144 := f132.cong (G := E137) (fun k q1 q2 => by rw [← g136, wU_far (by omega)])
  have f145 := f133.cong (G := E137) (fun k q1 q2 => by rw [← g136, wU_far (by omega)])
  have f146 : isPG tc ad E137 17 0 q138o q138a q138b := q138z.up (fun j hj => by rw [← g136]; exact wU_own j (by omega))
  have f147 : E137 17 = .inr (2, [.ref (ad 18), .ref (ad 19), .ref (ad 20), .int (nI 0)]) := by have h := q138z.up (G := E137) (fun j hj => by rw [← g136]; exact wU_own j (by omega)); exact h.1
  clear f127 f128 f129 f130 f131 f132 f133 f134 g136
  have hD := hDD 21 (by decide) E137
  refine q_aast (t0 := 3) 2 X hD hP hS (by omega) (f140) rfl (by omega) (f147) rfl (rfl) (by decide) (by decide) dRW_init_39 (fun H locs hD9 hP9 hS9 => ?_)
  clear hP hS hD
  have hP : va_P D vwCl (wW 21 ad (va_up E137 1 (.inl (tc 3, 5, .inr (.inr (.inr (.inr (va_up (va_up (va_up (fun _ => none) 0 (some (ad 3))) 1 (some (ad 10))) 2 (some (ad 17)))))))))) H := hP9
  have hD : va_D (Aw (1 + 65) ad) (wW 21 ad (va_up E137 1 (.inl (tc 3, 5, .inr (.inr (.inr (.inr (va_up (va_up (va_up (fun _ => none) 0 (some (ad 3))) 1 (some (ad 10))) 2 (some (ad 17)))))))))) := hD9
  have hS := hS9
  clear hP9 hS9 hD9
  generalize g149 : va_up E137 1 (.inl (tc 3, 5, .inr (.inr (.inr (.inr (va_up (va_up (va_up (fun _ => none) 0 (some (ad 3))) 1 (some (ad 10))) 2 (some (ad 17)))))))) = E148 at hD hP
  have f150 : E148 0 = .inr (6, [.ref (ad 1), .ref (ad 2), .null, .null, .null, .null, .null, .int 0, .int 0]) := by rw [← g149, va_up_ne _ _ (by omega)]; exact f139
  have f151 : E148 1 = .inl (tc 3, 5, .inr (.inr (.inr (.inr (va_up (va_up (va_up (fun _ => none) 0 (some (ad 3))) 1 (some (ad 10))) 2 (some (ad 17))))))) := by rw [← g149]; exact va_up_self _ _ _
  have f152 : E148 2 = .inl (tc 4, 5, .inr (.inr (.inr (.inr (va_up (va_up (fun _ => none) 0 (some (ad 7))) 1 (some (ad 14))))))) := by rw [← g149, va_up_ne _ _ (by omega)]; exact f141
  have f153 := f142.cong (G := E148) (fun k q1 q2 => by rw [← g149, va_up_ne _ _ (by omega)])
  have f154 := f143.cong (G := E148) (fun k q1 q2 => by rw [← g149, va_up_ne _ _ (by omega)])
  have f155 := f144.cong (G := E148) (fun k q1 q2 => by rw [← g149, va_up_ne _ _ (by omega)])
  have f156 := f145.cong (G := E148) (fun k q1 q2 => by rw [← g149, va_up_ne _ _ (by omega)])
  have f157 := f146.cong (G := E148) (fun k q1 q2 => by rw [← g149, va_up_ne _ _ (by omega)])
  have f158 : E148 17 = .inr (2, [.ref (ad 18), .ref (ad 19), .ref (ad 20), .int (nI 0)]) := by rw [← g149, va_up_ne _ _ (by omega)]; exact f147
  clear f139 f140 f141 f142 f143 f144 f145 f146 f147 g149
  refine lv_aload_n hx hb dRW_init_40 rfl (lv_at hl 1 rfl) ?_
  refine g_RW_17 X hP (by omega) (f150) rfl dRW_init_41 ?_
  refine lv_iload_n hx hb dRW_init_44 rfl (lv_at hl 0 rfl) ?_
  refine q_newO (T := T_WK) (ci := 5) (fs := [.null, .int 0, .int 0, .long 0]) ty_WK X in_WK tok_WK w_30 w_50 w_3 rfl (by decide) hP hS (fun j hj => hsq j (by omega)) ⟨21, by decide, rfl⟩ (by decide) (by decide) dRW_init_45 (fun H hP9 hS9 => ?_)
  clear hP hS hD
  have hP : va_P D vwCl (wW 22 ad (va_up E148 21 (.inr (5, [.null, .int 0, .int 0, .long 0])))) H := hP9
  have hS := hS9
  clear hP9 hS9
  generalize g160 : va_up E148 21 (.inr (5, [.null, .int 0, .int 0, .long 0])) = E159 at hP
  have f161 : E159 0 = .inr (6, [.ref (ad 1), .ref (ad 2), .null, .null, .null, .null, .null, .int 0, .int 0]) := by rw [← g160, va_up_ne _ _ (by decide)]; exact f150
  have f162 : E159 1 = .inl (tc 3, 5, .inr (.inr (.inr (.inr (va_up (va_up (va_up (fun _ => none) 0 (some (ad 3))) 1 (some (ad 10))) 2 (some (ad 17))))))) := by rw [← g160, va_up_ne _ _ (by decide)]; exact f151
  have f163 : E159 2 = .inl (tc 4, 5, .inr (.inr (.inr (.inr (va_up (va_up (fun _ => none) 0 (some (ad 7))) 1 (some (ad 14))))))) := by rw [← g160, va_up_ne _ _ (by decide)]; exact f152
  have f164 := f153.cong (G := E159) (fun k q1 q2 => by rw [← g160, va_up_ne _ _ (by omega)])
  have f165 := f154.cong (G := E159) (fun k q1 q2 => by rw [← g160, va_up_ne _ _ (by omega)])
  have f166 := f155.cong (G := E159) (fun k q1 q2 => by rw [← g160, va_up_ne _ _ (by omega)])
  have f167 := f156.cong (G := E159) (fun k q1 q2 => by rw [← g160, va_up_ne _ _ (by omega)])
  have f168 := f157.cong (G := E159) (fun k q1 q2 => by rw [← g160, va_up_ne _ _ (by omega)])
  have f169 : E159 21 = .inr (5, [.null, .int 0, .int 0, .long 0]) := by rw [← g160]; exact va_up_self _ _ _
  clear f150 f151 f152 f153 f154 f155 f156 f157 g160
  have hD := hDD 22 (by decide) E159
  refine lv_dup hx hb dRW_init_48 rfl ?_
  refine x_n (b := 21) (fun hz => x_runIN (b := ad 21) (As := []) (rest := [.ref (ad 21), .int 2, .ref (ad 2)]) X (c_WK_init l D tc (fun k => ad (21 + k)) (fun k => E159 (21 + k)) (f169)) rfl rfl (by decide) (by decide) w_53 w_3 w_51 w_52 rfl ry_WK_init (ctN_pre (b := 21) X rfl hP (fun j hj => hsq j (by omega)) hz) ctN_blind hl.1 (Nat.le_of_ble_eq_true rfl) dRW_init_49 ⟨by decide, by decide⟩) rfl hP hS (fun j hj => hsq j (by omega)) (fun n hn E' => hDD n (by omega) E') (fun E170 H locs q173 hP9 hS9 => ?_)
  clear hP hS hD
  have hP : va_P D vwCl (wW 24 ad (wU (1 + 2) (fun k => 21 + k) E159 E170)) H := hP9
  have hS := hS9
  clear hP9 hS9
  generalize g171 : wU (1 + 2) (fun k => 21 + k) E159 E170 = E172 at hP
  have f174 : E172 0 = .inr (6, [.ref (ad 1), .ref (ad 2), .null, .null, .null, .null, .null, .int 0, .int 0]) := by rw [← g171, wU_far (by omega)]; exact f161
  have f175 : E172 1 = .inl (tc 3, 5, .inr (.inr (.inr (.inr (va_up (va_up (va_up (fun _ => none) 0 (some (ad 3))) 1 (some (ad 10))) 2 (some (ad 17))))))) := by rw [← g171, wU_far (by omega)]; exact f162
  have f176 : E172 2 = .inl (tc 4, 5, .inr (.inr (.inr (.inr (va_up (va_up (fun _ => none) 0 (some (ad 7))) 1 (some (ad 14))))))) := by rw [← g171, wU_far (by omega)]; exact f163
  have f177 := f164.cong (G := E172) (fun k q1 q2 => by rw [← g171, wU_far (by omega)])
  have f178 := f165.cong (G := E172) (fun k q1 q2 => by rw [← g171, wU_far (by omega)])
  have f179 := f166.cong (G := E172) (fun k q1 q2 => by rw [← g171, wU_far (by omega)])
  have f180 := f167.cong (G := E172) (fun k q1 q2 => by rw [← g171, wU_far (by omega)])
  have f181 := f168.cong (G := E172) (fun k q1 q2 => by rw [← g171, wU_far (by omega)])
  have f182 : isWK tc ad E172 21 0 0 0 := q173.up (fun j hj => by rw [← g171]; exact wU_own j (by omega))
  have f183 : E172 21 = .inr (5, [.ref (ad 22), .int 0, .int 0, .long 0]) := by have h := q173.up (G := E172) (fun j hj => by rw [← g171]; exact wU_own j (by omega)); exact h.1
  clear f161 f162 f163 f164 f165 f166 f167 f168 f169 g171
  have hD := hDD 24 (by decide) E172
  refine q_aast (t0 := 4) 2 X hD hP hS (by omega) (f176) rfl (by omega) (f183) rfl (rfl) (by decide) (by decide) dRW_init_52 (fun H locs hD9 hP9 hS9 => ?_)
  clear hP hS hD
  have hP : va_P D vwCl (wW 24 ad (va_up E172 2 (.inl (tc 4, 5, .inr (.inr (.inr (.inr (va_up (va_up (va_up (fun _ => none) 0 (some (ad 7))) 1 (some (ad 14))) 2 (some (ad 21)))))))))) H := hP9
  have hD : va_D (Aw (1 + 65) ad) (wW 24 ad (va_up E172 2 (.inl (tc 4, 5, .inr (.inr (.inr (.inr (va_up (va_up (va_up (fun _ => none) 0 (some (ad 7))) 1 (some (ad 14))) 2 (some (ad 21)))))))))) := hD9
  have hS := hS9
  clear hP9 hS9 hD9
  generalize g185 : va_up E172 2 (.inl (tc 4, 5, .inr (.inr (.inr (.inr (va_up (va_up (va_up (fun _ => none) 0 (some (ad 7))) 1 (some (ad 14))) 2 (some (ad 21)))))))) = E184 at hD hP
  have f186 : E184 0 = .inr (6, [.ref (ad 1), .ref (ad 2), .null, .null, .null, .null, .null, .int 0, .int 0]) := by rw [← g185, va_up_ne _ _ (by omega)]; exact f174
  have f187 : E184 1 = .inl (tc 3, 5, .inr (.inr (.inr (.inr (va_up (va_up (va_up (fun _ => none) 0 (some (ad 3))) 1 (some (ad 10))) 2 (some (ad 17))))))) := by rw [← g185, va_up_ne _ _ (by omega)]; exact f175
  have f188 : E184 2 = .inl (tc 4, 5, .inr (.inr (.inr (.inr (va_up (va_up (va_up (fun _ => none) 0 (some (ad 7))) 1 (some (ad 14))) 2 (some (ad 21))))))) := by rw [← g185]; exact va_up_self _ _ _
  have f189 := f177.cong (G := E184) (fun k q1 q2 => by rw [← g185, va_up_ne _ _ (by omega)])
  have f190 := f178.cong (G := E184) (fun k q1 q2 => by rw [← g185, va_up_ne _ _ (by omega)])
  have f191 := f179.cong (G := E184) (fun k q1 q2 => by rw [← g185, va_up_ne _ _ (by omega)])
  have f192 := f180.cong (G := E184) (fun k q1 q2 => by rw [← g185, va_up_ne _ _ (by omega)])
  have f193 := f181.cong (G := E184) (fun k q1 q2 => by rw [← g185, va_up_ne _ _ (by omega)])
  have f194 := f182.cong (G := E184) (fun k q1 q2 => by rw [← g185, va_up_ne _ _ (by omega)])
  have f195 : E184 21 = .inr (5, [.ref (ad 22), .int 0, .int 0, .long 0]) := by rw [← g185, va_up_ne _ _ (by omega)]; exact f183
  clear f174 f175 f176 f177 f178 f179 f180 f181 f182 f183 g185
  refine lv_iinc (k := 0) (v := 3) hx hb dRW_init_53 hl rfl (by decide) (by decide) rfl (fun ls hl => ?_)
  have hl : lv_has ls 2 [(1, .int 3), (0, .ref (ad 0))] := hl
  refine lv_goto (tgt := 22) hx hb dRW_init_56 rfl ?_
  refine lv_iload_n hx hb dRW_init_22 rfl (lv_at hl 0 rfl) ?_
  refine lv_iconst (v := 5) hx hb dRW_init_23 (by decide) ?_
  refine lv_icmp_ge (tgt := 59) hx hb dRW_init_24 rfl (fun h24 => absurd h24 (by decide)) (fun h24 => ?_)
  refine lv_aload_n hx hb dRW_init_27 rfl (lv_at hl 1 rfl) ?_
  refine g_RW_11 X hP (by omega) (f186) rfl dRW_init_28 ?_
  refine lv_iload_n hx hb dRW_init_31 rfl (lv_at hl 0 rfl) ?_
  refine q_newO (T := T_PG) (ci := 2) (fs := [.null, .null, .null, .int 0]) ty_PG X in_PG tok_PG w_28 w_32 w_2 rfl (by decide) hP hS (fun j hj => hsq j (by omega)) ⟨24, by decide, rfl⟩ (by decide) (by decide) dRW_init_32 (fun H hP9 hS9 => ?_)
  clear hP hS hD
  have hP : va_P D vwCl (wW 25 ad (va_up E184 24 (.inr (2, [.null, .null, .null, .int 0])))) H := hP9
  have hS := hS9
  clear hP9 hS9
  generalize g197 : va_up E184 24 (.inr (2, [.null, .null, .null, .int 0])) = E196 at hP
  have f198 : E196 0 = .inr (6, [.ref (ad 1), .ref (ad 2), .null, .null, .null, .null, .null, .int 0, .int 0]) := by rw [← g197, va_up_ne _ _ (by decide)]; exact f186
  have f199 : E196 1 = .inl (tc 3, 5, .inr (.inr (.inr (.inr (va_up (va_up (va_up (fun _ => none) 0 (some (ad 3))) 1 (some (ad 10))) 2 (some (ad 17))))))) := by rw [← g197, va_up_ne _ _ (by decide)]; exact f187
  have f200 : E196 2 = .inl (tc 4, 5, .inr (.inr (.inr (.inr (va_up (va_up (va_up (fun _ => none) 0 (some (ad 7))) 1 (some (ad 14))) 2 (some (ad 21))))))) := by rw [← g197, va_up_ne _ _ (by decide)]; exact f188
  have f201 := f189.cong (G := E196) (fun k q1 q2 => by rw [← g197, va_up_ne _ _ (by omega)])
  have f202 := f190.cong (G := E196) (fun k q1 q2 => by rw [← g197, va_up_ne _ _ (by omega)])
  have f203 := f191.cong (G := E196) (fun k q1 q2 => by rw [← g197, va_up_ne _ _ (by omega)])
  have f204 := f192.cong (G := E196) (fun k q1 q2 => by rw [← g197, va_up_ne _ _ (by omega)])
  have f205 := f193.cong (G := E196) (fun k q1 q2 => by rw [← g197, va_up_ne _ _ (by omega)])
  have f206 := f194.cong (G := E196) (fun k q1 q2 => by rw [← g197, va_up_ne _ _ (by omega)])
  have f207 : E196 24 = .inr (2, [.null, .null, .null, .int 0]) := by rw [← g197]; exact va_up_self _ _ _
  clear f186 f187 f188 f189 f190 f191 f192 f193 f194 g197
  have hD := hDD 25 (by decide) E196
  refine lv_dup hx hb dRW_init_35 rfl ?_
  refine x_n (b := 24) (fun hz => x_runIN (b := ad 24) (As := []) (rest := [.ref (ad 24), .int 3, .ref (ad 1)]) X (c_PG_init l D tc (fun k => ad (24 + k)) (fun k => E196 (24 + k)) (f207)) rfl rfl (by decide) (by decide) w_35 w_2 w_33 w_34 rfl ry_PG_init (ctN_pre (b := 24) X rfl hP (fun j hj => hsq j (by omega)) hz) ctN_blind hl.1 (Nat.le_of_ble_eq_true rfl) dRW_init_36 ⟨by decide, by decide⟩) rfl hP hS (fun j hj => hsq j (by omega)) (fun n hn E' => hDD n (by omega) E') (fun E208 H locs q211 hP9 hS9 => ?_)
  clear hP hS hD
  have hP : va_P D vwCl (wW 28 ad (wU (1 + 3) (fun k => 24 + k) E196 E208)) H := hP9
  have hS := hS9
  clear hP9 hS9
  obtain ⟨q211o, q211a, q211b, q211z⟩ := q211
  generalize g209 : wU (1 + 3) (fun k => 24 + k) E196 E208 = E210 at hP
  have f212 : E210 0 = .inr (6, [.ref (ad 1), .ref (ad 2), .null, .null, .null, .null, .null, .int 0, .int 0]) := by rw [← g209, wU_far (by omega)]; exact f198
  have f213 : E210 1 = .inl (tc 3, 5, .inr (.inr (.inr (.inr (va_up (va_up (va_up (fun _ => none) 0 (some (ad 3))) 1 (some (ad 10))) 2 (some (ad 17))))))) := by rw [← g209, wU_far (by omega)]; exact f199
  have f214 : E210 2 = .inl (tc 4, 5, .inr (.inr (.inr (.inr (va_up (va_up (va_up (fun _ => none) 0 (some (ad 7))) 1 (some (ad 14))) 2 (some (ad 21))))))) := by rw [← g209, wU_far (by omega)]; exact f200
  have f215 := f201.cong (G := E210) (fun k q1 q2 => by rw [← g209, wU_far (by omega)])
  have f216 := f202.cong (G := E210) (fun k q1 q2 => by rw [← g209, wU_far (by omega)])
  have f217 := f203.cong (G := E210) (fun k q1 q2 => by rw [← g209, wU_far (by omega)])
  have f218 := f204.cong (G := E210) (fun k q1 q2 => by rw [← g209, wU_far (by omega)])
  have f219 := f205.cong (G := E210) (fun k q1 q2 => by rw [← g209, wU_far (by omega)])
  have f220 := f206.cong (G := E210) (fun k q1 q2 => by rw [← g209, wU_far (by omega)])
  have f221 : isPG tc ad E210 24 0 q211o q211a q211b := q211z.up (fun j hj => by rw [← g209]; exact wU_own j (by omega))
  have f222 : E210 24 = .inr (2, [.ref (ad 25), .ref (ad 26), .ref (ad 27), .int (nI 0)]) := by have h := q211z.up (G := E210) (fun j hj => by rw [← g209]; exact wU_own j (by omega)); exact h.1
  clear f198 f199 f200 f201 f202 f203 f204 f205 f206 f207 g209
  have hD := hDD 28 (by decide) E210
  refine q_aast (t0 := 3) 3 X hD hP hS (by omega) (f213) rfl (by omega) (f222) rfl (rfl) (by decide) (by decide) dRW_init_39 (fun H locs hD9 hP9 hS9 => ?_)
  clear hP hS hD
  have hP : va_P D vwCl (wW 28 ad (va_up E210 1 (.inl (tc 3, 5, .inr (.inr (.inr (.inr (va_up (va_up (va_up (va_up (fun _ => none) 0 (some (ad 3))) 1 (some (ad 10))) 2 (some (ad 17))) 3 (some (ad 24)))))))))) H := hP9
  have hD : va_D (Aw (1 + 65) ad) (wW 28 ad (va_up E210 1 (.inl (tc 3, 5, .inr (.inr (.inr (.inr (va_up (va_up (va_up (va_up (fun _ => none) 0 (some (ad 3))) 1 (some (ad 10))) 2 (some (ad 17))) 3 (some (ad 24)))))))))) := hD9
  have hS := hS9
  clear hP9 hS9 hD9
  generalize g224 : va_up E210 1 (.inl (tc 3, 5, .inr (.inr (.inr (.inr (va_up (va_up (va_up (va_up (fun _ => none) 0 (some (ad 3))) 1 (some (ad 10))) 2 (some (ad 17))) 3 (some (ad 24)))))))) = E223 at hD hP
  have f225 : E223 0 = .inr (6, [.ref (ad 1), .ref (ad 2), .null, .null, .null, .null, .null, .int 0, .int 0]) := by rw [← g224, va_up_ne _ _ (by omega)]; exact f212
  have f226 : E223 1 = .inl (tc 3, 5, .inr (.inr (.inr (.inr (va_up (va_up (va_up (va_up (fun _ => none) 0 (some (ad 3))) 1 (some (ad 10))) 2 (some (ad 17))) 3 (some (ad 24))))))) := by rw [← g224]; exact va_up_self _ _ _
  have f227 : E223 2 = .inl (tc 4, 5, .inr (.inr (.inr (.inr (va_up (va_up (va_up (fun _ => none) 0 (some (ad 7))) 1 (some (ad 14))) 2 (some (ad 21))))))) := by rw [← g224, va_up_ne _ _ (by omega)]; exact f214
  have f228 := f215.cong (G := E223) (fun k q1 q2 => by rw [← g224, va_up_ne _ _ (by omega)])
  have f229 := f216.cong (G := E223) (fun k q1 q2 => by rw [← g224, va_up_ne _ _ (by omega)])
  have f230 := f217.cong (G := E223) (fun k q1 q2 => by rw [← g224, va_up_ne _ _ (by omega)])
  have f231 := f218.cong (G := E223) (fun k q1 q2 => by rw [← g224, va_up_ne _ _ (by omega)])
  have f232 := f219.cong (G := E223) (fun k q1 q2 => by rw [← g224, va_up_ne _ _ (by omega)])
  have f233 := f220.cong (G := E223) (fun k q1 q2 => by rw [← g224, va_up_ne _ _ (by omega)])
  have f234 := f221.cong (G := E223) (fun k q1 q2 => by rw [← g224, va_up_ne _ _ (by omega)])
  have f235 : E223 24 = .inr (2, [.ref (ad 25), .ref (ad 26), .ref (ad 27), .int (nI 0)]) := by rw [← g224, va_up_ne _ _ (by omega)]; exact f222
  clear f212 f213 f214 f215 f216 f217 f218 f219 f220 f221 f222 g224
  refine lv_aload_n hx hb dRW_init_40 rfl (lv_at hl 1 rfl) ?_
  refine g_RW_17 X hP (by omega) (f225) rfl dRW_init_41 ?_
  refine lv_iload_n hx hb dRW_init_44 rfl (lv_at hl 0 rfl) ?_
  refine q_newO (T := T_WK) (ci := 5) (fs := [.null, .int 0, .int 0, .long 0]) ty_WK X in_WK tok_WK w_30 w_50 w_3 rfl (by decide) hP hS (fun j hj => hsq j (by omega)) ⟨28, by decide, rfl⟩ (by decide) (by decide) dRW_init_45 (fun H hP9 hS9 => ?_)
  clear hP hS hD
  have hP : va_P D vwCl (wW 29 ad (va_up E223 28 (.inr (5, [.null, .int 0, .int 0, .long 0])))) H := hP9
  have hS := hS9
  clear hP9 hS9
  generalize g237 : va_up E223 28 (.inr (5, [.null, .int 0, .int 0, .long 0])) = E236 at hP
  have f238 : E236 0 = .inr (6, [.ref (ad 1), .ref (ad 2), .null, .null, .null, .null, .null, .int 0, .int 0]) := by rw [← g237, va_up_ne _ _ (by decide)]; exact f225
  have f239 : E236 1 = .inl (tc 3, 5, .inr (.inr (.inr (.inr (va_up (va_up (va_up (va_up (fun _ => none) 0 (some (ad 3))) 1 (some (ad 10))) 2 (some (ad 17))) 3 (some (ad 24))))))) := by rw [← g237, va_up_ne _ _ (by decide)]; exact f226
  have f240 : E236 2 = .inl (tc 4, 5, .inr (.inr (.inr (.inr (va_up (va_up (va_up (fun _ => none) 0 (some (ad 7))) 1 (some (ad 14))) 2 (some (ad 21))))))) := by rw [← g237, va_up_ne _ _ (by decide)]; exact f227
  have f241 := f228.cong (G := E236) (fun k q1 q2 => by rw [← g237, va_up_ne _ _ (by omega)])
  have f242 := f229.cong (G := E236) (fun k q1 q2 => by rw [← g237, va_up_ne _ _ (by omega)])
  have f243 := f230.cong (G := E236) (fun k q1 q2 => by rw [← g237, va_up_ne _ _ (by omega)])
  have f244 := f231.cong (G := E236) (fun k q1 q2 => by rw [← g237, va_up_ne _ _ (by omega)])
  have f245 := f232.cong (G := E236) (fun k q1 q2 => by rw [← g237, va_up_ne _ _ (by omega)])
  have f246 := f233.cong (G := E236) (fun k q1 q2 => by rw [← g237, va_up_ne _ _ (by omega)])
  have f247 := f234.cong (G := E236) (fun k q1 q2 => by rw [← g237, va_up_ne _ _ (by omega)])
  have f248 : E236 28 = .inr (5, [.null, .int 0, .int 0, .long 0]) := by rw [← g237]; exact va_up_self _ _ _
  clear f225 f226 f227 f228 f229 f230 f231 f232 f233 f234 g237
  have hD := hDD 29 (by decide) E236
  refine lv_dup hx hb dRW_init_48 rfl ?_
  refine x_n (b := 28) (fun hz => x_runIN (b := ad 28) (As := []) (rest := [.ref (ad 28), .int 3, .ref (ad 2)]) X (c_WK_init l D tc (fun k => ad (28 + k)) (fun k => E236 (28 + k)) (f248)) rfl rfl (by decide) (by decide) w_53 w_3 w_51 w_52 rfl ry_WK_init (ctN_pre (b := 28) X rfl hP (fun j hj => hsq j (by omega)) hz) ctN_blind hl.1 (Nat.le_of_ble_eq_true rfl) dRW_init_49 ⟨by decide, by decide⟩) rfl hP hS (fun j hj => hsq j (by omega)) (fun n hn E' => hDD n (by omega) E') (fun E249 H locs q252 hP9 hS9 => ?_)
  clear hP hS hD
  have hP : va_P D vwCl (wW 31 ad (wU (1 + 2) (fun k => 28 + k) E236 E249)) H := hP9
  have hS := hS9
  clear hP9 hS9
  generalize g250 : wU (1 + 2) (fun k => 28 + k) E236 E249 = E251 at hP
  have f253 : E251 0 = .inr (6, [.ref (ad 1), .ref (ad 2), .null, .null, .null, .null, .null, .int 0, .int 0]) := by rw [← g250, wU_far (by omega)]; exact f238
  have f254 : E251 1 = .inl (tc 3, 5, .inr (.inr (.inr (.inr (va_up (va_up (va_up (va_up (fun _ => none) 0 (some (ad 3))) 1 (some (ad 10))) 2 (some (ad 17))) 3 (some (ad 24))))))) := by rw [← g250, wU_far (by omega)]; exact f239
  have f255 : E251 2 = .inl (tc 4, 5, .inr (.inr (.inr (.inr (va_up (va_up (va_up (fun _ => none) 0 (some (ad 7))) 1 (some (ad 14))) 2 (some (ad 21))))))) := by rw [← g250, wU_far (by omega)]; exact f240
  have f256 := f241.cong (G := E251) (fun k q1 q2 => by rw [← g250, wU_far (by omega)])
  have f257 := f242.cong (G := E251) (fun k q1 q2 => by rw [← g250, wU_far (by omega)])
  have f258 := f243.cong (G := E251) (fun k q1 q2 => by rw [← g250, wU_far (by omega)])
  have f259 := f244.cong (G := E251) (fun k q1 q2 => by rw [← g250, wU_far (by omega)])
  have f260 := f245.cong (G := E251) (fun k q1 q2 => by rw [← g250, wU_far (by omega)])
  have f261 := f246.cong (G := E251) (fun k q1 q2 => by rw [← g250, wU_far (by omega)])
  have f262 := f247.cong (G := E251) (fun k q1 q2 => by rw [← g250, wU_far (by omega)])
  have f263 : isWK tc ad E251 28 0 0 0 := q252.up (fun j hj => by rw [← g250]; exact wU_own j (by omega))
  have f264 : E251 28 = .inr (5, [.ref (ad 29), .int 0, .int 0, .long 0]) := by have h := q252.up (G := E251) (fun j hj => by rw [← g250]; exact wU_own j (by omega)); exact h.1
  clear f238 f239 f240 f241 f242 f243 f244 f245 f246 f247 f248 g250
  have hD := hDD 31 (by decide) E251
  refine q_aast (t0 := 4) 3 X hD hP hS (by omega) (f255) rfl (by omega) (f264) rfl (rfl) (by decide) (by decide) dRW_init_52 (fun H locs hD9 hP9 hS9 => ?_)
  clear hP hS hD
  have hP : va_P D vwCl (wW 31 ad (va_up E251 2 (.inl (tc 4, 5, .inr (.inr (.inr (.inr (va_up (va_up (va_up (va_up (fun _ => none) 0 (some (ad 7))) 1 (some (ad 14))) 2 (some (ad 21))) 3 (some (ad 28)))))))))) H := hP9
  have hD : va_D (Aw (1 + 65) ad) (wW 31 ad (va_up E251 2 (.inl (tc 4, 5, .inr (.inr (.inr (.inr (va_up (va_up (va_up (va_up (fun _ => none) 0 (some (ad 7))) 1 (some (ad 14))) 2 (some (ad 21))) 3 (some (ad 28)))))))))) := hD9
  have hS := hS9
  clear hP9 hS9 hD9
  generalize g266 : va_up E251 2 (.inl (tc 4, 5, .inr (.inr (.inr (.inr (va_up (va_up (va_up (va_up (fun _ => none) 0 (some (ad 7))) 1 (some (ad 14))) 2 (some (ad 21))) 3 (some (ad 28)))))))) = E265 at hD hP
  have f267 : E265 0 = .inr (6, [.ref (ad 1), .ref (ad 2), .null, .null, .null, .null, .null, .int 0, .int 0]) := by rw [← g266, va_up_ne _ _ (by omega)]; exact f253
  have f268 : E265 1 = .inl (tc 3, 5, .inr (.inr (.inr (.inr (va_up (va_up (va_up (va_up (fun _ => none) 0 (some (ad 3))) 1 (some (ad 10))) 2 (some (ad 17))) 3 (some (ad 24))))))) := by rw [← g266, va_up_ne _ _ (by omega)]; exact f254
  have f269 : E265 2 = .inl (tc 4, 5, .inr (.inr (.inr (.inr (va_up (va_up (va_up (va_up (fun _ => none) 0 (some (ad 7))) 1 (some (ad 14))) 2 (some (ad 21))) 3 (some (ad 28))))))) := by rw [← g266]; exact va_up_self _ _ _
  have f270 := f256.cong (G := E265) (fun k q1 q2 => by rw [← g266, va_up_ne _ _ (by omega)])
  have f271 := f257.cong (G := E265) (fun k q1 q2 => by rw [← g266, va_up_ne _ _ (by omega)])
  have f272 := f258.cong (G := E265) (fun k q1 q2 => by rw [← g266, va_up_ne _ _ (by omega)])
  have f273 := f259.cong (G := E265) (fun k q1 q2 => by rw [← g266, va_up_ne _ _ (by omega)])
  have f274 := f260.cong (G := E265) (fun k q1 q2 => by rw [← g266, va_up_ne _ _ (by omega)])
  have f275 := f261.cong (G := E265) (fun k q1 q2 => by rw [← g266, va_up_ne _ _ (by omega)])
  have f276 := f262.cong (G := E265) (fun k q1 q2 => by rw [← g266, va_up_ne _ _ (by omega)])
  have f277 := f263.cong (G := E265) (fun k q1 q2 => by rw [← g266, va_up_ne _ _ (by omega)])
  have f278 : E265 28 = .inr (5, [.ref (ad 29), .int 0, .int 0, .long 0]) := by rw [← g266, va_up_ne _ _ (by omega)]; exact f264
  clear f253 f254 f255 f256 f257 f258 f259 f260 f261 f262 f263 f264 g266
  refine lv_iinc (k := 0) (v := 4) hx hb dRW_init_53 hl rfl (by decide) (by decide) rfl (fun ls hl => ?_)
  have hl : lv_has ls 2 [(1, .int 4), (0, .ref (ad 0))] := hl
  refine lv_goto (tgt := 22) hx hb dRW_init_56 rfl ?_
  refine lv_iload_n hx hb dRW_init_22 rfl (lv_at hl 0 rfl) ?_
  refine lv_iconst (v := 5) hx hb dRW_init_23 (by decide) ?_
  refine lv_icmp_ge (tgt := 59) hx hb dRW_init_24 rfl (fun h24 => absurd h24 (by decide)) (fun h24 => ?_)
  refine lv_aload_n hx hb dRW_init_27 rfl (lv_at hl 1 rfl) ?_
  refine g_RW_11 X hP (by omega) (f267) rfl dRW_init_28 ?_
  refine lv_iload_n hx hb dRW_init_31 rfl (lv_at hl 0 rfl) ?_
  refine q_newO (T := T_PG) (ci := 2) (fs := [.null, .null, .null, .int 0]) ty_PG X in_PG tok_PG w_28 w_32 w_2 rfl (by decide) hP hS (fun j hj => hsq j (by omega)) ⟨31, by decide, rfl⟩ (by decide) (by decide) dRW_init_32 (fun H hP9 hS9 => ?_)
  clear hP hS hD
  have hP : va_P D vwCl (wW 32 ad (va_up E265 31 (.inr (2, [.null, .null, .null, .int 0])))) H := hP9
  have hS := hS9
  clear hP9 hS9
  generalize g280 : va_up E265 31 (.inr (2, [.null, .null, .null, .int 0])) = E279 at hP
  have f281 : E279 0 = .inr (6, [.ref (ad 1), .ref (ad 2), .null, .null, .null, .null, .null, .int 0, .int 0]) := by rw [← g280, va_up_ne _ _ (by decide)]; exact f267
  have f282 : E279 1 = .inl (tc 3, 5, .inr (.inr (.inr (.inr (va_up (va_up (va_up (va_up (fun _ => none) 0 (some (ad 3))) 1 (some (ad 10))) 2 (some (ad 17))) 3 (some (ad 24))))))) := by rw [← g280, va_up_ne _ _ (by decide)]; exact f268
  have f283 : E279 2 = .inl (tc 4, 5, .inr (.inr (.inr (.inr (va_up (va_up (va_up (va_up (fun _ => none) 0 (some (ad 7))) 1 (some (ad 14))) 2 (some (ad 21))) 3 (some (ad 28))))))) := by rw [← g280, va_up_ne _ _ (by decide)]; exact f269
  have f284 := f270.cong (G := E279) (fun k q1 q2 => by rw [← g280, va_up_ne _ _ (by omega)])
  have f285 := f271.cong (G := E279) (fun k q1 q2 => by rw [← g280, va_up_ne _ _ (by omega)])
  have f286 := f272.cong (G := E279) (fun k q1 q2 => by rw [← g280, va_up_ne _ _ (by omega)])
  have f287 := f273.cong (G := E279) (fun k q1 q2 => by rw [← g280, va_up_ne _ _ (by omega)])
  have f288 := f274.cong (G := E279) (fun k q1 q2 => by rw [← g280, va_up_ne _ _ (by omega)])
  have f289 := f275.cong (G := E279) (fun k q1 q2 => by rw [← g280, va_up_ne _ _ (by omega)])
  have f290 := f276.cong (G := E279) (fun k q1 q2 => by rw [← g280, va_up_ne _ _ (by omega)])
  have f291 := f277.cong (G := E279) (fun k q1 q2 => by rw [← g280, va_up_ne _ _ (by omega)])
  have f292 : E279 31 = .inr (2, [.null, .null, .null, .int 0]) := by rw [← g280]; exact va_up_self _ _ _
  clear f267 f268 f269 f270 f271 f272 f273 f274 f275 f276 f277 g280
  have hD := hDD 32 (by decide) E279
  refine lv_dup hx hb dRW_init_35 rfl ?_
  refine x_n (b := 31) (fun hz => x_runIN (b := ad 31) (As := []) (rest := [.ref (ad 31), .int 4, .ref (ad 1)]) X (c_PG_init l D tc (fun k => ad (31 + k)) (fun k => E279 (31 + k)) (f292)) rfl rfl (by decide) (by decide) w_35 w_2 w_33 w_34 rfl ry_PG_init (ctN_pre (b := 31) X rfl hP (fun j hj => hsq j (by omega)) hz) ctN_blind hl.1 (Nat.le_of_ble_eq_true rfl) dRW_init_36 ⟨by decide, by decide⟩) rfl hP hS (fun j hj => hsq j (by omega)) (fun n hn E' => hDD n (by omega) E') (fun E293 H locs q296 hP9 hS9 => ?_)
  clear hP hS hD
  have hP : va_P D vwCl (wW 35 ad (wU (1 + 3) (fun k => 31 + k) E279 E293)) H := hP9
  have hS := hS9
  clear hP9 hS9
  obtain ⟨q296o, q296a, q296b, q296z⟩ := q296
  generalize g294 : wU (1 + 3) (fun k => 31 + k) E279 E293 = E295 at hP
  have f297 : E295 0 = .inr (6, [.ref (ad 1), .ref (ad 2), .null, .null, .null, .null, .null, .int 0, .int 0]) := by rw [← g294, wU_far (by omega)]; exact f281
  have f298 : E295 1 = .inl (tc 3, 5, .inr (.inr (.inr (.inr (va_up (va_up (va_up (va_up (fun _ => none) 0 (some (ad 3))) 1 (some (ad 10))) 2 (some (ad 17))) 3 (some (ad 24))))))) := by rw [← g294, wU_far (by omega)]; exact f282
  have f299 : E295 2 = .inl (tc 4, 5, .inr (.inr (.inr (.inr (va_up (va_up (va_up (va_up (fun _ => none) 0 (some (ad 7))) 1 (some (ad 14))) 2 (some (ad 21))) 3 (some (ad 28))))))) := by rw [← g294, wU_far (by omega)]; exact f283
  have f300 := f284.cong (G := E295) (fun k q1 q2 => by rw [← g294, wU_far (by omega)])
  have f301 := f285.cong (G := E295) (fun k q1 q2 => by rw [← g294, wU_far (by omega)])
  have f302 := f286.cong (G := E295) (fun k q1 q2 => by rw [← g294, wU_far (by omega)])
  have f303 := f287.cong (G := E295) (fun k q1 q2 => by rw [← g294, wU_far (by omega)])
  have f304 := f288.cong (G := E295) (fun k q1 q2 => by rw [← g294, wU_far (by omega)])
  have f305 := f289.cong (G := E295) (fun k q1 q2 => by rw [← g294, wU_far (by omega)])
  have f306 := f290.cong (G := E295) (fun k q1 q2 => by rw [← g294, wU_far (by omega)])
  have f307 := f291.cong (G := E295) (fun k q1 q2 => by rw [← g294, wU_far (by omega)])
  have f308 : isPG tc ad E295 31 0 q296o q296a q296b := q296z.up (fun j hj => by rw [← g294]; exact wU_own j (by omega))
  have f309 : E295 31 = .inr (2, [.ref (ad 32), .ref (ad 33), .ref (ad 34), .int (nI 0)]) := by have h := q296z.up (G := E295) (fun j hj => by rw [← g294]; exact wU_own j (by omega)); exact h.1
  clear f281 f282 f283 f284 f285 f286 f287 f288 f289 f290 f291 f292 g294
  have hD := hDD 35 (by decide) E295
  refine q_aast (t0 := 3) 4 X hD hP hS (by omega) (f298) rfl (by omega) (f309) rfl (rfl) (by decide) (by decide) dRW_init_39 (fun H locs hD9 hP9 hS9 => ?_)
  clear hP hS hD
  have hP : va_P D vwCl (wW 35 ad (va_up E295 1 (.inl (tc 3, 5, .inr (.inr (.inr (.inr (va_up (va_up (va_up (va_up (va_up (fun _ => none) 0 (some (ad 3))) 1 (some (ad 10))) 2 (some (ad 17))) 3 (some (ad 24))) 4 (some (ad 31)))))))))) H := hP9
  have hD : va_D (Aw (1 + 65) ad) (wW 35 ad (va_up E295 1 (.inl (tc 3, 5, .inr (.inr (.inr (.inr (va_up (va_up (va_up (va_up (va_up (fun _ => none) 0 (some (ad 3))) 1 (some (ad 10))) 2 (some (ad 17))) 3 (some (ad 24))) 4 (some (ad 31)))))))))) := hD9
  have hS := hS9
  clear hP9 hS9 hD9
  generalize g311 : va_up E295 1 (.inl (tc 3, 5, .inr (.inr (.inr (.inr (va_up (va_up (va_up (va_up (va_up (fun _ => none) 0 (some (ad 3))) 1 (some (ad 10))) 2 (some (ad 17))) 3 (some (ad 24))) 4 (some (ad 31)))))))) = E310 at hD hP
  have f312 : E310 0 = .inr (6, [.ref (ad 1), .ref (ad 2), .null, .null, .null, .null, .null, .int 0, .int 0]) := by rw [← g311, va_up_ne _ _ (by omega)]; exact f297
  have f313 : E310 1 = .inl (tc 3, 5, .inr (.inr (.inr (.inr (va_up (va_up (va_up (va_up (va_up (fun _ => none) 0 (some (ad 3))) 1 (some (ad 10))) 2 (some (ad 17))) 3 (some (ad 24))) 4 (some (ad 31))))))) := by rw [← g311]; exact va_up_self _ _ _
  have f314 : E310 2 = .inl (tc 4, 5, .inr (.inr (.inr (.inr (va_up (va_up (va_up (va_up (fun _ => none) 0 (some (ad 7))) 1 (some (ad 14))) 2 (some (ad 21))) 3 (some (ad 28))))))) := by rw [← g311, va_up_ne _ _ (by omega)]; exact f299
  have f315 := f300.cong (G := E310) (fun k q1 q2 => by rw [← g311, va_up_ne _ _ (by omega)])
  have f316 := f301.cong (G := E310) (fun k q1 q2 => by rw [← g311, va_up_ne _ _ (by omega)])
  have f317 := f302.cong (G := E310) (fun k q1 q2 => by rw [← g311, va_up_ne _ _ (by omega)])
  have f318 := f303.cong (G := E310) (fun k q1 q2 => by rw [← g311, va_up_ne _ _ (by omega)])
  have f319 := f304.cong (G := E310) (fun k q1 q2 => by rw [← g311, va_up_ne _ _ (by omega)])
  have f320 := f305.cong (G := E310) (fun k q1 q2 => by rw [← g311, va_up_ne _ _ (by omega)])
  have f321 := f306.cong (G := E310) (fun k q1 q2 => by rw [← g311, va_up_ne _ _ (by omega)])
  have f322 := f307.cong (G := E310) (fun k q1 q2 => by rw [← g311, va_up_ne _ _ (by omega)])
  have f323 := f308.cong (G := E310) (fun k q1 q2 => by rw [← g311, va_up_ne _ _ (by omega)])
  have f324 : E310 31 = .inr (2, [.ref (ad 32), .ref (ad 33), .ref (ad 34), .int (nI 0)]) := by rw [← g311, va_up_ne _ _ (by omega)]; exact f309
  clear f297 f298 f299 f300 f301 f302 f303 f304 f305 f306 f307 f308 f309 g311
  refine lv_aload_n hx hb dRW_init_40 rfl (lv_at hl 1 rfl) ?_
  refine g_RW_17 X hP (by omega) (f312) rfl dRW_init_41 ?_
  refine lv_iload_n hx hb dRW_init_44 rfl (lv_at hl 0 rfl) ?_
  refine q_newO (T := T_WK) (ci := 5) (fs := [.null, .int 0, .int 0, .long 0]) ty_WK X in_WK tok_WK w_30 w_50 w_3 rfl (by decide) hP hS (fun j hj => hsq j (by omega)) ⟨35, by decide, rfl⟩ (by decide) (by decide) dRW_init_45 (fun H hP9 hS9 => ?_)
  clear hP hS hD
  have hP : va_P D vwCl (wW 36 ad (va_up E310 35 (.inr (5, [.null, .int 0, .int 0, .long 0])))) H := hP9
  have hS := hS9
  clear hP9 hS9
  generalize g326 : va_up E310 35 (.inr (5, [.null, .int 0, .int 0, .long 0])) = E325 at hP
  have f327 : E325 0 = .inr (6, [.ref (ad 1), .ref (ad 2), .null, .null, .null, .null, .null, .int 0, .int 0]) := by rw [← g326, va_up_ne _ _ (by decide)]; exact f312
  have f328 : E325 1 = .inl (tc 3, 5, .inr (.inr (.inr (.inr (va_up (va_up (va_up (va_up (va_up (fun _ => none) 0 (some (ad 3))) 1 (some (ad 10))) 2 (some (ad 17))) 3 (some (ad 24))) 4 (some (ad 31))))))) := by rw [← g326, va_up_ne _ _ (by decide)]; exact f313
  have f329 : E325 2 = .inl (tc 4, 5, .inr (.inr (.inr (.inr (va_up (va_up (va_up (va_up (fun _ => none) 0 (some (ad 7))) 1 (some (ad 14))) 2 (some (ad 21))) 3 (some (ad 28))))))) := by rw [← g326, va_up_ne _ _ (by decide)]; exact f314
  have f330 := f315.cong (G := E325) (fun k q1 q2 => by rw [← g326, va_up_ne _ _ (by omega)])
  have f331 := f316.cong (G := E325) (fun k q1 q2 => by rw [← g326, va_up_ne _ _ (by omega)])
  have f332 := f317.cong (G := E325) (fun k q1 q2 => by rw [← g326, va_up_ne _ _ (by omega)])
  have f333 := f318.cong (G := E325) (fun k q1 q2 => by rw [← g326, va_up_ne _ _ (by omega)])
  have f334 := f319.cong (G := E325) (fun k q1 q2 => by rw [← g326, va_up_ne _ _ (by omega)])
  have f335 := f320.cong (G := E325) (fun k q1 q2 => by rw [← g326, va_up_ne _ _ (by omega)])
  have f336 := f321.cong (G := E325) (fun k q1 q2 => by rw [← g326, va_up_ne _ _ (by omega)])
  have f337 := f322.cong (G := E325) (fun k q1 q2 => by rw [← g326, va_up_ne _ _ (by omega)])
  have f338 := f323.cong (G := E325) (fun k q1 q2 => by rw [← g326, va_up_ne _ _ (by omega)])
  have f339 : E325 35 = .inr (5, [.null, .int 0, .int 0, .long 0]) := by rw [← g326]; exact va_up_self _ _ _
  clear f312 f313 f314 f315 f316 f317 f318 f319 f320 f321 f322 f323 g326
  have hD := hDD 36 (by decide) E325
  refine lv_dup hx hb dRW_init_48 rfl ?_
  refine x_n (b := 35) (fun hz => x_runIN (b := ad 35) (As := []) (rest := [.ref (ad 35), .int 4, .ref (ad 2)]) X (c_WK_init l D tc (fun k => ad (35 + k)) (fun k => E325 (35 + k)) (f339)) rfl rfl (by decide) (by decide) w_53 w_3 w_51 w_52 rfl ry_WK_init (ctN_pre (b := 35) X rfl hP (fun j hj => hsq j (by omega)) hz) ctN_blind hl.1 (Nat.le_of_ble_eq_true rfl) dRW_init_49 ⟨by decide, by decide⟩) rfl hP hS (fun j hj => hsq j (by omega)) (fun n hn E' => hDD n (by omega) E') (fun E340 H locs q343 hP9 hS9 => ?_)
  clear hP hS hD
  have hP : va_P D vwCl (wW 38 ad (wU (1 + 2) (fun k => 35 + k) E325 E340)) H := hP9
  have hS := hS9
  clear hP9 hS9
  generalize g341 : wU (1 + 2) (fun k => 35 + k) E325 E340 = E342 at hP
  have f344 : E342 0 = .inr (6, [.ref (ad 1), .ref (ad 2), .null, .null, .null, .null, .null, .int 0, .int 0]) := by rw [← g341, wU_far (by omega)]; exact f327
  have f345 : E342 1 = .inl (tc 3, 5, .inr (.inr (.inr (.inr (va_up (va_up (va_up (va_up (va_up (fun _ => none) 0 (some (ad 3))) 1 (some (ad 10))) 2 (some (ad 17))) 3 (some (ad 24))) 4 (some (ad 31))))))) := by rw [← g341, wU_far (by omega)]; exact f328
  have f346 : E342 2 = .inl (tc 4, 5, .inr (.inr (.inr (.inr (va_up (va_up (va_up (va_up (fun _ => none) 0 (some (ad 7))) 1 (some (ad 14))) 2 (some (ad 21))) 3 (some (ad 28))))))) := by rw [← g341, wU_far (by omega)]; exact f329
  have f347 := f330.cong (G := E342) (fun k q1 q2 => by rw [← g341, wU_far (by omega)])
  have f348 := f331.cong (G := E342) (fun k q1 q2 => by rw [← g341, wU_far (by omega)])
  have f349 := f332.cong (G := E342) (fun k q1 q2 => by rw [← g341, wU_far (by omega)])
  have f350 := f333.cong (G := E342) (fun k q1 q2 => by rw [← g341, wU_far (by omega)])
  have f351 := f334.cong (G := E342) (fun k q1 q2 => by rw [← g341, wU_far (by omega)])
  have f352 := f335.cong (G := E342) (fun k q1 q2 => by rw [← g341, wU_far (by omega)])
  have f353 := f336.cong (G := E342) (fun k q1 q2 => by rw [← g341, wU_far (by omega)])
  have f354 := f337.cong (G := E342) (fun k q1 q2 => by rw [← g341, wU_far (by omega)])
  have f355 := f338.cong (G := E342) (fun k q1 q2 => by rw [← g341, wU_far (by omega)])
  have f356 : isWK tc ad E342 35 0 0 0 := q343.up (fun j hj => by rw [← g341]; exact wU_own j (by omega))
  have f357 : E342 35 = .inr (5, [.ref (ad 36), .int 0, .int 0, .long 0]) := by have h := q343.up (G := E342) (fun j hj => by rw [← g341]; exact wU_own j (by omega)); exact h.1
  clear f327 f328 f329 f330 f331 f332 f333 f334 f335 f336 f337 f338 f339 g341
  have hD := hDD 38 (by decide) E342
  refine q_aast (t0 := 4) 4 X hD hP hS (by omega) (f346) rfl (by omega) (f357) rfl (rfl) (by decide) (by decide) dRW_init_52 (fun H locs hD9 hP9 hS9 => ?_)
  clear hP hS hD
  have hP : va_P D vwCl (wW 38 ad (va_up E342 2 (.inl (tc 4, 5, .inr (.inr (.inr (.inr (va_up (va_up (va_up (va_up (va_up (fun _ => none) 0 (some (ad 7))) 1 (some (ad 14))) 2 (some (ad 21))) 3 (some (ad 28))) 4 (some (ad 35)))))))))) H := hP9
  have hD : va_D (Aw (1 + 65) ad) (wW 38 ad (va_up E342 2 (.inl (tc 4, 5, .inr (.inr (.inr (.inr (va_up (va_up (va_up (va_up (va_up (fun _ => none) 0 (some (ad 7))) 1 (some (ad 14))) 2 (some (ad 21))) 3 (some (ad 28))) 4 (some (ad 35)))))))))) := hD9
  have hS := hS9
  clear hP9 hS9 hD9
  generalize g359 : va_up E342 2 (.inl (tc 4, 5, .inr (.inr (.inr (.inr (va_up (va_up (va_up (va_up (va_up (fun _ => none) 0 (some (ad 7))) 1 (some (ad 14))) 2 (some (ad 21))) 3 (some (ad 28))) 4 (some (ad 35)))))))) = E358 at hD hP
  have f360 : E358 0 = .inr (6, [.ref (ad 1), .ref (ad 2), .null, .null, .null, .null, .null, .int 0, .int 0]) := by rw [← g359, va_up_ne _ _ (by omega)]; exact f344
  have f361 : E358 1 = .inl (tc 3, 5, .inr (.inr (.inr (.inr (va_up (va_up (va_up (va_up (va_up (fun _ => none) 0 (some (ad 3))) 1 (some (ad 10))) 2 (some (ad 17))) 3 (some (ad 24))) 4 (some (ad 31))))))) := by rw [← g359, va_up_ne _ _ (by omega)]; exact f345
  have f362 : E358 2 = .inl (tc 4, 5, .inr (.inr (.inr (.inr (va_up (va_up (va_up (va_up (va_up (fun _ => none) 0 (some (ad 7))) 1 (some (ad 14))) 2 (some (ad 21))) 3 (some (ad 28))) 4 (some (ad 35))))))) := by rw [← g359]; exact va_up_self _ _ _
  have f363 := f347.cong (G := E358) (fun k q1 q2 => by rw [← g359, va_up_ne _ _ (by omega)])
  have f364 := f348.cong (G := E358) (fun k q1 q2 => by rw [← g359, va_up_ne _ _ (by omega)])
  have f365 := f349.cong (G := E358) (fun k q1 q2 => by rw [← g359, va_up_ne _ _ (by omega)])
  have f366 := f350.cong (G := E358) (fun k q1 q2 => by rw [← g359, va_up_ne _ _ (by omega)])
  have f367 := f351.cong (G := E358) (fun k q1 q2 => by rw [← g359, va_up_ne _ _ (by omega)])
  have f368 := f352.cong (G := E358) (fun k q1 q2 => by rw [← g359, va_up_ne _ _ (by omega)])
  have f369 := f353.cong (G := E358) (fun k q1 q2 => by rw [← g359, va_up_ne _ _ (by omega)])
  have f370 := f354.cong (G := E358) (fun k q1 q2 => by rw [← g359, va_up_ne _ _ (by omega)])
  have f371 := f355.cong (G := E358) (fun k q1 q2 => by rw [← g359, va_up_ne _ _ (by omega)])
  have f372 := f356.cong (G := E358) (fun k q1 q2 => by rw [← g359, va_up_ne _ _ (by omega)])
  have f373 : E358 35 = .inr (5, [.ref (ad 36), .int 0, .int 0, .long 0]) := by rw [← g359, va_up_ne _ _ (by omega)]; exact f357
  clear f344 f345 f346 f347 f348 f349 f350 f351 f352 f353 f354 f355 f356 f357 g359
  refine lv_iinc (k := 0) (v := 5) hx hb dRW_init_53 hl rfl (by decide) (by decide) rfl (fun ls hl => ?_)
  have hl : lv_has ls 2 [(1, .int 5), (0, .ref (ad 0))] := hl
  refine lv_goto (tgt := 22) hx hb dRW_init_56 rfl ?_
  refine lv_iload_n hx hb dRW_init_22 rfl (lv_at hl 0 rfl) ?_
  refine lv_iconst (v := 5) hx hb dRW_init_23 (by decide) ?_
  refine lv_icmp_ge (tgt := 59) hx hb dRW_init_24 rfl (fun h24 => ?_) (fun h24 => absurd (by decide) h24)
  refine lv_aload_n hx hb dRW_init_59 rfl (lv_at hl 1 rfl) ?_
  refine lv_iconst (v := 3) hx hb dRW_init_60 (by decide) ?_
  refine q_newQ 3 5 X w_76 w_77 rfl hP hS (fun j hj => hsq j (by omega)) ⟨38, by decide, rfl⟩ rfl (by decide) (by decide) (by decide) dRW_init_61 (fun H hP9 hS9 => ?_)
  clear hP hS hD
  have hP : va_P D vwCl (wW 39 ad (va_up E358 38 (.inl (tc 5, 3, .inr (.inr (.inr (.inr (fun _ => none)))))))) H := hP9
  have hS := hS9
  clear hP9 hS9
  generalize g375 : va_up E358 38 (.inl (tc 5, 3, .inr (.inr (.inr (.inr (fun _ => none)))))) = E374 at hP
  have f376 : E374 0 = .inr (6, [.ref (ad 1), .ref (ad 2), .null, .null, .null, .null, .null, .int 0, .int 0]) := by rw [← g375, va_up_ne _ _ (by decide)]; exact f360
  have f377 : E374 1 = .inl (tc 3, 5, .inr (.inr (.inr (.inr (va_up (va_up (va_up (va_up (va_up (fun _ => none) 0 (some (ad 3))) 1 (some (ad 10))) 2 (some (ad 17))) 3 (some (ad 24))) 4 (some (ad 31))))))) := by rw [← g375, va_up_ne _ _ (by decide)]; exact f361
  have f378 : E374 2 = .inl (tc 4, 5, .inr (.inr (.inr (.inr (va_up (va_up (va_up (va_up (va_up (fun _ => none) 0 (some (ad 7))) 1 (some (ad 14))) 2 (some (ad 21))) 3 (some (ad 28))) 4 (some (ad 35))))))) := by rw [← g375, va_up_ne _ _ (by decide)]; exact f362
  have f379 := f363.cong (G := E374) (fun k q1 q2 => by rw [← g375, va_up_ne _ _ (by omega)])
  have f380 := f364.cong (G := E374) (fun k q1 q2 => by rw [← g375, va_up_ne _ _ (by omega)])
  have f381 := f365.cong (G := E374) (fun k q1 q2 => by rw [← g375, va_up_ne _ _ (by omega)])
  have f382 := f366.cong (G := E374) (fun k q1 q2 => by rw [← g375, va_up_ne _ _ (by omega)])
  have f383 := f367.cong (G := E374) (fun k q1 q2 => by rw [← g375, va_up_ne _ _ (by omega)])
  have f384 := f368.cong (G := E374) (fun k q1 q2 => by rw [← g375, va_up_ne _ _ (by omega)])
  have f385 := f369.cong (G := E374) (fun k q1 q2 => by rw [← g375, va_up_ne _ _ (by omega)])
  have f386 := f370.cong (G := E374) (fun k q1 q2 => by rw [← g375, va_up_ne _ _ (by omega)])
  have f387 := f371.cong (G := E374) (fun k q1 q2 => by rw [← g375, va_up_ne _ _ (by omega)])
  have f388 := f372.cong (G := E374) (fun k q1 q2 => by rw [← g375, va_up_ne _ _ (by omega)])
  have f389 : E374 38 = .inl (tc 5, 3, .inr (.inr (.inr (.inr (fun _ => none))))) := by rw [← g375]; exact va_up_self _ _ _
  clear f360 f361 f362 f363 f364 f365 f366 f367 f368 f369 f370 f371 f372 g375
  have hD := hDD 39 (by decide) E374
  refine p_RW_25 X hin hD hP hS (by omega) (f376) rfl rfl (Nat.le_of_ble_eq_true rfl) dRW_init_64 (fun H locs hD9 hP9 hS9 => ?_)
  clear hP hS hD
  have hP : va_P D vwCl (wW 39 ad (va_up E374 0 (.inr (6, [.ref (ad 1), .ref (ad 2), .ref (ad 38), .null, .null, .null, .null, .int 0, .int 0])))) H := hP9
  have hD : va_D (Aw (1 + 65) ad) (wW 39 ad (va_up E374 0 (.inr (6, [.ref (ad 1), .ref (ad 2), .ref (ad 38), .null, .null, .null, .null, .int 0, .int 0])))) := hD9
  have hS := hS9
  clear hP9 hS9 hD9
  generalize g391 : va_up E374 0 (.inr (6, [.ref (ad 1), .ref (ad 2), .ref (ad 38), .null, .null, .null, .null, .int 0, .int 0])) = E390 at hD hP
  have f392 : E390 0 = .inr (6, [.ref (ad 1), .ref (ad 2), .ref (ad 38), .null, .null, .null, .null, .int 0, .int 0]) := by rw [← g391]; exact va_up_self _ _ _
  have f393 : E390 1 = .inl (tc 3, 5, .inr (.inr (.inr (.inr (va_up (va_up (va_up (va_up (va_up (fun _ => none) 0 (some (ad 3))) 1 (some (ad 10))) 2 (some (ad 17))) 3 (some (ad 24))) 4 (some (ad 31))))))) := by rw [← g391, va_up_ne _ _ (by omega)]; exact f377
  have f394 : E390 2 = .inl (tc 4, 5, .inr (.inr (.inr (.inr (va_up (va_up (va_up (va_up (va_up (fun _ => none) 0 (some (ad 7))) 1 (some (ad 14))) 2 (some (ad 21))) 3 (some (ad 28))) 4 (some (ad 35))))))) := by rw [← g391, va_up_ne _ _ (by omega)]; exact f378
  have f395 := f379.cong (G := E390) (fun k q1 q2 => by rw [← g391, va_up_ne _ _ (by omega)])
  have f396 := f380.cong (G := E390) (fun k q1 q2 => by rw [← g391, va_up_ne _ _ (by omega)])
  have f397 := f381.cong (G := E390) (fun k q1 q2 => by rw [← g391, va_up_ne _ _ (by omega)])
  have f398 := f382.cong (G := E390) (fun k q1 q2 => by rw [← g391, va_up_ne _ _ (by omega)])
  have f399 := f383.cong (G := E390) (fun k q1 q2 => by rw [← g391, va_up_ne _ _ (by omega)])
  have f400 := f384.cong (G := E390) (fun k q1 q2 => by rw [← g391, va_up_ne _ _ (by omega)])
  have f401 := f385.cong (G := E390) (fun k q1 q2 => by rw [← g391, va_up_ne _ _ (by omega)])
  have f402 := f386.cong (G := E390) (fun k q1 q2 => by rw [← g391, va_up_ne _ _ (by omega)])
  have f403 := f387.cong (G := E390) (fun k q1 q2 => by rw [← g391, va_up_ne _ _ (by omega)])
  have f404 := f388.cong (G := E390) (fun k q1 q2 => by rw [← g391, va_up_ne _ _ (by omega)])
  have f405 : E390 38 = .inl (tc 5, 3, .inr (.inr (.inr (.inr (fun _ => none))))) := by rw [← g391, va_up_ne _ _ (by omega)]; exact f389
  clear f376 f377 f378 f379 f380 f381 f382 f383 f384 f385 f386 f387 f388 f389 g391
  refine lv_iconst (v := 0) hx hb dRW_init_67 (by decide) ?_
  refine lv_istore_n hx hb dRW_init_68 rfl hl (by decide) rfl (fun ls hl => ?_)
  have hl : lv_has ls 2 [(1, .int 0), (0, .ref (ad 0))] := hl
  refine lv_iload_n hx hb dRW_init_69 rfl (lv_at hl 0 rfl) ?_
  refine lv_iconst (v := 3) hx hb dRW_init_70 (by decide) ?_
  refine lv_icmp_ge (tgt := 93) hx hb dRW_init_71 rfl (fun h71 => absurd h71 (by decide)) (fun h71 => ?_)
  refine lv_aload_n hx hb dRW_init_74 rfl (lv_at hl 1 rfl) ?_
  refine g_RW_25 X hP (by omega) (f392) rfl dRW_init_75 ?_
  refine lv_iload_n hx hb dRW_init_78 rfl (lv_at hl 0 rfl) ?_
  refine q_newO (T := T_LK) (ci := 1) (fs := [.null, .int 0, .int 0]) ty_LK X in_LK tok_LK w_76 w_78 w_5 rfl (by decide) hP hS (fun j hj => hsq j (by omega)) ⟨39, by decide, rfl⟩ (by decide) (by decide) dRW_init_79 (fun H hP9 hS9 => ?_)
  clear hP hS hD
  have hP : va_P D vwCl (wW 40 ad (va_up E390 39 (.inr (1, [.null, .int 0, .int 0])))) H := hP9
  have hS := hS9
  clear hP9 hS9
  generalize g407 : va_up E390 39 (.inr (1, [.null, .int 0, .int 0])) = E406 at hP
  have f408 : E406 0 = .inr (6, [.ref (ad 1), .ref (ad 2), .ref (ad 38), .null, .null, .null, .null, .int 0, .int 0]) := by rw [← g407, va_up_ne _ _ (by decide)]; exact f392
  have f409 : E406 1 = .inl (tc 3, 5, .inr (.inr (.inr (.inr (va_up (va_up (va_up (va_up (va_up (fun _ => none) 0 (some (ad 3))) 1 (some (ad 10))) 2 (some (ad 17))) 3 (some (ad 24))) 4 (some (ad 31))))))) := by rw [← g407, va_up_ne _ _ (by decide)]; exact f393
  have f410 : E406 2 = .inl (tc 4, 5, .inr (.inr (.inr (.inr (va_up (va_up (va_up (va_up (va_up (fun _ => none) 0 (some (ad 7))) 1 (some (ad 14))) 2 (some (ad 21))) 3 (some (ad 28))) 4 (some (ad 35))))))) := by rw [← g407, va_up_ne _ _ (by decide)]; exact f394
  have f411 := f395.cong (G := E406) (fun k q1 q2 => by rw [← g407, va_up_ne _ _ (by omega)])
  have f412 := f396.cong (G := E406) (fun k q1 q2 => by rw [← g407, va_up_ne _ _ (by omega)])
  have f413 := f397.cong (G := E406) (fun k q1 q2 => by rw [← g407, va_up_ne _ _ (by omega)])
  have f414 := f398.cong (G := E406) (fun k q1 q2 => by rw [← g407, va_up_ne _ _ (by omega)])
  have f415 := f399.cong (G := E406) (fun k q1 q2 => by rw [← g407, va_up_ne _ _ (by omega)])
  have f416 := f400.cong (G := E406) (fun k q1 q2 => by rw [← g407, va_up_ne _ _ (by omega)])
  have f417 := f401.cong (G := E406) (fun k q1 q2 => by rw [← g407, va_up_ne _ _ (by omega)])
  have f418 := f402.cong (G := E406) (fun k q1 q2 => by rw [← g407, va_up_ne _ _ (by omega)])
  have f419 := f403.cong (G := E406) (fun k q1 q2 => by rw [← g407, va_up_ne _ _ (by omega)])
  have f420 := f404.cong (G := E406) (fun k q1 q2 => by rw [← g407, va_up_ne _ _ (by omega)])
  have f421 : E406 38 = .inl (tc 5, 3, .inr (.inr (.inr (.inr (fun _ => none))))) := by rw [← g407, va_up_ne _ _ (by decide)]; exact f405
  have f422 : E406 39 = .inr (1, [.null, .int 0, .int 0]) := by rw [← g407]; exact va_up_self _ _ _
  clear f392 f393 f394 f395 f396 f397 f398 f399 f400 f401 f402 f403 f404 f405 g407
  have hD := hDD 40 (by decide) E406
  refine lv_dup hx hb dRW_init_82 rfl ?_
  refine x_n (b := 39) (fun hz => x_runIN (b := ad 39) (As := []) (rest := [.ref (ad 39), .int 0, .ref (ad 38)]) X (c_LK_init l D tc (fun k => ad (39 + k)) (fun k => E406 (39 + k)) (f422)) rfl rfl (by decide) (by decide) w_81 w_5 w_79 w_80 rfl ry_LK_init (ctN_pre (b := 39) X rfl hP (fun j hj => hsq j (by omega)) hz) ctN_blind hl.1 (Nat.le_of_ble_eq_true rfl) dRW_init_83 ⟨by decide, by decide⟩) rfl hP hS (fun j hj => hsq j (by omega)) (fun n hn E' => hDD n (by omega) E') (fun E423 H locs q426 hP9 hS9 => ?_)
  clear hP hS hD
  have hP : va_P D vwCl (wW 42 ad (wU (1 + 2) (fun k => 39 + k) E406 E423)) H := hP9
  have hS := hS9
  clear hP9 hS9
  generalize g424 : wU (1 + 2) (fun k => 39 + k) E406 E423 = E425 at hP
  have f427 : E425 0 = .inr (6, [.ref (ad 1), .ref (ad 2), .ref (ad 38), .null, .null, .null, .null, .int 0, .int 0]) := by rw [← g424, wU_far (by omega)]; exact f408
  have f428 : E425 1 = .inl (tc 3, 5, .inr (.inr (.inr (.inr (va_up (va_up (va_up (va_up (va_up (fun _ => none) 0 (some (ad 3))) 1 (some (ad 10))) 2 (some (ad 17))) 3 (some (ad 24))) 4 (some (ad 31))))))) := by rw [← g424, wU_far (by omega)]; exact f409
  have f429 : E425 2 = .inl (tc 4, 5, .inr (.inr (.inr (.inr (va_up (va_up (va_up (va_up (va_up (fun _ => none) 0 (some (ad 7))) 1 (some (ad 14))) 2 (some (ad 21))) 3 (some (ad 28))) 4 (some (ad 35))))))) := by rw [← g424, wU_far (by omega)]; exact f410
  have f430 := f411.cong (G := E425) (fun k q1 q2 => by rw [← g424, wU_far (by omega)])
  have f431 := f412.cong (G := E425) (fun k q1 q2 => by rw [← g424, wU_far (by omega)])
  have f432 := f413.cong (G := E425) (fun k q1 q2 => by rw [← g424, wU_far (by omega)])
  have f433 := f414.cong (G := E425) (fun k q1 q2 => by rw [← g424, wU_far (by omega)])
  have f434 := f415.cong (G := E425) (fun k q1 q2 => by rw [← g424, wU_far (by omega)])
  have f435 := f416.cong (G := E425) (fun k q1 q2 => by rw [← g424, wU_far (by omega)])
  have f436 := f417.cong (G := E425) (fun k q1 q2 => by rw [← g424, wU_far (by omega)])
  have f437 := f418.cong (G := E425) (fun k q1 q2 => by rw [← g424, wU_far (by omega)])
  have f438 := f419.cong (G := E425) (fun k q1 q2 => by rw [← g424, wU_far (by omega)])
  have f439 := f420.cong (G := E425) (fun k q1 q2 => by rw [← g424, wU_far (by omega)])
  have f440 : E425 38 = .inl (tc 5, 3, .inr (.inr (.inr (.inr (fun _ => none))))) := by rw [← g424, wU_far (by omega)]; exact f421
  have f441 : isLK tc ad E425 39 (-1) 0 := q426.up (fun j hj => by rw [← g424]; exact wU_own j (by omega))
  have f442 : E425 39 = .inr (1, [.ref (ad 40), .int (-1), .int 0]) := by have h := q426.up (G := E425) (fun j hj => by rw [← g424]; exact wU_own j (by omega)); exact h.1
  clear f408 f409 f410 f411 f412 f413 f414 f415 f416 f417 f418 f419 f420 f421 f422 g424
  have hD := hDD 42 (by decide) E425
  refine q_aast (t0 := 5) 0 X hD hP hS (by omega) (f440) rfl (by omega) (f442) rfl (rfl) (by decide) (by decide) dRW_init_86 (fun H locs hD9 hP9 hS9 => ?_)
  clear hP hS hD
  have hP : va_P D vwCl (wW 42 ad (va_up E425 38 (.inl (tc 5, 3, .inr (.inr (.inr (.inr (va_up (fun _ => none) 0 (some (ad 39)))))))))) H := hP9
  have hD : va_D (Aw (1 + 65) ad) (wW 42 ad (va_up E425 38 (.inl (tc 5, 3, .inr (.inr (.inr (.inr (va_up (fun _ => none) 0 (some (ad 39)))))))))) := hD9
  have hS := hS9
  clear hP9 hS9 hD9
  generalize g444 : va_up E425 38 (.inl (tc 5, 3, .inr (.inr (.inr (.inr (va_up (fun _ => none) 0 (some (ad 39)))))))) = E443 at hD hP
  have f445 : E443 0 = .inr (6, [.ref (ad 1), .ref (ad 2), .ref (ad 38), .null, .null, .null, .null, .int 0, .int 0]) := by rw [← g444, va_up_ne _ _ (by omega)]; exact f427
  have f446 : E443 1 = .inl (tc 3, 5, .inr (.inr (.inr (.inr (va_up (va_up (va_up (va_up (va_up (fun _ => none) 0 (some (ad 3))) 1 (some (ad 10))) 2 (some (ad 17))) 3 (some (ad 24))) 4 (some (ad 31))))))) := by rw [← g444, va_up_ne _ _ (by omega)]; exact f428
  have f447 : E443 2 = .inl (tc 4, 5, .inr (.inr (.inr (.inr (va_up (va_up (va_up (va_up (va_up (fun _ => none) 0 (some (ad 7))) 1 (some (ad 14))) 2 (some (ad 21))) 3 (some (ad 28))) 4 (some (ad 35))))))) := by rw [← g444, va_up_ne _ _ (by omega)]; exact f429
  have f448 := f430.cong (G := E443) (fun k q1 q2 => by rw [← g444, va_up_ne _ _ (by omega)])
  have f449 := f431.cong (G := E443) (fun k q1 q2 => by rw [← g444, va_up_ne _ _ (by omega)])
  have f450 := f432.cong (G := E443) (fun k q1 q2 => by rw [← g444, va_up_ne _ _ (by omega)])
  have f451 := f433.cong (G := E443) (fun k q1 q2 => by rw [← g444, va_up_ne _ _ (by omega)])
  have f452 := f434.cong (G := E443) (fun k q1 q2 => by rw [← g444, va_up_ne _ _ (by omega)])
  have f453 := f435.cong (G := E443) (fun k q1 q2 => by rw [← g444, va_up_ne _ _ (by omega)])
  have f454 := f436.cong (G := E443) (fun k q1 q2 => by rw [← g444, va_up_ne _ _ (by omega)])
  have f455 := f437.cong (G := E443) (fun k q1 q2 => by rw [← g444, va_up_ne _ _ (by omega)])
  have f456 := f438.cong (G := E443) (fun k q1 q2 => by rw [← g444, va_up_ne _ _ (by omega)])
  have f457 := f439.cong (G := E443) (fun k q1 q2 => by rw [← g444, va_up_ne _ _ (by omega)])
  have f458 : E443 38 = .inl (tc 5, 3, .inr (.inr (.inr (.inr (va_up (fun _ => none) 0 (some (ad 39))))))) := by rw [← g444]; exact va_up_self _ _ _
  have f459 := f441.cong (G := E443) (fun k q1 q2 => by rw [← g444, va_up_ne _ _ (by omega)])
  have f460 : E443 39 = .inr (1, [.ref (ad 40), .int (-1), .int 0]) := by rw [← g444, va_up_ne _ _ (by omega)]; exact f442
  clear f427 f428 f429 f430 f431 f432 f433 f434 f435 f436 f437 f438 f439 f440 f441 f442 g444
  refine lv_iinc (k := 0) (v := 1) hx hb dRW_init_87 hl rfl (by decide) (by decide) rfl (fun ls hl => ?_)
  have hl : lv_has ls 2 [(1, .int 1), (0, .ref (ad 0))] := hl
  refine lv_goto (tgt := 69) hx hb dRW_init_90 rfl ?_
  refine lv_iload_n hx hb dRW_init_69 rfl (lv_at hl 0 rfl) ?_
  refine lv_iconst (v := 3) hx hb dRW_init_70 (by decide) ?_
  refine lv_icmp_ge (tgt := 93) hx hb dRW_init_71 rfl (fun h71 => absurd h71 (by decide)) (fun h71 => ?_)
  refine lv_aload_n hx hb dRW_init_74 rfl (lv_at hl 1 rfl) ?_
  refine g_RW_25 X hP (by omega) (f445) rfl dRW_init_75 ?_
  refine lv_iload_n hx hb dRW_init_78 rfl (lv_at hl 0 rfl) ?_
  refine q_newO (T := T_LK) (ci := 1) (fs := [.null, .int 0, .int 0]) ty_LK X in_LK tok_LK w_76 w_78 w_5 rfl (by decide) hP hS (fun j hj => hsq j (by omega)) ⟨42, by decide, rfl⟩ (by decide) (by decide) dRW_init_79 (fun H hP9 hS9 => ?_)
  clear hP hS hD
  have hP : va_P D vwCl (wW 43 ad (va_up E443 42 (.inr (1, [.null, .int 0, .int 0])))) H := hP9
  have hS := hS9
  clear hP9 hS9
  generalize g462 : va_up E443 42 (.inr (1, [.null, .int 0, .int 0])) = E461 at hP
  have f463 : E461 0 = .inr (6, [.ref (ad 1), .ref (ad 2), .ref (ad 38), .null, .null, .null, .null, .int 0, .int 0]) := by rw [← g462, va_up_ne _ _ (by decide)]; exact f445
  have f464 : E461 1 = .inl (tc 3, 5, .inr (.inr (.inr (.inr (va_up (va_up (va_up (va_up (va_up (fun _ => none) 0 (some (ad 3))) 1 (some (ad 10))) 2 (some (ad 17))) 3 (some (ad 24))) 4 (some (ad 31))))))) := by rw [← g462, va_up_ne _ _ (by decide)]; exact f446
  have f465 : E461 2 = .inl (tc 4, 5, .inr (.inr (.inr (.inr (va_up (va_up (va_up (va_up (va_up (fun _ => none) 0 (some (ad 7))) 1 (some (ad 14))) 2 (some (ad 21))) 3 (some (ad 28))) 4 (some (ad 35))))))) := by rw [← g462, va_up_ne _ _ (by decide)]; exact f447
  have f466 := f448.cong (G := E461) (fun k q1 q2 => by rw [← g462, va_up_ne _ _ (by omega)])
  have f467 := f449.cong (G := E461) (fun k q1 q2 => by rw [← g462, va_up_ne _ _ (by omega)])
  have f468 := f450.cong (G := E461) (fun k q1 q2 => by rw [← g462, va_up_ne _ _ (by omega)])
  have f469 := f451.cong (G := E461) (fun k q1 q2 => by rw [← g462, va_up_ne _ _ (by omega)])
  have f470 := f452.cong (G := E461) (fun k q1 q2 => by rw [← g462, va_up_ne _ _ (by omega)])
  have f471 := f453.cong (G := E461) (fun k q1 q2 => by rw [← g462, va_up_ne _ _ (by omega)])
  have f472 := f454.cong (G := E461) (fun k q1 q2 => by rw [← g462, va_up_ne _ _ (by omega)])
  have f473 := f455.cong (G := E461) (fun k q1 q2 => by rw [← g462, va_up_ne _ _ (by omega)])
  have f474 := f456.cong (G := E461) (fun k q1 q2 => by rw [← g462, va_up_ne _ _ (by omega)])
  have f475 := f457.cong (G := E461) (fun k q1 q2 => by rw [← g462, va_up_ne _ _ (by omega)])
  have f476 : E461 38 = .inl (tc 5, 3, .inr (.inr (.inr (.inr (va_up (fun _ => none) 0 (some (ad 39))))))) := by rw [← g462, va_up_ne _ _ (by decide)]; exact f458
  have f477 := f459.cong (G := E461) (fun k q1 q2 => by rw [← g462, va_up_ne _ _ (by omega)])
  have f478 : E461 42 = .inr (1, [.null, .int 0, .int 0]) := by rw [← g462]; exact va_up_self _ _ _
  clear f445 f446 f447 f448 f449 f450 f451 f452 f453 f454 f455 f456 f457 f458 f459 g462
  have hD := hDD 43 (by decide) E461
  refine lv_dup hx hb dRW_init_82 rfl ?_
  refine x_n (b := 42) (fun hz => x_runIN (b := ad 42) (As := []) (rest := [.ref (ad 42), .int 1, .ref (ad 38)]) X (c_LK_init l D tc (fun k => ad (42 + k)) (fun k => E461 (42 + k)) (f478)) rfl rfl (by decide) (by decide) w_81 w_5 w_79 w_80 rfl ry_LK_init (ctN_pre (b := 42) X rfl hP (fun j hj => hsq j (by omega)) hz) ctN_blind hl.1 (Nat.le_of_ble_eq_true rfl) dRW_init_83 ⟨by decide, by decide⟩) rfl hP hS (fun j hj => hsq j (by omega)) (fun n hn E' => hDD n (by omega) E') (fun E479 H locs q482 hP9 hS9 => ?_)
  clear hP hS hD
  have hP : va_P D vwCl (wW 45 ad (wU (1 + 2) (fun k => 42 + k) E461 E479)) H := hP9
  have hS := hS9
  clear hP9 hS9
  generalize g480 : wU (1 + 2) (fun k => 42 + k) E461 E479 = E481 at hP
  have f483 : E481 0 = .inr (6, [.ref (ad 1), .ref (ad 2), .ref (ad 38), .null, .null, .null, .null, .int 0, .int 0]) := by rw [← g480, wU_far (by omega)]; exact f463
  have f484 : E481 1 = .inl (tc 3, 5, .inr (.inr (.inr (.inr (va_up (va_up (va_up (va_up (va_up (fun _ => none) 0 (some (ad 3))) 1 (some (ad 10))) 2 (some (ad 17))) 3 (some (ad 24))) 4 (some (ad 31))))))) := by rw [← g480, wU_far (by omega)]; exact f464
  have f485 : E481 2 = .inl (tc 4, 5, .inr (.inr (.inr (.inr (va_up (va_up (va_up (va_up (va_up (fun _ => none) 0 (some (ad 7))) 1 (some (ad 14))) 2 (some (ad 21))) 3 (some (ad 28))) 4 (some (ad 35))))))) := by rw [← g480, wU_far (by omega)]; exact f465
  have f486 := f466.cong (G := E481) (fun k q1 q2 => by rw [← g480, wU_far (by omega)])
  have f487 := f467.cong (G := E481) (fun k q1 q2 => by rw [← g480, wU_far (by omega)])
  have f488 := f468.cong (G := E481) (fun k q1 q2 => by rw [← g480, wU_far (by omega)])
  have f489 := f469.cong (G := E481) (fun k q1 q2 => by rw [← g480, wU_far (by omega)])
  have f490 := f470.cong (G := E481) (fun k q1 q2 => by rw [← g480, wU_far (by omega)])
  have f491 := f471.cong (G := E481) (fun k q1 q2 => by rw [← g480, wU_far (by omega)])
  have f492 := f472.cong (G := E481) (fun k q1 q2 => by rw [← g480, wU_far (by omega)])
  have f493 := f473.cong (G := E481) (fun k q1 q2 => by rw [← g480, wU_far (by omega)])
  have f494 := f474.cong (G := E481) (fun k q1 q2 => by rw [← g480, wU_far (by omega)])
  have f495 := f475.cong (G := E481) (fun k q1 q2 => by rw [← g480, wU_far (by omega)])
  have f496 : E481 38 = .inl (tc 5, 3, .inr (.inr (.inr (.inr (va_up (fun _ => none) 0 (some (ad 39))))))) := by rw [← g480, wU_far (by omega)]; exact f476
  have f497 := f477.cong (G := E481) (fun k q1 q2 => by rw [← g480, wU_far (by omega)])
  have f498 : isLK tc ad E481 42 (-1) 0 := q482.up (fun j hj => by rw [← g480]; exact wU_own j (by omega))
  have f499 : E481 42 = .inr (1, [.ref (ad 43), .int (-1), .int 0]) := by have h := q482.up (G := E481) (fun j hj => by rw [← g480]; exact wU_own j (by omega)); exact h.1
  clear f463 f464 f465 f466 f467 f468 f469 f470 f471 f472 f473 f474 f475 f476 f477 f478 g480
  have hD := hDD 45 (by decide) E481
  refine q_aast (t0 := 5) 1 X hD hP hS (by omega) (f496) rfl (by omega) (f499) rfl (rfl) (by decide) (by decide) dRW_init_86 (fun H locs hD9 hP9 hS9 => ?_)
  clear hP hS hD
  have hP : va_P D vwCl (wW 45 ad (va_up E481 38 (.inl (tc 5, 3, .inr (.inr (.inr (.inr (va_up (va_up (fun _ => none) 0 (some (ad 39))) 1 (some (ad 42)))))))))) H := hP9
  have hD : va_D (Aw (1 + 65) ad) (wW 45 ad (va_up E481 38 (.inl (tc 5, 3, .inr (.inr (.inr (.inr (va_up (va_up (fun _ => none) 0 (some (ad 39))) 1 (some (ad 42)))))))))) := hD9
  have hS := hS9
  clear hP9 hS9 hD9
  generalize g501 : va_up E481 38 (.inl (tc 5, 3, .inr (.inr (.inr (.inr (va_up (va_up (fun _ => none) 0 (some (ad 39))) 1 (some (ad 42)))))))) = E500 at hD hP
  have f502 : E500 0 = .inr (6, [.ref (ad 1), .ref (ad 2), .ref (ad 38), .null, .null, .null, .null, .int 0, .int 0]) := by rw [← g501, va_up_ne _ _ (by omega)]; exact f483
  have f503 : E500 1 = .inl (tc 3, 5, .inr (.inr (.inr (.inr (va_up (va_up (va_up (va_up (va_up (fun _ => none) 0 (some (ad 3))) 1 (some (ad 10))) 2 (some (ad 17))) 3 (some (ad 24))) 4 (some (ad 31))))))) := by rw [← g501, va_up_ne _ _ (by omega)]; exact f484
  have f504 : E500 2 = .inl (tc 4, 5, .inr (.inr (.inr (.inr (va_up (va_up (va_up (va_up (va_up (fun _ => none) 0 (some (ad 7))) 1 (some (ad 14))) 2 (some (ad 21))) 3 (some (ad 28))) 4 (some (ad 35))))))) := by rw [← g501, va_up_ne _ _ (by omega)]; exact f485
  have f505 := f486.cong (G := E500) (fun k q1 q2 => by rw [← g501, va_up_ne _ _ (by omega)])
  have f506 := f487.cong (G := E500) (fun k q1 q2 => by rw [← g501, va_up_ne _ _ (by omega)])
  have f507 := f488.cong (G := E500) (fun k q1 q2 => by rw [← g501, va_up_ne _ _ (by omega)])
  have f508 := f489.cong (G := E500) (fun k q1 q2 => by rw [← g501, va_up_ne _ _ (by omega)])
  have f509 := f490.cong (G := E500) (fun k q1 q2 => by rw [← g501, va_up_ne _ _ (by omega)])
  have f510 := f491.cong (G := E500) (fun k q1 q2 => by rw [← g501, va_up_ne _ _ (by omega)])
  have f511 := f492.cong (G := E500) (fun k q1 q2 => by rw [← g501, va_up_ne _ _ (by omega)])
  have f512 := f493.cong (G := E500) (fun k q1 q2 => by rw [← g501, va_up_ne _ _ (by omega)])
  have f513 := f494.cong (G := E500) (fun k q1 q2 => by rw [← g501, va_up_ne _ _ (by omega)])
  have f514 := f495.cong (G := E500) (fun k q1 q2 => by rw [← g501, va_up_ne _ _ (by omega)])
  have f515 : E500 38 = .inl (tc 5, 3, .inr (.inr (.inr (.inr (va_up (va_up (fun _ => none) 0 (some (ad 39))) 1 (some (ad 42))))))) := by rw [← g501]; exact va_up_self _ _ _
  have f516 := f497.cong (G := E500) (fun k q1 q2 => by rw [← g501, va_up_ne _ _ (by omega)])
  have f517 := f498.cong (G := E500) (fun k q1 q2 => by rw [← g501, va_up_ne _ _ (by omega)])
  have f518 : E500 42 = .inr (1, [.ref (ad 43), .int (-1), .int 0]) := by rw [← g501, va_up_ne _ _ (by omega)]; exact f499
  clear f483 f484 f485 f486 f487 f488 f489 f490 f491 f492 f493 f494 f495 f496 f497 f498 f499 g501
  refine lv_iinc (k := 0) (v := 2) hx hb dRW_init_87 hl rfl (by decide) (by decide) rfl (fun ls hl => ?_)
  have hl : lv_has ls 2 [(1, .int 2), (0, .ref (ad 0))] := hl
  refine lv_goto (tgt := 69) hx hb dRW_init_90 rfl ?_
  refine lv_iload_n hx hb dRW_init_69 rfl (lv_at hl 0 rfl) ?_
  refine lv_iconst (v := 3) hx hb dRW_init_70 (by decide) ?_
  refine lv_icmp_ge (tgt := 93) hx hb dRW_init_71 rfl (fun h71 => absurd h71 (by decide)) (fun h71 => ?_)
  refine lv_aload_n hx hb dRW_init_74 rfl (lv_at hl 1 rfl) ?_
  refine g_RW_25 X hP (by omega) (f502) rfl dRW_init_75 ?_
  refine lv_iload_n hx hb dRW_init_78 rfl (lv_at hl 0 rfl) ?_
  refine q_newO (T := T_LK) (ci := 1) (fs := [.null, .int 0, .int 0]) ty_LK X in_LK tok_LK w_76 w_78 w_5 rfl (by decide) hP hS (fun j hj => hsq j (by omega)) ⟨45, by decide, rfl⟩ (by decide) (by decide) dRW_init_79 (fun H hP9 hS9 => ?_)
  clear hP hS hD
  have hP : va_P D vwCl (wW 46 ad (va_up E500 45 (.inr (1, [.null, .int 0, .int 0])))) H := hP9
  have hS := hS9
  clear hP9 hS9
  generalize g520 : va_up E500 45 (.inr (1, [.null, .int 0, .int 0])) = E519 at hP
  have f521 : E519 0 = .inr (6, [.ref (ad 1), .ref (ad 2), .ref (ad 38), .null, .null, .null, .null, .int 0, .int 0]) := by rw [← g520, va_up_ne _ _ (by decide)]; exact f502
  have f522 : E519 1 = .inl (tc 3, 5, .inr (.inr (.inr (.inr (va_up (va_up (va_up (va_up (va_up (fun _ => none) 0 (some (ad 3))) 1 (some (ad 10))) 2 (some (ad 17))) 3 (some (ad 24))) 4 (some (ad 31))))))) := by rw [← g520, va_up_ne _ _ (by decide)]; exact f503
  have f523 : E519 2 = .inl (tc 4, 5, .inr (.inr (.inr (.inr (va_up (va_up (va_up (va_up (va_up (fun _ => none) 0 (some (ad 7))) 1 (some (ad 14))) 2 (some (ad 21))) 3 (some (ad 28))) 4 (some (ad 35))))))) := by rw [← g520, va_up_ne _ _ (by decide)]; exact f504
  have f524 := f505.cong (G := E519) (fun k q1 q2 => by rw [← g520, va_up_ne _ _ (by omega)])
  have f525 := f506.cong (G := E519) (fun k q1 q2 => by rw [← g520, va_up_ne _ _ (by omega)])
  have f526 := f507.cong (G := E519) (fun k q1 q2 => by rw [← g520, va_up_ne _ _ (by omega)])
  have f527 := f508.cong (G := E519) (fun k q1 q2 => by rw [← g520, va_up_ne _ _ (by omega)])
  have f528 := f509.cong (G := E519) (fun k q1 q2 => by rw [← g520, va_up_ne _ _ (by omega)])
  have f529 := f510.cong (G := E519) (fun k q1 q2 => by rw [← g520, va_up_ne _ _ (by omega)])
  have f530 := f511.cong (G := E519) (fun k q1 q2 => by rw [← g520, va_up_ne _ _ (by omega)])
  have f531 := f512.cong (G := E519) (fun k q1 q2 => by rw [← g520, va_up_ne _ _ (by omega)])
  have f532 := f513.cong (G := E519) (fun k q1 q2 => by rw [← g520, va_up_ne _ _ (by omega)])
  have f533 := f514.cong (G := E519) (fun k q1 q2 => by rw [← g520, va_up_ne _ _ (by omega)])
  have f534 : E519 38 = .inl (tc 5, 3, .inr (.inr (.inr (.inr (va_up (va_up (fun _ => none) 0 (some (ad 39))) 1 (some (ad 42))))))) := by rw [← g520, va_up_ne _ _ (by decide)]; exact f515
  have f535 := f516.cong (G := E519) (fun k q1 q2 => by rw [← g520, va_up_ne _ _ (by omega)])
  have f536 := f517.cong (G := E519) (fun k q1 q2 => by rw [← g520, va_up_ne _ _ (by omega)])
  have f537 : E519 45 = .inr (1, [.null, .int 0, .int 0]) := by rw [← g520]; exact va_up_self _ _ _
  clear f502 f503 f504 f505 f506 f507 f508 f509 f510 f511 f512 f513 f514 f515 f516 f517 g520
  have hD := hDD 46 (by decide) E519
  refine lv_dup hx hb dRW_init_82 rfl ?_
  refine x_n (b := 45) (fun hz => x_runIN (b := ad 45) (As := []) (rest := [.ref (ad 45), .int 2, .ref (ad 38)]) X (c_LK_init l D tc (fun k => ad (45 + k)) (fun k => E519 (45 + k)) (f537)) rfl rfl (by decide) (by decide) w_81 w_5 w_79 w_80 rfl ry_LK_init (ctN_pre (b := 45) X rfl hP (fun j hj => hsq j (by omega)) hz) ctN_blind hl.1 (Nat.le_of_ble_eq_true rfl) dRW_init_83 ⟨by decide, by decide⟩) rfl hP hS (fun j hj => hsq j (by omega)) (fun n hn E' => hDD n (by omega) E') (fun E538 H locs q541 hP9 hS9 => ?_)
  clear hP hS hD
  have hP : va_P D vwCl (wW 48 ad (wU (1 + 2) (fun k => 45 + k) E519 E538)) H := hP9
  have hS := hS9
  clear hP9 hS9
  generalize g539 : wU (1 + 2) (fun k => 45 + k) E519 E538 = E540 at hP
  have f542 : E540 0 = .inr (6, [.ref (ad 1), .ref (ad 2), .ref (ad 38), .null, .null, .null, .null, .int 0, .int 0]) := by rw [← g539, wU_far (by omega)]; exact f521
  have f543 : E540 1 = .inl (tc 3, 5, .inr (.inr (.inr (.inr (va_up (va_up (va_up (va_up (va_up (fun _ => none) 0 (some (ad 3))) 1 (some (ad 10))) 2 (some (ad 17))) 3 (some (ad 24))) 4 (some (ad 31))))))) := by rw [← g539, wU_far (by omega)]; exact f522
  have f544 : E540 2 = .inl (tc 4, 5, .inr (.inr (.inr (.inr (va_up (va_up (va_up (va_up (va_up (fun _ => none) 0 (some (ad 7))) 1 (some (ad 14))) 2 (some (ad 21))) 3 (some (ad 28))) 4 (some (ad 35))))))) := by rw [← g539, wU_far (by omega)]; exact f523
  have f545 := f524.cong (G := E540) (fun k q1 q2 => by rw [← g539, wU_far (by omega)])
  have f546 := f525.cong (G := E540) (fun k q1 q2 => by rw [← g539, wU_far (by omega)])
  have f547 := f526.cong (G := E540) (fun k q1 q2 => by rw [← g539, wU_far (by omega)])
  have f548 := f527.cong (G := E540) (fun k q1 q2 => by rw [← g539, wU_far (by omega)])
  have f549 := f528.cong (G := E540) (fun k q1 q2 => by rw [← g539, wU_far (by omega)])
  have f550 := f529.cong (G := E540) (fun k q1 q2 => by rw [← g539, wU_far (by omega)])
  have f551 := f530.cong (G := E540) (fun k q1 q2 => by rw [← g539, wU_far (by omega)])
  have f552 := f531.cong (G := E540) (fun k q1 q2 => by rw [← g539, wU_far (by omega)])
  have f553 := f532.cong (G := E540) (fun k q1 q2 => by rw [← g539, wU_far (by omega)])
  have f554 := f533.cong (G := E540) (fun k q1 q2 => by rw [← g539, wU_far (by omega)])
  have f555 : E540 38 = .inl (tc 5, 3, .inr (.inr (.inr (.inr (va_up (va_up (fun _ => none) 0 (some (ad 39))) 1 (some (ad 42))))))) := by rw [← g539, wU_far (by omega)]; exact f534
  have f556 := f535.cong (G := E540) (fun k q1 q2 => by rw [← g539, wU_far (by omega)])
  have f557 := f536.cong (G := E540) (fun k q1 q2 => by rw [← g539, wU_far (by omega)])
  have f558 : isLK tc ad E540 45 (-1) 0 := q541.up (fun j hj => by rw [← g539]; exact wU_own j (by omega))
  have f559 : E540 45 = .inr (1, [.ref (ad 46), .int (-1), .int 0]) := by have h := q541.up (G := E540) (fun j hj => by rw [← g539]; exact wU_own j (by omega)); exact h.1
  clear f521 f522 f523 f524 f525 f526 f527 f528 f529 f530 f531 f532 f533 f534 f535 f536 f537 g539
  have hD := hDD 48 (by decide) E540
  refine q_aast (t0 := 5) 2 X hD hP hS (by omega) (f555) rfl (by omega) (f559) rfl (rfl) (by decide) (by decide) dRW_init_86 (fun H locs hD9 hP9 hS9 => ?_)
  clear hP hS hD
  have hP : va_P D vwCl (wW 48 ad (va_up E540 38 (.inl (tc 5, 3, .inr (.inr (.inr (.inr (va_up (va_up (va_up (fun _ => none) 0 (some (ad 39))) 1 (some (ad 42))) 2 (some (ad 45)))))))))) H := hP9
  have hD : va_D (Aw (1 + 65) ad) (wW 48 ad (va_up E540 38 (.inl (tc 5, 3, .inr (.inr (.inr (.inr (va_up (va_up (va_up (fun _ => none) 0 (some (ad 39))) 1 (some (ad 42))) 2 (some (ad 45)))))))))) := hD9
  have hS := hS9
  clear hP9 hS9 hD9
  generalize g561 : va_up E540 38 (.inl (tc 5, 3, .inr (.inr (.inr (.inr (va_up (va_up (va_up (fun _ => none) 0 (some (ad 39))) 1 (some (ad 42))) 2 (some (ad 45)))))))) = E560 at hD hP
  have f562 : E560 0 = .inr (6, [.ref (ad 1), .ref (ad 2), .ref (ad 38), .null, .null, .null, .null, .int 0, .int 0]) := by rw [← g561, va_up_ne _ _ (by omega)]; exact f542
  have f563 : E560 1 = .inl (tc 3, 5, .inr (.inr (.inr (.inr (va_up (va_up (va_up (va_up (va_up (fun _ => none) 0 (some (ad 3))) 1 (some (ad 10))) 2 (some (ad 17))) 3 (some (ad 24))) 4 (some (ad 31))))))) := by rw [← g561, va_up_ne _ _ (by omega)]; exact f543
  have f564 : E560 2 = .inl (tc 4, 5, .inr (.inr (.inr (.inr (va_up (va_up (va_up (va_up (va_up (fun _ => none) 0 (some (ad 7))) 1 (some (ad 14))) 2 (some (ad 21))) 3 (some (ad 28))) 4 (some (ad 35))))))) := by rw [← g561, va_up_ne _ _ (by omega)]; exact f544
  have f565 := f545.cong (G := E560) (fun k q1 q2 => by rw [← g561, va_up_ne _ _ (by omega)])
  have f566 := f546.cong (G := E560) (fun k q1 q2 => by rw [← g561, va_up_ne _ _ (by omega)])
  have f567 := f547.cong (G := E560) (fun k q1 q2 => by rw [← g561, va_up_ne _ _ (by omega)])
  have f568 := f548.cong (G := E560) (fun k q1 q2 => by rw [← g561, va_up_ne _ _ (by omega)])
  have f569 := f549.cong (G := E560) (fun k q1 q2 => by rw [← g561, va_up_ne _ _ (by omega)])
  have f570 := f550.cong (G := E560) (fun k q1 q2 => by rw [← g561, va_up_ne _ _ (by omega)])
  have f571 := f551.cong (G := E560) (fun k q1 q2 => by rw [← g561, va_up_ne _ _ (by omega)])
  have f572 := f552.cong (G := E560) (fun k q1 q2 => by rw [← g561, va_up_ne _ _ (by omega)])
  have f573 := f553.cong (G := E560) (fun k q1 q2 => by rw [← g561, va_up_ne _ _ (by omega)])
  have f574 := f554.cong (G := E560) (fun k q1 q2 => by rw [← g561, va_up_ne _ _ (by omega)])
  have f575 : E560 38 = .inl (tc 5, 3, .inr (.inr (.inr (.inr (va_up (va_up (va_up (fun _ => none) 0 (some (ad 39))) 1 (some (ad 42))) 2 (some (ad 45))))))) := by rw [← g561]; exact va_up_self _ _ _
  have f576 := f556.cong (G := E560) (fun k q1 q2 => by rw [← g561, va_up_ne _ _ (by omega)])
  have f577 := f557.cong (G := E560) (fun k q1 q2 => by rw [← g561, va_up_ne _ _ (by omega)])
  have f578 := f558.cong (G := E560) (fun k q1 q2 => by rw [← g561, va_up_ne _ _ (by omega)])
  have f579 : E560 45 = .inr (1, [.ref (ad 46), .int (-1), .int 0]) := by rw [← g561, va_up_ne _ _ (by omega)]; exact f559
  clear f542 f543 f544 f545 f546 f547 f548 f549 f550 f551 f552 f553 f554 f555 f556 f557 f558 f559 g561
  refine lv_iinc (k := 0) (v := 3) hx hb dRW_init_87 hl rfl (by decide) (by decide) rfl (fun ls hl => ?_)
  have hl : lv_has ls 2 [(1, .int 3), (0, .ref (ad 0))] := hl
  refine lv_goto (tgt := 69) hx hb dRW_init_90 rfl ?_
  refine lv_iload_n hx hb dRW_init_69 rfl (lv_at hl 0 rfl) ?_
  refine lv_iconst (v := 3) hx hb dRW_init_70 (by decide) ?_
  refine lv_icmp_ge (tgt := 93) hx hb dRW_init_71 rfl (fun h71 => ?_) (fun h71 => absurd (by decide) h71)
  refine lv_aload_n hx hb dRW_init_93 rfl (lv_at hl 1 rfl) ?_
  refine lv_iconst (v := 2) hx hb dRW_init_94 (by decide) ?_
  refine q_newQ 2 6 X w_93 w_94 rfl hP hS (fun j hj => hsq j (by omega)) ⟨48, by decide, rfl⟩ rfl (by decide) (by decide) (by decide) dRW_init_95 (fun H hP9 hS9 => ?_)
  clear hP hS hD
  have hP : va_P D vwCl (wW 49 ad (va_up E560 48 (.inl (tc 6, 2, .inr (.inr (.inr (.inr (fun _ => none)))))))) H := hP9
  have hS := hS9
  clear hP9 hS9
  generalize g581 : va_up E560 48 (.inl (tc 6, 2, .inr (.inr (.inr (.inr (fun _ => none)))))) = E580 at hP
  have f582 : E580 0 = .inr (6, [.ref (ad 1), .ref (ad 2), .ref (ad 38), .null, .null, .null, .null, .int 0, .int 0]) := by rw [← g581, va_up_ne _ _ (by decide)]; exact f562
  have f583 : E580 1 = .inl (tc 3, 5, .inr (.inr (.inr (.inr (va_up (va_up (va_up (va_up (va_up (fun _ => none) 0 (some (ad 3))) 1 (some (ad 10))) 2 (some (ad 17))) 3 (some (ad 24))) 4 (some (ad 31))))))) := by rw [← g581, va_up_ne _ _ (by decide)]; exact f563
  have f584 : E580 2 = .inl (tc 4, 5, .inr (.inr (.inr (.inr (va_up (va_up (va_up (va_up (va_up (fun _ => none) 0 (some (ad 7))) 1 (some (ad 14))) 2 (some (ad 21))) 3 (some (ad 28))) 4 (some (ad 35))))))) := by rw [← g581, va_up_ne _ _ (by decide)]; exact f564
  have f585 := f565.cong (G := E580) (fun k q1 q2 => by rw [← g581, va_up_ne _ _ (by omega)])
  have f586 := f566.cong (G := E580) (fun k q1 q2 => by rw [← g581, va_up_ne _ _ (by omega)])
  have f587 := f567.cong (G := E580) (fun k q1 q2 => by rw [← g581, va_up_ne _ _ (by omega)])
  have f588 := f568.cong (G := E580) (fun k q1 q2 => by rw [← g581, va_up_ne _ _ (by omega)])
  have f589 := f569.cong (G := E580) (fun k q1 q2 => by rw [← g581, va_up_ne _ _ (by omega)])
  have f590 := f570.cong (G := E580) (fun k q1 q2 => by rw [← g581, va_up_ne _ _ (by omega)])
  have f591 := f571.cong (G := E580) (fun k q1 q2 => by rw [← g581, va_up_ne _ _ (by omega)])
  have f592 := f572.cong (G := E580) (fun k q1 q2 => by rw [← g581, va_up_ne _ _ (by omega)])
  have f593 := f573.cong (G := E580) (fun k q1 q2 => by rw [← g581, va_up_ne _ _ (by omega)])
  have f594 := f574.cong (G := E580) (fun k q1 q2 => by rw [← g581, va_up_ne _ _ (by omega)])
  have f595 : E580 38 = .inl (tc 5, 3, .inr (.inr (.inr (.inr (va_up (va_up (va_up (fun _ => none) 0 (some (ad 39))) 1 (some (ad 42))) 2 (some (ad 45))))))) := by rw [← g581, va_up_ne _ _ (by decide)]; exact f575
  have f596 := f576.cong (G := E580) (fun k q1 q2 => by rw [← g581, va_up_ne _ _ (by omega)])
  have f597 := f577.cong (G := E580) (fun k q1 q2 => by rw [← g581, va_up_ne _ _ (by omega)])
  have f598 := f578.cong (G := E580) (fun k q1 q2 => by rw [← g581, va_up_ne _ _ (by omega)])
  have f599 : E580 48 = .inl (tc 6, 2, .inr (.inr (.inr (.inr (fun _ => none))))) := by rw [← g581]; exact va_up_self _ _ _
  clear f562 f563 f564 f565 f566 f567 f568 f569 f570 f571 f572 f573 f574 f575 f576 f577 f578 g581
  have hD := hDD 49 (by decide) E580
  refine p_RW_32 X hin hD hP hS (by omega) (f582) rfl rfl (Nat.le_of_ble_eq_true rfl) dRW_init_98 (fun H locs hD9 hP9 hS9 => ?_)
  clear hP hS hD
  have hP : va_P D vwCl (wW 49 ad (va_up E580 0 (.inr (6, [.ref (ad 1), .ref (ad 2), .ref (ad 38), .ref (ad 48), .null, .null, .null, .int 0, .int 0])))) H := hP9
  have hD : va_D (Aw (1 + 65) ad) (wW 49 ad (va_up E580 0 (.inr (6, [.ref (ad 1), .ref (ad 2), .ref (ad 38), .ref (ad 48), .null, .null, .null, .int 0, .int 0])))) := hD9
  have hS := hS9
  clear hP9 hS9 hD9
  generalize g601 : va_up E580 0 (.inr (6, [.ref (ad 1), .ref (ad 2), .ref (ad 38), .ref (ad 48), .null, .null, .null, .int 0, .int 0])) = E600 at hD hP
  have f602 : E600 0 = .inr (6, [.ref (ad 1), .ref (ad 2), .ref (ad 38), .ref (ad 48), .null, .null, .null, .int 0, .int 0]) := by rw [← g601]; exact va_up_self _ _ _
  have f603 : E600 1 = .inl (tc 3, 5, .inr (.inr (.inr (.inr (va_up (va_up (va_up (va_up (va_up (fun _ => none) 0 (some (ad 3))) 1 (some (ad 10))) 2 (some (ad 17))) 3 (some (ad 24))) 4 (some (ad 31))))))) := by rw [← g601, va_up_ne _ _ (by omega)]; exact f583
  have f604 : E600 2 = .inl (tc 4, 5, .inr (.inr (.inr (.inr (va_up (va_up (va_up (va_up (va_up (fun _ => none) 0 (some (ad 7))) 1 (some (ad 14))) 2 (some (ad 21))) 3 (some (ad 28))) 4 (some (ad 35))))))) := by rw [← g601, va_up_ne _ _ (by omega)]; exact f584
  have f605 := f585.cong (G := E600) (fun k q1 q2 => by rw [← g601, va_up_ne _ _ (by omega)])
  have f606 := f586.cong (G := E600) (fun k q1 q2 => by rw [← g601, va_up_ne _ _ (by omega)])
  have f607 := f587.cong (G := E600) (fun k q1 q2 => by rw [← g601, va_up_ne _ _ (by omega)])
  have f608 := f588.cong (G := E600) (fun k q1 q2 => by rw [← g601, va_up_ne _ _ (by omega)])
  have f609 := f589.cong (G := E600) (fun k q1 q2 => by rw [← g601, va_up_ne _ _ (by omega)])
  have f610 := f590.cong (G := E600) (fun k q1 q2 => by rw [← g601, va_up_ne _ _ (by omega)])
  have f611 := f591.cong (G := E600) (fun k q1 q2 => by rw [← g601, va_up_ne _ _ (by omega)])
  have f612 := f592.cong (G := E600) (fun k q1 q2 => by rw [← g601, va_up_ne _ _ (by omega)])
  have f613 := f593.cong (G := E600) (fun k q1 q2 => by rw [← g601, va_up_ne _ _ (by omega)])
  have f614 := f594.cong (G := E600) (fun k q1 q2 => by rw [← g601, va_up_ne _ _ (by omega)])
  have f615 : E600 38 = .inl (tc 5, 3, .inr (.inr (.inr (.inr (va_up (va_up (va_up (fun _ => none) 0 (some (ad 39))) 1 (some (ad 42))) 2 (some (ad 45))))))) := by rw [← g601, va_up_ne _ _ (by omega)]; exact f595
  have f616 := f596.cong (G := E600) (fun k q1 q2 => by rw [← g601, va_up_ne _ _ (by omega)])
  have f617 := f597.cong (G := E600) (fun k q1 q2 => by rw [← g601, va_up_ne _ _ (by omega)])
  have f618 := f598.cong (G := E600) (fun k q1 q2 => by rw [← g601, va_up_ne _ _ (by omega)])
  have f619 : E600 48 = .inl (tc 6, 2, .inr (.inr (.inr (.inr (fun _ => none))))) := by rw [← g601, va_up_ne _ _ (by omega)]; exact f599
  clear f582 f583 f584 f585 f586 f587 f588 f589 f590 f591 f592 f593 f594 f595 f596 f597 f598 f599 g601
  refine lv_iconst (v := 0) hx hb dRW_init_101 (by decide) ?_
  refine lv_istore_n hx hb dRW_init_102 rfl hl (by decide) rfl (fun ls hl => ?_)
  have hl : lv_has ls 2 [(1, .int 0), (0, .ref (ad 0))] := hl
  refine lv_iload_n hx hb dRW_init_103 rfl (lv_at hl 0 rfl) ?_
  refine lv_iconst (v := 2) hx hb dRW_init_104 (by decide) ?_
  refine lv_icmp_ge (tgt := 127) hx hb dRW_init_105 rfl (fun h105 => absurd h105 (by decide)) (fun h105 => ?_)
  refine lv_aload_n hx hb dRW_init_108 rfl (lv_at hl 1 rfl) ?_
  refine g_RW_32 X hP (by omega) (f602) rfl dRW_init_109 ?_
  refine lv_iload_n hx hb dRW_init_112 rfl (lv_at hl 0 rfl) ?_
  refine q_newO (T := T_CK) (ci := 0) (fs := [.null]) ty_CK X in_CK tok_CK w_93 w_56 w_4 rfl (by decide) hP hS (fun j hj => hsq j (by omega)) ⟨49, by decide, rfl⟩ (by decide) (by decide) dRW_init_113 (fun H hP9 hS9 => ?_)
  clear hP hS hD
  have hP : va_P D vwCl (wW 50 ad (va_up E600 49 (.inr (0, [.null])))) H := hP9
  have hS := hS9
  clear hP9 hS9
  generalize g621 : va_up E600 49 (.inr (0, [.null])) = E620 at hP
  have f622 : E620 0 = .inr (6, [.ref (ad 1), .ref (ad 2), .ref (ad 38), .ref (ad 48), .null, .null, .null, .int 0, .int 0]) := by rw [← g621, va_up_ne _ _ (by decide)]; exact f602
  have f623 : E620 1 = .inl (tc 3, 5, .inr (.inr (.inr (.inr (va_up (va_up (va_up (va_up (va_up (fun _ => none) 0 (some (ad 3))) 1 (some (ad 10))) 2 (some (ad 17))) 3 (some (ad 24))) 4 (some (ad 31))))))) := by rw [← g621, va_up_ne _ _ (by decide)]; exact f603
  have f624 : E620 2 = .inl (tc 4, 5, .inr (.inr (.inr (.inr (va_up (va_up (va_up (va_up (va_up (fun _ => none) 0 (some (ad 7))) 1 (some (ad 14))) 2 (some (ad 21))) 3 (some (ad 28))) 4 (some (ad 35))))))) := by rw [← g621, va_up_ne _ _ (by decide)]; exact f604
  have f625 := f605.cong (G := E620) (fun k q1 q2 => by rw [← g621, va_up_ne _ _ (by omega)])
  have f626 := f606.cong (G := E620) (fun k q1 q2 => by rw [← g621, va_up_ne _ _ (by omega)])
  have f627 := f607.cong (G := E620) (fun k q1 q2 => by rw [← g621, va_up_ne _ _ (by omega)])
  have f628 := f608.cong (G := E620) (fun k q1 q2 => by rw [← g621, va_up_ne _ _ (by omega)])
  have f629 := f609.cong (G := E620) (fun k q1 q2 => by rw [← g621, va_up_ne _ _ (by omega)])
  have f630 := f610.cong (G := E620) (fun k q1 q2 => by rw [← g621, va_up_ne _ _ (by omega)])
  have f631 := f611.cong (G := E620) (fun k q1 q2 => by rw [← g621, va_up_ne _ _ (by omega)])
  have f632 := f612.cong (G := E620) (fun k q1 q2 => by rw [← g621, va_up_ne _ _ (by omega)])
  have f633 := f613.cong (G := E620) (fun k q1 q2 => by rw [← g621, va_up_ne _ _ (by omega)])
  have f634 := f614.cong (G := E620) (fun k q1 q2 => by rw [← g621, va_up_ne _ _ (by omega)])
  have f635 : E620 38 = .inl (tc 5, 3, .inr (.inr (.inr (.inr (va_up (va_up (va_up (fun _ => none) 0 (some (ad 39))) 1 (some (ad 42))) 2 (some (ad 45))))))) := by rw [← g621, va_up_ne _ _ (by decide)]; exact f615
  have f636 := f616.cong (G := E620) (fun k q1 q2 => by rw [← g621, va_up_ne _ _ (by omega)])
  have f637 := f617.cong (G := E620) (fun k q1 q2 => by rw [← g621, va_up_ne _ _ (by omega)])
  have f638 := f618.cong (G := E620) (fun k q1 q2 => by rw [← g621, va_up_ne _ _ (by omega)])
  have f639 : E620 48 = .inl (tc 6, 2, .inr (.inr (.inr (.inr (fun _ => none))))) := by rw [← g621, va_up_ne _ _ (by decide)]; exact f619
  have f640 : E620 49 = .inr (0, [.null]) := by rw [← g621]; exact va_up_self _ _ _
  clear f602 f603 f604 f605 f606 f607 f608 f609 f610 f611 f612 f613 f614 f615 f616 f617 f618 f619 g621
  have hD := hDD 50 (by decide) E620
  refine lv_dup hx hb dRW_init_116 rfl ?_
  refine x_n (b := 49) (fun hz => x_runIN (b := ad 49) (As := []) (rest := [.ref (ad 49), .int 0, .ref (ad 48)]) X (c_CK_init l D tc (fun k => ad (49 + k)) (fun k => E620 (49 + k)) (f640)) rfl rfl (by decide) (by decide) w_59 w_4 w_95 w_58 rfl ry_CK_init (ctN_pre (b := 49) X rfl hP (fun j hj => hsq j (by omega)) hz) ctN_blind hl.1 (Nat.le_of_ble_eq_true rfl) dRW_init_117 ⟨by decide, by decide⟩) rfl hP hS (fun j hj => hsq j (by omega)) (fun n hn E' => hDD n (by omega) E') (fun E641 H locs q644 hP9 hS9 => ?_)
  clear hP hS hD
  have hP : va_P D vwCl (wW 51 ad (wU (1 + 1) (fun k => 49 + k) E620 E641)) H := hP9
  have hS := hS9
  clear hP9 hS9
  generalize g642 : wU (1 + 1) (fun k => 49 + k) E620 E641 = E643 at hP
  have f645 : E643 0 = .inr (6, [.ref (ad 1), .ref (ad 2), .ref (ad 38), .ref (ad 48), .null, .null, .null, .int 0, .int 0]) := by rw [← g642, wU_far (by omega)]; exact f622
  have f646 : E643 1 = .inl (tc 3, 5, .inr (.inr (.inr (.inr (va_up (va_up (va_up (va_up (va_up (fun _ => none) 0 (some (ad 3))) 1 (some (ad 10))) 2 (some (ad 17))) 3 (some (ad 24))) 4 (some (ad 31))))))) := by rw [← g642, wU_far (by omega)]; exact f623
  have f647 : E643 2 = .inl (tc 4, 5, .inr (.inr (.inr (.inr (va_up (va_up (va_up (va_up (va_up (fun _ => none) 0 (some (ad 7))) 1 (some (ad 14))) 2 (some (ad 21))) 3 (some (ad 28))) 4 (some (ad 35))))))) := by rw [← g642, wU_far (by omega)]; exact f624
  have f648 := f625.cong (G := E643) (fun k q1 q2 => by rw [← g642, wU_far (by omega)])
  have f649 := f626.cong (G := E643) (fun k q1 q2 => by rw [← g642, wU_far (by omega)])
  have f650 := f627.cong (G := E643) (fun k q1 q2 => by rw [← g642, wU_far (by omega)])
  have f651 := f628.cong (G := E643) (fun k q1 q2 => by rw [← g642, wU_far (by omega)])
  have f652 := f629.cong (G := E643) (fun k q1 q2 => by rw [← g642, wU_far (by omega)])
  have f653 := f630.cong (G := E643) (fun k q1 q2 => by rw [← g642, wU_far (by omega)])
  have f654 := f631.cong (G := E643) (fun k q1 q2 => by rw [← g642, wU_far (by omega)])
  have f655 := f632.cong (G := E643) (fun k q1 q2 => by rw [← g642, wU_far (by omega)])
  have f656 := f633.cong (G := E643) (fun k q1 q2 => by rw [← g642, wU_far (by omega)])
  have f657 := f634.cong (G := E643) (fun k q1 q2 => by rw [← g642, wU_far (by omega)])
  have f658 : E643 38 = .inl (tc 5, 3, .inr (.inr (.inr (.inr (va_up (va_up (va_up (fun _ => none) 0 (some (ad 39))) 1 (some (ad 42))) 2 (some (ad 45))))))) := by rw [← g642, wU_far (by omega)]; exact f635
  have f659 := f636.cong (G := E643) (fun k q1 q2 => by rw [← g642, wU_far (by omega)])
  have f660 := f637.cong (G := E643) (fun k q1 q2 => by rw [← g642, wU_far (by omega)])
  have f661 := f638.cong (G := E643) (fun k q1 q2 => by rw [← g642, wU_far (by omega)])
  have f662 : E643 48 = .inl (tc 6, 2, .inr (.inr (.inr (.inr (fun _ => none))))) := by rw [← g642, wU_far (by omega)]; exact f639
  have f663 : isCK tc ad E643 49 := q644.up (fun j hj => by rw [← g642]; exact wU_own j (by omega))
  have f664 : E643 49 = .inr (0, [.ref (ad 50)]) := by have h := q644.up (G := E643) (fun j hj => by rw [← g642]; exact wU_own j (by omega)); exact h.1
  clear f622 f623 f624 f625 f626 f627 f628 f629 f630 f631 f632 f633 f634 f635 f636 f637 f638 f639 f640 g642
  have hD := hDD 51 (by decide) E643
  refine q_aast (t0 := 6) 0 X hD hP hS (by omega) (f662) rfl (by omega) (f664) rfl (rfl) (by decide) (by decide) dRW_init_120 (fun H locs hD9 hP9 hS9 => ?_)
  clear hP hS hD
  have hP : va_P D vwCl (wW 51 ad (va_up E643 48 (.inl (tc 6, 2, .inr (.inr (.inr (.inr (va_up (fun _ => none) 0 (some (ad 49)))))))))) H := hP9
  have hD : va_D (Aw (1 + 65) ad) (wW 51 ad (va_up E643 48 (.inl (tc 6, 2, .inr (.inr (.inr (.inr (va_up (fun _ => none) 0 (some (ad 49)))))))))) := hD9
  have hS := hS9
  clear hP9 hS9 hD9
  generalize g666 : va_up E643 48 (.inl (tc 6, 2, .inr (.inr (.inr (.inr (va_up (fun _ => none) 0 (some (ad 49)))))))) = E665 at hD hP
  have f667 : E665 0 = .inr (6, [.ref (ad 1), .ref (ad 2), .ref (ad 38), .ref (ad 48), .null, .null, .null, .int 0, .int 0]) := by rw [← g666, va_up_ne _ _ (by omega)]; exact f645
  have f668 : E665 1 = .inl (tc 3, 5, .inr (.inr (.inr (.inr (va_up (va_up (va_up (va_up (va_up (fun _ => none) 0 (some (ad 3))) 1 (some (ad 10))) 2 (some (ad 17))) 3 (some (ad 24))) 4 (some (ad 31))))))) := by rw [← g666, va_up_ne _ _ (by omega)]; exact f646
  have f669 : E665 2 = .inl (tc 4, 5, .inr (.inr (.inr (.inr (va_up (va_up (va_up (va_up (va_up (fun _ => none) 0 (some (ad 7))) 1 (some (ad 14))) 2 (some (ad 21))) 3 (some (ad 28))) 4 (some (ad 35))))))) := by rw [← g666, va_up_ne _ _ (by omega)]; exact f647
  have f670 := f648.cong (G := E665) (fun k q1 q2 => by rw [← g666, va_up_ne _ _ (by omega)])
  have f671 := f649.cong (G := E665) (fun k q1 q2 => by rw [← g666, va_up_ne _ _ (by omega)])
  have f672 := f650.cong (G := E665) (fun k q1 q2 => by rw [← g666, va_up_ne _ _ (by omega)])
  have f673 := f651.cong (G := E665) (fun k q1 q2 => by rw [← g666, va_up_ne _ _ (by omega)])
  have f674 := f652.cong (G := E665) (fun k q1 q2 => by rw [← g666, va_up_ne _ _ (by omega)])
  have f675 := f653.cong (G := E665) (fun k q1 q2 => by rw [← g666, va_up_ne _ _ (by omega)])
  have f676 := f654.cong (G := E665) (fun k q1 q2 => by rw [← g666, va_up_ne _ _ (by omega)])
  have f677 := f655.cong (G := E665) (fun k q1 q2 => by rw [← g666, va_up_ne _ _ (by omega)])
  have f678 := f656.cong (G := E665) (fun k q1 q2 => by rw [← g666, va_up_ne _ _ (by omega)])
  have f679 := f657.cong (G := E665) (fun k q1 q2 => by rw [← g666, va_up_ne _ _ (by omega)])
  have f680 : E665 38 = .inl (tc 5, 3, .inr (.inr (.inr (.inr (va_up (va_up (va_up (fun _ => none) 0 (some (ad 39))) 1 (some (ad 42))) 2 (some (ad 45))))))) := by rw [← g666, va_up_ne _ _ (by omega)]; exact f658
  have f681 := f659.cong (G := E665) (fun k q1 q2 => by rw [← g666, va_up_ne _ _ (by omega)])
  have f682 := f660.cong (G := E665) (fun k q1 q2 => by rw [← g666, va_up_ne _ _ (by omega)])
  have f683 := f661.cong (G := E665) (fun k q1 q2 => by rw [← g666, va_up_ne _ _ (by omega)])
  have f684 : E665 48 = .inl (tc 6, 2, .inr (.inr (.inr (.inr (va_up (fun _ => none) 0 (some (ad 49))))))) := by rw [← g666]; exact va_up_self _ _ _
  have f685 := f663.cong (G := E665) (fun k q1 q2 => by rw [← g666, va_up_ne _ _ (by omega)])
  have f686 : E665 49 = .inr (0, [.ref (ad 50)]) := by rw [← g666, va_up_ne _ _ (by omega)]; exact f664
  clear f645 f646 f647 f648 f649 f650 f651 f652 f653 f654 f655 f656 f657 f658 f659 f660 f661 f662 f663 f664 g666
  refine lv_iinc (k := 0) (v := 1) hx hb dRW_init_121 hl rfl (by decide) (by decide) rfl (fun ls hl => ?_)
  have hl : lv_has ls 2 [(1, .int 1), (0, .ref (ad 0))] := hl
  refine lv_goto (tgt := 103) hx hb dRW_init_124 rfl ?_
  refine lv_iload_n hx hb dRW_init_103 rfl (lv_at hl 0 rfl) ?_
  refine lv_iconst (v := 2) hx hb dRW_init_104 (by decide) ?_
  refine lv_icmp_ge (tgt := 127) hx hb dRW_init_105 rfl (fun h105 => absurd h105 (by decide)) (fun h105 => ?_)
  refine lv_aload_n hx hb dRW_init_108 rfl (lv_at hl 1 rfl) ?_
  refine g_RW_32 X hP (by omega) (f667) rfl dRW_init_109 ?_
  refine lv_iload_n hx hb dRW_init_112 rfl (lv_at hl 0 rfl) ?_
  refine q_newO (T := T_CK) (ci := 0) (fs := [.null]) ty_CK X in_CK tok_CK w_93 w_56 w_4 rfl (by decide) hP hS (fun j hj => hsq j (by omega)) ⟨51, by decide, rfl⟩ (by decide) (by decide) dRW_init_113 (fun H hP9 hS9 => ?_)
  clear hP hS hD
  have hP : va_P D vwCl (wW 52 ad (va_up E665 51 (.inr (0, [.null])))) H := hP9
  have hS := hS9
  clear hP9 hS9
  generalize g688 : va_up E665 51 (.inr (0, [.null])) = E687 at hP
  have f689 : E687 0 = .inr (6, [.ref (ad 1), .ref (ad 2), .ref (ad 38), .ref (ad 48), .null, .null, .null, .int 0, .int 0]) := by rw [← g688, va_up_ne _ _ (by decide)]; exact f667
  have f690 : E687 1 = .inl (tc 3, 5, .inr (.inr (.inr (.inr (va_up (va_up (va_up (va_up (va_up (fun _ => none) 0 (some (ad 3))) 1 (some (ad 10))) 2 (some (ad 17))) 3 (some (ad 24))) 4 (some (ad 31))))))) := by rw [← g688, va_up_ne _ _ (by decide)]; exact f668
  have f691 : E687 2 = .inl (tc 4, 5, .inr (.inr (.inr (.inr (va_up (va_up (va_up (va_up (va_up (fun _ => none) 0 (some (ad 7))) 1 (some (ad 14))) 2 (some (ad 21))) 3 (some (ad 28))) 4 (some (ad 35))))))) := by rw [← g688, va_up_ne _ _ (by decide)]; exact f669
  have f692 := f670.cong (G := E687) (fun k q1 q2 => by rw [← g688, va_up_ne _ _ (by omega)])
  have f693 := f671.cong (G := E687) (fun k q1 q2 => by rw [← g688, va_up_ne _ _ (by omega)])
  have f694 := f672.cong (G := E687) (fun k q1 q2 => by rw [← g688, va_up_ne _ _ (by omega)])
  have f695 := f673.cong (G := E687) (fun k q1 q2 => by rw [← g688, va_up_ne _ _ (by omega)])
  have f696 := f674.cong (G := E687) (fun k q1 q2 => by rw [← g688, va_up_ne _ _ (by omega)])
  have f697 := f675.cong (G := E687) (fun k q1 q2 => by rw [← g688, va_up_ne _ _ (by omega)])
  have f698 := f676.cong (G := E687) (fun k q1 q2 => by rw [← g688, va_up_ne _ _ (by omega)])
  have f699 := f677.cong (G := E687) (fun k q1 q2 => by rw [← g688, va_up_ne _ _ (by omega)])
  have f700 := f678.cong (G := E687) (fun k q1 q2 => by rw [← g688, va_up_ne _ _ (by omega)])
  have f701 := f679.cong (G := E687) (fun k q1 q2 => by rw [← g688, va_up_ne _ _ (by omega)])
  have f702 : E687 38 = .inl (tc 5, 3, .inr (.inr (.inr (.inr (va_up (va_up (va_up (fun _ => none) 0 (some (ad 39))) 1 (some (ad 42))) 2 (some (ad 45))))))) := by rw [← g688, va_up_ne _ _ (by decide)]; exact f680
  have f703 := f681.cong (G := E687) (fun k q1 q2 => by rw [← g688, va_up_ne _ _ (by omega)])
  have f704 := f682.cong (G := E687) (fun k q1 q2 => by rw [← g688, va_up_ne _ _ (by omega)])
  have f705 := f683.cong (G := E687) (fun k q1 q2 => by rw [← g688, va_up_ne _ _ (by omega)])
  have f706 : E687 48 = .inl (tc 6, 2, .inr (.inr (.inr (.inr (va_up (fun _ => none) 0 (some (ad 49))))))) := by rw [← g688, va_up_ne _ _ (by decide)]; exact f684
  have f707 := f685.cong (G := E687) (fun k q1 q2 => by rw [← g688, va_up_ne _ _ (by omega)])
  have f708 : E687 51 = .inr (0, [.null]) := by rw [← g688]; exact va_up_self _ _ _
  clear f667 f668 f669 f670 f671 f672 f673 f674 f675 f676 f677 f678 f679 f680 f681 f682 f683 f684 f685 g688
  have hD := hDD 52 (by decide) E687
  refine lv_dup hx hb dRW_init_116 rfl ?_
  refine x_n (b := 51) (fun hz => x_runIN (b := ad 51) (As := []) (rest := [.ref (ad 51), .int 1, .ref (ad 48)]) X (c_CK_init l D tc (fun k => ad (51 + k)) (fun k => E687 (51 + k)) (f708)) rfl rfl (by decide) (by decide) w_59 w_4 w_95 w_58 rfl ry_CK_init (ctN_pre (b := 51) X rfl hP (fun j hj => hsq j (by omega)) hz) ctN_blind hl.1 (Nat.le_of_ble_eq_true rfl) dRW_init_117 ⟨by decide, by decide⟩) rfl hP hS (fun j hj => hsq j (by omega)) (fun n hn E' => hDD n (by omega) E') (fun E709 H locs q712 hP9 hS9 => ?_)
  clear hP hS hD
  have hP : va_P D vwCl (wW 53 ad (wU (1 + 1) (fun k => 51 + k) E687 E709)) H := hP9
  have hS := hS9
  clear hP9 hS9
  generalize g710 : wU (1 + 1) (fun k => 51 + k) E687 E709 = E711 at hP
  have f713 : E711 0 = .inr (6, [.ref (ad 1), .ref (ad 2), .ref (ad 38), .ref (ad 48), .null, .null, .null, .int 0, .int 0]) := by rw [← g710, wU_far (by omega)]; exact f689
  have f714 : E711 1 = .inl (tc 3, 5, .inr (.inr (.inr (.inr (va_up (va_up (va_up (va_up (va_up (fun _ => none) 0 (some (ad 3))) 1 (some (ad 10))) 2 (some (ad 17))) 3 (some (ad 24))) 4 (some (ad 31))))))) := by rw [← g710, wU_far (by omega)]; exact f690
  have f715 : E711 2 = .inl (tc 4, 5, .inr (.inr (.inr (.inr (va_up (va_up (va_up (va_up (va_up (fun _ => none) 0 (some (ad 7))) 1 (some (ad 14))) 2 (some (ad 21))) 3 (some (ad 28))) 4 (some (ad 35))))))) := by rw [← g710, wU_far (by omega)]; exact f691
  have f716 := f692.cong (G := E711) (fun k q1 q2 => by rw [← g710, wU_far (by omega)])
  have f717 := f693.cong (G := E711) (fun k q1 q2 => by rw [← g710, wU_far (by omega)])
  have f718 := f694.cong (G := E711) (fun k q1 q2 => by rw [← g710, wU_far (by omega)])
  have f719 := f695.cong (G := E711) (fun k q1 q2 => by rw [← g710, wU_far (by omega)])
  have f720 := f696.cong (G := E711) (fun k q1 q2 => by rw [← g710, wU_far (by omega)])
  have f721 := f697.cong (G := E711) (fun k q1 q2 => by rw [← g710, wU_far (by omega)])
  have f722 := f698.cong (G := E711) (fun k q1 q2 => by rw [← g710, wU_far (by omega)])
  have f723 := f699.cong (G := E711) (fun k q1 q2 => by rw [← g710, wU_far (by omega)])
  have f724 := f700.cong (G := E711) (fun k q1 q2 => by rw [← g710, wU_far (by omega)])
  have f725 := f701.cong (G := E711) (fun k q1 q2 => by rw [← g710, wU_far (by omega)])
  have f726 : E711 38 = .inl (tc 5, 3, .inr (.inr (.inr (.inr (va_up (va_up (va_up (fun _ => none) 0 (some (ad 39))) 1 (some (ad 42))) 2 (some (ad 45))))))) := by rw [← g710, wU_far (by omega)]; exact f702
  have f727 := f703.cong (G := E711) (fun k q1 q2 => by rw [← g710, wU_far (by omega)])
  have f728 := f704.cong (G := E711) (fun k q1 q2 => by rw [← g710, wU_far (by omega)])
  have f729 := f705.cong (G := E711) (fun k q1 q2 => by rw [← g710, wU_far (by omega)])
  have f730 : E711 48 = .inl (tc 6, 2, .inr (.inr (.inr (.inr (va_up (fun _ => none) 0 (some (ad 49))))))) := by rw [← g710, wU_far (by omega)]; exact f706
  have f731 := f707.cong (G := E711) (fun k q1 q2 => by rw [← g710, wU_far (by omega)])
  have f732 : isCK tc ad E711 51 := q712.up (fun j hj => by rw [← g710]; exact wU_own j (by omega))
  have f733 : E711 51 = .inr (0, [.ref (ad 52)]) := by have h := q712.up (G := E711) (fun j hj => by rw [← g710]; exact wU_own j (by omega)); exact h.1
  clear f689 f690 f691 f692 f693 f694 f695 f696 f697 f698 f699 f700 f701 f702 f703 f704 f705 f706 f707 f708 g710
  have hD := hDD 53 (by decide) E711
  refine q_aast (t0 := 6) 1 X hD hP hS (by omega) (f730) rfl (by omega) (f733) rfl (rfl) (by decide) (by decide) dRW_init_120 (fun H locs hD9 hP9 hS9 => ?_)
  clear hP hS hD
  have hP : va_P D vwCl (wW 53 ad (va_up E711 48 (.inl (tc 6, 2, .inr (.inr (.inr (.inr (va_up (va_up (fun _ => none) 0 (some (ad 49))) 1 (some (ad 51)))))))))) H := hP9
  have hD : va_D (Aw (1 + 65) ad) (wW 53 ad (va_up E711 48 (.inl (tc 6, 2, .inr (.inr (.inr (.inr (va_up (va_up (fun _ => none) 0 (some (ad 49))) 1 (some (ad 51)))))))))) := hD9
  have hS := hS9
  clear hP9 hS9 hD9
  generalize g735 : va_up E711 48 (.inl (tc 6, 2, .inr (.inr (.inr (.inr (va_up (va_up (fun _ => none) 0 (some (ad 49))) 1 (some (ad 51)))))))) = E734 at hD hP
  have f736 : E734 0 = .inr (6, [.ref (ad 1), .ref (ad 2), .ref (ad 38), .ref (ad 48), .null, .null, .null, .int 0, .int 0]) := by rw [← g735, va_up_ne _ _ (by omega)]; exact f713
  have f737 : E734 1 = .inl (tc 3, 5, .inr (.inr (.inr (.inr (va_up (va_up (va_up (va_up (va_up (fun _ => none) 0 (some (ad 3))) 1 (some (ad 10))) 2 (some (ad 17))) 3 (some (ad 24))) 4 (some (ad 31))))))) := by rw [← g735, va_up_ne _ _ (by omega)]; exact f714
  have f738 : E734 2 = .inl (tc 4, 5, .inr (.inr (.inr (.inr (va_up (va_up (va_up (va_up (va_up (fun _ => none) 0 (some (ad 7))) 1 (some (ad 14))) 2 (some (ad 21))) 3 (some (ad 28))) 4 (some (ad 35))))))) := by rw [← g735, va_up_ne _ _ (by omega)]; exact f715
  have f739 := f716.cong (G := E734) (fun k q1 q2 => by rw [← g735, va_up_ne _ _ (by omega)])
  have f740 := f717.cong (G := E734) (fun k q1 q2 => by rw [← g735, va_up_ne _ _ (by omega)])
  have f741 := f718.cong (G := E734) (fun k q1 q2 => by rw [← g735, va_up_ne _ _ (by omega)])
  have f742 := f719.cong (G := E734) (fun k q1 q2 => by rw [← g735, va_up_ne _ _ (by omega)])
  have f743 := f720.cong (G := E734) (fun k q1 q2 => by rw [← g735, va_up_ne _ _ (by omega)])
  have f744 := f721.cong (G := E734) (fun k q1 q2 => by rw [← g735, va_up_ne _ _ (by omega)])
  have f745 := f722.cong (G := E734) (fun k q1 q2 => by rw [← g735, va_up_ne _ _ (by omega)])
  have f746 := f723.cong (G := E734) (fun k q1 q2 => by rw [← g735, va_up_ne _ _ (by omega)])
  have f747 := f724.cong (G := E734) (fun k q1 q2 => by rw [← g735, va_up_ne _ _ (by omega)])
  have f748 := f725.cong (G := E734) (fun k q1 q2 => by rw [← g735, va_up_ne _ _ (by omega)])
  have f749 : E734 38 = .inl (tc 5, 3, .inr (.inr (.inr (.inr (va_up (va_up (va_up (fun _ => none) 0 (some (ad 39))) 1 (some (ad 42))) 2 (some (ad 45))))))) := by rw [← g735, va_up_ne _ _ (by omega)]; exact f726
  have f750 := f727.cong (G := E734) (fun k q1 q2 => by rw [← g735, va_up_ne _ _ (by omega)])
  have f751 := f728.cong (G := E734) (fun k q1 q2 => by rw [← g735, va_up_ne _ _ (by omega)])
  have f752 := f729.cong (G := E734) (fun k q1 q2 => by rw [← g735, va_up_ne _ _ (by omega)])
  have f753 : E734 48 = .inl (tc 6, 2, .inr (.inr (.inr (.inr (va_up (va_up (fun _ => none) 0 (some (ad 49))) 1 (some (ad 51))))))) := by rw [← g735]; exact va_up_self _ _ _
  have f754 := f731.cong (G := E734) (fun k q1 q2 => by rw [← g735, va_up_ne _ _ (by omega)])
  have f755 := f732.cong (G := E734) (fun k q1 q2 => by rw [← g735, va_up_ne _ _ (by omega)])
  have f756 : E734 51 = .inr (0, [.ref (ad 52)]) := by rw [← g735, va_up_ne _ _ (by omega)]; exact f733
  clear f713 f714 f715 f716 f717 f718 f719 f720 f721 f722 f723 f724 f725 f726 f727 f728 f729 f730 f731 f732 f733 g735
  refine lv_iinc (k := 0) (v := 2) hx hb dRW_init_121 hl rfl (by decide) (by decide) rfl (fun ls hl => ?_)
  have hl : lv_has ls 2 [(1, .int 2), (0, .ref (ad 0))] := hl
  refine lv_goto (tgt := 103) hx hb dRW_init_124 rfl ?_
  refine lv_iload_n hx hb dRW_init_103 rfl (lv_at hl 0 rfl) ?_
  refine lv_iconst (v := 2) hx hb dRW_init_104 (by decide) ?_
  refine lv_icmp_ge (tgt := 127) hx hb dRW_init_105 rfl (fun h105 => ?_) (fun h105 => absurd (by decide) h105)
  refine lv_aload_n hx hb dRW_init_127 rfl (lv_at hl 1 rfl) ?_
  refine q_newO (T := T_TR) (ci := 4) (fs := [.null, .null, .int 0]) ty_TR X in_TR tok_TR w_96 w_97 w_6 rfl (by decide) hP hS (fun j hj => hsq j (by omega)) ⟨53, by decide, rfl⟩ (by decide) (by decide) dRW_init_128 (fun H hP9 hS9 => ?_)
  clear hP hS hD
  have hP : va_P D vwCl (wW 54 ad (va_up E734 53 (.inr (4, [.null, .null, .int 0])))) H := hP9
  have hS := hS9
  clear hP9 hS9
  generalize g758 : va_up E734 53 (.inr (4, [.null, .null, .int 0])) = E757 at hP
  have f759 : E757 0 = .inr (6, [.ref (ad 1), .ref (ad 2), .ref (ad 38), .ref (ad 48), .null, .null, .null, .int 0, .int 0]) := by rw [← g758, va_up_ne _ _ (by decide)]; exact f736
  have f760 : E757 1 = .inl (tc 3, 5, .inr (.inr (.inr (.inr (va_up (va_up (va_up (va_up (va_up (fun _ => none) 0 (some (ad 3))) 1 (some (ad 10))) 2 (some (ad 17))) 3 (some (ad 24))) 4 (some (ad 31))))))) := by rw [← g758, va_up_ne _ _ (by decide)]; exact f737
  have f761 : E757 2 = .inl (tc 4, 5, .inr (.inr (.inr (.inr (va_up (va_up (va_up (va_up (va_up (fun _ => none) 0 (some (ad 7))) 1 (some (ad 14))) 2 (some (ad 21))) 3 (some (ad 28))) 4 (some (ad 35))))))) := by rw [← g758, va_up_ne _ _ (by decide)]; exact f738
  have f762 := f739.cong (G := E757) (fun k q1 q2 => by rw [← g758, va_up_ne _ _ (by omega)])
  have f763 := f740.cong (G := E757) (fun k q1 q2 => by rw [← g758, va_up_ne _ _ (by omega)])
  have f764 := f741.cong (G := E757) (fun k q1 q2 => by rw [← g758, va_up_ne _ _ (by omega)])
  have f765 := f742.cong (G := E757) (fun k q1 q2 => by rw [← g758, va_up_ne _ _ (by omega)])
  have f766 := f743.cong (G := E757) (fun k q1 q2 => by rw [← g758, va_up_ne _ _ (by omega)])
  have f767 := f744.cong (G := E757) (fun k q1 q2 => by rw [← g758, va_up_ne _ _ (by omega)])
  have f768 := f745.cong (G := E757) (fun k q1 q2 => by rw [← g758, va_up_ne _ _ (by omega)])
  have f769 := f746.cong (G := E757) (fun k q1 q2 => by rw [← g758, va_up_ne _ _ (by omega)])
  have f770 := f747.cong (G := E757) (fun k q1 q2 => by rw [← g758, va_up_ne _ _ (by omega)])
  have f771 := f748.cong (G := E757) (fun k q1 q2 => by rw [← g758, va_up_ne _ _ (by omega)])
  have f772 : E757 38 = .inl (tc 5, 3, .inr (.inr (.inr (.inr (va_up (va_up (va_up (fun _ => none) 0 (some (ad 39))) 1 (some (ad 42))) 2 (some (ad 45))))))) := by rw [← g758, va_up_ne _ _ (by decide)]; exact f749
  have f773 := f750.cong (G := E757) (fun k q1 q2 => by rw [← g758, va_up_ne _ _ (by omega)])
  have f774 := f751.cong (G := E757) (fun k q1 q2 => by rw [← g758, va_up_ne _ _ (by omega)])
  have f775 := f752.cong (G := E757) (fun k q1 q2 => by rw [← g758, va_up_ne _ _ (by omega)])
  have f776 : E757 48 = .inl (tc 6, 2, .inr (.inr (.inr (.inr (va_up (va_up (fun _ => none) 0 (some (ad 49))) 1 (some (ad 51))))))) := by rw [← g758, va_up_ne _ _ (by decide)]; exact f753
  have f777 := f754.cong (G := E757) (fun k q1 q2 => by rw [← g758, va_up_ne _ _ (by omega)])
  have f778 := f755.cong (G := E757) (fun k q1 q2 => by rw [← g758, va_up_ne _ _ (by omega)])
  have f779 : E757 53 = .inr (4, [.null, .null, .int 0]) := by rw [← g758]; exact va_up_self _ _ _
  clear f736 f737 f738 f739 f740 f741 f742 f743 f744 f745 f746 f747 f748 f749 f750 f751 f752 f753 f754 f755 g758
  have hD := hDD 54 (by decide) E757
  refine lv_dup hx hb dRW_init_131 rfl ?_
  refine x_n (b := 53) (fun hz => x_runIN (b := ad 53) (As := []) (rest := [.ref (ad 53), .ref (ad 0)]) X (c_TR_init l D tc (fun k => ad (53 + k)) (fun k => E757 (53 + k)) (f779)) rfl rfl (by decide) (by decide) w_100 w_6 w_98 w_99 rfl ry_TR_init (ctN_pre (b := 53) X rfl hP (fun j hj => hsq j (by omega)) hz) ctN_blind hl.1 (Nat.le_of_ble_eq_true rfl) dRW_init_132 ⟨by decide, by decide⟩) rfl hP hS (fun j hj => hsq j (by omega)) (fun n hn E' => hDD n (by omega) E') (fun E780 H locs q783 hP9 hS9 => ?_)
  clear hP hS hD
  have hP : va_P D vwCl (wW 56 ad (wU (1 + 2) (fun k => 53 + k) E757 E780)) H := hP9
  have hS := hS9
  clear hP9 hS9
  obtain ⟨q783c, q783k, q783z⟩ := q783
  generalize g781 : wU (1 + 2) (fun k => 53 + k) E757 E780 = E782 at hP
  have f784 : E782 0 = .inr (6, [.ref (ad 1), .ref (ad 2), .ref (ad 38), .ref (ad 48), .null, .null, .null, .int 0, .int 0]) := by rw [← g781, wU_far (by omega)]; exact f759
  have f785 : E782 1 = .inl (tc 3, 5, .inr (.inr (.inr (.inr (va_up (va_up (va_up (va_up (va_up (fun _ => none) 0 (some (ad 3))) 1 (some (ad 10))) 2 (some (ad 17))) 3 (some (ad 24))) 4 (some (ad 31))))))) := by rw [← g781, wU_far (by omega)]; exact f760
  have f786 : E782 2 = .inl (tc 4, 5, .inr (.inr (.inr (.inr (va_up (va_up (va_up (va_up (va_up (fun _ => none) 0 (some (ad 7))) 1 (some (ad 14))) 2 (some (ad 21))) 3 (some (ad 28))) 4 (some (ad 35))))))) := by rw [← g781, wU_far (by omega)]; exact f761
  have f787 := f762.cong (G := E782) (fun k q1 q2 => by rw [← g781, wU_far (by omega)])
  have f788 := f763.cong (G := E782) (fun k q1 q2 => by rw [← g781, wU_far (by omega)])
  have f789 := f764.cong (G := E782) (fun k q1 q2 => by rw [← g781, wU_far (by omega)])
  have f790 := f765.cong (G := E782) (fun k q1 q2 => by rw [← g781, wU_far (by omega)])
  have f791 := f766.cong (G := E782) (fun k q1 q2 => by rw [← g781, wU_far (by omega)])
  have f792 := f767.cong (G := E782) (fun k q1 q2 => by rw [← g781, wU_far (by omega)])
  have f793 := f768.cong (G := E782) (fun k q1 q2 => by rw [← g781, wU_far (by omega)])
  have f794 := f769.cong (G := E782) (fun k q1 q2 => by rw [← g781, wU_far (by omega)])
  have f795 := f770.cong (G := E782) (fun k q1 q2 => by rw [← g781, wU_far (by omega)])
  have f796 := f771.cong (G := E782) (fun k q1 q2 => by rw [← g781, wU_far (by omega)])
  have f797 : E782 38 = .inl (tc 5, 3, .inr (.inr (.inr (.inr (va_up (va_up (va_up (fun _ => none) 0 (some (ad 39))) 1 (some (ad 42))) 2 (some (ad 45))))))) := by rw [← g781, wU_far (by omega)]; exact f772
  have f798 := f773.cong (G := E782) (fun k q1 q2 => by rw [← g781, wU_far (by omega)])
  have f799 := f774.cong (G := E782) (fun k q1 q2 => by rw [← g781, wU_far (by omega)])
  have f800 := f775.cong (G := E782) (fun k q1 q2 => by rw [← g781, wU_far (by omega)])
  have f801 : E782 48 = .inl (tc 6, 2, .inr (.inr (.inr (.inr (va_up (va_up (fun _ => none) 0 (some (ad 49))) 1 (some (ad 51))))))) := by rw [← g781, wU_far (by omega)]; exact f776
  have f802 := f777.cong (G := E782) (fun k q1 q2 => by rw [← g781, wU_far (by omega)])
  have f803 := f778.cong (G := E782) (fun k q1 q2 => by rw [← g781, wU_far (by omega)])
  have f804 : isTR tc ad E782 53 0 q783c q783k := q783z.up (fun j hj => by rw [← g781]; exact wU_own j (by omega))
  clear f759 f760 f761 f762 f763 f764 f765 f766 f767 f768 f769 f770 f771 f772 f773 f774 f775 f776 f777 f778 f779 g781
  have hD := hDD 56 (by decide) E782
  refine p_RW_40 X hin hD hP hS (by omega) (f784) rfl rfl (Nat.le_of_ble_eq_true rfl) dRW_init_135 (fun H locs hD9 hP9 hS9 => ?_)
  clear hP hS hD
  have hP : va_P D vwCl (wW 56 ad (va_up E782 0 (.inr (6, [.ref (ad 1), .ref (ad 2), .ref (ad 38), .ref (ad 48), .ref (ad 53), .null, .null, .int 0, .int 0])))) H := hP9
  have hD : va_D (Aw (1 + 65) ad) (wW 56 ad (va_up E782 0 (.inr (6, [.ref (ad 1), .ref (ad 2), .ref (ad 38), .ref (ad 48), .ref (ad 53), .null, .null, .int 0, .int 0])))) := hD9
  have hS := hS9
  clear hP9 hS9 hD9
  generalize g806 : va_up E782 0 (.inr (6, [.ref (ad 1), .ref (ad 2), .ref (ad 38), .ref (ad 48), .ref (ad 53), .null, .null, .int 0, .int 0])) = E805 at hD hP
  have f807 : E805 0 = .inr (6, [.ref (ad 1), .ref (ad 2), .ref (ad 38), .ref (ad 48), .ref (ad 53), .null, .null, .int 0, .int 0]) := by rw [← g806]; exact va_up_self _ _ _
  have f808 : E805 1 = .inl (tc 3, 5, .inr (.inr (.inr (.inr (va_up (va_up (va_up (va_up (va_up (fun _ => none) 0 (some (ad 3))) 1 (some (ad 10))) 2 (some (ad 17))) 3 (some (ad 24))) 4 (some (ad 31))))))) := by rw [← g806, va_up_ne _ _ (by omega)]; exact f785
  have f809 : E805 2 = .inl (tc 4, 5, .inr (.inr (.inr (.inr (va_up (va_up (va_up (va_up (va_up (fun _ => none) 0 (some (ad 7))) 1 (some (ad 14))) 2 (some (ad 21))) 3 (some (ad 28))) 4 (some (ad 35))))))) := by rw [← g806, va_up_ne _ _ (by omega)]; exact f786
  have f810 := f787.cong (G := E805) (fun k q1 q2 => by rw [← g806, va_up_ne _ _ (by omega)])
  have f811 := f788.cong (G := E805) (fun k q1 q2 => by rw [← g806, va_up_ne _ _ (by omega)])
  have f812 := f789.cong (G := E805) (fun k q1 q2 => by rw [← g806, va_up_ne _ _ (by omega)])
  have f813 := f790.cong (G := E805) (fun k q1 q2 => by rw [← g806, va_up_ne _ _ (by omega)])
  have f814 := f791.cong (G := E805) (fun k q1 q2 => by rw [← g806, va_up_ne _ _ (by omega)])
  have f815 := f792.cong (G := E805) (fun k q1 q2 => by rw [← g806, va_up_ne _ _ (by omega)])
  have f816 := f793.cong (G := E805) (fun k q1 q2 => by rw [← g806, va_up_ne _ _ (by omega)])
  have f817 := f794.cong (G := E805) (fun k q1 q2 => by rw [← g806, va_up_ne _ _ (by omega)])
  have f818 := f795.cong (G := E805) (fun k q1 q2 => by rw [← g806, va_up_ne _ _ (by omega)])
  have f819 := f796.cong (G := E805) (fun k q1 q2 => by rw [← g806, va_up_ne _ _ (by omega)])
  have f820 : E805 38 = .inl (tc 5, 3, .inr (.inr (.inr (.inr (va_up (va_up (va_up (fun _ => none) 0 (some (ad 39))) 1 (some (ad 42))) 2 (some (ad 45))))))) := by rw [← g806, va_up_ne _ _ (by omega)]; exact f797
  have f821 := f798.cong (G := E805) (fun k q1 q2 => by rw [← g806, va_up_ne _ _ (by omega)])
  have f822 := f799.cong (G := E805) (fun k q1 q2 => by rw [← g806, va_up_ne _ _ (by omega)])
  have f823 := f800.cong (G := E805) (fun k q1 q2 => by rw [← g806, va_up_ne _ _ (by omega)])
  have f824 : E805 48 = .inl (tc 6, 2, .inr (.inr (.inr (.inr (va_up (va_up (fun _ => none) 0 (some (ad 49))) 1 (some (ad 51))))))) := by rw [← g806, va_up_ne _ _ (by omega)]; exact f801
  have f825 := f802.cong (G := E805) (fun k q1 q2 => by rw [← g806, va_up_ne _ _ (by omega)])
  have f826 := f803.cong (G := E805) (fun k q1 q2 => by rw [← g806, va_up_ne _ _ (by omega)])
  have f827 := f804.cong (G := E805) (fun k q1 q2 => by rw [← g806, va_up_ne _ _ (by omega)])
  clear f784 f785 f786 f787 f788 f789 f790 f791 f792 f793 f794 f795 f796 f797 f798 f799 f800 f801 f802 f803 f804 g806
  refine lv_aload_n hx hb dRW_init_138 rfl (lv_at hl 1 rfl) ?_
  refine q_newO (T := T_BK) (ci := 3) (fs := [.null, .null, .null, .null]) ty_BK X in_BK tok_BK w_110 w_111 w_7 rfl (by decide) hP hS (fun j hj => hsq j (by omega)) ⟨56, by decide, rfl⟩ (by decide) (by decide) dRW_init_139 (fun H hP9 hS9 => ?_)
  clear hP hS hD
  have hP : va_P D vwCl (wW 57 ad (va_up E805 56 (.inr (3, [.null, .null, .null, .null])))) H := hP9
  have hS := hS9
  clear hP9 hS9
  generalize g829 : va_up E805 56 (.inr (3, [.null, .null, .null, .null])) = E828 at hP
  have f830 : E828 0 = .inr (6, [.ref (ad 1), .ref (ad 2), .ref (ad 38), .ref (ad 48), .ref (ad 53), .null, .null, .int 0, .int 0]) := by rw [← g829, va_up_ne _ _ (by decide)]; exact f807
  have f831 : E828 1 = .inl (tc 3, 5, .inr (.inr (.inr (.inr (va_up (va_up (va_up (va_up (va_up (fun _ => none) 0 (some (ad 3))) 1 (some (ad 10))) 2 (some (ad 17))) 3 (some (ad 24))) 4 (some (ad 31))))))) := by rw [← g829, va_up_ne _ _ (by decide)]; exact f808
  have f832 : E828 2 = .inl (tc 4, 5, .inr (.inr (.inr (.inr (va_up (va_up (va_up (va_up (va_up (fun _ => none) 0 (some (ad 7))) 1 (some (ad 14))) 2 (some (ad 21))) 3 (some (ad 28))) 4 (some (ad 35))))))) := by rw [← g829, va_up_ne _ _ (by decide)]; exact f809
  have f833 := f810.cong (G := E828) (fun k q1 q2 => by rw [← g829, va_up_ne _ _ (by omega)])
  have f834 := f811.cong (G := E828) (fun k q1 q2 => by rw [← g829, va_up_ne _ _ (by omega)])
  have f835 := f812.cong (G := E828) (fun k q1 q2 => by rw [← g829, va_up_ne _ _ (by omega)])
  have f836 := f813.cong (G := E828) (fun k q1 q2 => by rw [← g829, va_up_ne _ _ (by omega)])
  have f837 := f814.cong (G := E828) (fun k q1 q2 => by rw [← g829, va_up_ne _ _ (by omega)])
  have f838 := f815.cong (G := E828) (fun k q1 q2 => by rw [← g829, va_up_ne _ _ (by omega)])
  have f839 := f816.cong (G := E828) (fun k q1 q2 => by rw [← g829, va_up_ne _ _ (by omega)])
  have f840 := f817.cong (G := E828) (fun k q1 q2 => by rw [← g829, va_up_ne _ _ (by omega)])
  have f841 := f818.cong (G := E828) (fun k q1 q2 => by rw [← g829, va_up_ne _ _ (by omega)])
  have f842 := f819.cong (G := E828) (fun k q1 q2 => by rw [← g829, va_up_ne _ _ (by omega)])
  have f843 : E828 38 = .inl (tc 5, 3, .inr (.inr (.inr (.inr (va_up (va_up (va_up (fun _ => none) 0 (some (ad 39))) 1 (some (ad 42))) 2 (some (ad 45))))))) := by rw [← g829, va_up_ne _ _ (by decide)]; exact f820
  have f844 := f821.cong (G := E828) (fun k q1 q2 => by rw [← g829, va_up_ne _ _ (by omega)])
  have f845 := f822.cong (G := E828) (fun k q1 q2 => by rw [← g829, va_up_ne _ _ (by omega)])
  have f846 := f823.cong (G := E828) (fun k q1 q2 => by rw [← g829, va_up_ne _ _ (by omega)])
  have f847 : E828 48 = .inl (tc 6, 2, .inr (.inr (.inr (.inr (va_up (va_up (fun _ => none) 0 (some (ad 49))) 1 (some (ad 51))))))) := by rw [← g829, va_up_ne _ _ (by decide)]; exact f824
  have f848 := f825.cong (G := E828) (fun k q1 q2 => by rw [← g829, va_up_ne _ _ (by omega)])
  have f849 := f826.cong (G := E828) (fun k q1 q2 => by rw [← g829, va_up_ne _ _ (by omega)])
  have f850 := f827.cong (G := E828) (fun k q1 q2 => by rw [← g829, va_up_ne _ _ (by omega)])
  have f851 : E828 56 = .inr (3, [.null, .null, .null, .null]) := by rw [← g829]; exact va_up_self _ _ _
  clear f807 f808 f809 f810 f811 f812 f813 f814 f815 f816 f817 f818 f819 f820 f821 f822 f823 f824 f825 f826 f827 g829
  have hD := hDD 57 (by decide) E828
  refine lv_dup hx hb dRW_init_142 rfl ?_
  refine x_n (b := 56) (fun hz => x_runIN (b := ad 56) (As := []) (rest := [.ref (ad 56), .ref (ad 0)]) X (c_BK_init l D tc (fun k => ad (56 + k)) (fun k => E828 (56 + k)) (f851)) rfl rfl (by decide) (by decide) w_114 w_7 w_112 w_113 rfl ry_BK_init (ctN_pre (b := 56) X rfl hP (fun j hj => hsq j (by omega)) hz) ctN_blind hl.1 (Nat.le_of_ble_eq_true rfl) dRW_init_143 ⟨by decide, by decide⟩) rfl hP hS (fun j hj => hsq j (by omega)) (fun n hn E' => hDD n (by omega) E') (fun E852 H locs q855 hP9 hS9 => ?_)
  clear hP hS hD
  have hP : va_P D vwCl (wW 61 ad (wU (1 + 4) (fun k => 56 + k) E828 E852)) H := hP9
  have hS := hS9
  clear hP9 hS9
  generalize g853 : wU (1 + 4) (fun k => 56 + k) E828 E852 = E854 at hP
  have f856 : E854 0 = .inr (6, [.ref (ad 1), .ref (ad 2), .ref (ad 38), .ref (ad 48), .ref (ad 53), .null, .null, .int 0, .int 0]) := by rw [← g853, wU_far (by omega)]; exact f830
  have f857 : E854 1 = .inl (tc 3, 5, .inr (.inr (.inr (.inr (va_up (va_up (va_up (va_up (va_up (fun _ => none) 0 (some (ad 3))) 1 (some (ad 10))) 2 (some (ad 17))) 3 (some (ad 24))) 4 (some (ad 31))))))) := by rw [← g853, wU_far (by omega)]; exact f831
  have f858 : E854 2 = .inl (tc 4, 5, .inr (.inr (.inr (.inr (va_up (va_up (va_up (va_up (va_up (fun _ => none) 0 (some (ad 7))) 1 (some (ad 14))) 2 (some (ad 21))) 3 (some (ad 28))) 4 (some (ad 35))))))) := by rw [← g853, wU_far (by omega)]; exact f832
  have f859 := f833.cong (G := E854) (fun k q1 q2 => by rw [← g853, wU_far (by omega)])
  have f860 := f834.cong (G := E854) (fun k q1 q2 => by rw [← g853, wU_far (by omega)])
  have f861 := f835.cong (G := E854) (fun k q1 q2 => by rw [← g853, wU_far (by omega)])
  have f862 := f836.cong (G := E854) (fun k q1 q2 => by rw [← g853, wU_far (by omega)])
  have f863 := f837.cong (G := E854) (fun k q1 q2 => by rw [← g853, wU_far (by omega)])
  have f864 := f838.cong (G := E854) (fun k q1 q2 => by rw [← g853, wU_far (by omega)])
  have f865 := f839.cong (G := E854) (fun k q1 q2 => by rw [← g853, wU_far (by omega)])
  have f866 := f840.cong (G := E854) (fun k q1 q2 => by rw [← g853, wU_far (by omega)])
  have f867 := f841.cong (G := E854) (fun k q1 q2 => by rw [← g853, wU_far (by omega)])
  have f868 := f842.cong (G := E854) (fun k q1 q2 => by rw [← g853, wU_far (by omega)])
  have f869 : E854 38 = .inl (tc 5, 3, .inr (.inr (.inr (.inr (va_up (va_up (va_up (fun _ => none) 0 (some (ad 39))) 1 (some (ad 42))) 2 (some (ad 45))))))) := by rw [← g853, wU_far (by omega)]; exact f843
  have f870 := f844.cong (G := E854) (fun k q1 q2 => by rw [← g853, wU_far (by omega)])
  have f871 := f845.cong (G := E854) (fun k q1 q2 => by rw [← g853, wU_far (by omega)])
  have f872 := f846.cong (G := E854) (fun k q1 q2 => by rw [← g853, wU_far (by omega)])
  have f873 : E854 48 = .inl (tc 6, 2, .inr (.inr (.inr (.inr (va_up (va_up (fun _ => none) 0 (some (ad 49))) 1 (some (ad 51))))))) := by rw [← g853, wU_far (by omega)]; exact f847
  have f874 := f848.cong (G := E854) (fun k q1 q2 => by rw [← g853, wU_far (by omega)])
  have f875 := f849.cong (G := E854) (fun k q1 q2 => by rw [← g853, wU_far (by omega)])
  have f876 := f850.cong (G := E854) (fun k q1 q2 => by rw [← g853, wU_far (by omega)])
  have f877 : nonB tc ad E854 56 := q855.up (fun j hj => by rw [← g853]; exact wU_own j (by omega))
  clear f830 f831 f832 f833 f834 f835 f836 f837 f838 f839 f840 f841 f842 f843 f844 f845 f846 f847 f848 f849 f850 f851 g853
  have hD := hDD 61 (by decide) E854
  refine p_RW_47 X hin hD hP hS (by omega) (f856) rfl rfl (Nat.le_of_ble_eq_true rfl) dRW_init_146 (fun H locs hD9 hP9 hS9 => ?_)
  clear hP hS hD
  have hP : va_P D vwCl (wW 61 ad (va_up E854 0 (.inr (6, [.ref (ad 1), .ref (ad 2), .ref (ad 38), .ref (ad 48), .ref (ad 53), .ref (ad 56), .null, .int 0, .int 0])))) H := hP9
  have hD : va_D (Aw (1 + 65) ad) (wW 61 ad (va_up E854 0 (.inr (6, [.ref (ad 1), .ref (ad 2), .ref (ad 38), .ref (ad 48), .ref (ad 53), .ref (ad 56), .null, .int 0, .int 0])))) := hD9
  have hS := hS9
  clear hP9 hS9 hD9
  generalize g879 : va_up E854 0 (.inr (6, [.ref (ad 1), .ref (ad 2), .ref (ad 38), .ref (ad 48), .ref (ad 53), .ref (ad 56), .null, .int 0, .int 0])) = E878 at hD hP
  have f880 : E878 0 = .inr (6, [.ref (ad 1), .ref (ad 2), .ref (ad 38), .ref (ad 48), .ref (ad 53), .ref (ad 56), .null, .int 0, .int 0]) := by rw [← g879]; exact va_up_self _ _ _
  have f881 : E878 1 = .inl (tc 3, 5, .inr (.inr (.inr (.inr (va_up (va_up (va_up (va_up (va_up (fun _ => none) 0 (some (ad 3))) 1 (some (ad 10))) 2 (some (ad 17))) 3 (some (ad 24))) 4 (some (ad 31))))))) := by rw [← g879, va_up_ne _ _ (by omega)]; exact f857
  have f882 : E878 2 = .inl (tc 4, 5, .inr (.inr (.inr (.inr (va_up (va_up (va_up (va_up (va_up (fun _ => none) 0 (some (ad 7))) 1 (some (ad 14))) 2 (some (ad 21))) 3 (some (ad 28))) 4 (some (ad 35))))))) := by rw [← g879, va_up_ne _ _ (by omega)]; exact f858
  have f883 := f859.cong (G := E878) (fun k q1 q2 => by rw [← g879, va_up_ne _ _ (by omega)])
  have f884 := f860.cong (G := E878) (fun k q1 q2 => by rw [← g879, va_up_ne _ _ (by omega)])
  have f885 := f861.cong (G := E878) (fun k q1 q2 => by rw [← g879, va_up_ne _ _ (by omega)])
  have f886 := f862.cong (G := E878) (fun k q1 q2 => by rw [← g879, va_up_ne _ _ (by omega)])
  have f887 := f863.cong (G := E878) (fun k q1 q2 => by rw [← g879, va_up_ne _ _ (by omega)])
  have f888 := f864.cong (G := E878) (fun k q1 q2 => by rw [← g879, va_up_ne _ _ (by omega)])
  have f889 := f865.cong (G := E878) (fun k q1 q2 => by rw [← g879, va_up_ne _ _ (by omega)])
  have f890 := f866.cong (G := E878) (fun k q1 q2 => by rw [← g879, va_up_ne _ _ (by omega)])
  have f891 := f867.cong (G := E878) (fun k q1 q2 => by rw [← g879, va_up_ne _ _ (by omega)])
  have f892 := f868.cong (G := E878) (fun k q1 q2 => by rw [← g879, va_up_ne _ _ (by omega)])
  have f893 : E878 38 = .inl (tc 5, 3, .inr (.inr (.inr (.inr (va_up (va_up (va_up (fun _ => none) 0 (some (ad 39))) 1 (some (ad 42))) 2 (some (ad 45))))))) := by rw [← g879, va_up_ne _ _ (by omega)]; exact f869
  have f894 := f870.cong (G := E878) (fun k q1 q2 => by rw [← g879, va_up_ne _ _ (by omega)])
  have f895 := f871.cong (G := E878) (fun k q1 q2 => by rw [← g879, va_up_ne _ _ (by omega)])
  have f896 := f872.cong (G := E878) (fun k q1 q2 => by rw [← g879, va_up_ne _ _ (by omega)])
  have f897 : E878 48 = .inl (tc 6, 2, .inr (.inr (.inr (.inr (va_up (va_up (fun _ => none) 0 (some (ad 49))) 1 (some (ad 51))))))) := by rw [← g879, va_up_ne _ _ (by omega)]; exact f873
  have f898 := f874.cong (G := E878) (fun k q1 q2 => by rw [← g879, va_up_ne _ _ (by omega)])
  have f899 := f875.cong (G := E878) (fun k q1 q2 => by rw [← g879, va_up_ne _ _ (by omega)])
  have f900 := f876.cong (G := E878) (fun k q1 q2 => by rw [← g879, va_up_ne _ _ (by omega)])
  have f901 := f877.cong (G := E878) (fun k q1 q2 => by rw [← g879, va_up_ne _ _ (by omega)])
  clear f856 f857 f858 f859 f860 f861 f862 f863 f864 f865 f866 f867 f868 f869 f870 f871 f872 f873 f874 f875 f876 f877 g879
  refine lv_aload_n hx hb dRW_init_149 rfl (lv_at hl 1 rfl) ?_
  refine q_newO (T := T_BK) (ci := 3) (fs := [.null, .null, .null, .null]) ty_BK X in_BK tok_BK w_110 w_111 w_7 rfl (by decide) hP hS (fun j hj => hsq j (by omega)) ⟨61, by decide, rfl⟩ (by decide) (by decide) dRW_init_150 (fun H hP9 hS9 => ?_)
  clear hP hS hD
  have hP : va_P D vwCl (wW 62 ad (va_up E878 61 (.inr (3, [.null, .null, .null, .null])))) H := hP9
  have hS := hS9
  clear hP9 hS9
  generalize g903 : va_up E878 61 (.inr (3, [.null, .null, .null, .null])) = E902 at hP
  have f904 : E902 0 = .inr (6, [.ref (ad 1), .ref (ad 2), .ref (ad 38), .ref (ad 48), .ref (ad 53), .ref (ad 56), .null, .int 0, .int 0]) := by rw [← g903, va_up_ne _ _ (by decide)]; exact f880
  have f905 : E902 1 = .inl (tc 3, 5, .inr (.inr (.inr (.inr (va_up (va_up (va_up (va_up (va_up (fun _ => none) 0 (some (ad 3))) 1 (some (ad 10))) 2 (some (ad 17))) 3 (some (ad 24))) 4 (some (ad 31))))))) := by rw [← g903, va_up_ne _ _ (by decide)]; exact f881
  have f906 : E902 2 = .inl (tc 4, 5, .inr (.inr (.inr (.inr (va_up (va_up (va_up (va_up (va_up (fun _ => none) 0 (some (ad 7))) 1 (some (ad 14))) 2 (some (ad 21))) 3 (some (ad 28))) 4 (some (ad 35))))))) := by rw [← g903, va_up_ne _ _ (by decide)]; exact f882
  have f907 := f883.cong (G := E902) (fun k q1 q2 => by rw [← g903, va_up_ne _ _ (by omega)])
  have f908 := f884.cong (G := E902) (fun k q1 q2 => by rw [← g903, va_up_ne _ _ (by omega)])
  have f909 := f885.cong (G := E902) (fun k q1 q2 => by rw [← g903, va_up_ne _ _ (by omega)])
  have f910 := f886.cong (G := E902) (fun k q1 q2 => by rw [← g903, va_up_ne _ _ (by omega)])
  have f911 := f887.cong (G := E902) (fun k q1 q2 => by rw [← g903, va_up_ne _ _ (by omega)])
  have f912 := f888.cong (G := E902) (fun k q1 q2 => by rw [← g903, va_up_ne _ _ (by omega)])
  have f913 := f889.cong (G := E902) (fun k q1 q2 => by rw [← g903, va_up_ne _ _ (by omega)])
  have f914 := f890.cong (G := E902) (fun k q1 q2 => by rw [← g903, va_up_ne _ _ (by omega)])
  have f915 := f891.cong (G := E902) (fun k q1 q2 => by rw [← g903, va_up_ne _ _ (by omega)])
  have f916 := f892.cong (G := E902) (fun k q1 q2 => by rw [← g903, va_up_ne _ _ (by omega)])
  have f917 : E902 38 = .inl (tc 5, 3, .inr (.inr (.inr (.inr (va_up (va_up (va_up (fun _ => none) 0 (some (ad 39))) 1 (some (ad 42))) 2 (some (ad 45))))))) := by rw [← g903, va_up_ne _ _ (by decide)]; exact f893
  have f918 := f894.cong (G := E902) (fun k q1 q2 => by rw [← g903, va_up_ne _ _ (by omega)])
  have f919 := f895.cong (G := E902) (fun k q1 q2 => by rw [← g903, va_up_ne _ _ (by omega)])
  have f920 := f896.cong (G := E902) (fun k q1 q2 => by rw [← g903, va_up_ne _ _ (by omega)])
  have f921 : E902 48 = .inl (tc 6, 2, .inr (.inr (.inr (.inr (va_up (va_up (fun _ => none) 0 (some (ad 49))) 1 (some (ad 51))))))) := by rw [← g903, va_up_ne _ _ (by decide)]; exact f897
  have f922 := f898.cong (G := E902) (fun k q1 q2 => by rw [← g903, va_up_ne _ _ (by omega)])
  have f923 := f899.cong (G := E902) (fun k q1 q2 => by rw [← g903, va_up_ne _ _ (by omega)])
  have f924 := f900.cong (G := E902) (fun k q1 q2 => by rw [← g903, va_up_ne _ _ (by omega)])
  have f925 := f901.cong (G := E902) (fun k q1 q2 => by rw [← g903, va_up_ne _ _ (by omega)])
  have f926 : E902 61 = .inr (3, [.null, .null, .null, .null]) := by rw [← g903]; exact va_up_self _ _ _
  clear f880 f881 f882 f883 f884 f885 f886 f887 f888 f889 f890 f891 f892 f893 f894 f895 f896 f897 f898 f899 f900 f901 g903
  have hD := hDD 62 (by decide) E902
  refine lv_dup hx hb dRW_init_153 rfl ?_
  refine x_n (b := 61) (fun hz => x_runIN (b := ad 61) (As := []) (rest := [.ref (ad 61), .ref (ad 0)]) X (c_BK_init l D tc (fun k => ad (61 + k)) (fun k => E902 (61 + k)) (f926)) rfl rfl (by decide) (by decide) w_114 w_7 w_112 w_113 rfl ry_BK_init (ctN_pre (b := 61) X rfl hP (fun j hj => hsq j (by omega)) hz) ctN_blind hl.1 (Nat.le_of_ble_eq_true rfl) dRW_init_154 ⟨by decide, by decide⟩) rfl hP hS (fun j hj => hsq j (by omega)) (fun n hn E' => hDD n (by omega) E') (fun E927 H locs q930 hP9 hS9 => ?_)
  clear hP hS hD
  have hP : va_P D vwCl (wW 66 ad (wU (1 + 4) (fun k => 61 + k) E902 E927)) H := hP9
  have hS := hS9
  clear hP9 hS9
  generalize g928 : wU (1 + 4) (fun k => 61 + k) E902 E927 = E929 at hP
  have f931 : E929 0 = .inr (6, [.ref (ad 1), .ref (ad 2), .ref (ad 38), .ref (ad 48), .ref (ad 53), .ref (ad 56), .null, .int 0, .int 0]) := by rw [← g928, wU_far (by omega)]; exact f904
  have f932 : E929 1 = .inl (tc 3, 5, .inr (.inr (.inr (.inr (va_up (va_up (va_up (va_up (va_up (fun _ => none) 0 (some (ad 3))) 1 (some (ad 10))) 2 (some (ad 17))) 3 (some (ad 24))) 4 (some (ad 31))))))) := by rw [← g928, wU_far (by omega)]; exact f905
  have f933 : E929 2 = .inl (tc 4, 5, .inr (.inr (.inr (.inr (va_up (va_up (va_up (va_up (va_up (fun _ => none) 0 (some (ad 7))) 1 (some (ad 14))) 2 (some (ad 21))) 3 (some (ad 28))) 4 (some (ad 35))))))) := by rw [← g928, wU_far (by omega)]; exact f906
  have f934 := f907.cong (G := E929) (fun k q1 q2 => by rw [← g928, wU_far (by omega)])
  have f935 := f908.cong (G := E929) (fun k q1 q2 => by rw [← g928, wU_far (by omega)])
  have f936 := f909.cong (G := E929) (fun k q1 q2 => by rw [← g928, wU_far (by omega)])
  have f937 := f910.cong (G := E929) (fun k q1 q2 => by rw [← g928, wU_far (by omega)])
  have f938 := f911.cong (G := E929) (fun k q1 q2 => by rw [← g928, wU_far (by omega)])
  have f939 := f912.cong (G := E929) (fun k q1 q2 => by rw [← g928, wU_far (by omega)])
  have f940 := f913.cong (G := E929) (fun k q1 q2 => by rw [← g928, wU_far (by omega)])
  have f941 := f914.cong (G := E929) (fun k q1 q2 => by rw [← g928, wU_far (by omega)])
  have f942 := f915.cong (G := E929) (fun k q1 q2 => by rw [← g928, wU_far (by omega)])
  have f943 := f916.cong (G := E929) (fun k q1 q2 => by rw [← g928, wU_far (by omega)])
  have f944 : E929 38 = .inl (tc 5, 3, .inr (.inr (.inr (.inr (va_up (va_up (va_up (fun _ => none) 0 (some (ad 39))) 1 (some (ad 42))) 2 (some (ad 45))))))) := by rw [← g928, wU_far (by omega)]; exact f917
  have f945 := f918.cong (G := E929) (fun k q1 q2 => by rw [← g928, wU_far (by omega)])
  have f946 := f919.cong (G := E929) (fun k q1 q2 => by rw [← g928, wU_far (by omega)])
  have f947 := f920.cong (G := E929) (fun k q1 q2 => by rw [← g928, wU_far (by omega)])
  have f948 : E929 48 = .inl (tc 6, 2, .inr (.inr (.inr (.inr (va_up (va_up (fun _ => none) 0 (some (ad 49))) 1 (some (ad 51))))))) := by rw [← g928, wU_far (by omega)]; exact f921
  have f949 := f922.cong (G := E929) (fun k q1 q2 => by rw [← g928, wU_far (by omega)])
  have f950 := f923.cong (G := E929) (fun k q1 q2 => by rw [← g928, wU_far (by omega)])
  have f951 := f924.cong (G := E929) (fun k q1 q2 => by rw [← g928, wU_far (by omega)])
  have f952 := f925.cong (G := E929) (fun k q1 q2 => by rw [← g928, wU_far (by omega)])
  have f953 : nonB tc ad E929 61 := q930.up (fun j hj => by rw [← g928]; exact wU_own j (by omega))
  clear f904 f905 f906 f907 f908 f909 f910 f911 f912 f913 f914 f915 f916 f917 f918 f919 f920 f921 f922 f923 f924 f925 f926 g928
  have hD := hDD 66 (by decide) E929
  refine p_RW_51 X hin hD hP hS (by omega) (f931) rfl rfl (Nat.le_of_ble_eq_true rfl) dRW_init_157 (fun H locs hD9 hP9 hS9 => ?_)
  clear hP hS hD
  have hP : va_P D vwCl (wW 66 ad (va_up E929 0 (.inr (6, [.ref (ad 1), .ref (ad 2), .ref (ad 38), .ref (ad 48), .ref (ad 53), .ref (ad 56), .ref (ad 61), .int 0, .int 0])))) H := hP9
  have hD : va_D (Aw (1 + 65) ad) (wW 66 ad (va_up E929 0 (.inr (6, [.ref (ad 1), .ref (ad 2), .ref (ad 38), .ref (ad 48), .ref (ad 53), .ref (ad 56), .ref (ad 61), .int 0, .int 0])))) := hD9
  have hS := hS9
  clear hP9 hS9 hD9
  generalize g955 : va_up E929 0 (.inr (6, [.ref (ad 1), .ref (ad 2), .ref (ad 38), .ref (ad 48), .ref (ad 53), .ref (ad 56), .ref (ad 61), .int 0, .int 0])) = E954 at hD hP
  have f956 : E954 0 = .inr (6, [.ref (ad 1), .ref (ad 2), .ref (ad 38), .ref (ad 48), .ref (ad 53), .ref (ad 56), .ref (ad 61), .int 0, .int 0]) := by rw [← g955]; exact va_up_self _ _ _
  have f957 : E954 1 = .inl (tc 3, 5, .inr (.inr (.inr (.inr (va_up (va_up (va_up (va_up (va_up (fun _ => none) 0 (some (ad 3))) 1 (some (ad 10))) 2 (some (ad 17))) 3 (some (ad 24))) 4 (some (ad 31))))))) := by rw [← g955, va_up_ne _ _ (by omega)]; exact f932
  have f958 : E954 2 = .inl (tc 4, 5, .inr (.inr (.inr (.inr (va_up (va_up (va_up (va_up (va_up (fun _ => none) 0 (some (ad 7))) 1 (some (ad 14))) 2 (some (ad 21))) 3 (some (ad 28))) 4 (some (ad 35))))))) := by rw [← g955, va_up_ne _ _ (by omega)]; exact f933
  have f959 := f934.cong (G := E954) (fun k q1 q2 => by rw [← g955, va_up_ne _ _ (by omega)])
  have f960 := f935.cong (G := E954) (fun k q1 q2 => by rw [← g955, va_up_ne _ _ (by omega)])
  have f961 := f936.cong (G := E954) (fun k q1 q2 => by rw [← g955, va_up_ne _ _ (by omega)])
  have f962 := f937.cong (G := E954) (fun k q1 q2 => by rw [← g955, va_up_ne _ _ (by omega)])
  have f963 := f938.cong (G := E954) (fun k q1 q2 => by rw [← g955, va_up_ne _ _ (by omega)])
  have f964 := f939.cong (G := E954) (fun k q1 q2 => by rw [← g955, va_up_ne _ _ (by omega)])
  have f965 := f940.cong (G := E954) (fun k q1 q2 => by rw [← g955, va_up_ne _ _ (by omega)])
  have f966 := f941.cong (G := E954) (fun k q1 q2 => by rw [← g955, va_up_ne _ _ (by omega)])
  have f967 := f942.cong (G := E954) (fun k q1 q2 => by rw [← g955, va_up_ne _ _ (by omega)])
  have f968 := f943.cong (G := E954) (fun k q1 q2 => by rw [← g955, va_up_ne _ _ (by omega)])
  have f969 : E954 38 = .inl (tc 5, 3, .inr (.inr (.inr (.inr (va_up (va_up (va_up (fun _ => none) 0 (some (ad 39))) 1 (some (ad 42))) 2 (some (ad 45))))))) := by rw [← g955, va_up_ne _ _ (by omega)]; exact f944
  have f970 := f945.cong (G := E954) (fun k q1 q2 => by rw [← g955, va_up_ne _ _ (by omega)])
  have f971 := f946.cong (G := E954) (fun k q1 q2 => by rw [← g955, va_up_ne _ _ (by omega)])
  have f972 := f947.cong (G := E954) (fun k q1 q2 => by rw [← g955, va_up_ne _ _ (by omega)])
  have f973 : E954 48 = .inl (tc 6, 2, .inr (.inr (.inr (.inr (va_up (va_up (fun _ => none) 0 (some (ad 49))) 1 (some (ad 51))))))) := by rw [← g955, va_up_ne _ _ (by omega)]; exact f948
  have f974 := f949.cong (G := E954) (fun k q1 q2 => by rw [← g955, va_up_ne _ _ (by omega)])
  have f975 := f950.cong (G := E954) (fun k q1 q2 => by rw [← g955, va_up_ne _ _ (by omega)])
  have f976 := f951.cong (G := E954) (fun k q1 q2 => by rw [← g955, va_up_ne _ _ (by omega)])
  have f977 := f952.cong (G := E954) (fun k q1 q2 => by rw [← g955, va_up_ne _ _ (by omega)])
  have f978 := f953.cong (G := E954) (fun k q1 q2 => by rw [← g955, va_up_ne _ _ (by omega)])
  clear f931 f932 f933 f934 f935 f936 f937 f938 f939 f940 f941 f942 f943 f944 f945 f946 f947 f948 f949 f950 f951 f952 f953 g955
  refine lv_aload_n hx hb dRW_init_160 rfl (lv_at hl 1 rfl) ?_
  refine lv_iconst (v := 0) hx hb dRW_init_161 (by decide) ?_
  refine p_RW_54 X hD hP hS (by omega) (f956) (by decide) rfl (Nat.le_of_ble_eq_true rfl) dRW_init_162 (fun H locs hD9 hP9 hS9 => ?_)
  clear hP hS hD
  have hP : va_P D vwCl (wW 66 ad (va_up E954 0 (.inr (6, [.ref (ad 1), .ref (ad 2), .ref (ad 38), .ref (ad 48), .ref (ad 53), .ref (ad 56), .ref (ad 61), .int 0, .int 0])))) H := hP9
  have hD : va_D (Aw (1 + 65) ad) (wW 66 ad (va_up E954 0 (.inr (6, [.ref (ad 1), .ref (ad 2), .ref (ad 38), .ref (ad 48), .ref (ad 53), .ref (ad 56), .ref (ad 61), .int 0, .int 0])))) := hD9
  have hS := hS9
  clear hP9 hS9 hD9
  generalize g980 : va_up E954 0 (.inr (6, [.ref (ad 1), .ref (ad 2), .ref (ad 38), .ref (ad 48), .ref (ad 53), .ref (ad 56), .ref (ad 61), .int 0, .int 0])) = E979 at hD hP
  have f981 : E979 0 = .inr (6, [.ref (ad 1), .ref (ad 2), .ref (ad 38), .ref (ad 48), .ref (ad 53), .ref (ad 56), .ref (ad 61), .int 0, .int 0]) := by rw [← g980]; exact va_up_self _ _ _
  have f982 : E979 1 = .inl (tc 3, 5, .inr (.inr (.inr (.inr (va_up (va_up (va_up (va_up (va_up (fun _ => none) 0 (some (ad 3))) 1 (some (ad 10))) 2 (some (ad 17))) 3 (some (ad 24))) 4 (some (ad 31))))))) := by rw [← g980, va_up_ne _ _ (by omega)]; exact f957
  have f983 : E979 2 = .inl (tc 4, 5, .inr (.inr (.inr (.inr (va_up (va_up (va_up (va_up (va_up (fun _ => none) 0 (some (ad 7))) 1 (some (ad 14))) 2 (some (ad 21))) 3 (some (ad 28))) 4 (some (ad 35))))))) := by rw [← g980, va_up_ne _ _ (by omega)]; exact f958
  have f984 := f959.cong (G := E979) (fun k q1 q2 => by rw [← g980, va_up_ne _ _ (by omega)])
  have f985 := f960.cong (G := E979) (fun k q1 q2 => by rw [← g980, va_up_ne _ _ (by omega)])
  have f986 := f961.cong (G := E979) (fun k q1 q2 => by rw [← g980, va_up_ne _ _ (by omega)])
  have f987 := f962.cong (G := E979) (fun k q1 q2 => by rw [← g980, va_up_ne _ _ (by omega)])
  have f988 := f963.cong (G := E979) (fun k q1 q2 => by rw [← g980, va_up_ne _ _ (by omega)])
  have f989 := f964.cong (G := E979) (fun k q1 q2 => by rw [← g980, va_up_ne _ _ (by omega)])
  have f990 := f965.cong (G := E979) (fun k q1 q2 => by rw [← g980, va_up_ne _ _ (by omega)])
  have f991 := f966.cong (G := E979) (fun k q1 q2 => by rw [← g980, va_up_ne _ _ (by omega)])
  have f992 := f967.cong (G := E979) (fun k q1 q2 => by rw [← g980, va_up_ne _ _ (by omega)])
  have f993 := f968.cong (G := E979) (fun k q1 q2 => by rw [← g980, va_up_ne _ _ (by omega)])
  have f994 : E979 38 = .inl (tc 5, 3, .inr (.inr (.inr (.inr (va_up (va_up (va_up (fun _ => none) 0 (some (ad 39))) 1 (some (ad 42))) 2 (some (ad 45))))))) := by rw [← g980, va_up_ne _ _ (by omega)]; exact f969
  have f995 := f970.cong (G := E979) (fun k q1 q2 => by rw [← g980, va_up_ne _ _ (by omega)])
  have f996 := f971.cong (G := E979) (fun k q1 q2 => by rw [← g980, va_up_ne _ _ (by omega)])
  have f997 := f972.cong (G := E979) (fun k q1 q2 => by rw [← g980, va_up_ne _ _ (by omega)])
  have f998 : E979 48 = .inl (tc 6, 2, .inr (.inr (.inr (.inr (va_up (va_up (fun _ => none) 0 (some (ad 49))) 1 (some (ad 51))))))) := by rw [← g980, va_up_ne _ _ (by omega)]; exact f973
  have f999 := f974.cong (G := E979) (fun k q1 q2 => by rw [← g980, va_up_ne _ _ (by omega)])
  have f1000 := f975.cong (G := E979) (fun k q1 q2 => by rw [← g980, va_up_ne _ _ (by omega)])
  have f1001 := f976.cong (G := E979) (fun k q1 q2 => by rw [← g980, va_up_ne _ _ (by omega)])
  have f1002 := f977.cong (G := E979) (fun k q1 q2 => by rw [← g980, va_up_ne _ _ (by omega)])
  have f1003 := f978.cong (G := E979) (fun k q1 q2 => by rw [← g980, va_up_ne _ _ (by omega)])
  clear f956 f957 f958 f959 f960 f961 f962 f963 f964 f965 f966 f967 f968 f969 f970 f971 f972 f973 f974 f975 f976 f977 f978 g980
  refine lv_aload_n hx hb dRW_init_165 rfl (lv_at hl 1 rfl) ?_
  refine lv_iconst (v := 0) hx hb dRW_init_166 (by decide) ?_
  refine p_RW_58 X hD hP hS (by omega) (f981) (by decide) rfl (Nat.le_of_ble_eq_true rfl) dRW_init_167 (fun H locs hD9 hP9 hS9 => ?_)
  clear hP hS hD
  have hP : va_P D vwCl (wW 66 ad (va_up E979 0 (.inr (6, [.ref (ad 1), .ref (ad 2), .ref (ad 38), .ref (ad 48), .ref (ad 53), .ref (ad 56), .ref (ad 61), .int 0, .int 0])))) H := hP9
  have hD : va_D (Aw (1 + 65) ad) (wW 66 ad (va_up E979 0 (.inr (6, [.ref (ad 1), .ref (ad 2), .ref (ad 38), .ref (ad 48), .ref (ad 53), .ref (ad 56), .ref (ad 61), .int 0, .int 0])))) := hD9
  have hS := hS9
  clear hP9 hS9 hD9
  generalize g1005 : va_up E979 0 (.inr (6, [.ref (ad 1), .ref (ad 2), .ref (ad 38), .ref (ad 48), .ref (ad 53), .ref (ad 56), .ref (ad 61), .int 0, .int 0])) = E1004 at hD hP
  have f1006 : E1004 0 = .inr (6, [.ref (ad 1), .ref (ad 2), .ref (ad 38), .ref (ad 48), .ref (ad 53), .ref (ad 56), .ref (ad 61), .int 0, .int 0]) := by rw [← g1005]; exact va_up_self _ _ _
  have f1007 : E1004 1 = .inl (tc 3, 5, .inr (.inr (.inr (.inr (va_up (va_up (va_up (va_up (va_up (fun _ => none) 0 (some (ad 3))) 1 (some (ad 10))) 2 (some (ad 17))) 3 (some (ad 24))) 4 (some (ad 31))))))) := by rw [← g1005, va_up_ne _ _ (by omega)]; exact f982
  have f1008 : E1004 2 = .inl (tc 4, 5, .inr (.inr (.inr (.inr (va_up (va_up (va_up (va_up (va_up (fun _ => none) 0 (some (ad 7))) 1 (some (ad 14))) 2 (some (ad 21))) 3 (some (ad 28))) 4 (some (ad 35))))))) := by rw [← g1005, va_up_ne _ _ (by omega)]; exact f983
  have f1009 := f984.cong (G := E1004) (fun k q1 q2 => by rw [← g1005, va_up_ne _ _ (by omega)])
  have f1010 := f985.cong (G := E1004) (fun k q1 q2 => by rw [← g1005, va_up_ne _ _ (by omega)])
  have f1011 := f986.cong (G := E1004) (fun k q1 q2 => by rw [← g1005, va_up_ne _ _ (by omega)])
  have f1012 := f987.cong (G := E1004) (fun k q1 q2 => by rw [← g1005, va_up_ne _ _ (by omega)])
  have f1013 := f988.cong (G := E1004) (fun k q1 q2 => by rw [← g1005, va_up_ne _ _ (by omega)])
  have f1014 := f989.cong (G := E1004) (fun k q1 q2 => by rw [← g1005, va_up_ne _ _ (by omega)])
  have f1015 := f990.cong (G := E1004) (fun k q1 q2 => by rw [← g1005, va_up_ne _ _ (by omega)])
  have f1016 := f991.cong (G := E1004) (fun k q1 q2 => by rw [← g1005, va_up_ne _ _ (by omega)])
  have f1017 := f992.cong (G := E1004) (fun k q1 q2 => by rw [← g1005, va_up_ne _ _ (by omega)])
  have f1018 := f993.cong (G := E1004) (fun k q1 q2 => by rw [← g1005, va_up_ne _ _ (by omega)])
  have f1019 : E1004 38 = .inl (tc 5, 3, .inr (.inr (.inr (.inr (va_up (va_up (va_up (fun _ => none) 0 (some (ad 39))) 1 (some (ad 42))) 2 (some (ad 45))))))) := by rw [← g1005, va_up_ne _ _ (by omega)]; exact f994
  have f1020 := f995.cong (G := E1004) (fun k q1 q2 => by rw [← g1005, va_up_ne _ _ (by omega)])
  have f1021 := f996.cong (G := E1004) (fun k q1 q2 => by rw [← g1005, va_up_ne _ _ (by omega)])
  have f1022 := f997.cong (G := E1004) (fun k q1 q2 => by rw [← g1005, va_up_ne _ _ (by omega)])
  have f1023 : E1004 48 = .inl (tc 6, 2, .inr (.inr (.inr (.inr (va_up (va_up (fun _ => none) 0 (some (ad 49))) 1 (some (ad 51))))))) := by rw [← g1005, va_up_ne _ _ (by omega)]; exact f998
  have f1024 := f999.cong (G := E1004) (fun k q1 q2 => by rw [← g1005, va_up_ne _ _ (by omega)])
  have f1025 := f1000.cong (G := E1004) (fun k q1 q2 => by rw [← g1005, va_up_ne _ _ (by omega)])
  have f1026 := f1001.cong (G := E1004) (fun k q1 q2 => by rw [← g1005, va_up_ne _ _ (by omega)])
  have f1027 := f1002.cong (G := E1004) (fun k q1 q2 => by rw [← g1005, va_up_ne _ _ (by omega)])
  have f1028 := f1003.cong (G := E1004) (fun k q1 q2 => by rw [← g1005, va_up_ne _ _ (by omega)])
  clear f981 f982 f983 f984 f985 f986 f987 f988 f989 f990 f991 f992 f993 f994 f995 f996 f997 f998 f999 f1000 f1001 f1002 f1003 g1005
  exact q_vretN X hlk hr hP hS dRW_init_170 (⟨⟨f1006, ⟨_, f1007, (by intro t ht; match t, ht with | 0, _ => exact rfl | 1, _ => exact rfl | 2, _ => exact rfl | 3, _ => exact rfl | 4, _ => exact rfl | (t + 5), h => exact absurd h (by omega))⟩, ⟨_, f1008, (by intro t ht; match t, ht with | 0, _ => exact rfl | 1, _ => exact rfl | 2, _ => exact rfl | 3, _ => exact rfl | 4, _ => exact rfl | (t + 5), h => exact absurd h (by omega))⟩, ⟨_, f1019, (by intro t ht; match t, ht with | 0, _ => exact rfl | 1, _ => exact rfl | 2, _ => exact rfl | (t + 3), h => exact absurd h (by omega))⟩, ⟨_, f1023, (by intro t ht; match t, ht with | 0, _ => exact rfl | 1, _ => exact rfl | (t + 2), h => exact absurd h (by omega))⟩⟩, (by intro t ht; match t, ht with | 0, _ => exact ⟨_, _, _, f1009⟩ | 1, _ => exact ⟨_, _, _, f1011⟩ | 2, _ => exact ⟨_, _, _, f1013⟩ | 3, _ => exact ⟨_, _, _, f1015⟩ | 4, _ => exact ⟨_, _, _, f1017⟩ | (t + 5), h => exact absurd h (by omega)), (by intro t ht; match t, ht with | 0, _ => exact f1010 | 1, _ => exact f1012 | 2, _ => exact f1014 | 3, _ => exact f1016 | 4, _ => exact f1018 | (t + 5), h => exact absurd h (by omega)), (by intro t ht; match t, ht with | 0, _ => exact f1020 | 1, _ => exact f1021 | 2, _ => exact f1022 | (t + 3), h => exact absurd h (by omega)), (by intro t ht; match t, ht with | 0, _ => exact f1024 | 1, _ => exact f1025 | (t + 2), h => exact absurd h (by omega)), ⟨_, _, f1026⟩, f1027, f1028⟩)
