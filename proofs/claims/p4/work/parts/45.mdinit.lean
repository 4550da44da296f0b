theorem dMD_init_0 : decode cMD_init 0 = .ok (.aload_n 0, 1) := by decide +kernel
theorem dMD_init_1 : decode cMD_init 1 = .ok (.invokespecial 1, 3) := by decide +kernel
theorem dMD_init_4 : decode cMD_init 4 = .ok (.aload_n 0, 1) := by decide +kernel
theorem dMD_init_5 : decode cMD_init 5 = .ok (.iconst 5, 1) := by decide +kernel
theorem dMD_init_6 : decode cMD_init 6 = .ok (.newarray .int, 2) := by decide +kernel
theorem dMD_init_8 : decode cMD_init 8 = .ok (.putfield 7, 3) := by decide +kernel
theorem dMD_init_11 : decode cMD_init 11 = .ok (.aload_n 0, 1) := by decide +kernel
theorem dMD_init_12 : decode cMD_init 12 = .ok (.bipush 60, 2) := by decide +kernel
theorem dMD_init_14 : decode cMD_init 14 = .ok (.newarray .int, 2) := by decide +kernel
theorem dMD_init_16 : decode cMD_init 16 = .ok (.putfield 13, 3) := by decide +kernel
theorem dMD_init_19 : decode cMD_init 19 = .ok (.aload_n 0, 1) := by decide +kernel
theorem dMD_init_20 : decode cMD_init 20 = .ok (.bipush 60, 2) := by decide +kernel
theorem dMD_init_22 : decode cMD_init 22 = .ok (.newarray .int, 2) := by decide +kernel
theorem dMD_init_24 : decode cMD_init 24 = .ok (.putfield 16, 3) := by decide +kernel
theorem dMD_init_27 : decode cMD_init 27 = .ok (.aload_n 0, 1) := by decide +kernel
theorem dMD_init_28 : decode cMD_init 28 = .ok (.bipush 60, 2) := by decide +kernel
theorem dMD_init_30 : decode cMD_init 30 = .ok (.newarray .int, 2) := by decide +kernel
theorem dMD_init_32 : decode cMD_init 32 = .ok (.putfield 19, 3) := by decide +kernel
theorem dMD_init_35 : decode cMD_init 35 = .ok (.aload_n 0, 1) := by decide +kernel
theorem dMD_init_36 : decode cMD_init 36 = .ok (.iconst 5, 1) := by decide +kernel
theorem dMD_init_37 : decode cMD_init 37 = .ok (.newarray .int, 2) := by decide +kernel
theorem dMD_init_39 : decode cMD_init 39 = .ok (.putfield 22, 3) := by decide +kernel
theorem dMD_init_42 : decode cMD_init 42 = .ok (.aload_n 0, 1) := by decide +kernel
theorem dMD_init_43 : decode cMD_init 43 = .ok (.iconst 5, 1) := by decide +kernel
theorem dMD_init_44 : decode cMD_init 44 = .ok (.newarray .int, 2) := by decide +kernel
theorem dMD_init_46 : decode cMD_init 46 = .ok (.putfield 25, 3) := by decide +kernel
theorem dMD_init_49 : decode cMD_init 49 = .ok (.aload_n 0, 1) := by decide +kernel
theorem dMD_init_50 : decode cMD_init 50 = .ok (.iconst 5, 1) := by decide +kernel
theorem dMD_init_51 : decode cMD_init 51 = .ok (.newarray .int, 2) := by decide +kernel
theorem dMD_init_53 : decode cMD_init 53 = .ok (.putfield 28, 3) := by decide +kernel
theorem dMD_init_56 : decode cMD_init 56 = .ok (.aload_n 0, 1) := by decide +kernel
theorem dMD_init_57 : decode cMD_init 57 = .ok (.iconst 3, 1) := by decide +kernel
theorem dMD_init_58 : decode cMD_init 58 = .ok (.newarray .int, 2) := by decide +kernel
theorem dMD_init_60 : decode cMD_init 60 = .ok (.dup, 1) := by decide +kernel
theorem dMD_init_61 : decode cMD_init 61 = .ok (.iconst 0, 1) := by decide +kernel
theorem dMD_init_62 : decode cMD_init 62 = .ok (.iconst (-1), 1) := by decide +kernel
theorem dMD_init_63 : decode cMD_init 63 = .ok (.iastore, 1) := by decide +kernel
theorem dMD_init_64 : decode cMD_init 64 = .ok (.dup, 1) := by decide +kernel
theorem dMD_init_65 : decode cMD_init 65 = .ok (.iconst 1, 1) := by decide +kernel
theorem dMD_init_66 : decode cMD_init 66 = .ok (.iconst (-1), 1) := by decide +kernel
theorem dMD_init_67 : decode cMD_init 67 = .ok (.iastore, 1) := by decide +kernel
theorem dMD_init_68 : decode cMD_init 68 = .ok (.dup, 1) := by decide +kernel
theorem dMD_init_69 : decode cMD_init 69 = .ok (.iconst 2, 1) := by decide +kernel
theorem dMD_init_70 : decode cMD_init 70 = .ok (.iconst (-1), 1) := by decide +kernel
theorem dMD_init_71 : decode cMD_init 71 = .ok (.iastore, 1) := by decide +kernel
theorem dMD_init_72 : decode cMD_init 72 = .ok (.putfield 31, 3) := by decide +kernel
theorem dMD_init_75 : decode cMD_init 75 = .ok (.aload_n 0, 1) := by decide +kernel
theorem dMD_init_76 : decode cMD_init 76 = .ok (.iconst 3, 1) := by decide +kernel
theorem dMD_init_77 : decode cMD_init 77 = .ok (.newarray .int, 2) := by decide +kernel
theorem dMD_init_79 : decode cMD_init 79 = .ok (.putfield 34, 3) := by decide +kernel
theorem dMD_init_82 : decode cMD_init 82 = .ok (.aload_n 0, 1) := by decide +kernel
theorem dMD_init_83 : decode cMD_init 83 = .ok (.sipush 200, 3) := by decide +kernel
theorem dMD_init_86 : decode cMD_init 86 = .ok (.newarray .int, 2) := by decide +kernel
theorem dMD_init_88 : decode cMD_init 88 = .ok (.putfield 37, 3) := by decide +kernel
theorem dMD_init_91 : decode cMD_init 91 = .ok (.aload_n 0, 1) := by decide +kernel
theorem dMD_init_92 : decode cMD_init 92 = .ok (.sipush 200, 3) := by decide +kernel
theorem dMD_init_95 : decode cMD_init 95 = .ok (.newarray .int, 2) := by decide +kernel
theorem dMD_init_97 : decode cMD_init 97 = .ok (.putfield 40, 3) := by decide +kernel
theorem dMD_init_100 : decode cMD_init 100 = .ok (.aload_n 0, 1) := by decide +kernel
theorem dMD_init_101 : decode cMD_init 101 = .ok (.sipush 200, 3) := by decide +kernel
theorem dMD_init_104 : decode cMD_init 104 = .ok (.newarray .int, 2) := by decide +kernel
theorem dMD_init_106 : decode cMD_init 106 = .ok (.putfield 43, 3) := by decide +kernel
theorem dMD_init_109 : decode cMD_init 109 = .ok (.aload_n 0, 1) := by decide +kernel
theorem dMD_init_110 : decode cMD_init 110 = .ok (.sipush 200, 3) := by decide +kernel
theorem dMD_init_113 : decode cMD_init 113 = .ok (.newarray .boolean, 2) := by decide +kernel
theorem dMD_init_115 : decode cMD_init 115 = .ok (.putfield 46, 3) := by decide +kernel
theorem dMD_init_118 : decode cMD_init 118 = .ok (.aload_n 0, 1) := by decide +kernel
theorem dMD_init_119 : decode cMD_init 119 = .ok (.sipush 800, 3) := by decide +kernel
theorem dMD_init_122 : decode cMD_init 122 = .ok (.newarray .long, 2) := by decide +kernel
theorem dMD_init_124 : decode cMD_init 124 = .ok (.putfield 50, 3) := by decide +kernel
theorem dMD_init_127 : decode cMD_init 127 = .ok (.aload_n 0, 1) := by decide +kernel
theorem dMD_init_128 : decode cMD_init 128 = .ok (.bipush 8, 2) := by decide +kernel
theorem dMD_init_130 : decode cMD_init 130 = .ok (.newarray .int, 2) := by decide +kernel
theorem dMD_init_132 : decode cMD_init 132 = .ok (.putfield 54, 3) := by decide +kernel
theorem dMD_init_135 : decode cMD_init 135 = .ok (.aload_n 0, 1) := by decide +kernel
theorem dMD_init_136 : decode cMD_init 136 = .ok (.bipush 8, 2) := by decide +kernel
theorem dMD_init_138 : decode cMD_init 138 = .ok (.newarray .int, 2) := by decide +kernel
theorem dMD_init_140 : decode cMD_init 140 = .ok (.putfield 57, 3) := by decide +kernel
theorem dMD_init_143 : decode cMD_init 143 = .ok (.aload_n 0, 1) := by decide +kernel
theorem dMD_init_144 : decode cMD_init 144 = .ok (.invokevirtual 60, 3) := by decide +kernel
theorem dMD_init_147 : decode cMD_init 147 = .ok (.return_, 1) := by decide +kernel
set_option maxHeartbeats 4000000 in
set_option maxRecDepth 100000 in
theorem c_MD_init (l : Launch) (D : va_G) (tc : Nat → ClassId) (ad : Nat → Nat) (E : Nat → va_E)  (h0 : E 0 = .inr (7, [.int 0, .int 0, .int 0, .null, .null, .null, .null, .null, .null, .null, .null, .null, .int 0, .null, .null, .null, .null, .null, .null, .null])) : CtN l D tc yMD_init 1 16 1822 ad E [.ref (ad 0)] (fun E2 => MDf tc ad E2 0) := by
  refine CtN.ofW (cc := cMD_init) (maxL := 1) (ret := none) (own := R_MD) (by decide) rfl rfl w_493 (Nat.le_of_ble_eq_true rfl) ?_
  intro p e s m args below meth c ls X hlk hr hin hsq hDD hP hS hl
  have hx := X.1
  have hb := X.2.1
  have hD := hDD 1 (by decide) E
  have hl : lv_has ls 1 [(0, .ref (ad 0))] := hl
  refine lv_aload_n hx hb dMD_init_0 rfl (lv_at hl 0 rfl) ?_
  refine W.objInit hx hb X.2.2.2.1 (X.2.2.2.2.1 _ w_494) (X.2.2.2.2.1 _ w_26) (X.2.2.2.2.1 _ w_27) rfl (by rw [X.2.2.1]; exact hl.1) rfl dMD_init_1 (Nat.le_of_ble_eq_true rfl) (Nat.le_of_ble_eq_true rfl) ?_
  refine W.eq (g2 := F0 m 4 ls []) rfl ?_
  refine lv_aload_n hx hb dMD_init_4 rfl (lv_at hl 0 rfl) ?_
  refine lv_iconst (v := 5) hx hb dMD_init_5 (by decide) ?_
  refine q_newI 5 X w_49 hP hS (fun j hj => hsq j (by omega)) ⟨1, by decide, rfl⟩ rfl (by decide) (by decide) (by decide) dMD_init_6 (fun H hP9 hS9 => ?_)
  clear hP hS hD
  have hP : va_P D vwCl (wW 2 ad (va_up E 1 (.inl (tc 0, 5, .inl (fun _ => 0))))) H := hP9
  have hS := hS9
  clear hP9 hS9
  generalize g2 : va_up E 1 (.inl (tc 0, 5, .inl (fun _ => 0))) = E1 at hP
  have f3 : E1 0 = .inr (7, [.int 0, .int 0, .int 0, .null, .null, .null, .null, .null, .null, .null, .null, .null, .int 0, .null, .null, .null, .null, .null, .null, .null]) := by rw [← g2, va_up_ne _ _ (by decide)]; exact h0
  have f4 : E1 1 = .inl (tc 0, 5, .inl (fun _ => 0)) := by rw [← g2]; exact va_up_self _ _ _
  clear g2
  have hD := hDD 2 (by decide) E1
  refine p_MD_7 X hin hD hP hS (by omega) (f3) rfl rfl (Nat.le_of_ble_eq_true rfl) dMD_init_8 (fun H locs hD9 hP9 hS9 => ?_)
  clear hP hS hD
  have hP : va_P D vwCl (wW 2 ad (va_up E1 0 (.inr (7, [.int 0, .int 0, .int 0, .ref (ad 1), .null, .null, .null, .null, .null, .null, .null, .null, .int 0, .null, .null, .null, .null, .null, .null, .null])))) H := hP9
  have hD : va_D (Aw (1 + 16) ad) (wW 2 ad (va_up E1 0 (.inr (7, [.int 0, .int 0, .int 0, .ref (ad 1), .null, .null, .null, .null, .null, .null, .null, .null, .int 0, .null, .null, .null, .null, .null, .null, .null])))) := hD9
  have hS := hS9
  clear hP9 hS9 hD9
  generalize g6 : va_up E1 0 (.inr (7, [.int 0, .int 0, .int 0, .ref (ad 1), .null, .null, .null, .null, .null, .null, .null, .null, .int 0, .null, .null, .null, .null, .null, .null, .null])) = E5 at hD hP
  have f7 : E5 0 = .inr (7, [.int 0, .int 0, .int 0, .ref (ad 1), .null, .null, .null, .null, .null, .null, .null, .null, .int 0, .null, .null, .null, .null, .null, .null, .null]) := by rw [← g6]; exact va_up_self _ _ _
  have f8 : E5 1 = .inl (tc 0, 5, .inl (fun _ => 0)) := by rw [← g6, va_up_ne _ _ (by omega)]; exact f4
  clear f3 f4 g6
  refine lv_aload_n hx hb dMD_init_11 rfl (lv_at hl 0 rfl) ?_
  refine lv_bipush (v := 60) hx hb dMD_init_12 (by decide) ?_
  refine q_newI 60 X w_49 hP hS (fun j hj => hsq j (by omega)) ⟨2, by decide, rfl⟩ rfl (by decide) (by decide) (by decide) dMD_init_14 (fun H hP9 hS9 => ?_)
  clear hP hS hD
  have hP : va_P D vwCl (wW 3 ad (va_up E5 2 (.inl (tc 0, 60, .inl (fun _ => 0))))) H := hP9
  have hS := hS9
  clear hP9 hS9
  generalize g10 : va_up E5 2 (.inl (tc 0, 60, .inl (fun _ => 0))) = E9 at hP
  have f11 : E9 0 = .inr (7, [.int 0, .int 0, .int 0, .ref (ad 1), .null, .null, .null, .null, .null, .null, .null, .null, .int 0, .null, .null, .null, .null, .null, .null, .null]) := by rw [← g10, va_up_ne _ _ (by decide)]; exact f7
  have f12 : E9 1 = .inl (tc 0, 5, .inl (fun _ => 0)) := by rw [← g10, va_up_ne _ _ (by decide)]; exact f8
  have f13 : E9 2 = .inl (tc 0, 60, .inl (fun _ => 0)) := by rw [← g10]; exact va_up_self _ _ _
  clear f7 f8 g10
  have hD := hDD 3 (by decide) E9
  refine p_MD_13 X hin hD hP hS (by omega) (f11) rfl rfl (Nat.le_of_ble_eq_true rfl) dMD_init_16 (fun H locs hD9 hP9 hS9 => ?_)
  clear hP hS hD
  have hP : va_P D vwCl (wW 3 ad (va_up E9 0 (.inr (7, [.int 0, .int 0, .int 0, .ref (ad 1), .ref (ad 2), .null, .null, .null, .null, .null, .null, .null, .int 0, .null, .null, .null, .null, .null, .null, .null])))) H := hP9
  have hD : va_D (Aw (1 + 16) ad) (wW 3 ad (va_up E9 0 (.inr (7, [.int 0, .int 0, .int 0, .ref (ad 1), .ref (ad 2), .null, .null, .null, .null, .null, .null, .null, .int 0, .null, .null, .null, .null, .null, .null, .null])))) := hD9
  have hS := hS9
  clear hP9 hS9 hD9
  generalize g15 : va_up E9 0 (.inr (7, [.int 0, .int 0, .int 0, .ref (ad 1), .ref (ad 2), .null, .null, .null, .null, .null, .null, .null, .int 0, .null, .null, .null, .null, .null, .null, .null])) = E14 at hD hP
  have f16 : E14 0 = .inr (7, [.int 0, .int 0, .int 0, .ref (ad 1), .ref (ad 2), .null, .null, .null, .null, .null, .null, .null, .int 0, .null, .null, .null, .null, .null, .null, .null]) := by rw [← g15]; exact va_up_self _ _ _
  have f17 : E14 1 = .inl (tc 0, 5, .inl (fun _ => 0)) := by rw [← g15, va_up_ne _ _ (by omega)]; exact f12
  have f18 : E14 2 = .inl (tc 0, 60, .inl (fun _ => 0)) := by rw [← g15, va_up_ne _ _ (by omega)]; exact f13
  clear f11 f12 f13 g15
  refine lv_aload_n hx hb dMD_init_19 rfl (lv_at hl 0 rfl) ?_
  refine lv_bipush (v := 60) hx hb dMD_init_20 (by decide) ?_
  refine q_newI 60 X w_49 hP hS (fun j hj => hsq j (by omega)) ⟨3, by decide, rfl⟩ rfl (by decide) (by decide) (by decide) dMD_init_22 (fun H hP9 hS9 => ?_)
  clear hP hS hD
  have hP : va_P D vwCl (wW 4 ad (va_up E14 3 (.inl (tc 0, 60, .inl (fun _ => 0))))) H := hP9
  have hS := hS9
  clear hP9 hS9
  generalize g20 : va_up E14 3 (.inl (tc 0, 60, .inl (fun _ => 0))) = E19 at hP
  have f21 : E19 0 = .inr (7, [.int 0, .int 0, .int 0, .ref (ad 1), .ref (ad 2), .null, .null, .null, .null, .null, .null, .null, .int 0, .null, .null, .null, .null, .null, .null, .null]) := by rw [← g20, va_up_ne _ _ (by decide)]; exact f16
  have f22 : E19 1 = .inl (tc 0, 5, .inl (fun _ => 0)) := by rw [← g20, va_up_ne _ _ (by decide)]; exact f17
  have f23 : E19 2 = .inl (tc 0, 60, .inl (fun _ => 0)) := by rw [← g20, va_up_ne _ _ (by decide)]; exact f18
  have f24 : E19 3 = .inl (tc 0, 60, .inl (fun _ => 0)) := by rw [← g20]; exact va_up_self _ _ _
  clear f16 f17 f18 g20
  have hD := hDD 4 (by decide) E19
  refine p_MD_16 X hin hD hP hS (by omega) (f21) rfl rfl (Nat.le_of_ble_eq_true rfl) dMD_init_24 (fun H locs hD9 hP9 hS9 => ?_)
  clear hP hS hD
  have hP : va_P D vwCl (wW 4 ad (va_up E19 0 (.inr (7, [.int 0, .int 0, .int 0, .ref (ad 1), .ref (ad 2), .ref (ad 3), .null, .null, .null, .null, .null, .null, .int 0, .null, .null, .null, .null, .null, .null, .null])))) H := hP9
  have hD : va_D (Aw (1 + 16) ad) (wW 4 ad (va_up E19 0 (.inr (7, [.int 0, .int 0, .int 0, .ref (ad 1), .ref (ad 2), .ref (ad 3), .null, .null, .null, .null, .null, .null, .int 0, .null, .null, .null, .null, .null, .null, .null])))) := hD9
  have hS := hS9
  clear hP9 hS9 hD9
  generalize g26 : va_up E19 0 (.inr (7, [.int 0, .int 0, .int 0, .ref (ad 1), .ref (ad 2), .ref (ad 3), .null, .null, .null, .null, .null, .null, .int 0, .null, .null, .null, .null, .null, .null, .null])) = E25 at hD hP
  have f27 : E25 0 = .inr (7, [.int 0, .int 0, .int 0, .ref (ad 1), .ref (ad 2), .ref (ad 3), .null, .null, .null, .null, .null, .null, .int 0, .null, .null, .null, .null, .null, .null, .null]) := by rw [← g26]; exact va_up_self _ _ _
  have f28 : E25 1 = .inl (tc 0, 5, .inl (fun _ => 0)) := by rw [← g26, va_up_ne _ _ (by omega)]; exact f22
  have f29 : E25 2 = .inl (tc 0, 60, .inl (fun _ => 0)) := by rw [← g26, va_up_ne _ _ (by omega)]; exact f23
  have f30 : E25 3 = .inl (tc 0, 60, .inl (fun _ => 0)) := by rw [← g26, va_up_ne _ _ (by omega)]; exact f24
  clear f21 f22 f23 f24 g26
  refine lv_aload_n hx hb dMD_init_27 rfl (lv_at hl 0 rfl) ?_
  refine lv_bipush (v := 60) hx hb dMD_init_28 (by decide) ?_
  refine q_newI 60 X w_49 hP hS (fun j hj => hsq j (by omega)) ⟨4, by decide, rfl⟩ rfl (by decide) (by decide) (by decide) dMD_init_30 (fun H hP9 hS9 => ?_)
  clear hP hS hD
  have hP : va_P D vwCl (wW 5 ad (va_up E25 4 (.inl (tc 0, 60, .inl (fun _ => 0))))) H := hP9
  have hS := hS9
  clear hP9 hS9
  generalize g32 : va_up E25 4 (.inl (tc 0, 60, .inl (fun _ => 0))) = E31 at hP
  have f33 : E31 0 = .inr (7, [.int 0, .int 0, .int 0, .ref (ad 1), .ref (ad 2), .ref (ad 3), .null, .null, .null, .null, .null, .null, .int 0, .null, .null, .null, .null, .null, .null, .null]) := by rw [← g32, va_up_ne _ _ (by decide)]; exact f27
  have f34 : E31 1 = .inl (tc 0, 5, .inl (fun _ => 0)) := by rw [← g32, va_up_ne _ _ (by decide)]; exact f28
  have f35 : E31 2 = .inl (tc 0, 60, .inl (fun _ => 0)) := by rw [← g32, va_up_ne _ _ (by decide)]; exact f29
  have f36 : E31 3 = .inl (tc 0, 60, .inl (fun _ => 0)) := by rw [← g32, va_up_ne _ _ (by decide)]; exact f30
  have f37 : E31 4 = .inl (tc 0, 60, .inl (fun _ => 0)) := by rw [← g32]; exact va_up_self _ _ _
  clear f27 f28 f29 f30 g32
  have hD := hDD 5 (by decide) E31
  refine p_MD_19 X hin hD hP hS (by omega) (f33) rfl rfl (Nat.le_of_ble_eq_true rfl) dMD_init_32 (fun H locs hD9 hP9 hS9 => ?_)
  clear hP hS hD
  have hP : va_P D vwCl (wW 5 ad (va_up E31 0 (.inr (7, [.int 0, .int 0, .int 0, .ref (ad 1), .ref (ad 2), .ref (ad 3), .ref (ad 4), .null, .null, .null, .null, .null, .int 0, .null, .null, .null, .null, .null, .null, .null])))) H := hP9
  have hD : va_D (Aw (1 + 16) ad) (wW 5 ad (va_up E31 0 (.inr (7, [.int 0, .int 0, .int 0, .ref (ad 1), .ref (ad 2), .ref (ad 3), .ref (ad 4), .null, .null, .null, .null, .null, .int 0, .null, .null, .null, .null, .null, .null, .null])))) := hD9
  have hS := hS9
  clear hP9 hS9 hD9
  generalize g39 : va_up E31 0 (.inr (7, [.int 0, .int 0, .int 0, .ref (ad 1), .ref (ad 2), .ref (ad 3), .ref (ad 4), .null, .null, .null, .null, .null, .int 0, .null, .null, .null, .null, .null, .null, .null])) = E38 at hD hP
  have f40 : E38 0 = .inr (7, [.int 0, .int 0, .int 0, .ref (ad 1), .ref (ad 2), .ref (ad 3), .ref (ad 4), .null, .null, .null, .null, .null, .int 0, .null, .null, .null, .null, .null, .null, .null]) := by rw [← g39]; exact va_up_self _ _ _
  have f41 : E38 1 = .inl (tc 0, 5, .inl (fun _ => 0)) := by rw [← g39, va_up_ne _ _ (by omega)]; exact f34
  have f42 : E38 2 = .inl (tc 0, 60, .inl (fun _ => 0)) := by rw [← g39, va_up_ne _ _ (by omega)]; exact f35
  have f43 : E38 3 = .inl (tc 0, 60, .inl (fun _ => 0)) := by rw [← g39, va_up_ne _ _ (by omega)]; exact f36
  have f44 : E38 4 = .inl (tc 0, 60, .inl (fun _ => 0)) := by rw [← g39, va_up_ne _ _ (by omega)]; exact f37
  clear f33 f34 f35 f36 f37 g39
  refine lv_aload_n hx hb dMD_init_35 rfl (lv_at hl 0 rfl) ?_
  refine lv_iconst (v := 5) hx hb dMD_init_36 (by decide) ?_
  refine q_newI 5 X w_49 hP hS (fun j hj => hsq j (by omega)) ⟨5, by decide, rfl⟩ rfl (by decide) (by decide) (by decide) dMD_init_37 (fun H hP9 hS9 => ?_)
  clear hP hS hD
  have hP : va_P D vwCl (wW 6 ad (va_up E38 5 (.inl (tc 0, 5, .inl (fun _ => 0))))) H := hP9
  have hS := hS9
  clear hP9 hS9
  generalize g46 : va_up E38 5 (.inl (tc 0, 5, .inl (fun _ => 0))) = E45 at hP
  have f47 : E45 0 = .inr (7, [.int 0, .int 0, .int 0, .ref (ad 1), .ref (ad 2), .ref (ad 3), .ref (ad 4), .null, .null, .null, .null, .null, .int 0, .null, .null, .null, .null, .null, .null, .null]) := by rw [← g46, va_up_ne _ _ (by decide)]; exact f40
  have f48 : E45 1 = .inl (tc 0, 5, .inl (fun _ => 0)) := by rw [← g46, va_up_ne _ _ (by decide)]; exact f41
  have f49 : E45 2 = .inl (tc 0, 60, .inl (fun _ => 0)) := by rw [← g46, va_up_ne _ _ (by decide)]; exact f42
  have f50 : E45 3 = .inl (tc 0, 60, .inl (fun _ => 0)) := by rw [← g46, va_up_ne _ _ (by decide)]; exact f43
  have f51 : E45 4 = .inl (tc 0, 60, .inl (fun _ => 0)) := by rw [← g46, va_up_ne _ _ (by decide)]; exact f44
  have f52 : E45 5 = .inl (tc 0, 5, .inl (fun _ => 0)) := by rw [← g46]; exact va_up_self _ _ _
  clear f40 f41 f42 f43 f44 g46
  have hD := hDD 6 (by decide) E45
  refine p_MD_22 X hin hD hP hS (by omega) (f47) rfl rfl (Nat.le_of_ble_eq_true rfl) dMD_init_39 (fun H locs hD9 hP9 hS9 => ?_)
  clear hP hS hD
  have hP : va_P D vwCl (wW 6 ad (va_up E45 0 (.inr (7, [.int 0, .int 0, .int 0, .ref (ad 1), .ref (ad 2), .ref (ad 3), .ref (ad 4), .ref (ad 5), .null, .null, .null, .null, .int 0, .null, .null, .null, .null, .null, .null, .null])))) H := hP9
  have hD : va_D (Aw (1 + 16) ad) (wW 6 ad (va_up E45 0 (.inr (7, [.int 0, .int 0, .int 0, .ref (ad 1), .ref (ad 2), .ref (ad 3), .ref (ad 4), .ref (ad 5), .null, .null, .null, .null, .int 0, .null, .null, .null, .null, .null, .null, .null])))) := hD9
  have hS := hS9
  clear hP9 hS9 hD9
  generalize g54 : va_up E45 0 (.inr (7, [.int 0, .int 0, .int 0, .ref (ad 1), .ref (ad 2), .ref (ad 3), .ref (ad 4), .ref (ad 5), .null, .null, .null, .null, .int 0, .null, .null, .null, .null, .null, .null, .null])) = E53 at hD hP
  have f55 : E53 0 = .inr (7, [.int 0, .int 0, .int 0, .ref (ad 1), .ref (ad 2), .ref (ad 3), .ref (ad 4), .ref (ad 5), .null, .null, .null, .null, .int 0, .null, .null, .null, .null, .null, .null, .null]) := by rw [← g54]; exact va_up_self _ _ _
  have f56 : E53 1 = .inl (tc 0, 5, .inl (fun _ => 0)) := by rw [← g54, va_up_ne _ _ (by omega)]; exact f48
  have f57 : E53 2 = .inl (tc 0, 60, .inl (fun _ => 0)) := by rw [← g54, va_up_ne _ _ (by omega)]; exact f49
  have f58 : E53 3 = .inl (tc 0, 60, .inl (fun _ => 0)) := by rw [← g54, va_up_ne _ _ (by omega)]; exact f50
  have f59 : E53 4 = .inl (tc 0, 60, .inl (fun _ => 0)) := by rw [← g54, va_up_ne _ _ (by omega)]; exact f51
  have f60 : E53 5 = .inl (tc 0, 5, .inl (fun _ => 0)) := by rw [← g54, va_up_ne _ _ (by omega)]; exact f52
  clear f47 f48 f49 f50 f51 f52 g54
  refine lv_aload_n hx hb dMD_init_42 rfl (lv_at hl 0 rfl) ?_
  refine lv_iconst (v := 5) hx hb dMD_init_43 (by decide) ?_
  refine q_newI 5 X w_49 hP hS (fun j hj => hsq j (by omega)) ⟨6, by decide, rfl⟩ rfl (by decide) (by decide) (by decide) dMD_init_44 (fun H hP9 hS9 => ?_)
  clear hP hS hD
  have hP : va_P D vwCl (wW 7 ad (va_up E53 6 (.inl (tc 0, 5, .inl (fun _ => 0))))) H := hP9
  have hS := hS9
  clear hP9 hS9
  generalize g62 : va_up E53 6 (.inl (tc 0, 5, .inl (fun _ => 0))) = E61 at hP
  have f63 : E61 0 = .inr (7, [.int 0, .int 0, .int 0, .ref (ad 1), .ref (ad 2), .ref (ad 3), .ref (ad 4), .ref (ad 5), .null, .null, .null, .null, .int 0, .null, .null, .null, .null, .null, .null, .null]) := by rw [← g62, va_up_ne _ _ (by decide)]; exact f55
  have f64 : E61 1 = .inl (tc 0, 5, .inl (fun _ => 0)) := by rw [← g62, va_up_ne _ _ (by decide)]; exact f56
  have f65 : E61 2 = .inl (tc 0, 60, .inl (fun _ => 0)) := by rw [← g62, va_up_ne _ _ (by decide)]; exact f57
  have f66 : E61 3 = .inl (tc 0, 60, .inl (fun _ => 0)) := by rw [← g62, va_up_ne _ _ (by decide)]; exact f58
  have f67 : E61 4 = .inl (tc 0, 60, .inl (fun _ => 0)) := by rw [← g62, va_up_ne _ _ (by decide)]; exact f59
  have f68 : E61 5 = .inl (tc 0, 5, .inl (fun _ => 0)) := by rw [← g62, va_up_ne _ _ (by decide)]; exact f60
  have f69 : E61 6 = .inl (tc 0, 5, .inl (fun _ => 0)) := by rw [← g62]; exact va_up_self _ _ _
  clear f55 f56 f57 f58 f59 f60 g62
  have hD := hDD 7 (by decide) E61
  refine p_MD_25 X hin hD hP hS (by omega) (f63) rfl rfl (Nat.le_of_ble_eq_true rfl) dMD_init_46 (fun H locs hD9 hP9 hS9 => ?_)
  clear hP hS hD
  have hP : va_P D vwCl (wW 7 ad (va_up E61 0 (.inr (7, [.int 0, .int 0, .int 0, .ref (ad 1), .ref (ad 2), .ref (ad 3), .ref (ad 4), .ref (ad 5), .ref (ad 6), .null, .null, .null, .int 0, .null, .null, .null, .null, .null, .null, .null])))) H := hP9
  have hD : va_D (Aw (1 + 16) ad) (wW 7 ad (va_up E61 0 (.inr (7, [.int 0, .int 0, .int 0, .ref (ad 1), .ref (ad 2), .ref (ad 3), .ref (ad 4), .ref (ad 5), .ref (ad 6), .null, .null, .null, .int 0, .null, .null, .null, .null, .null, .null, .null])))) := hD9
  have hS := hS9
  clear hP9 hS9 hD9
  generalize g71 : va_up E61 0 (.inr (7, [.int 0, .int 0, .int 0, .ref (ad 1), .ref (ad 2), .ref (ad 3), .ref (ad 4), .ref (ad 5), .ref (ad 6), .null, .null, .null, .int 0, .null, .null, .null, .null, .null, .null, .null])) = E70 at hD hP
  have f72 : E70 0 = .inr (7, [.int 0, .int 0, .int 0, .ref (ad 1), .ref (ad 2), .ref (ad 3), .ref (ad 4), .ref (ad 5), .ref (ad 6), .null, .null, .null, .int 0, .null, .null, .null, .null, .null, .null, .null]) := by rw [← g71]; exact va_up_self _ _ _
  have f73 : E70 1 = .inl (tc 0, 5, .inl (fun _ => 0)) := by rw [← g71, va_up_ne _ _ (by omega)]; exact f64
  have f74 : E70 2 = .inl (tc 0, 60, .inl (fun _ => 0)) := by rw [← g71, va_up_ne _ _ (by omega)]; exact f65
  have f75 : E70 3 = .inl (tc 0, 60, .inl (fun _ => 0)) := by rw [← g71, va_up_ne _ _ (by omega)]; exact f66
  have f76 : E70 4 = .inl (tc 0, 60, .inl (fun _ => 0)) := by rw [← g71, va_up_ne _ _ (by omega)]; exact f67
  have f77 : E70 5 = .inl (tc 0, 5, .inl (fun _ => 0)) := by rw [← g71, va_up_ne _ _ (by omega)]; exact f68
  have f78 : E70 6 = .inl (tc 0, 5, .inl (fun _ => 0)) := by rw [← g71, va_up_ne _ _ (by omega)]; exact f69
  clear f63 f64 f65 f66 f67 f68 f69 g71
  refine lv_aload_n hx hb dMD_init_49 rfl (lv_at hl 0 rfl) ?_
  refine lv_iconst (v := 5) hx hb dMD_init_50 (by decide) ?_
  refine q_newI 5 X w_49 hP hS (fun j hj => hsq j (by omega)) ⟨7, by decide, rfl⟩ rfl (by decide) (by decide) (by decide) dMD_init_51 (fun H hP9 hS9 => ?_)
  clear hP hS hD
  have hP : va_P D vwCl (wW 8 ad (va_up E70 7 (.inl (tc 0, 5, .inl (fun _ => 0))))) H := hP9
  have hS := hS9
  clear hP9 hS9
  generalize g80 : va_up E70 7 (.inl (tc 0, 5, .inl (fun _ => 0))) = E79 at hP
  have f81 : E79 0 = .inr (7, [.int 0, .int 0, .int 0, .ref (ad 1), .ref (ad 2), .ref (ad 3), .ref (ad 4), .ref (ad 5), .ref (ad 6), .null, .null, .null, .int 0, .null, .null, .null, .null, .null, .null, .null]) := by rw [← g80, va_up_ne _ _ (by decide)]; exact f72
  have f82 : E79 1 = .inl (tc 0, 5, .inl (fun _ => 0)) := by rw [← g80, va_up_ne _ _ (by decide)]; exact f73
  have f83 : E79 2 = .inl (tc 0, 60, .inl (fun _ => 0)) := by rw [← g80, va_up_ne _ _ (by decide)]; exact f74
  have f84 : E79 3 = .inl (tc 0, 60, .inl (fun _ => 0)) := by rw [← g80, va_up_ne _ _ (by decide)]; exact f75
  have f85 : E79 4 = .inl (tc 0, 60, .inl (fun _ => 0)) := by rw [← g80, va_up_ne _ _ (by decide)]; exact f76
  have f86 : E79 5 = .inl (tc 0, 5, .inl (fun _ => 0)) := by rw [← g80, va_up_ne _ _ (by decide)]; exact f77
  have f87 : E79 6 = .inl (tc 0, 5, .inl (fun _ => 0)) := by rw [← g80, va_up_ne _ _ (by decide)]; exact f78
  have f88 : E79 7 = .inl (tc 0, 5, .inl (fun _ => 0)) := by rw [← g80]; exact va_up_self _ _ _
  clear f72 f73 f74 f75 f76 f77 f78 g80
  have hD := hDD 8 (by decide) E79
  refine p_MD_28 X hin hD hP hS (by omega) (f81) rfl rfl (Nat.le_of_ble_eq_true rfl) dMD_init_53 (fun H locs hD9 hP9 hS9 => ?_)
  clear hP hS hD
  have hP : va_P D vwCl (wW 8 ad (va_up E79 0 (.inr (7, [.int 0, .int 0, .int 0, .ref (ad 1), .ref (ad 2), .ref (ad 3), .ref (ad 4), .ref (ad 5), .ref (ad 6), .ref (ad 7), .null, .null, .int 0, .null, .null, .null, .null, .null, .null, .null])))) H := hP9
  have hD : va_D (Aw (1 + 16) ad) (wW 8 ad (va_up E79 0 (.inr (7, [.int 0, .int 0, .int 0, .ref (ad 1), .ref (ad 2), .ref (ad 3), .ref (ad 4), .ref (ad 5), .ref (ad 6), .ref (ad 7), .null, .null, .int 0, .null, .null, .null, .null, .null, .null, .null])))) := hD9
  have hS := hS9
  clear hP9 hS9 hD9
  generalize g90 : va_up E79 0 (.inr (7, [.int 0, .int 0, .int 0, .ref (ad 1), .ref (ad 2), .ref (ad 3), .ref (ad 4), .ref (ad 5), .ref (ad 6), .ref (ad 7), .null, .null, .int 0, .null, .null, .null, .null, .null, .null, .null])) = E89 at hD hP
  have f91 : E89 0 = .inr (7, [.int 0, .int 0, .int 0, .ref (ad 1), .ref (ad 2), .ref (ad 3), .ref (ad 4), .ref (ad 5), .ref (ad 6), .ref (ad 7), .null, .null, .int 0, .null, .null, .null, .null, .null, .null, .null]) := by rw [← g90]; exact va_up_self _ _ _
  have f92 : E89 1 = .inl (tc 0, 5, .inl (fun _ => 0)) := by rw [← g90, va_up_ne _ _ (by omega)]; exact f82
  have f93 : E89 2 = .inl (tc 0, 60, .inl (fun _ => 0)) := by rw [← g90, va_up_ne _ _ (by omega)]; exact f83
  have f94 : E89 3 = .inl (tc 0, 60, .inl (fun _ => 0)) := by rw [← g90, va_up_ne _ _ (by omega)]; exact f84
  have f95 : E89 4 = .inl (tc 0, 60, .inl (fun _ => 0)) := by rw [← g90, va_up_ne _ _ (by omega)]; exact f85
  have f96 : E89 5 = .inl (tc 0, 5, .inl (fun _ => 0)) := by rw [← g90, va_up_ne _ _ (by omega)]; exact f86
  have f97 : E89 6 = .inl (tc 0, 5, .inl (fun _ => 0)) := by rw [← g90, va_up_ne _ _ (by omega)]; exact f87
  have f98 : E89 7 = .inl (tc 0, 5, .inl (fun _ => 0)) := by rw [← g90, va_up_ne _ _ (by omega)]; exact f88
  clear f81 f82 f83 f84 f85 f86 f87 f88 g90
  refine lv_aload_n hx hb dMD_init_56 rfl (lv_at hl 0 rfl) ?_
  refine lv_iconst (v := 3) hx hb dMD_init_57 (by decide) ?_
  refine q_newI 3 X w_49 hP hS (fun j hj => hsq j (by omega)) ⟨8, by decide, rfl⟩ rfl (by decide) (by decide) (by decide) dMD_init_58 (fun H hP9 hS9 => ?_)
  clear hP hS hD
  have hP : va_P D vwCl (wW 9 ad (va_up E89 8 (.inl (tc 0, 3, .inl (fun _ => 0))))) H := hP9
  have hS := hS9
  clear hP9 hS9
  generalize g100 : va_up E89 8 (.inl (tc 0, 3, .inl (fun _ => 0))) = E99 at hP
  have f101 : E99 0 = .inr (7, [.int 0, .int 0, .int 0, .ref (ad 1), .ref (ad 2), .ref (ad 3), .ref (ad 4), .ref (ad 5), .ref (ad 6), .ref (ad 7), .null, .null, .int 0, .null, .null, .null, .null, .null, .null, .null]) := by rw [← g100, va_up_ne _ _ (by decide)]; exact f91
  have f102 : E99 1 = .inl (tc 0, 5, .inl (fun _ => 0)) := by rw [← g100, va_up_ne _ _ (by decide)]; exact f92
  have f103 : E99 2 = .inl (tc 0, 60, .inl (fun _ => 0)) := by rw [← g100, va_up_ne _ _ (by decide)]; exact f93
  have f104 : E99 3 = .inl (tc 0, 60, .inl (fun _ => 0)) := by rw [← g100, va_up_ne _ _ (by decide)]; exact f94
  have f105 : E99 4 = .inl (tc 0, 60, .inl (fun _ => 0)) := by rw [← g100, va_up_ne _ _ (by decide)]; exact f95
  have f106 : E99 5 = .inl (tc 0, 5, .inl (fun _ => 0)) := by rw [← g100, va_up_ne _ _ (by decide)]; exact f96
  have f107 : E99 6 = .inl (tc 0, 5, .inl (fun _ => 0)) := by rw [← g100, va_up_ne _ _ (by decide)]; exact f97
  have f108 : E99 7 = .inl (tc 0, 5, .inl (fun _ => 0)) := by rw [← g100, va_up_ne _ _ (by decide)]; exact f98
  have f109 : E99 8 = .inl (tc 0, 3, .inl (fun _ => 0)) := by rw [← g100]; exact va_up_self _ _ _
  clear f91 f92 f93 f94 f95 f96 f97 f98 g100
  have hD := hDD 9 (by decide) E99
  refine lv_dup hx hb dMD_init_60 rfl ?_
  refine lv_iconst (v := 0) hx hb dMD_init_61 (by decide) ?_
  refine lv_iconst (v := (-1)) hx hb dMD_init_62 (by decide) ?_
  refine q_iast 0 X hD hP hS (by omega) (f109) (rfl) (by decide) (by decide) dMD_init_63 (fun H locs hD9 hP9 hS9 => ?_)
  clear hP hS hD
  have hP : va_P D vwCl (wW 9 ad (va_up E99 8 (.inl (tc 0, 3, .inl (upd (fun _ => 0) 0 (-1)))))) H := hP9
  have hD : va_D (Aw (1 + 16) ad) (wW 9 ad (va_up E99 8 (.inl (tc 0, 3, .inl (upd (fun _ => 0) 0 (-1)))))) := hD9
  have hS := hS9
  clear hP9 hS9 hD9
  generalize g111 : va_up E99 8 (.inl (tc 0, 3, .inl (upd (fun _ => 0) 0 (-1)))) = E110 at hD hP
  have f112 : E110 0 = .inr (7, [.int 0, .int 0, .int 0, .ref (ad 1), .ref (ad 2), .ref (ad 3), .ref (ad 4), .ref (ad 5), .ref (ad 6), .ref (ad 7), .null, .null, .int 0, .null, .null, .null, .null, .null, .null, .null]) := by rw [← g111, va_up_ne _ _ (by omega)]; exact f101
  have f113 : E110 1 = .inl (tc 0, 5, .inl (fun _ => 0)) := by rw [← g111, va_up_ne _ _ (by omega)]; exact f102
  have f114 : E110 2 = .inl (tc 0, 60, .inl (fun _ => 0)) := by rw [← g111, va_up_ne _ _ (by omega)]; exact f103
  have f115 : E110 3 = .inl (tc 0, 60, .inl (fun _ => 0)) := by rw [← g111, va_up_ne _ _ (by omega)]; exact f104
  have f116 : E110 4 = .inl (tc 0, 60, .inl (fun _ => 0)) := by rw [← g111, va_up_ne _ _ (by omega)]; exact f105
  have f117 : E110 5 = .inl (tc 0, 5, .inl (fun _ => 0)) := by rw [← g111, va_up_ne _ _ (by omega)]; exact f106
  have f118 : E110 6 = .inl (tc 0, 5, .inl (fun _ => 0)) := by rw [← g111, va_up_ne _ _ (by omega)]; exact f107
  have f119 : E110 7 = .inl (tc 0, 5, .inl (fun _ => 0)) := by rw [← g111, va_up_ne _ _ (by omega)]; exact f108
  have f120 : E110 8 = .inl (tc 0, 3, .inl (upd (fun _ => 0) 0 (-1))) := by rw [← g111]; exact va_up_self _ _ _
  clear f101 f102 f103 f104 f105 f106 f107 f108 f109 g111
  refine lv_dup hx hb dMD_init_64 rfl ?_
  refine lv_iconst (v := 1) hx hb dMD_init_65 (by decide) ?_
  refine lv_iconst (v := (-1)) hx hb dMD_init_66 (by decide) ?_
  refine q_iast 1 X hD hP hS (by omega) (f120) (rfl) (by decide) (by decide) dMD_init_67 (fun H locs hD9 hP9 hS9 => ?_)
  clear hP hS hD
  have hP : va_P D vwCl (wW 9 ad (va_up E110 8 (.inl (tc 0, 3, .inl (upd (upd (fun _ => 0) 0 (-1)) 1 (-1)))))) H := hP9
  have hD : va_D (Aw (1 + 16) ad) (wW 9 ad (va_up E110 8 (.inl (tc 0, 3, .inl (upd (upd (fun _ => 0) 0 (-1)) 1 (-1)))))) := hD9
  have hS := hS9
  clear hP9 hS9 hD9
  generalize g122 : va_up E110 8 (.inl (tc 0, 3, .inl (upd (upd (fun _ => 0) 0 (-1)) 1 (-1)))) = E121 at hD hP
  have f123 : E121 0 = .inr (7, [.int 0, .int 0, .int 0, .ref (ad 1), .ref (ad 2), .ref (ad 3), .ref (ad 4), .ref (ad 5), .ref (ad 6), .ref (ad 7), .null, .null, .int 0, .null, .null, .null, .null, .null, .null, .null]) := by rw [← g122, va_up_ne _ _ (by omega)]; exact f112
  have f124 : E121 1 = .inl (tc 0, 5, .inl (fun _ => 0)) := by rw [← g122, va_up_ne _ _ (by omega)]; exact f113
  have f125 : E121 2 = .inl (tc 0, 60, .inl (fun _ => 0)) := by rw [← g122, va_up_ne _ _ (by omega)]; exact f114
  have f126 : E121 3 = .inl (tc 0, 60, .inl (fun _ => 0)) := by rw [← g122, va_up_ne _ _ (by omega)]; exact f115
  have f127 : E121 4 = .inl (tc 0, 60, .inl (fun _ => 0)) := by rw [← g122, va_up_ne _ _ (by omega)]; exact f116
  have f128 : E121 5 = .inl (tc 0, 5, .inl (fun _ => 0)) := by rw [← g122, va_up_ne _ _ (by omega)]; exact f117
  have f129 : E121 6 = .inl (tc 0, 5, .inl (fun _ => 0)) := by rw [← g122, va_up_ne _ _ (by omega)]; exact f118
  have f130 : E121 7 = .inl (tc 0, 5, .inl (fun _ => 0)) := by rw [← g122, va_up_ne _ _ (by omega)]; exact f119
  have f131 : E121 8 = .inl (tc 0, 3, .inl (upd (upd (fun _ => 0) 0 (-1)) 1 (-1))) := by rw [← g122]; exact va_up_self _ _ _
  clear f112 f113 f114 f115 f116 f117 f118 f119 f120 g122
  refine lv_dup hx hb dMD_init_68 rfl ?_
  refine lv_iconst (v := 2) hx hb dMD_init_69 (by decide) ?_
  refine lv_iconst (v := (-1)) hx hb dMD_init_70 (by decide) ?_
  refine q_iast 2 X hD hP hS (by omega) (f131) (rfl) (by decide) (by decide) dMD_init_71 (fun H locs hD9 hP9 hS9 => ?_)
  clear hP hS hD
  have hP : va_P D vwCl (wW 9 ad (va_up E121 8 (.inl (tc 0, 3, .inl (upd (upd (upd (fun _ => 0) 0 (-1)) 1 (-1)) 2 (-1)))))) H := hP9
  have hD : va_D (Aw (1 + 16) ad) (wW 9 ad (va_up E121 8 (.inl (tc 0, 3, .inl (upd (upd (upd (fun _ => 0) 0 (-1)) 1 (-1)) 2 (-1)))))) := hD9
  have hS := hS9
  clear hP9 hS9 hD9
  generalize g133 : va_up E121 8 (.inl (tc 0, 3, .inl (upd (upd (upd (fun _ => 0) 0 (-1)) 1 (-1)) 2 (-1)))) = E132 at hD hP
  have f134 : E132 0 = .inr (7, [.int 0, .int 0, .int 0, .ref (ad 1), .ref (ad 2), .ref (ad 3), .ref (ad 4), .ref (ad 5), .ref (ad 6), .ref (ad 7), .null, .null, .int 0, .null, .null, .null, .null, .null, .null, .null]) := by rw [← g133, va_up_ne _ _ (by omega)]; exact f123
  have f135 : E132 1 = .inl (tc 0, 5, .inl (fun _ => 0)) := by rw [← g133, va_up_ne _ _ (by omega)]; exact f124
  have f136 : E132 2 = .inl (tc 0, 60, .inl (fun _ => 0)) := by rw [← g133, va_up_ne _ _ (by omega)]; exact f125
  have f137 : E132 3 = .inl (tc 0, 60, .inl (fun _ => 0)) := by rw [← g133, va_up_ne _ _ (by omega)]; exact f126
  have f138 : E132 4 = .inl (tc 0, 60, .inl (fun _ => 0)) := by rw [← g133, va_up_ne _ _ (by omega)]; exact f127
  have f139 : E132 5 = .inl (tc 0, 5, .inl (fun _ => 0)) := by rw [← g133, va_up_ne _ _ (by omega)]; exact f128
  have f140 : E132 6 = .inl (tc 0, 5, .inl (fun _ => 0)) := by rw [← g133, va_up_ne _ _ (by omega)]; exact f129
  have f141 : E132 7 = .inl (tc 0, 5, .inl (fun _ => 0)) := by rw [← g133, va_up_ne _ _ (by omega)]; exact f130
  have f142 : E132 8 = .inl (tc 0, 3, .inl (upd (upd (upd (fun _ => 0) 0 (-1)) 1 (-1)) 2 (-1))) := by rw [← g133]; exact va_up_self _ _ _
  clear f123 f124 f125 f126 f127 f128 f129 f130 f131 g133
  refine p_MD_31 X hin hD hP hS (by omega) (f134) rfl rfl (Nat.le_of_ble_eq_true rfl) dMD_init_72 (fun H locs hD9 hP9 hS9 => ?_)
  clear hP hS hD
  have hP : va_P D vwCl (wW 9 ad (va_up E132 0 (.inr (7, [.int 0, .int 0, .int 0, .ref (ad 1), .ref (ad 2), .ref (ad 3), .ref (ad 4), .ref (ad 5), .ref (ad 6), .ref (ad 7), .ref (ad 8), .null, .int 0, .null, .null, .null, .null, .null, .null, .null])))) H := hP9
  have hD : va_D (Aw (1 + 16) ad) (wW 9 ad (va_up E132 0 (.inr (7, [.int 0, .int 0, .int 0, .ref (ad 1), .ref (ad 2), .ref (ad 3), .ref (ad 4), .ref (ad 5), .ref (ad 6), .ref (ad 7), .ref (ad 8), .null, .int 0, .null, .null, .null, .null, .null, .null, .null])))) := hD9
  have hS := hS9
  clear hP9 hS9 hD9
  generalize g144 : va_up E132 0 (.inr (7, [.int 0, .int 0, .int 0, .ref (ad 1), .ref (ad 2), .ref (ad 3), .ref (ad 4), .ref (ad 5), .ref (ad 6), .ref (ad 7), .ref (ad 8), .null, .int 0, .null, .null, .null, .null, .null, .null, .null])) = E143 at hD hP
  have f145 : E143 0 = .inr (7, [.int 0, .int 0, .int 0, .ref (ad 1), .ref (ad 2), .ref (ad 3), .ref (ad 4), .ref (ad 5), .ref (ad 6), .ref (ad 7), .ref (ad 8), .null, .int 0, .null, .null, .null, .null, .null, .null, .null]) := by rw [← g144]; exact va_up_self _ _ _
  have f146 : E143 1 = .inl (tc 0, 5, .inl (fun _ => 0)) := by rw [← g144, va_up_ne _ _ (by omega)]; exact f135
  have f147 : E143 2 = .inl (tc 0, 60, .inl (fun _ => 0)) := by rw [← g144, va_up_ne _ _ (by omega)]; exact f136
  have f148 : E143 3 = .inl (tc 0, 60, .inl (fun _ => 0)) := by rw [← g144, va_up_ne _ _ (by omega)]; exact f137
  have f149 : E143 4 = .inl (tc 0, 60, .inl (fun _ => 0)) := by rw [← g144, va_up_ne _ _ (by omega)]; exact f138
  have f150 : E143 5 = .inl (tc 0, 5, .inl (fun _ => 0)) := by rw [← g144, va_up_ne _ _ (by omega)]; exact f139
  have f151 : E143 6 = .inl (tc 0, 5, .inl (fun _ => 0)) := by rw [← g144, va_up_ne _ _ (by omega)]; exact f140
  have f152 : E143 7 = .inl (tc 0, 5, .inl (fun _ => 0)) := by rw [← g144, va_up_ne _ _ (by omega)]; exact f141
  have f153 : E143 8 = .inl (tc 0, 3, .inl (upd (upd (upd (fun _ => 0) 0 (-1)) 1 (-1)) 2 (-1))) := by rw [← g144, va_up_ne _ _ (by omega)]; exact f142
  clear f134 f135 f136 f137 f138 f139 f140 f141 f142 g144
  refine lv_aload_n hx hb dMD_init_75 rfl (lv_at hl 0 rfl) ?_
  refine lv_iconst (v := 3) hx hb dMD_init_76 (by decide) ?_
  refine q_newI 3 X w_49 hP hS (fun j hj => hsq j (by omega)) ⟨9, by decide, rfl⟩ rfl (by decide) (by decide) (by decide) dMD_init_77 (fun H hP9 hS9 => ?_)
  clear hP hS hD
  have hP : va_P D vwCl (wW 10 ad (va_up E143 9 (.inl (tc 0, 3, .inl (fun _ => 0))))) H := hP9
  have hS := hS9
  clear hP9 hS9
  generalize g155 : va_up E143 9 (.inl (tc 0, 3, .inl (fun _ => 0))) = E154 at hP
  have f156 : E154 0 = .inr (7, [.int 0, .int 0, .int 0, .ref (ad 1), .ref (ad 2), .ref (ad 3), .ref (ad 4), .ref (ad 5), .ref (ad 6), .ref (ad 7), .ref (ad 8), .null, .int 0, .null, .null, .null, .null, .null, .null, .null]) := by rw [← g155, va_up_ne _ _ (by decide)]; exact f145
  have f157 : E154 1 = .inl (tc 0, 5, .inl (fun _ => 0)) := by rw [← g155, va_up_ne _ _ (by decide)]; exact f146
  have f158 : E154 2 = .inl (tc 0, 60, .inl (fun _ => 0)) := by rw [← g155, va_up_ne _ _ (by decide)]; exact f147
  have f159 : E154 3 = .inl (tc 0, 60, .inl (fun _ => 0)) := by rw [← g155, va_up_ne _ _ (by decide)]; exact f148
  have f160 : E154 4 = .inl (tc 0, 60, .inl (fun _ => 0)) := by rw [← g155, va_up_ne _ _ (by decide)]; exact f149
  have f161 : E154 5 = .inl (tc 0, 5, .inl (fun _ => 0)) := by rw [← g155, va_up_ne _ _ (by decide)]; exact f150
  have f162 : E154 6 = .inl (tc 0, 5, .inl (fun _ => 0)) := by rw [← g155, va_up_ne _ _ (by decide)]; exact f151
  have f163 : E154 7 = .inl (tc 0, 5, .inl (fun _ => 0)) := by rw [← g155, va_up_ne _ _ (by decide)]; exact f152
  have f164 : E154 8 = .inl (tc 0, 3, .inl (upd (upd (upd (fun _ => 0) 0 (-1)) 1 (-1)) 2 (-1))) := by rw [← g155, va_up_ne _ _ (by decide)]; exact f153
  have f165 : E154 9 = .inl (tc 0, 3, .inl (fun _ => 0)) := by rw [← g155]; exact va_up_self _ _ _
  clear f145 f146 f147 f148 f149 f150 f151 f152 f153 g155
  have hD := hDD 10 (by decide) E154
  refine p_MD_34 X hin hD hP hS (by omega) (f156) rfl rfl (Nat.le_of_ble_eq_true rfl) dMD_init_79 (fun H locs hD9 hP9 hS9 => ?_)
  clear hP hS hD
  have hP : va_P D vwCl (wW 10 ad (va_up E154 0 (.inr (7, [.int 0, .int 0, .int 0, .ref (ad 1), .ref (ad 2), .ref (ad 3), .ref (ad 4), .ref (ad 5), .ref (ad 6), .ref (ad 7), .ref (ad 8), .ref (ad 9), .int 0, .null, .null, .null, .null, .null, .null, .null])))) H := hP9
  have hD : va_D (Aw (1 + 16) ad) (wW 10 ad (va_up E154 0 (.inr (7, [.int 0, .int 0, .int 0, .ref (ad 1), .ref (ad 2), .ref (ad 3), .ref (ad 4), .ref (ad 5), .ref (ad 6), .ref (ad 7), .ref (ad 8), .ref (ad 9), .int 0, .null, .null, .null, .null, .null, .null, .null])))) := hD9
  have hS := hS9
  clear hP9 hS9 hD9
  generalize g167 : va_up E154 0 (.inr (7, [.int 0, .int 0, .int 0, .ref (ad 1), .ref (ad 2), .ref (ad 3), .ref (ad 4), .ref (ad 5), .ref (ad 6), .ref (ad 7), .ref (ad 8), .ref (ad 9), .int 0, .null, .null, .null, .null, .null, .null, .null])) = E166 at hD hP
  have f168 : E166 0 = .inr (7, [.int 0, .int 0, .int 0, .ref (ad 1), .ref (ad 2), .ref (ad 3), .ref (ad 4), .ref (ad 5), .ref (ad 6), .ref (ad 7), .ref (ad 8), .ref (ad 9), .int 0, .null, .null, .null, .null, .null, .null, .null]) := by rw [← g167]; exact va_up_self _ _ _
  have f169 : E166 1 = .inl (tc 0, 5, .inl (fun _ => 0)) := by rw [← g167, va_up_ne _ _ (by omega)]; exact f157
  have f170 : E166 2 = .inl (tc 0, 60, .inl (fun _ => 0)) := by rw [← g167, va_up_ne _ _ (by omega)]; exact f158
  have f171 : E166 3 = .inl (tc 0, 60, .inl (fun _ => 0)) := by rw [← g167, va_up_ne _ _ (by omega)]; exact f159
  have f172 : E166 4 = .inl (tc 0, 60, .inl (fun _ => 0)) := by rw [← g167, va_up_ne _ _ (by omega)]; exact f160
  have f173 : E166 5 = .inl (tc 0, 5, .inl (fun _ => 0)) := by rw [← g167, va_up_ne _ _ (by omega)]; exact f161
  have f174 : E166 6 = .inl (tc 0, 5, .inl (fun _ => 0)) := by rw [← g167, va_up_ne _ _ (by omega)]; exact f162
  have f175 : E166 7 = .inl (tc 0, 5, .inl (fun _ => 0)) := by rw [← g167, va_up_ne _ _ (by omega)]; exact f163
  have f176 : E166 8 = .inl (tc 0, 3, .inl (upd (upd (upd (fun _ => 0) 0 (-1)) 1 (-1)) 2 (-1))) := by rw [← g167, va_up_ne _ _ (by omega)]; exact f164
  have f177 : E166 9 = .inl (tc 0, 3, .inl (fun _ => 0)) := by rw [← g167, va_up_ne _ _ (by omega)]; exact f165
  clear f156 f157 f158 f159 f160 f161 f162 f163 f164 f165 g167
  refine lv_aload_n hx hb dMD_init_82 rfl (lv_at hl 0 rfl) ?_
  refine lv_sipush (v := 200) hx hb dMD_init_83 (by decide) ?_
  refine q_newI 200 X w_49 hP hS (fun j hj => hsq j (by omega)) ⟨10, by decide, rfl⟩ rfl (by decide) (by decide) (by decide) dMD_init_86 (fun H hP9 hS9 => ?_)
  clear hP hS hD
  have hP : va_P D vwCl (wW 11 ad (va_up E166 10 (.inl (tc 0, 200, .inl (fun _ => 0))))) H := hP9
  have hS := hS9
  clear hP9 hS9
  generalize g179 : va_up E166 10 (.inl (tc 0, 200, .inl (fun _ => 0))) = E178 at hP
  have f180 : E178 0 = .inr (7, [.int 0, .int 0, .int 0, .ref (ad 1), .ref (ad 2), .ref (ad 3), .ref (ad 4), .ref (ad 5), .ref (ad 6), .ref (ad 7), .ref (ad 8), .ref (ad 9), .int 0, .null, .null, .null, .null, .null, .null, .null]) := by rw [← g179, va_up_ne _ _ (by decide)]; exact f168
  have f181 : E178 1 = .inl (tc 0, 5, .inl (fun _ => 0)) := by rw [← g179, va_up_ne _ _ (by decide)]; exact f169
  have f182 : E178 2 = .inl (tc 0, 60, .inl (fun _ => 0)) := by rw [← g179, va_up_ne _ _ (by decide)]; exact f170
  have f183 : E178 3 = .inl (tc 0, 60, .inl (fun _ => 0)) := by rw [← g179, va_up_ne _ _ (by decide)]; exact f171
  have f184 : E178 4 = .inl (tc 0, 60, .inl (fun _ => 0)) := by rw [← g179, va_up_ne _ _ (by decide)]; exact f172
  have f185 : E178 5 = .inl (tc 0, 5, .inl (fun _ => 0)) := by rw [← g179, va_up_ne _ _ (by decide)]; exact f173
  have f186 : E178 6 = .inl (tc 0, 5, .inl (fun _ => 0)) := by rw [← g179, va_up_ne _ _ (by decide)]; exact f174
  have f187 : E178 7 = .inl (tc 0, 5, .inl (fun _ => 0)) := by rw [← g179, va_up_ne _ _ (by decide)]; exact f175
  have f188 : E178 8 = .inl (tc 0, 3, .inl (upd (upd (upd (fun _ => 0) 0 (-1)) 1 (-1)) 2 (-1))) := by rw [← g179, va_up_ne _ _ (by decide)]; exact f176
  have f189 : E178 9 = .inl (tc 0, 3, .inl (fun _ => 0)) := by rw [← g179, va_up_ne _ _ (by decide)]; exact f177
  have f190 : E178 10 = .inl (tc 0, 200, .inl (fun _ => 0)) := by rw [← g179]; exact va_up_self _ _ _
  clear f168 f169 f170 f171 f172 f173 f174 f175 f176 f177 g179
  have hD := hDD 11 (by decide) E178
  refine p_MD_37 X hin hD hP hS (by omega) (f180) rfl rfl (Nat.le_of_ble_eq_true rfl) dMD_init_88 (fun H locs hD9 hP9 hS9 => ?_)
  clear hP hS hD
  have hP : va_P D vwCl (wW 11 ad (va_up E178 0 (.inr (7, [.int 0, .int 0, .int 0, .ref (ad 1), .ref (ad 2), .ref (ad 3), .ref (ad 4), .ref (ad 5), .ref (ad 6), .ref (ad 7), .ref (ad 8), .ref (ad 9), .int 0, .ref (ad 10), .null, .null, .null, .null, .null, .null])))) H := hP9
  have hD : va_D (Aw (1 + 16) ad) (wW 11 ad (va_up E178 0 (.inr (7, [.int 0, .int 0, .int 0, .ref (ad 1), .ref (ad 2), .ref (ad 3), .ref (ad 4), .ref (ad 5), .ref (ad 6), .ref (ad 7), .ref (ad 8), .ref (ad 9), .int 0, .ref (ad 10), .null, .null, .null, .null, .null, .null])))) := hD9
  have hS := hS9
  clear hP9 hS9 hD9
  generalize g192 : va_up E178 0 (.inr (7, [.int 0, .int 0, .int 0, .ref (ad 1), .ref (ad 2), .ref (ad 3), .ref (ad 4), .ref (ad 5), .ref (ad 6), .ref (ad 7), .ref (ad 8), .ref (ad 9), .int 0, .ref (ad 10), .null, .null, .null, .null, .null, .null])) = E191 at hD hP
  have f193 : E191 0 = .inr (7, [.int 0, .int 0, .int 0, .ref (ad 1), .ref (ad 2), .ref (ad 3), .ref (ad 4), .ref (ad 5), .ref (ad 6), .ref (ad 7), .ref (ad 8), .ref (ad 9), .int 0, .ref (ad 10), .null, .null, .null, .null, .null, .null]) := by rw [← g192]; exact va_up_self _ _ _
  have f194 : E191 1 = .inl (tc 0, 5, .inl (fun _ => 0)) := by rw [← g192, va_up_ne _ _ (by omega)]; exact f181
  have f195 : E191 2 = .inl (tc 0, 60, .inl (fun _ => 0)) := by rw [← g192, va_up_ne _ _ (by omega)]; exact f182
  have f196 : E191 3 = .inl (tc 0, 60, .inl (fun _ => 0)) := by rw [← g192, va_up_ne _ _ (by omega)]; exact f183
  have f197 : E191 4 = .inl (tc 0, 60, .inl (fun _ => 0)) := by rw [← g192, va_up_ne _ _ (by omega)]; exact f184
  have f198 : E191 5 = .inl (tc 0, 5, .inl (fun _ => 0)) := by rw [← g192, va_up_ne _ _ (by omega)]; exact f185
  have f199 : E191 6 = .inl (tc 0, 5, .inl (fun _ => 0)) := by rw [← g192, va_up_ne _ _ (by omega)]; exact f186
  have f200 : E191 7 = .inl (tc 0, 5, .inl (fun _ => 0)) := by rw [← g192, va_up_ne _ _ (by omega)]; exact f187
  have f201 : E191 8 = .inl (tc 0, 3, .inl (upd (upd (upd (fun _ => 0) 0 (-1)) 1 (-1)) 2 (-1))) := by rw [← g192, va_up_ne _ _ (by omega)]; exact f188
  have f202 : E191 9 = .inl (tc 0, 3, .inl (fun _ => 0)) := by rw [← g192, va_up_ne _ _ (by omega)]; exact f189
  have f203 : E191 10 = .inl (tc 0, 200, .inl (fun _ => 0)) := by rw [← g192, va_up_ne _ _ (by omega)]; exact f190
  clear f180 f181 f182 f183 f184 f185 f186 f187 f188 f189 f190 g192
  refine lv_aload_n hx hb dMD_init_91 rfl (lv_at hl 0 rfl) ?_
  refine lv_sipush (v := 200) hx hb dMD_init_92 (by decide) ?_
  refine q_newI 200 X w_49 hP hS (fun j hj => hsq j (by omega)) ⟨11, by decide, rfl⟩ rfl (by decide) (by decide) (by decide) dMD_init_95 (fun H hP9 hS9 => ?_)
  clear hP hS hD
  have hP : va_P D vwCl (wW 12 ad (va_up E191 11 (.inl (tc 0, 200, .inl (fun _ => 0))))) H := hP9
  have hS := hS9
  clear hP9 hS9
  generalize g205 : va_up E191 11 (.inl (tc 0, 200, .inl (fun _ => 0))) = E204 at hP
  have f206 : E204 0 = .inr (7, [.int 0, .int 0, .int 0, .ref (ad 1), .ref (ad 2), .ref (ad 3), .ref (ad 4), .ref (ad 5), .ref (ad 6), .ref (ad 7), .ref (ad 8), .ref (ad 9), .int 0, .ref (ad 10), .null, .null, .null, .null, .null, .null]) := by rw [← g205, va_up_ne _ _ (by decide)]; exact f193
  have f207 : E204 1 = .inl (tc 0, 5, .inl (fun _ => 0)) := by rw [← g205, va_up_ne _ _ (by decide)]; exact f194
  have f208 : E204 2 = .inl (tc 0, 60, .inl (fun _ => 0)) := by rw [← g205, va_up_ne _ _ (by decide)]; exact f195
  have f209 : E204 3 = .inl (tc 0, 60, .inl (fun _ => 0)) := by rw [← g205, va_up_ne _ _ (by decide)]; exact f196
  have f210 : E204 4 = .inl (tc 0, 60, .inl (fun _ => 0)) := by rw [← g205, va_up_ne _ _ (by decide)]; exact f197
  have f211 : E204 5 = .inl (tc 0, 5, .inl (fun _ => 0)) := by rw [← g205, va_up_ne _ _ (by decide)]; exact f198
  have f212 : E204 6 = .inl (tc 0, 5, .inl (fun _ => 0)) := by rw [← g205, va_up_ne _ _ (by decide)]; exact f199
  have f213 : E204 7 = .inl (tc 0, 5, .inl (fun _ => 0)) := by rw [← g205, va_up_ne _ _ (by decide)]; exact f200
  have f214 : E204 8 = .inl (tc 0, 3, .inl (upd (upd (upd (fun _ => 0) 0 (-1)) 1 (-1)) 2 (-1))) := by rw [← g205, va_up_ne _ _ (by decide)]; exact f201
  have f215 : E204 9 = .inl (tc 0, 3, .inl (fun _ => 0)) := by rw [← g205, va_up_ne _ _ (by decide)]; exact f202
  have f216 : E204 10 = .inl (tc 0, 200, .inl (fun _ => 0)) := by rw [← g205, va_up_ne _ _ (by decide)]; exact f203
  have f217 : E204 11 = .inl (tc 0, 200, .inl (fun _ => 0)) := by rw [← g205]; exact va_up_self _ _ _
  clear f193 f194 f195 f196 f197 f198 f199 f200 f201 f202 f203 g205
  have hD := hDD 12 (by decide) E204
  refine p_MD_40 X hin hD hP hS (by omega) (f206) rfl rfl (Nat.le_of_ble_eq_true rfl) dMD_init_97 (fun H locs hD9 hP9 hS9 => ?_)
  clear hP hS hD
  have hP : va_P D vwCl (wW 12 ad (va_up E204 0 (.inr (7, [.int 0, .int 0, .int 0, .ref (ad 1), .ref (ad 2), .ref (ad 3), .ref (ad 4), .ref (ad 5), .ref (ad 6), .ref (ad 7), .ref (ad 8), .ref (ad 9), .int 0, .ref (ad 10), .ref (ad 11), .null, .null, .null, .null, .null])))) H := hP9
  have hD : va_D (Aw (1 + 16) ad) (wW 12 ad (va_up E204 0 (.inr (7, [.int 0, .int 0, .int 0, .ref (ad 1), .ref (ad 2), .ref (ad 3), .ref (ad 4), .ref (ad 5), .ref (ad 6), .ref (ad 7), .ref (ad 8), .ref (ad 9), .int 0, .ref (ad 10), .ref (ad 11), .null, .null, .null, .null, .null])))) := hD9
  have hS := hS9
  clear hP9 hS9 hD9
  generalize g219 : va_up E204 0 (.inr (7, [.int 0, .int 0, .int 0, .ref (ad 1), .ref (ad 2), .ref (ad 3), .ref (ad 4), .ref (ad 5), .ref (ad 6), .ref (ad 7), .ref (ad 8), .ref (ad 9), .int 0, .ref (ad 10), .ref (ad 11), .null, .null, .null, .null, .null])) = E218 at hD hP
  have f220 : E218 0 = .inr (7, [.int 0, .int 0, .int 0, .ref (ad 1), .ref (ad 2), .ref (ad 3), .ref (ad 4), .ref (ad 5), .ref (ad 6), .ref (ad 7), .ref (ad 8), .ref (ad 9), .int 0, .ref (ad 10), .ref (ad 11), .null, .null, .null, .null, .null]) := by rw [← g219]; exact va_up_self _ _ _
  have f221 : E218 1 = .inl (tc 0, 5, .inl (fun _ => 0)) := by rw [← g219, va_up_ne _ _ (by omega)]; exact f207
  have f222 : E218 2 = .inl (tc 0, 60, .inl (fun _ => 0)) := by rw [← g219, va_up_ne _ _ (by omega)]; exact f208
  have f223 : E218 3 = .inl (tc 0, 60, .inl (fun _ => 0)) := by rw [← g219, va_up_ne _ _ (by omega)]; exact f209
  have f224 : E218 4 = .inl (tc 0, 60, .inl (fun _ => 0)) := by rw [← g219, va_up_ne _ _ (by omega)]; exact f210
  have f225 : E218 5 = .inl (tc 0, 5, .inl (fun _ => 0)) := by rw [← g219, va_up_ne _ _ (by omega)]; exact f211
  have f226 : E218 6 = .inl (tc 0, 5, .inl (fun _ => 0)) := by rw [← g219, va_up_ne _ _ (by omega)]; exact f212
  have f227 : E218 7 = .inl (tc 0, 5, .inl (fun _ => 0)) := by rw [← g219, va_up_ne _ _ (by omega)]; exact f213
  have f228 : E218 8 = .inl (tc 0, 3, .inl (upd (upd (upd (fun _ => 0) 0 (-1)) 1 (-1)) 2 (-1))) := by rw [← g219, va_up_ne _ _ (by omega)]; exact f214
  have f229 : E218 9 = .inl (tc 0, 3, .inl (fun _ => 0)) := by rw [← g219, va_up_ne _ _ (by omega)]; exact f215
  have f230 : E218 10 = .inl (tc 0, 200, .inl (fun _ => 0)) := by rw [← g219, va_up_ne _ _ (by omega)]; exact f216
  have f231 : E218 11 = .inl (tc 0, 200, .inl (fun _ => 0)) := by rw [← g219, va_up_ne _ _ (by omega)]; exact f217
  clear f206 f207 f208 f209 f210 f211 f212 f213 f214 f215 f216 f217 g219
  refine lv_aload_n hx hb dMD_init_100 rfl (lv_at hl 0 rfl) ?_
  refine lv_sipush (v := 200) hx hb dMD_init_101 (by decide) ?_
  refine q_newI 200 X w_49 hP hS (fun j hj => hsq j (by omega)) ⟨12, by decide, rfl⟩ rfl (by decide) (by decide) (by decide) dMD_init_104 (fun H hP9 hS9 => ?_)
  clear hP hS hD
  have hP : va_P D vwCl (wW 13 ad (va_up E218 12 (.inl (tc 0, 200, .inl (fun _ => 0))))) H := hP9
  have hS := hS9
  clear hP9 hS9
  generalize g233 : va_up E218 12 (.inl (tc 0, 200, .inl (fun _ => 0))) = E232 at hP
  have f234 : E232 0 = .inr (7, [.int 0, .int 0, .int 0, .ref (ad 1), .ref (ad 2), .ref (ad 3), .ref (ad 4), .ref (ad 5), .ref (ad 6), .ref (ad 7), .ref (ad 8), .ref (ad 9), .int 0, .ref (ad 10), .ref (ad 11), .null, .null, .null, .null, .null]) := by rw [← g233, va_up_ne _ _ (by decide)]; exact f220
  have f235 : E232 1 = .inl (tc 0, 5, .inl (fun _ => 0)) := by rw [← g233, va_up_ne _ _ (by decide)]; exact f221
  have f236 : E232 2 = .inl (tc 0, 60, .inl (fun _ => 0)) := by rw [← g233, va_up_ne _ _ (by decide)]; exact f222
  have f237 : E232 3 = .inl (tc 0, 60, .inl (fun _ => 0)) := by rw [← g233, va_up_ne _ _ (by decide)]; exact f223
  have f238 : E232 4 = .inl (tc 0, 60, .inl (fun _ => 0)) := by rw [← g233, va_up_ne _ _ (by decide)]; exact f224
  have f239 : E232 5 = .inl (tc 0, 5, .inl (fun _ => 0)) := by rw [← g233, va_up_ne _ _ (by decide)]; exact f225
  have f240 : E232 6 = .inl (tc 0, 5, .inl (fun _ => 0)) := by rw [← g233, va_up_ne _ _ (by decide)]; exact f226
  have f241 : E232 7 = .inl (tc 0, 5, .inl (fun _ => 0)) := by rw [← g233, va_up_ne _ _ (by decide)]; exact f227
  have f242 : E232 8 = .inl (tc 0, 3, .inl (upd (upd (upd (fun _ => 0) 0 (-1)) 1 (-1)) 2 (-1))) := by rw [← g233, va_up_ne _ _ (by decide)]; exact f228
  have f243 : E232 9 = .inl (tc 0, 3, .inl (fun _ => 0)) := by rw [← g233, va_up_ne _ _ (by decide)]; exact f229
  have f244 : E232 10 = .inl (tc 0, 200, .inl (fun _ => 0)) := by rw [← g233, va_up_ne _ _ (by decide)]; exact f230
  have f245 : E232 11 = .inl (tc 0, 200, .inl (fun _ => 0)) := by rw [← g233, va_up_ne _ _ (by decide)]; exact f231
  have f246 : E232 12 = .inl (tc 0, 200, .inl (fun _ => 0)) := by rw [← g233]; exact va_up_self _ _ _
  clear f220 f221 f222 f223 f224 f225 f226 f227 f228 f229 f230 f231 g233
  have hD := hDD 13 (by decide) E232
  refine p_MD_43 X hin hD hP hS (by omega) (f234) rfl rfl (Nat.le_of_ble_eq_true rfl) dMD_init_106 (fun H locs hD9 hP9 hS9 => ?_)
  clear hP hS hD
  have hP : va_P D vwCl (wW 13 ad (va_up E232 0 (.inr (7, [.int 0, .int 0, .int 0, .ref (ad 1), .ref (ad 2), .ref (ad 3), .ref (ad 4), .ref (ad 5), .ref (ad 6), .ref (ad 7), .ref (ad 8), .ref (ad 9), .int 0, .ref (ad 10), .ref (ad 11), .ref (ad 12), .null, .null, .null, .null])))) H := hP9
  have hD : va_D (Aw (1 + 16) ad) (wW 13 ad (va_up E232 0 (.inr (7, [.int 0, .int 0, .int 0, .ref (ad 1), .ref (ad 2), .ref (ad 3), .ref (ad 4), .ref (ad 5), .ref (ad 6), .ref (ad 7), .ref (ad 8), .ref (ad 9), .int 0, .ref (ad 10), .ref (ad 11), .ref (ad 12), .null, .null, .null, .null])))) := hD9
  have hS := hS9
  clear hP9 hS9 hD9
  generalize g248 : va_up E232 0 (.inr (7, [.int 0, .int 0, .int 0, .ref (ad 1), .ref (ad 2), .ref (ad 3), .ref (ad 4), .ref (ad 5), .ref (ad 6), .ref (ad 7), .ref (ad 8), .ref (ad 9), .int 0, .ref (ad 10), .ref (ad 11), .ref (ad 12), .null, .null, .null, .null])) = E247 at hD hP
  have f249 : E247 0 = .inr (7, [.int 0, .int 0, .int 0, .ref (ad 1), .ref (ad 2), .ref (ad 3), .ref (ad 4), .ref (ad 5), .ref (ad 6), .ref (ad 7), .ref (ad 8), .ref (ad 9), .int 0, .ref (ad 10), .ref (ad 11), .ref (ad 12), .null, .null, .null, .null]) := by rw [← g248]; exact va_up_self _ _ _
  have f250 : E247 1 = .inl (tc 0, 5, .inl (fun _ => 0)) := by rw [← g248, va_up_ne _ _ (by omega)]; exact f235
  have f251 : E247 2 = .inl (tc 0, 60, .inl (fun _ => 0)) := by rw [← g248, va_up_ne _ _ (by omega)]; exact f236
  have f252 : E247 3 = .inl (tc 0, 60, .inl (fun _ => 0)) := by rw [← g248, va_up_ne _ _ (by omega)]; exact f237
  have f253 : E247 4 = .inl (tc 0, 60, .inl (fun _ => 0)) := by rw [← g248, va_up_ne _ _ (by omega)]; exact f238
  have f254 : E247 5 = .inl (tc 0, 5, .inl (fun _ => 0)) := by rw [← g248, va_up_ne _ _ (by omega)]; exact f239
  have f255 : E247 6 = .inl (tc 0, 5, .inl (fun _ => 0)) := by rw [← g248, va_up_ne _ _ (by omega)]; exact f240
  have f256 : E247 7 = .inl (tc 0, 5, .inl (fun _ => 0)) := by rw [← g248, va_up_ne _ _ (by omega)]; exact f241
  have f257 : E247 8 = .inl (tc 0, 3, .inl (upd (upd (upd (fun _ => 0) 0 (-1)) 1 (-1)) 2 (-1))) := by rw [← g248, va_up_ne _ _ (by omega)]; exact f242
  have f258 : E247 9 = .inl (tc 0, 3, .inl (fun _ => 0)) := by rw [← g248, va_up_ne _ _ (by omega)]; exact f243
  have f259 : E247 10 = .inl (tc 0, 200, .inl (fun _ => 0)) := by rw [← g248, va_up_ne _ _ (by omega)]; exact f244
  have f260 : E247 11 = .inl (tc 0, 200, .inl (fun _ => 0)) := by rw [← g248, va_up_ne _ _ (by omega)]; exact f245
  have f261 : E247 12 = .inl (tc 0, 200, .inl (fun _ => 0)) := by rw [← g248, va_up_ne _ _ (by omega)]; exact f246
  clear f234 f235 f236 f237 f238 f239 f240 f241 f242 f243 f244 f245 f246 g248
  refine lv_aload_n hx hb dMD_init_109 rfl (lv_at hl 0 rfl) ?_
  refine lv_sipush (v := 200) hx hb dMD_init_110 (by decide) ?_
  refine q_newZ 200 X w_539 hP hS (fun j hj => hsq j (by omega)) ⟨13, by decide, rfl⟩ rfl (by decide) (by decide) (by decide) dMD_init_113 (fun H hP9 hS9 => ?_)
  clear hP hS hD
  have hP : va_P D vwCl (wW 14 ad (va_up E247 13 (.inl (tc 2, 200, .inl (fun _ => 0))))) H := hP9
  have hS := hS9
  clear hP9 hS9
  generalize g263 : va_up E247 13 (.inl (tc 2, 200, .inl (fun _ => 0))) = E262 at hP
  have f264 : E262 0 = .inr (7, [.int 0, .int 0, .int 0, .ref (ad 1), .ref (ad 2), .ref (ad 3), .ref (ad 4), .ref (ad 5), .ref (ad 6), .ref (ad 7), .ref (ad 8), .ref (ad 9), .int 0, .ref (ad 10), .ref (ad 11), .ref (ad 12), .null, .null, .null, .null]) := by rw [← g263, va_up_ne _ _ (by decide)]; exact f249
  have f265 : E262 1 = .inl (tc 0, 5, .inl (fun _ => 0)) := by rw [← g263, va_up_ne _ _ (by decide)]; exact f250
  have f266 : E262 2 = .inl (tc 0, 60, .inl (fun _ => 0)) := by rw [← g263, va_up_ne _ _ (by decide)]; exact f251
  have f267 : E262 3 = .inl (tc 0, 60, .inl (fun _ => 0)) := by rw [← g263, va_up_ne _ _ (by decide)]; exact f252
  have f268 : E262 4 = .inl (tc 0, 60, .inl (fun _ => 0)) := by rw [← g263, va_up_ne _ _ (by decide)]; exact f253
  have f269 : E262 5 = .inl (tc 0, 5, .inl (fun _ => 0)) := by rw [← g263, va_up_ne _ _ (by decide)]; exact f254
  have f270 : E262 6 = .inl (tc 0, 5, .inl (fun _ => 0)) := by rw [← g263, va_up_ne _ _ (by decide)]; exact f255
  have f271 : E262 7 = .inl (tc 0, 5, .inl (fun _ => 0)) := by rw [← g263, va_up_ne _ _ (by decide)]; exact f256
  have f272 : E262 8 = .inl (tc 0, 3, .inl (upd (upd (upd (fun _ => 0) 0 (-1)) 1 (-1)) 2 (-1))) := by rw [← g263, va_up_ne _ _ (by decide)]; exact f257
  have f273 : E262 9 = .inl (tc 0, 3, .inl (fun _ => 0)) := by rw [← g263, va_up_ne _ _ (by decide)]; exact f258
  have f274 : E262 10 = .inl (tc 0, 200, .inl (fun _ => 0)) := by rw [← g263, va_up_ne _ _ (by decide)]; exact f259
  have f275 : E262 11 = .inl (tc 0, 200, .inl (fun _ => 0)) := by rw [← g263, va_up_ne _ _ (by decide)]; exact f260
  have f276 : E262 12 = .inl (tc 0, 200, .inl (fun _ => 0)) := by rw [← g263, va_up_ne _ _ (by decide)]; exact f261
  have f277 : E262 13 = .inl (tc 2, 200, .inl (fun _ => 0)) := by rw [← g263]; exact va_up_self _ _ _
  clear f249 f250 f251 f252 f253 f254 f255 f256 f257 f258 f259 f260 f261 g263
  have hD := hDD 14 (by decide) E262
  refine p_MD_46 X hin hD hP hS (by omega) (f264) rfl rfl (Nat.le_of_ble_eq_true rfl) dMD_init_115 (fun H locs hD9 hP9 hS9 => ?_)
  clear hP hS hD
  have hP : va_P D vwCl (wW 14 ad (va_up E262 0 (.inr (7, [.int 0, .int 0, .int 0, .ref (ad 1), .ref (ad 2), .ref (ad 3), .ref (ad 4), .ref (ad 5), .ref (ad 6), .ref (ad 7), .ref (ad 8), .ref (ad 9), .int 0, .ref (ad 10), .ref (ad 11), .ref (ad 12), .ref (ad 13), .null, .null, .null])))) H := hP9
  have hD : va_D (Aw (1 + 16) ad) (wW 14 ad (va_up E262 0 (.inr (7, [.int 0, .int 0, .int 0, .ref (ad 1), .ref (ad 2), .ref (ad 3), .ref (ad 4), .ref (ad 5), .ref (ad 6), .ref (ad 7), .ref (ad 8), .ref (ad 9), .int 0, .ref (ad 10), .ref (ad 11), .ref (ad 12), .ref (ad 13), .null, .null, .null])))) := hD9
  have hS := hS9
  clear hP9 hS9 hD9
  generalize g279 : va_up E262 0 (.inr (7, [.int 0, .int 0, .int 0, .ref (ad 1), .ref (ad 2), .ref (ad 3), .ref (ad 4), .ref (ad 5), .ref (ad 6), .ref (ad 7), .ref (ad 8), .ref (ad 9), .int 0, .ref (ad 10), .ref (ad 11), .ref (ad 12), .ref (ad 13), .null, .null, .null])) = E278 at hD hP
  have f280 : E278 0 = .inr (7, [.int 0, .int 0, .int 0, .ref (ad 1), .ref (ad 2), .ref (ad 3), .ref (ad 4), .ref (ad 5), .ref (ad 6), .ref (ad 7), .ref (ad 8), .ref (ad 9), .int 0, .ref (ad 10), .ref (ad 11), .ref (ad 12), .ref (ad 13), .null, .null, .null]) := by rw [← g279]; exact va_up_self _ _ _
  have f281 : E278 1 = .inl (tc 0, 5, .inl (fun _ => 0)) := by rw [← g279, va_up_ne _ _ (by omega)]; exact f265
  have f282 : E278 2 = .inl (tc 0, 60, .inl (fun _ => 0)) := by rw [← g279, va_up_ne _ _ (by omega)]; exact f266
  have f283 : E278 3 = .inl (tc 0, 60, .inl (fun _ => 0)) := by rw [← g279, va_up_ne _ _ (by omega)]; exact f267
  have f284 : E278 4 = .inl (tc 0, 60, .inl (fun _ => 0)) := by rw [← g279, va_up_ne _ _ (by omega)]; exact f268
  have f285 : E278 5 = .inl (tc 0, 5, .inl (fun _ => 0)) := by rw [← g279, va_up_ne _ _ (by omega)]; exact f269
  have f286 : E278 6 = .inl (tc 0, 5, .inl (fun _ => 0)) := by rw [← g279, va_up_ne _ _ (by omega)]; exact f270
  have f287 : E278 7 = .inl (tc 0, 5, .inl (fun _ => 0)) := by rw [← g279, va_up_ne _ _ (by omega)]; exact f271
  have f288 : E278 8 = .inl (tc 0, 3, .inl (upd (upd (upd (fun _ => 0) 0 (-1)) 1 (-1)) 2 (-1))) := by rw [← g279, va_up_ne _ _ (by omega)]; exact f272
  have f289 : E278 9 = .inl (tc 0, 3, .inl (fun _ => 0)) := by rw [← g279, va_up_ne _ _ (by omega)]; exact f273
  have f290 : E278 10 = .inl (tc 0, 200, .inl (fun _ => 0)) := by rw [← g279, va_up_ne _ _ (by omega)]; exact f274
  have f291 : E278 11 = .inl (tc 0, 200, .inl (fun _ => 0)) := by rw [← g279, va_up_ne _ _ (by omega)]; exact f275
  have f292 : E278 12 = .inl (tc 0, 200, .inl (fun _ => 0)) := by rw [← g279, va_up_ne _ _ (by omega)]; exact f276
  have f293 : E278 13 = .inl (tc 2, 200, .inl (fun _ => 0)) := by rw [← g279, va_up_ne _ _ (by omega)]; exact f277
  clear f264 f265 f266 f267 f268 f269 f270 f271 f272 f273 f274 f275 f276 f277 g279
  refine lv_aload_n hx hb dMD_init_118 rfl (lv_at hl 0 rfl) ?_
  refine lv_sipush (v := 800) hx hb dMD_init_119 (by decide) ?_
  refine q_newJ 800 X w_540 hP hS (fun j hj => hsq j (by omega)) ⟨14, by decide, rfl⟩ rfl (by decide) (by decide) (by decide) dMD_init_122 (fun H hP9 hS9 => ?_)
  clear hP hS hD
  have hP : va_P D vwCl (wW 15 ad (va_up E278 14 (.inl (tc 1, 800, .inr (.inl (fun _ => 0)))))) H := hP9
  have hS := hS9
  clear hP9 hS9
  generalize g295 : va_up E278 14 (.inl (tc 1, 800, .inr (.inl (fun _ => 0)))) = E294 at hP
  have f296 : E294 0 = .inr (7, [.int 0, .int 0, .int 0, .ref (ad 1), .ref (ad 2), .ref (ad 3), .ref (ad 4), .ref (ad 5), .ref (ad 6), .ref (ad 7), .ref (ad 8), .ref (ad 9), .int 0, .ref (ad 10), .ref (ad 11), .ref (ad 12), .ref (ad 13), .null, .null, .null]) := by rw [← g295, va_up_ne _ _ (by decide)]; exact f280
  have f297 : E294 1 = .inl (tc 0, 5, .inl (fun _ => 0)) := by rw [← g295, va_up_ne _ _ (by decide)]; exact f281
  have f298 : E294 2 = .inl (tc 0, 60, .inl (fun _ => 0)) := by rw [← g295, va_up_ne _ _ (by decide)]; exact f282
  have f299 : E294 3 = .inl (tc 0, 60, .inl (fun _ => 0)) := by rw [← g295, va_up_ne _ _ (by decide)]; exact f283
  have f300 : E294 4 = .inl (tc 0, 60, .inl (fun _ => 0)) := by rw [← g295, va_up_ne _ _ (by decide)]; exact f284
  have f301 : E294 5 = .inl (tc 0, 5, .inl (fun _ => 0)) := by rw [← g295, va_up_ne _ _ (by decide)]; exact f285
  have f302 : E294 6 = .inl (tc 0, 5, .inl (fun _ => 0)) := by rw [← g295, va_up_ne _ _ (by decide)]; exact f286
  have f303 : E294 7 = .inl (tc 0, 5, .inl (fun _ => 0)) := by rw [← g295, va_up_ne _ _ (by decide)]; exact f287
  have f304 : E294 8 = .inl (tc 0, 3, .inl (upd (upd (upd (fun _ => 0) 0 (-1)) 1 (-1)) 2 (-1))) := by rw [← g295, va_up_ne _ _ (by decide)]; exact f288
  have f305 : E294 9 = .inl (tc 0, 3, .inl (fun _ => 0)) := by rw [← g295, va_up_ne _ _ (by decide)]; exact f289
  have f306 : E294 10 = .inl (tc 0, 200, .inl (fun _ => 0)) := by rw [← g295, va_up_ne _ _ (by decide)]; exact f290
  have f307 : E294 11 = .inl (tc 0, 200, .inl (fun _ => 0)) := by rw [← g295, va_up_ne _ _ (by decide)]; exact f291
  have f308 : E294 12 = .inl (tc 0, 200, .inl (fun _ => 0)) := by rw [← g295, va_up_ne _ _ (by decide)]; exact f292
  have f309 : E294 13 = .inl (tc 2, 200, .inl (fun _ => 0)) := by rw [← g295, va_up_ne _ _ (by decide)]; exact f293
  have f310 : E294 14 = .inl (tc 1, 800, .inr (.inl (fun _ => 0))) := by rw [← g295]; exact va_up_self _ _ _
  clear f280 f281 f282 f283 f284 f285 f286 f287 f288 f289 f290 f291 f292 f293 g295
  have hD := hDD 15 (by decide) E294
  refine p_MD_50 X hin hD hP hS (by omega) (f296) rfl rfl (Nat.le_of_ble_eq_true rfl) dMD_init_124 (fun H locs hD9 hP9 hS9 => ?_)
  clear hP hS hD
  have hP : va_P D vwCl (wW 15 ad (va_up E294 0 (.inr (7, [.int 0, .int 0, .int 0, .ref (ad 1), .ref (ad 2), .ref (ad 3), .ref (ad 4), .ref (ad 5), .ref (ad 6), .ref (ad 7), .ref (ad 8), .ref (ad 9), .int 0, .ref (ad 10), .ref (ad 11), .ref (ad 12), .ref (ad 13), .ref (ad 14), .null, .null])))) H := hP9
  have hD : va_D (Aw (1 + 16) ad) (wW 15 ad (va_up E294 0 (.inr (7, [.int 0, .int 0, .int 0, .ref (ad 1), .ref (ad 2), .ref (ad 3), .ref (ad 4), .ref (ad 5), .ref (ad 6), .ref (ad 7), .ref (ad 8), .ref (ad 9), .int 0, .ref (ad 10), .ref (ad 11), .ref (ad 12), .ref (ad 13), .ref (ad 14), .null, .null])))) := hD9
  have hS := hS9
  clear hP9 hS9 hD9
  generalize g312 : va_up E294 0 (.inr (7, [.int 0, .int 0, .int 0, .ref (ad 1), .ref (ad 2), .ref (ad 3), .ref (ad 4), .ref (ad 5), .ref (ad 6), .ref (ad 7), .ref (ad 8), .ref (ad 9), .int 0, .ref (ad 10), .ref (ad 11), .ref (ad 12), .ref (ad 13), .ref (ad 14), .null, .null])) = E311 at hD hP
  have f313 : E311 0 = .inr (7, [.int 0, .int 0, .int 0, .ref (ad 1), .ref (ad 2), .ref (ad 3), .ref (ad 4), .ref (ad 5), .ref (ad 6), .ref (ad 7), .ref (ad 8), .ref (ad 9), .int 0, .ref (ad 10), .ref (ad 11), .ref (ad 12), .ref (ad 13), .ref (ad 14), .null, .null]) := by rw [← g312]; exact va_up_self _ _ _
  have f314 : E311 1 = .inl (tc 0, 5, .inl (fun _ => 0)) := by rw [← g312, va_up_ne _ _ (by omega)]; exact f297
  have f315 : E311 2 = .inl (tc 0, 60, .inl (fun _ => 0)) := by rw [← g312, va_up_ne _ _ (by omega)]; exact f298
  have f316 : E311 3 = .inl (tc 0, 60, .inl (fun _ => 0)) := by rw [← g312, va_up_ne _ _ (by omega)]; exact f299
  have f317 : E311 4 = .inl (tc 0, 60, .inl (fun _ => 0)) := by rw [← g312, va_up_ne _ _ (by omega)]; exact f300
  have f318 : E311 5 = .inl (tc 0, 5, .inl (fun _ => 0)) := by rw [← g312, va_up_ne _ _ (by omega)]; exact f301
  have f319 : E311 6 = .inl (tc 0, 5, .inl (fun _ => 0)) := by rw [← g312, va_up_ne _ _ (by omega)]; exact f302
  have f320 : E311 7 = .inl (tc 0, 5, .inl (fun _ => 0)) := by rw [← g312, va_up_ne _ _ (by omega)]; exact f303
  have f321 : E311 8 = .inl (tc 0, 3, .inl (upd (upd (upd (fun _ => 0) 0 (-1)) 1 (-1)) 2 (-1))) := by rw [← g312, va_up_ne _ _ (by omega)]; exact f304
  have f322 : E311 9 = .inl (tc 0, 3, .inl (fun _ => 0)) := by rw [← g312, va_up_ne _ _ (by omega)]; exact f305
  have f323 : E311 10 = .inl (tc 0, 200, .inl (fun _ => 0)) := by rw [← g312, va_up_ne _ _ (by omega)]; exact f306
  have f324 : E311 11 = .inl (tc 0, 200, .inl (fun _ => 0)) := by rw [← g312, va_up_ne _ _ (by omega)]; exact f307
  have f325 : E311 12 = .inl (tc 0, 200, .inl (fun _ => 0)) := by rw [← g312, va_up_ne _ _ (by omega)]; exact f308
  have f326 : E311 13 = .inl (tc 2, 200, .inl (fun _ => 0)) := by rw [← g312, va_up_ne _ _ (by omega)]; exact f309
  have f327 : E311 14 = .inl (tc 1, 800, .inr (.inl (fun _ => 0))) := by rw [← g312, va_up_ne _ _ (by omega)]; exact f310
  clear f296 f297 f298 f299 f300 f301 f302 f303 f304 f305 f306 f307 f308 f309 f310 g312
  refine lv_aload_n hx hb dMD_init_127 rfl (lv_at hl 0 rfl) ?_
  refine lv_bipush (v := 8) hx hb dMD_init_128 (by decide) ?_
  refine q_newI 8 X w_49 hP hS (fun j hj => hsq j (by omega)) ⟨15, by decide, rfl⟩ rfl (by decide) (by decide) (by decide) dMD_init_130 (fun H hP9 hS9 => ?_)
  clear hP hS hD
  have hP : va_P D vwCl (wW 16 ad (va_up E311 15 (.inl (tc 0, 8, .inl (fun _ => 0))))) H := hP9
  have hS := hS9
  clear hP9 hS9
  generalize g329 : va_up E311 15 (.inl (tc 0, 8, .inl (fun _ => 0))) = E328 at hP
  have f330 : E328 0 = .inr (7, [.int 0, .int 0, .int 0, .ref (ad 1), .ref (ad 2), .ref (ad 3), .ref (ad 4), .ref (ad 5), .ref (ad 6), .ref (ad 7), .ref (ad 8), .ref (ad 9), .int 0, .ref (ad 10), .ref (ad 11), .ref (ad 12), .ref (ad 13), .ref (ad 14), .null, .null]) := by rw [← g329, va_up_ne _ _ (by decide)]; exact f313
  have f331 : E328 1 = .inl (tc 0, 5, .inl (fun _ => 0)) := by rw [← g329, va_up_ne _ _ (by decide)]; exact f314
  have f332 : E328 2 = .inl (tc 0, 60, .inl (fun _ => 0)) := by rw [← g329, va_up_ne _ _ (by decide)]; exact f315
  have f333 : E328 3 = .inl (tc 0, 60, .inl (fun _ => 0)) := by rw [← g329, va_up_ne _ _ (by decide)]; exact f316
  have f334 : E328 4 = .inl (tc 0, 60, .inl (fun _ => 0)) := by rw [← g329, va_up_ne _ _ (by decide)]; exact f317
  have f335 : E328 5 = .inl (tc 0, 5, .inl (fun _ => 0)) := by rw [← g329, va_up_ne _ _ (by decide)]; exact f318
  have f336 : E328 6 = .inl (tc 0, 5, .inl (fun _ => 0)) := by rw [← g329, va_up_ne _ _ (by decide)]; exact f319
  have f337 : E328 7 = .inl (tc 0, 5, .inl (fun _ => 0)) := by rw [← g329, va_up_ne _ _ (by decide)]; exact f320
  have f338 : E328 8 = .inl (tc 0, 3, .inl (upd (upd (upd (fun _ => 0) 0 (-1)) 1 (-1)) 2 (-1))) := by rw [← g329, va_up_ne _ _ (by decide)]; exact f321
  have f339 : E328 9 = .inl (tc 0, 3, .inl (fun _ => 0)) := by rw [← g329, va_up_ne _ _ (by decide)]; exact f322
  have f340 : E328 10 = .inl (tc 0, 200, .inl (fun _ => 0)) := by rw [← g329, va_up_ne _ _ (by decide)]; exact f323
  have f341 : E328 11 = .inl (tc 0, 200, .inl (fun _ => 0)) := by rw [← g329, va_up_ne _ _ (by decide)]; exact f324
  have f342 : E328 12 = .inl (tc 0, 200, .inl (fun _ => 0)) := by rw [← g329, va_up_ne _ _ (by decide)]; exact f325
  have f343 : E328 13 = .inl (tc 2, 200, .inl (fun _ => 0)) := by rw [← g329, va_up_ne _ _ (by decide)]; exact f326
  have f344 : E328 14 = .inl (tc 1, 800, .inr (.inl (fun _ => 0))) := by rw [← g329, va_up_ne _ _ (by decide)]; exact f327
  have f345 : E328 15 = .inl (tc 0, 8, .inl (fun _ => 0)) := by rw [← g329]; exact va_up_self _ _ _
  clear f313 f314 f315 f316 f317 f318 f319 f320 f321 f322 f323 f324 f325 f326 f327 g329
  have hD := hDD 16 (by decide) E328
  refine p_MD_54 X hin hD hP hS (by omega) (f330) rfl rfl (Nat.le_of_ble_eq_true rfl) dMD_init_132 (fun H locs hD9 hP9 hS9 => ?_)
  clear hP hS hD
  have hP : va_P D vwCl (wW 16 ad (va_up E328 0 (.inr (7, [.int 0, .int 0, .int 0, .ref (ad 1), .ref (ad 2), .ref (ad 3), .ref (ad 4), .ref (ad 5), .ref (ad 6), .ref (ad 7), .ref (ad 8), .ref (ad 9), .int 0, .ref (ad 10), .ref (ad 11), .ref (ad 12), .ref (ad 13), .ref (ad 14), .ref (ad 15), .null])))) H := hP9
  have hD : va_D (Aw (1 + 16) ad) (wW 16 ad (va_up E328 0 (.inr (7, [.int 0, .int 0, .int 0, .ref (ad 1), .ref (ad 2), .ref (ad 3), .ref (ad 4), .ref (ad 5), .ref (ad 6), .ref (ad 7), .ref (ad 8), .ref (ad 9), .int 0, .ref (ad 10), .ref (ad 11), .ref (ad 12), .ref (ad 13), .ref (ad 14), .ref (ad 15), .null])))) := hD9
  have hS := hS9
  clear hP9 hS9 hD9
  generalize g347 : va_up E328 0 (.inr (7, [.int 0, .int 0, .int 0, .ref (ad 1), .ref (ad 2), .ref (ad 3), .ref (ad 4), .ref (ad 5), .ref (ad 6), .ref (ad 7), .ref (ad 8), .ref (ad 9), .int 0, .ref (ad 10), .ref (ad 11), .ref (ad 12), .ref (ad 13), .ref (ad 14), .ref (ad 15), .null])) = E346 at hD hP
  have f348 : E346 0 = .inr (7, [.int 0, .int 0, .int 0, .ref (ad 1), .ref (ad 2), .ref (ad 3), .ref (ad 4), .ref (ad 5), .ref (ad 6), .ref (ad 7), .ref (ad 8), .ref (ad 9), .int 0, .ref (ad 10), .ref (ad 11), .ref (ad 12), .ref (ad 13), .ref (ad 14), .ref (ad 15), .null]) := by rw [← g347]; exact va_up_self _ _ _
  have f349 : E346 1 = .inl (tc 0, 5, .inl (fun _ => 0)) := by rw [← g347, va_up_ne _ _ (by omega)]; exact f331
  have f350 : E346 2 = .inl (tc 0, 60, .inl (fun _ => 0)) := by rw [← g347, va_up_ne _ _ (by omega)]; exact f332
  have f351 : E346 3 = .inl (tc 0, 60, .inl (fun _ => 0)) := by rw [← g347, va_up_ne _ _ (by omega)]; exact f333
  have f352 : E346 4 = .inl (tc 0, 60, .inl (fun _ => 0)) := by rw [← g347, va_up_ne _ _ (by omega)]; exact f334
  have f353 : E346 5 = .inl (tc 0, 5, .inl (fun _ => 0)) := by rw [← g347, va_up_ne _ _ (by omega)]; exact f335
  have f354 : E346 6 = .inl (tc 0, 5, .inl (fun _ => 0)) := by rw [← g347, va_up_ne _ _ (by omega)]; exact f336
  have f355 : E346 7 = .inl (tc 0, 5, .inl (fun _ => 0)) := by rw [← g347, va_up_ne _ _ (by omega)]; exact f337
  have f356 : E346 8 = .inl (tc 0, 3, .inl (upd (upd (upd (fun _ => 0) 0 (-1)) 1 (-1)) 2 (-1))) := by rw [← g347, va_up_ne _ _ (by omega)]; exact f338
  have f357 : E346 9 = .inl (tc 0, 3, .inl (fun _ => 0)) := by rw [← g347, va_up_ne _ _ (by omega)]; exact f339
  have f358 : E346 10 = .inl (tc 0, 200, .inl (fun _ => 0)) := by rw [← g347, va_up_ne _ _ (by omega)]; exact f340
  have f359 : E346 11 = .inl (tc 0, 200, .inl (fun _ => 0)) := by rw [← g347, va_up_ne _ _ (by omega)]; exact f341
  have f360 : E346 12 = .inl (tc 0, 200, .inl (fun _ => 0)) := by rw [← g347, va_up_ne _ _ (by omega)]; exact f342
  have f361 : E346 13 = .inl (tc 2, 200, .inl (fun _ => 0)) := by rw [← g347, va_up_ne _ _ (by omega)]; exact f343
  have f362 : E346 14 = .inl (tc 1, 800, .inr (.inl (fun _ => 0))) := by rw [← g347, va_up_ne _ _ (by omega)]; exact f344
  have f363 : E346 15 = .inl (tc 0, 8, .inl (fun _ => 0)) := by rw [← g347, va_up_ne _ _ (by omega)]; exact f345
  clear f330 f331 f332 f333 f334 f335 f336 f337 f338 f339 f340 f341 f342 f343 f344 f345 g347
  refine lv_aload_n hx hb dMD_init_135 rfl (lv_at hl 0 rfl) ?_
  refine lv_bipush (v := 8) hx hb dMD_init_136 (by decide) ?_
  refine q_newI 8 X w_49 hP hS (fun j hj => hsq j (by omega)) ⟨16, by decide, rfl⟩ rfl (by decide) (by decide) (by decide) dMD_init_138 (fun H hP9 hS9 => ?_)
  clear hP hS hD
  have hP : va_P D vwCl (wW 17 ad (va_up E346 16 (.inl (tc 0, 8, .inl (fun _ => 0))))) H := hP9
  have hS := hS9
  clear hP9 hS9
  generalize g365 : va_up E346 16 (.inl (tc 0, 8, .inl (fun _ => 0))) = E364 at hP
  have f366 : E364 0 = .inr (7, [.int 0, .int 0, .int 0, .ref (ad 1), .ref (ad 2), .ref (ad 3), .ref (ad 4), .ref (ad 5), .ref (ad 6), .ref (ad 7), .ref (ad 8), .ref (ad 9), .int 0, .ref (ad 10), .ref (ad 11), .ref (ad 12), .ref (ad 13), .ref (ad 14), .ref (ad 15), .null]) := by rw [← g365, va_up_ne _ _ (by decide)]; exact f348
  have f367 : E364 1 = .inl (tc 0, 5, .inl (fun _ => 0)) := by rw [← g365, va_up_ne _ _ (by decide)]; exact f349
  have f368 : E364 2 = .inl (tc 0, 60, .inl (fun _ => 0)) := by rw [← g365, va_up_ne _ _ (by decide)]; exact f350
  have f369 : E364 3 = .inl (tc 0, 60, .inl (fun _ => 0)) := by rw [← g365, va_up_ne _ _ (by decide)]; exact f351
  have f370 : E364 4 = .inl (tc 0, 60, .inl (fun _ => 0)) := by rw [← g365, va_up_ne _ _ (by decide)]; exact f352
  have f371 : E364 5 = .inl (tc 0, 5, .inl (fun _ => 0)) := by rw [← g365, va_up_ne _ _ (by decide)]; exact f353
  have f372 : E364 6 = .inl (tc 0, 5, .inl (fun _ => 0)) := by rw [← g365, va_up_ne _ _ (by decide)]; exact f354
  have f373 : E364 7 = .inl (tc 0, 5, .inl (fun _ => 0)) := by rw [← g365, va_up_ne _ _ (by decide)]; exact f355
  have f374 : E364 8 = .inl (tc 0, 3, .inl (upd (upd (upd (fun _ => 0) 0 (-1)) 1 (-1)) 2 (-1))) := by rw [← g365, va_up_ne _ _ (by decide)]; exact f356
  have f375 : E364 9 = .inl (tc 0, 3, .inl (fun _ => 0)) := by rw [← g365, va_up_ne _ _ (by decide)]; exact f357
  have f376 : E364 10 = .inl (tc 0, 200, .inl (fun _ => 0)) := by rw [← g365, va_up_ne _ _ (by decide)]; exact f358
  have f377 : E364 11 = .inl (tc 0, 200, .inl (fun _ => 0)) := by rw [← g365, va_up_ne _ _ (by decide)]; exact f359
  have f378 : E364 12 = .inl (tc 0, 200, .inl (fun _ => 0)) := by rw [← g365, va_up_ne _ _ (by decide)]; exact f360
  have f379 : E364 13 = .inl (tc 2, 200, .inl (fun _ => 0)) := by rw [← g365, va_up_ne _ _ (by decide)]; exact f361
  have f380 : E364 14 = .inl (tc 1, 800, .inr (.inl (fun _ => 0))) := by rw [← g365, va_up_ne _ _ (by decide)]; exact f362
  have f381 : E364 15 = .inl (tc 0, 8, .inl (fun _ => 0)) := by rw [← g365, va_up_ne _ _ (by decide)]; exact f363
  have f382 : E364 16 = .inl (tc 0, 8, .inl (fun _ => 0)) := by rw [← g365]; exact va_up_self _ _ _
  clear f348 f349 f350 f351 f352 f353 f354 f355 f356 f357 f358 f359 f360 f361 f362 f363 g365
  have hD := hDD 17 (by decide) E364
  refine p_MD_57 X hin hD hP hS (by omega) (f366) rfl rfl (Nat.le_of_ble_eq_true rfl) dMD_init_140 (fun H locs hD9 hP9 hS9 => ?_)
  clear hP hS hD
  have hP : va_P D vwCl (wW 17 ad (va_up E364 0 (.inr (7, [.int 0, .int 0, .int 0, .ref (ad 1), .ref (ad 2), .ref (ad 3), .ref (ad 4), .ref (ad 5), .ref (ad 6), .ref (ad 7), .ref (ad 8), .ref (ad 9), .int 0, .ref (ad 10), .ref (ad 11), .ref (ad 12), .ref (ad 13), .ref (ad 14), .ref (ad 15), .ref (ad 16)])))) H := hP9
  have hD : va_D (Aw (1 + 16) ad) (wW 17 ad (va_up E364 0 (.inr (7, [.int 0, .int 0, .int 0, .ref (ad 1), .ref (ad 2), .ref (ad 3), .ref (ad 4), .ref (ad 5), .ref (ad 6), .ref (ad 7), .ref (ad 8), .ref (ad 9), .int 0, .ref (ad 10), .ref (ad 11), .ref (ad 12), .ref (ad 13), .ref (ad 14), .ref (ad 15), .ref (ad 16)])))) := hD9
  have hS := hS9
  clear hP9 hS9 hD9
  generalize g384 : va_up E364 0 (.inr (7, [.int 0, .int 0, .int 0, .ref (ad 1), .ref (ad 2), .ref (ad 3), .ref (ad 4), .ref (ad 5), .ref (ad 6), .ref (ad 7), .ref (ad 8), .ref (ad 9), .int 0, .ref (ad 10), .ref (ad 11), .ref (ad 12), .ref (ad 13), .ref (ad 14), .ref (ad 15), .ref (ad 16)])) = E383 at hD hP
  have f385 : E383 0 = .inr (7, [.int 0, .int 0, .int 0, .ref (ad 1), .ref (ad 2), .ref (ad 3), .ref (ad 4), .ref (ad 5), .ref (ad 6), .ref (ad 7), .ref (ad 8), .ref (ad 9), .int 0, .ref (ad 10), .ref (ad 11), .ref (ad 12), .ref (ad 13), .ref (ad 14), .ref (ad 15), .ref (ad 16)]) := by rw [← g384]; exact va_up_self _ _ _
  have f386 : E383 1 = .inl (tc 0, 5, .inl (fun _ => 0)) := by rw [← g384, va_up_ne _ _ (by omega)]; exact f367
  have f387 : E383 2 = .inl (tc 0, 60, .inl (fun _ => 0)) := by rw [← g384, va_up_ne _ _ (by omega)]; exact f368
  have f388 : E383 3 = .inl (tc 0, 60, .inl (fun _ => 0)) := by rw [← g384, va_up_ne _ _ (by omega)]; exact f369
  have f389 : E383 4 = .inl (tc 0, 60, .inl (fun _ => 0)) := by rw [← g384, va_up_ne _ _ (by omega)]; exact f370
  have f390 : E383 5 = .inl (tc 0, 5, .inl (fun _ => 0)) := by rw [← g384, va_up_ne _ _ (by omega)]; exact f371
  have f391 : E383 6 = .inl (tc 0, 5, .inl (fun _ => 0)) := by rw [← g384, va_up_ne _ _ (by omega)]; exact f372
  have f392 : E383 7 = .inl (tc 0, 5, .inl (fun _ => 0)) := by rw [← g384, va_up_ne _ _ (by omega)]; exact f373
  have f393 : E383 8 = .inl (tc 0, 3, .inl (upd (upd (upd (fun _ => 0) 0 (-1)) 1 (-1)) 2 (-1))) := by rw [← g384, va_up_ne _ _ (by omega)]; exact f374
  have f394 : E383 9 = .inl (tc 0, 3, .inl (fun _ => 0)) := by rw [← g384, va_up_ne _ _ (by omega)]; exact f375
  have f395 : E383 10 = .inl (tc 0, 200, .inl (fun _ => 0)) := by rw [← g384, va_up_ne _ _ (by omega)]; exact f376
  have f396 : E383 11 = .inl (tc 0, 200, .inl (fun _ => 0)) := by rw [← g384, va_up_ne _ _ (by omega)]; exact f377
  have f397 : E383 12 = .inl (tc 0, 200, .inl (fun _ => 0)) := by rw [← g384, va_up_ne _ _ (by omega)]; exact f378
  have f398 : E383 13 = .inl (tc 2, 200, .inl (fun _ => 0)) := by rw [← g384, va_up_ne _ _ (by omega)]; exact f379
  have f399 : E383 14 = .inl (tc 1, 800, .inr (.inl (fun _ => 0))) := by rw [← g384, va_up_ne _ _ (by omega)]; exact f380
  have f400 : E383 15 = .inl (tc 0, 8, .inl (fun _ => 0)) := by rw [← g384, va_up_ne _ _ (by omega)]; exact f381
  have f401 : E383 16 = .inl (tc 0, 8, .inl (fun _ => 0)) := by rw [← g384, va_up_ne _ _ (by omega)]; exact f382
  clear f366 f367 f368 f369 f370 f371 f372 f373 f374 f375 f376 f377 f378 f379 f380 f381 f382 g384
  refine lv_aload_n hx hb dMD_init_143 rfl (lv_at hl 0 rfl) ?_
  refine x_v (f := fun k => 0 + k) (x_runV (C := R_MD) (As := []) (rest := []) X (c_MD_clear l D tc (fun k => ad (0 + k)) (fun k => E383 (0 + k)) 0 0 0 0 (va_up (fun _ _ => 0) 8 (upd (upd (upd (fun _ => 0) 0 (-1)) 1 (-1)) 2 (-1))) (fun _ => 0) ⟨f385, f386, f387, f388, f389, f390, f391, f392, f393, f394, f395, f396, f397, f398, f399, f400, f401⟩) rfl rfl (by decide) (by decide) w_498 w_9 w_495 w_496 w_497 ry_MD_clear (x_recv X hP (by omega) (f385) rfl) (ct_pre X hP hD (fr_lt 17 17 0 (by omega)) (fr_inj 17 0)) ct_blind hl.1 (Nat.le_of_ble_eq_true rfl) dMD_init_144 ⟨by decide, by decide⟩) hD hP hS (fr_lt 17 17 0 (by omega)) (fr_inj 17 0) (fun o E1 h => h.1) (fun E402 H locs q405 hD hP hS => ?_)
  obtain ⟨-, q405r⟩ := q405
  generalize g403 : wU 17 (fun k => 0 + k) E383 E402 = E404 at hD hP
  exact q_vretN X hlk hr hP hS dMD_init_147 (by rw [← g403]; exact MDf.back q405r)
