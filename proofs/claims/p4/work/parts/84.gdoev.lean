theorem dRW_doEvent_0 : decode cRW_doEvent 0 = .ok (.aload_n 0, 1) := by decide +kernel
theorem dRW_doEvent_1 : decode cRW_doEvent 1 = .ok (.getfield 17, 3) := by decide +kernel
theorem dRW_doEvent_4 : decode cRW_doEvent 4 = .ok (.iload_n 1, 1) := by decide +kernel
theorem dRW_doEvent_5 : decode cRW_doEvent 5 = .ok (.aaload, 1) := by decide +kernel
theorem dRW_doEvent_6 : decode cRW_doEvent 6 = .ok (.astore 4, 2) := by decide +kernel
theorem dRW_doEvent_8 : decode cRW_doEvent 8 = .ok (.iload_n 2, 1) := by decide +kernel
theorem dRW_doEvent_9 : decode cRW_doEvent 9 = .ok (.invokestatic 209, 3) := by decide +kernel
theorem dRW_doEvent_12 : decode cRW_doEvent 12 = .ok (.ifCond .eq 18, 3) := by decide +kernel
theorem dRW_doEvent_15 : decode cRW_doEvent 15 = .ok (.iconst 4, 1) := by decide +kernel
theorem dRW_doEvent_16 : decode cRW_doEvent 16 = .ok (.aload 4, 2) := by decide +kernel
theorem dRW_doEvent_18 : decode cRW_doEvent 18 = .ok (.getfield 142, 3) := by decide +kernel
theorem dRW_doEvent_21 : decode cRW_doEvent 21 = .ok (.ldc2_w 212, 3) := by decide +kernel
theorem dRW_doEvent_24 : decode cRW_doEvent 24 = .ok (.land, 1) := by decide +kernel
theorem dRW_doEvent_25 : decode cRW_doEvent 25 = .ok (.l2i, 1) := by decide +kernel
theorem dRW_doEvent_26 : decode cRW_doEvent 26 = .ok (.iadd, 1) := by decide +kernel
theorem dRW_doEvent_27 : decode cRW_doEvent 27 = .ok (.goto 4, 3) := by decide +kernel
theorem dRW_doEvent_30 : decode cRW_doEvent 30 = .ok (.iload_n 3, 1) := by decide +kernel
theorem dRW_doEvent_31 : decode cRW_doEvent 31 = .ok (.istore 5, 2) := by decide +kernel
theorem dRW_doEvent_33 : decode cRW_doEvent 33 = .ok (.aload 4, 2) := by decide +kernel
theorem dRW_doEvent_35 : decode cRW_doEvent 35 = .ok (.getfield 214, 3) := by decide +kernel
theorem dRW_doEvent_38 : decode cRW_doEvent 38 = .ok (.iload_n 1, 1) := by decide +kernel
theorem dRW_doEvent_39 : decode cRW_doEvent 39 = .ok (.invokevirtual 218, 3) := by decide +kernel
theorem dRW_doEvent_42 : decode cRW_doEvent 42 = .ok (.aload_n 0, 1) := by decide +kernel
theorem dRW_doEvent_43 : decode cRW_doEvent 43 = .ok (.iload_n 1, 1) := by decide +kernel
theorem dRW_doEvent_44 : decode cRW_doEvent 44 = .ok (.iload_n 2, 1) := by decide +kernel
theorem dRW_doEvent_45 : decode cRW_doEvent 45 = .ok (.iload_n 3, 1) := by decide +kernel
theorem dRW_doEvent_46 : decode cRW_doEvent 46 = .ok (.invokevirtual 222, 3) := by decide +kernel
theorem dRW_doEvent_49 : decode cRW_doEvent 49 = .ok (.aload_n 0, 1) := by decide +kernel
theorem dRW_doEvent_50 : decode cRW_doEvent 50 = .ok (.getfield 40, 3) := by decide +kernel
theorem dRW_doEvent_53 : decode cRW_doEvent 53 = .ok (.iload_n 1, 1) := by decide +kernel
theorem dRW_doEvent_54 : decode cRW_doEvent 54 = .ok (.bipush 8, 2) := by decide +kernel
theorem dRW_doEvent_56 : decode cRW_doEvent 56 = .ok (.iload_n 2, 1) := by decide +kernel
theorem dRW_doEvent_57 : decode cRW_doEvent 57 = .ok (.imul, 1) := by decide +kernel
theorem dRW_doEvent_58 : decode cRW_doEvent 58 = .ok (.iadd, 1) := by decide +kernel
theorem dRW_doEvent_59 : decode cRW_doEvent 59 = .ok (.sipush 128, 3) := by decide +kernel
theorem dRW_doEvent_62 : decode cRW_doEvent 62 = .ok (.iload 5, 2) := by decide +kernel
theorem dRW_doEvent_64 : decode cRW_doEvent 64 = .ok (.imul, 1) := by decide +kernel
theorem dRW_doEvent_65 : decode cRW_doEvent 65 = .ok (.iadd, 1) := by decide +kernel
theorem dRW_doEvent_66 : decode cRW_doEvent 66 = .ok (.aload 4, 2) := by decide +kernel
theorem dRW_doEvent_68 : decode cRW_doEvent 68 = .ok (.getfield 214, 3) := by decide +kernel
theorem dRW_doEvent_71 : decode cRW_doEvent 71 = .ok (.invokevirtual 225, 3) := by decide +kernel
theorem dRW_doEvent_74 : decode cRW_doEvent 74 = .ok (.istore 6, 2) := by decide +kernel
theorem dRW_doEvent_76 : decode cRW_doEvent 76 = .ok (.iload_n 2, 1) := by decide +kernel
theorem dRW_doEvent_77 : decode cRW_doEvent 77 = .ok (.invokestatic 228, 3) := by decide +kernel
theorem dRW_doEvent_80 : decode cRW_doEvent 80 = .ok (.ifCond .eq 45, 3) := by decide +kernel
theorem dRW_doEvent_83 : decode cRW_doEvent 83 = .ok (.aload_n 0, 1) := by decide +kernel
theorem dRW_doEvent_84 : decode cRW_doEvent 84 = .ok (.getfield 47, 3) := by decide +kernel
theorem dRW_doEvent_87 : decode cRW_doEvent 87 = .ok (.aload_n 0, 1) := by decide +kernel
theorem dRW_doEvent_88 : decode cRW_doEvent 88 = .ok (.getfield 40, 3) := by decide +kernel
theorem dRW_doEvent_91 : decode cRW_doEvent 91 = .ok (.iload 6, 2) := by decide +kernel
theorem dRW_doEvent_93 : decode cRW_doEvent 93 = .ok (.iload 5, 2) := by decide +kernel
theorem dRW_doEvent_95 : decode cRW_doEvent 95 = .ok (.iload_n 2, 1) := by decide +kernel
theorem dRW_doEvent_96 : decode cRW_doEvent 96 = .ok (.invokestatic 190, 3) := by decide +kernel
theorem dRW_doEvent_99 : decode cRW_doEvent 99 = .ok (.invokevirtual 231, 3) := by decide +kernel
theorem dRW_doEvent_102 : decode cRW_doEvent 102 = .ok (.aload_n 0, 1) := by decide +kernel
theorem dRW_doEvent_103 : decode cRW_doEvent 103 = .ok (.getfield 51, 3) := by decide +kernel
theorem dRW_doEvent_106 : decode cRW_doEvent 106 = .ok (.aload_n 0, 1) := by decide +kernel
theorem dRW_doEvent_107 : decode cRW_doEvent 107 = .ok (.getfield 40, 3) := by decide +kernel
theorem dRW_doEvent_110 : decode cRW_doEvent 110 = .ok (.iload 6, 2) := by decide +kernel
theorem dRW_doEvent_112 : decode cRW_doEvent 112 = .ok (.iload 5, 2) := by decide +kernel
theorem dRW_doEvent_114 : decode cRW_doEvent 114 = .ok (.iconst 4, 1) := by decide +kernel
theorem dRW_doEvent_115 : decode cRW_doEvent 115 = .ok (.invokestatic 235, 3) := by decide +kernel
theorem dRW_doEvent_118 : decode cRW_doEvent 118 = .ok (.iload_n 2, 1) := by decide +kernel
theorem dRW_doEvent_119 : decode cRW_doEvent 119 = .ok (.invokestatic 190, 3) := by decide +kernel
theorem dRW_doEvent_122 : decode cRW_doEvent 122 = .ok (.invokevirtual 231, 3) := by decide +kernel
theorem dRW_doEvent_125 : decode cRW_doEvent 125 = .ok (.aload 4, 2) := by decide +kernel
theorem dRW_doEvent_127 : decode cRW_doEvent 127 = .ok (.aload 4, 2) := by decide +kernel
theorem dRW_doEvent_129 : decode cRW_doEvent 129 = .ok (.getfield 109, 3) := by decide +kernel
theorem dRW_doEvent_132 : decode cRW_doEvent 132 = .ok (.iconst 1, 1) := by decide +kernel
theorem dRW_doEvent_133 : decode cRW_doEvent 133 = .ok (.iadd, 1) := by decide +kernel
theorem dRW_doEvent_134 : decode cRW_doEvent 134 = .ok (.aload_n 0, 1) := by decide +kernel
theorem dRW_doEvent_135 : decode cRW_doEvent 135 = .ok (.getfield 11, 3) := by decide +kernel
theorem dRW_doEvent_138 : decode cRW_doEvent 138 = .ok (.iload_n 1, 1) := by decide +kernel
theorem dRW_doEvent_139 : decode cRW_doEvent 139 = .ok (.aaload, 1) := by decide +kernel
theorem dRW_doEvent_140 : decode cRW_doEvent 140 = .ok (.getfield 196, 3) := by decide +kernel
theorem dRW_doEvent_143 : decode cRW_doEvent 143 = .ok (.invokevirtual 205, 3) := by decide +kernel
theorem dRW_doEvent_146 : decode cRW_doEvent 146 = .ok (.return_, 1) := by decide +kernel
set_option maxHeartbeats 4000000 in
set_option maxRecDepth 100000 in
theorem g_RW_doEvent (l : Launch) (D : va_G) (tc : Nat → ClassId) (ad : Nat → Nat) (E : Nat → va_E) (st cs : Int32) (sz : Nat → Nat) (fo fa fb : Nat → Nat → Int32) (t k : Nat) (rg : Int64) (cn : Nat) (hI : RI tc ad E st cs sz fo fa fb) (hst : ¬ st = 0) (ht : t < 5) (hk : k < sz t) (hw : isWK tc ad E (7 + 7 * t) 1 (nI k) rg) (hev : ¬ fo t k < 0 ∧ ¬ 9 < fo t k) (htr : TRi tc ad E cn) (hc : cn < 200) : Ct l D tc yRW_doEvent 5 66 ad E [.ref (ad 0), .int (nI t), .int (fo t k), .int (fa t k)] (fun o E2 => o = .returned none ∧ RI tc ad E2 st cs sz fo fa fb) := by
  refine Ct.ofW (cc := cRW_doEvent) (maxL := 7) (ret := none) (own := R_RW) (by decide) rfl w_424 (Nat.le_of_ble_eq_true rfl) ?_
  intro p e s m args below meth c ls X hlk hr hD hP hS hl
  have hx := X.1
  have hb := X.2.1
  have hl : lv_has ls 7 [(0, .ref (ad 0)), (1, .int (nI t)), (2, .int (fo t k)), (3, .int (fa t k))] := hl
  have hI0 := hI
  obtain ⟨hR, hpg, hwk, hlo, hck, -, hok, hnb⟩ := hI
  have hR0 := hR
  obtain ⟨rh0, ⟨ra1, rh1, rx1⟩, ⟨ra2, rh2, rx2⟩, ⟨ra3, rh3, rx3⟩, ⟨ra4, rh4, rx4⟩⟩ := hR
  have hw0 := hw
  obtain ⟨w0, w1, wf, w2⟩ := hw
  have hs12 := (hok t ht).1
  have far0 : Far (7 + 7 * t) 3 E E := fun _ _ => rfl
  have J31 : ∀ (ov : Int32) (H : Heap) (locs : List Loc) (ls : Array Slot), ((fo t k = 0 ∨ fo t k = 8 ∨ fo t k = 1 ∨ fo t k = 9) → ∃ p, p < 8 ∧ ov = nI p) → va_D (Aw 66 ad) (wW 66 ad E) → va_P D vwCl (wW 66 ad E) H → va_S (Aw 66 ad) s.heap H locs → lv_has ls 7 [(4, .ref (ad (7 + 7 * t))), (0, .ref (ad 0)), (1, .int (nI t)), (2, .int (fo t k)), (3, .int (fa t k))] → W p l e (rmD 5) s m args below meth c H locs 0 0 (XQ below (CtQ D 66 ad (fun o E2 => o = .returned none ∧ RI tc ad E2 st cs sz fo fa fb)) args s 0 0 (Aw 66 ad)) (F0 m 31 ls [.int ov]) := by
    intro ov H locs ls hov hD hP hS hl
    refine lv_istore hx hb dRW_doEvent_31 hl (by decide) rfl (fun ls hl => ?_)
    have hl : lv_has ls 7 [(5, .int ov), (4, .ref (ad (7 + 7 * t))), (0, .ref (ad 0)), (1, .int (nI t)), (2, .int (fo t k)), (3, .int (fa t k))] := hl
    refine lv_aload hx hb dRW_doEvent_33 (lv_at hl 1 rfl) ?_
    refine g_RW_214 X hP (by omega) (w0) rfl dRW_doEvent_35 ?_
    refine lv_iload_n hx hb dRW_doEvent_38 rfl (lv_at hl 3 rfl) ?_
    refine x_v (f := fun k => 7 + 7 * t + 1 + k) (x_runVN (C := R_CK) (As := [.int (nI t)]) (rest := []) X (g_CK_tick l D tc (fun k => ad (7 + 7 * t + 1 + k)) (fun k => E (7 + 7 * t + 1 + k)) wf t w1 w2 ht) rfl rfl (by decide) (by decide) w_432 w_4 w_429 w_431 sel_CK_tick ry_CK_tick (x_recv X hP (by omega) (w1) rfl) (ct_pre X hP hD (fr_lt 2 66 (7 + 7 * t + 1) (by omega)) (fr_inj 2 (7 + 7 * t + 1))) ct_blind hl.1 (Nat.le_of_ble_eq_true rfl) dRW_doEvent_39 ⟨Nat.zero_le _, Nat.zero_le _⟩) hD hP hS (fr_lt 2 66 (7 + 7 * t + 1) (by omega)) (fr_inj 2 (7 + 7 * t + 1)) (fun o E1 h => h.1) (fun E1 H locs q4 hD hP hS => ?_)
    obtain ⟨-, q40, q4f, q41⟩ := q4
    generalize g2 : wU 2 (fun k => 7 + 7 * t + 1 + k) E E1 = E3 at hD hP
    have f5 : E3 0 = .inr (6, [.ref (ad 1), .ref (ad 2), .ref (ad 38), .ref (ad 48), .ref (ad 53), .ref (ad 56), .ref (ad 61), .int st, .int cs]) := by rw [← g2]; exact (wU_far (by omega)).trans (rh0)
    have f6 : E3 1 = .inl (tc 3, 5, .inr (.inr (.inr (.inr ra1)))) := by rw [← g2]; exact (wU_far (by omega)).trans (rh1)
    have f7 : E3 2 = .inl (tc 4, 5, .inr (.inr (.inr (.inr ra2)))) := by rw [← g2]; exact (wU_far (by omega)).trans (rh2)
    have f8 : E3 38 = .inl (tc 5, 3, .inr (.inr (.inr (.inr ra3)))) := by rw [← g2]; exact (wU_far (by omega)).trans (rh3)
    have f9 : E3 48 = .inl (tc 6, 2, .inr (.inr (.inr (.inr ra4)))) := by rw [← g2]; exact (wU_far (by omega)).trans (rh4)
    have f10 : E3 (7 + 7 * t) = .inr (5, [.ref (ad (7 + 7 * t + 1)), .int 1, .int (nI k), .long rg]) := by rw [← g2]; exact (wU_far (by omega)).trans (w0)
    have f11 := far0.cong (G := E3) (fun k q1 q2 => by rw [← g2]; exact wU_far (by omega))
    have f12 : E3 (7 + 7 * t + 1) = .inr (0, [.ref (ad (7 + 7 * t + 1 + 1))]) := by rw [← g2]; exact (wU_own 0 (by omega)).trans q40
    have f13 : E3 (7 + 7 * t + 1 + 1) = .inl (tc 0, 5, .inl q4f) := by rw [← g2]; exact (wU_own 1 (by omega)).trans q41
    refine lv_aload_n hx hb dRW_doEvent_42 rfl (lv_at hl 2 rfl) ?_
    refine lv_iload_n hx hb dRW_doEvent_43 rfl (lv_at hl 3 rfl) ?_
    refine lv_iload_n hx hb dRW_doEvent_44 rfl (lv_at hl 4 rfl) ?_
    refine lv_iload_n hx hb dRW_doEvent_45 rfl (lv_at hl 5 rfl) ?_
    have hw1 : isWK tc ad E3 (7 + 7 * t) 1 (nI k) rg := ⟨f10, f12, _, f13⟩
    have hI1 : RI tc ad E3 st cs sz fo fa fb := hI0.wk ht ⟨1, nI k, rg, hw1, fun q => absurd q hst, fun _ => ⟨k, hk, rfl⟩⟩ f11
    refine x_v (f := fun k => 0 + k) (x_runV (C := R_RW) (As := [.int (nI t), .int (fo t k), .int (fa t k)]) (rest := []) X (g_RW_synchronise l D tc (fun k => ad (0 + k)) (fun k => E3 (0 + k)) st cs sz fo fa fb t k rg (by simpa only [Nat.zero_add] using hI1) hst ht hk (by simpa only [Nat.zero_add] using hw1)) rfl rfl (by decide) (by decide) w_436 w_1 w_433 w_435 sel_RW_synchronise ry_RW_synchronise (x_recv X hP (by omega) (f5) rfl) (ct_pre X hP hD (fr_lt 66 66 0 (by omega)) (fr_inj 66 0)) ct_blind hl.1 (Nat.le_of_ble_eq_true rfl) dRW_doEvent_46 ⟨Nat.zero_le _, Nat.zero_le _⟩) hD hP hS (fr_lt 66 66 0 (by omega)) (fr_inj 66 0) (fun o E1 h => h.1) (fun E14 H locs q17 hD hP hS => ?_)
    generalize g15 : wU 66 (fun k => 0 + k) E3 E14 = E16 at hD hP
    have e66 : ∀ k, k < 66 → E16 k = E14 k := fun k hk => by rw [← g15]; exact w66 hk
    have hI2 : RI tc ad E16 st cs sz fo fa fb := by have h := q17.2.1; simp only [Nat.zero_add] at h; exact h.cong e66
    have hw2 : isWK tc ad E16 (7 + 7 * t) 1 (nI k) rg := by have h := q17.2.2.1; simp only [Nat.zero_add] at h; exact h.cong (fun k q1 q2 => e66 k (by omega))
    have htr2 : TRi tc ad E16 cn := htr.cong (fun k q1 q2 => by rw [e66 k q2, q17.2.2.2 k q1]; show E3 (0 + k) = E k; rw [Nat.zero_add]; exact f11 k (by omega))
    obtain ⟨hR, hpg, -, -, -, -, -, -⟩ := id hI2
    obtain ⟨rh0, ⟨ra1, rh1, rx1⟩, ⟨ra2, rh2, rx2⟩, ⟨ra3, rh3, rx3⟩, ⟨ra4, rh4, rx4⟩⟩ := hR
    obtain ⟨p0, p1, p2, p3⟩ := hpg t ht
    obtain ⟨w0, w1, wf, w2⟩ := hw2
    obtain ⟨hcn, ⟨fc, fk, ⟨tt0, tt1, tt2⟩, hfc⟩, ⟨fr, fp, fw, fd, ⟨b0, b1, b2, b3, b4⟩, hfw, hfd⟩, ⟨cr, cp, cw, cd, ⟨c0, c1, c2, c3, c4⟩, hcw, hcd⟩⟩ := htr2
    have far2 : FarD t E16 E16 := fun _ _ => rfl
    refine lv_aload_n hx hb dRW_doEvent_49 rfl (lv_at hl 2 rfl) ?_
    refine g_RW_40 X hP (by omega) (rh0) rfl dRW_doEvent_50 ?_
    refine lv_iload_n hx hb dRW_doEvent_53 rfl (lv_at hl 3 rfl) ?_
    refine lv_bipush (v := 8) hx hb dRW_doEvent_54 (by decide) ?_
    refine lv_iload_n hx hb dRW_doEvent_56 rfl (lv_at hl 4 rfl) ?_
    refine lv_imul hx hb dRW_doEvent_57 ?_
    refine lv_iadd hx hb dRW_doEvent_58 ?_
    refine lv_sipush (v := 128) hx hb dRW_doEvent_59 (by decide) ?_
    refine lv_iload hx hb dRW_doEvent_62 (lv_at hl 0 rfl) ?_
    refine lv_imul hx hb dRW_doEvent_64 ?_
    refine lv_iadd hx hb dRW_doEvent_65 ?_
    refine lv_aload hx hb dRW_doEvent_66 (lv_at hl 1 rfl) ?_
    refine g_RW_214 X hP (by omega) (w0) rfl dRW_doEvent_68 ?_
    refine x_i (f := fj 3 53 (7 + 7 * t + 1)) (x_runVN (C := R_TR) (As := [.int (((nI t) + (8 * (fo t k))) + (128 * ov)), .ref (ad (7 + 7 * t + 1))]) (rest := []) X (g_TR_append l D tc (fun k => ad (fj 3 53 (7 + 7 * t + 1) k)) (fun k => E16 (fj 3 53 (7 + 7 * t + 1) k)) cn fc fk wf (((nI t) + (8 * (fo t k))) + (128 * ov)) tt0 tt1 tt2 w1 w2 hc) rfl rfl (by decide) (by decide) w_462 w_6 w_459 w_461 sel_TR_append ry_TR_append (x_recv X hP (by omega) (tt0) rfl) (ct_pre X hP hD (fj_lt 3 2 66 53 (7 + 7 * t + 1) (by omega) (by omega)) (fj_inj 3 2 53 (7 + 7 * t + 1) (by omega))) ct_blind hl.1 (Nat.le_of_ble_eq_true rfl) dRW_doEvent_71 ⟨Nat.zero_le _, Nat.zero_le _⟩) hD hP hS (fj_lt 3 2 66 53 (7 + 7 * t + 1) (by omega) (by omega)) (fj_inj 3 2 53 (7 + 7 * t + 1) (by omega)) (fun o E1 h => ⟨_, h.1⟩) (fun r22 E18 H locs q21 hD hP hS => ?_)
    obtain ⟨q21a, ⟨q21f, q210, q211, q212⟩, q213, q214⟩ := q21
    generalize g19 : wU 5 (fj 3 53 (7 + 7 * t + 1)) E16 E18 = E20 at hD hP
    have f23 : E20 0 = .inr (6, [.ref (ad 1), .ref (ad 2), .ref (ad 38), .ref (ad 48), .ref (ad 53), .ref (ad 56), .ref (ad 61), .int st, .int cs]) := by rw [← g19]; exact (wU_fjo (a := 3) (c := 2) (b1 := 53) (b2 := 7 + 7 * t + 1) (by omega) (by omega)).trans (rh0)
    have f24 : E20 1 = .inl (tc 3, 5, .inr (.inr (.inr (.inr ra1)))) := by rw [← g19]; exact (wU_fjo (a := 3) (c := 2) (b1 := 53) (b2 := 7 + 7 * t + 1) (by omega) (by omega)).trans (rh1)
    have f25 : E20 2 = .inl (tc 4, 5, .inr (.inr (.inr (.inr ra2)))) := by rw [← g19]; exact (wU_fjo (a := 3) (c := 2) (b1 := 53) (b2 := 7 + 7 * t + 1) (by omega) (by omega)).trans (rh2)
    have f26 : E20 38 = .inl (tc 5, 3, .inr (.inr (.inr (.inr ra3)))) := by rw [← g19]; exact (wU_fjo (a := 3) (c := 2) (b1 := 53) (b2 := 7 + 7 * t + 1) (by omega) (by omega)).trans (rh3)
    have f27 : E20 48 = .inl (tc 6, 2, .inr (.inr (.inr (.inr ra4)))) := by rw [← g19]; exact (wU_fjo (a := 3) (c := 2) (b1 := 53) (b2 := 7 + 7 * t + 1) (by omega) (by omega)).trans (rh4)
    have f28 : E20 56 = .inr (3, [.ref (ad 57), .ref (ad 58), .ref (ad 59), .ref (ad 60)]) := by rw [← g19]; exact (wU_fjo (a := 3) (c := 2) (b1 := 53) (b2 := 7 + 7 * t + 1) (by omega) (by omega)).trans (b0)
    have f29 : E20 57 = .inl (tc 0, 8, .inl fr) := by rw [← g19]; exact (wU_fjo (a := 3) (c := 2) (b1 := 53) (b2 := 7 + 7 * t + 1) (by omega) (by omega)).trans (b1)
    have f30 : E20 58 = .inl (tc 0, 8, .inl fp) := by rw [← g19]; exact (wU_fjo (a := 3) (c := 2) (b1 := 53) (b2 := 7 + 7 * t + 1) (by omega) (by omega)).trans (b2)
    have f31 : E20 59 = .inl (tc 0, 8, .inl fw) := by rw [← g19]; exact (wU_fjo (a := 3) (c := 2) (b1 := 53) (b2 := 7 + 7 * t + 1) (by omega) (by omega)).trans (b3)
    have f32 : E20 60 = .inl (tc 0, 40, .inl fd) := by rw [← g19]; exact (wU_fjo (a := 3) (c := 2) (b1 := 53) (b2 := 7 + 7 * t + 1) (by omega) (by omega)).trans (b4)
    have f33 : E20 61 = .inr (3, [.ref (ad 62), .ref (ad 63), .ref (ad 64), .ref (ad 65)]) := by rw [← g19]; exact (wU_fjo (a := 3) (c := 2) (b1 := 53) (b2 := 7 + 7 * t + 1) (by omega) (by omega)).trans (c0)
    have f34 : E20 62 = .inl (tc 0, 8, .inl cr) := by rw [← g19]; exact (wU_fjo (a := 3) (c := 2) (b1 := 53) (b2 := 7 + 7 * t + 1) (by omega) (by omega)).trans (c1)
    have f35 : E20 63 = .inl (tc 0, 8, .inl cp) := by rw [← g19]; exact (wU_fjo (a := 3) (c := 2) (b1 := 53) (b2 := 7 + 7 * t + 1) (by omega) (by omega)).trans (c2)
    have f36 : E20 64 = .inl (tc 0, 8, .inl cw) := by rw [← g19]; exact (wU_fjo (a := 3) (c := 2) (b1 := 53) (b2 := 7 + 7 * t + 1) (by omega) (by omega)).trans (c3)
    have f37 : E20 65 = .inl (tc 0, 40, .inl cd) := by rw [← g19]; exact (wU_fjo (a := 3) (c := 2) (b1 := 53) (b2 := 7 + 7 * t + 1) (by omega) (by omega)).trans (c4)
    have f38 : E20 (3 + 7 * t) = .inr (2, [.ref (ad (3 + 7 * t + 1)), .ref (ad (3 + 7 * t + 2)), .ref (ad (3 + 7 * t + 3)), .int (nI (sz t))]) := by rw [← g19]; exact (wU_fjo (a := 3) (c := 2) (b1 := 53) (b2 := 7 + 7 * t + 1) (by omega) (by omega)).trans (p0)
    have f39 : E20 (3 + 7 * t + 1) = .inl (tc 0, 12, .inl (fo t)) := by rw [← g19]; exact (wU_fjo (a := 3) (c := 2) (b1 := 53) (b2 := 7 + 7 * t + 1) (by omega) (by omega)).trans (p1)
    have f40 : E20 (3 + 7 * t + 2) = .inl (tc 0, 12, .inl (fa t)) := by rw [← g19]; exact (wU_fjo (a := 3) (c := 2) (b1 := 53) (b2 := 7 + 7 * t + 1) (by omega) (by omega)).trans (p2)
    have f41 : E20 (3 + 7 * t + 3) = .inl (tc 0, 12, .inl (fb t)) := by rw [← g19]; exact (wU_fjo (a := 3) (c := 2) (b1 := 53) (b2 := 7 + 7 * t + 1) (by omega) (by omega)).trans (p3)
    have f42 : E20 (7 + 7 * t) = .inr (5, [.ref (ad (7 + 7 * t + 1)), .int 1, .int (nI k), .long rg]) := by rw [← g19]; exact (wU_fjo (a := 3) (c := 2) (b1 := 53) (b2 := 7 + 7 * t + 1) (by omega) (by omega)).trans (w0)
    have f43 := far2.cong (G := E20) (fun k q1 q2 => by rw [← g19]; exact wU_fjo (a := 3) (c := 2) (b1 := 53) (b2 := 7 + 7 * t + 1) (by omega) (by omega))
    have f44 : E20 53 = .inr (4, [.ref (ad 54), .ref (ad 55), .int (nI (cn + 1))]) := by rw [← g19]; exact (wU_fj1 (a := 3) (c := 2) (b1 := 53) (b2 := 7 + 7 * t + 1) (by omega) 0 (by omega)).trans q210
    have f45 : E20 54 = .inl (tc 0, 200, .inl (upd fc cn (((nI t) + (8 * (fo t k))) + (128 * ov)))) := by rw [← g19]; exact (wU_fj1 (a := 3) (c := 2) (b1 := 53) (b2 := 7 + 7 * t + 1) (by omega) 1 (by omega)).trans q211
    have f46 : E20 55 = .inl (tc 0, 1000, .inl q21f) := by rw [← g19]; exact (wU_fj1 (a := 3) (c := 2) (b1 := 53) (b2 := 7 + 7 * t + 1) (by omega) 2 (by omega)).trans q212
    have f47 : E20 (7 + 7 * t + 1) = .inr (0, [.ref (ad (7 + 7 * t + 1 + 1))]) := by rw [← g19]; exact (wU_fj2 (a := 3) (c := 2) (b1 := 53) (b2 := 7 + 7 * t + 1) (by omega) 0 (by omega)).trans (q213.trans w1)
    have f48 : E20 (7 + 7 * t + 1 + 1) = .inl (tc 0, 5, .inl wf) := by rw [← g19]; exact (wU_fj2 (a := 3) (c := 2) (b1 := 53) (b2 := 7 + 7 * t + 1) (by omega) 1 (by omega)).trans (q214.trans w2)
    have er := ret_i q21a
    subst er
    have hfcN : ∀ q, q < cn + 1 → ∃ t9, t9 < 5 ∧ upd fc cn (((nI t) + (8 * (fo t k))) + (128 * ov)) q &&& 7 = nI t9 := fun q hq => by by_cases e : q = cn; (· rw [e, pk_us]; exact ⟨t, ht, code7 ht _ _⟩); (· rw [pk_un e]; exact hfc q (by omega))
    refine lv_istore hx hb dRW_doEvent_74 hl (by decide) rfl (fun ls hl => ?_)
    have hl : lv_has ls 7 [(6, .int (nI cn)), (5, .int ov), (4, .ref (ad (7 + 7 * t))), (0, .ref (ad 0)), (1, .int (nI t)), (2, .int (fo t k)), (3, .int (fa t k))] := hl
    refine lv_iload_n hx hb dRW_doEvent_76 rfl (lv_at hl 5 rfl) ?_
    refine x_iX (f := fun k => 0 + k) (x_runS (As := [.int (fo t k)]) (rest := []) X (g_RW_isAccess l D tc (fun k => ad (0 + k)) (fun k => E20 (0 + k)) (fo t k)) rfl rfl (by decide) (by decide) w_468 w_1 w_466 w_467 ry_RW_isAccess (ct_pre X hP hD (fr_lt 0 66 0 (by omega)) (fr_inj 0 0)) ct_blind hl.1 (Nat.le_of_ble_eq_true rfl) dRW_doEvent_77 ⟨Nat.zero_le _, Nat.zero_le _⟩) hD hP hS (fr_lt 0 66 0 (by omega)) (fr_inj 0 0) (fun y2 H locs hy2 hD hP hS => ?_)
    refine lv_if_eq (tgt := 125) hx hb dRW_doEvent_80 rfl (fun h80 => ?_) (fun h80 => ?_)
    · refine lv_aload hx hb dRW_doEvent_125 (lv_at hl 2 rfl) ?_
      refine lv_aload hx hb dRW_doEvent_127 (lv_at hl 2 rfl) ?_
      refine g_RW_109 X hP (by omega) (f42) rfl dRW_doEvent_129 ?_
      refine lv_iconst (v := 1) hx hb dRW_doEvent_132 (by decide) ?_
      refine lv_iadd hx hb dRW_doEvent_133 ?_
      rw [show ((nI k) + 1) = nI (k + 1) from nI_1 k]
      refine lv_aload_n hx hb dRW_doEvent_134 rfl (lv_at hl 3 rfl) ?_
      refine g_RW_11 X hP (by omega) (f23) rfl dRW_doEvent_135 ?_
      refine lv_iload_n hx hb dRW_doEvent_138 rfl (lv_at hl 4 rfl) ?_
      refine q_aald (t0 := 3) t X hP (by omega) (f24) rfl (rfl) (by omega) (by decide) (rx1 t (by omega)) dRW_doEvent_139 ?_
      refine g_RW_196 X hP (by omega) (f38) rfl dRW_doEvent_140 ?_
      refine x_v (f := fun k => 7 + 7 * t + k) (x_runVN (C := R_WK) (As := [.int (nI (k + 1)), .int (nI (sz t))]) (rest := []) X (g_WK_goTo l D tc (fun k => ad (7 + 7 * t + k)) (fun k => E20 (7 + 7 * t + k)) (.ref (ad (7 + 7 * t + 1))) 1 (nI k) (nI (k + 1)) (nI (sz t)) rg f42) rfl rfl (by decide) (by decide) w_390 w_3 w_387 w_389 sel_WK_goTo ry_WK_goTo (x_recv X hP (by omega) (f42) rfl) (ct_pre X hP hD (fr_lt 1 66 (7 + 7 * t) (by omega)) (fr_inj 1 (7 + 7 * t))) ct_blind hl.1 (Nat.le_of_ble_eq_true rfl) dRW_doEvent_143 ⟨Nat.zero_le _, Nat.zero_le _⟩) hD hP hS (fr_lt 1 66 (7 + 7 * t) (by omega)) (fr_inj 1 (7 + 7 * t)) (fun o E1 h => h.1) (fun E49 H locs q52 hD hP hS => ?_)
      obtain ⟨-, q520⟩ := q52
      generalize g50 : wU 1 (fun k => 7 + 7 * t + k) E20 E49 = E51 at hD hP
      have f53 : E51 0 = .inr (6, [.ref (ad 1), .ref (ad 2), .ref (ad 38), .ref (ad 48), .ref (ad 53), .ref (ad 56), .ref (ad 61), .int st, .int cs]) := by rw [← g50]; exact (wU_far (by omega)).trans (f23)
      have f54 : E51 1 = .inl (tc 3, 5, .inr (.inr (.inr (.inr ra1)))) := by rw [← g50]; exact (wU_far (by omega)).trans (f24)
      have f55 : E51 2 = .inl (tc 4, 5, .inr (.inr (.inr (.inr ra2)))) := by rw [← g50]; exact (wU_far (by omega)).trans (f25)
      have f56 : E51 38 = .inl (tc 5, 3, .inr (.inr (.inr (.inr ra3)))) := by rw [← g50]; exact (wU_far (by omega)).trans (f26)
      have f57 : E51 48 = .inl (tc 6, 2, .inr (.inr (.inr (.inr ra4)))) := by rw [← g50]; exact (wU_far (by omega)).trans (f27)
      have f58 : E51 56 = .inr (3, [.ref (ad 57), .ref (ad 58), .ref (ad 59), .ref (ad 60)]) := by rw [← g50]; exact (wU_far (by omega)).trans (f28)
      have f59 : E51 57 = .inl (tc 0, 8, .inl fr) := by rw [← g50]; exact (wU_far (by omega)).trans (f29)
      have f60 : E51 58 = .inl (tc 0, 8, .inl fp) := by rw [← g50]; exact (wU_far (by omega)).trans (f30)
      have f61 : E51 59 = .inl (tc 0, 8, .inl fw) := by rw [← g50]; exact (wU_far (by omega)).trans (f31)
      have f62 : E51 60 = .inl (tc 0, 40, .inl fd) := by rw [← g50]; exact (wU_far (by omega)).trans (f32)
      have f63 : E51 61 = .inr (3, [.ref (ad 62), .ref (ad 63), .ref (ad 64), .ref (ad 65)]) := by rw [← g50]; exact (wU_far (by omega)).trans (f33)
      have f64 : E51 62 = .inl (tc 0, 8, .inl cr) := by rw [← g50]; exact (wU_far (by omega)).trans (f34)
      have f65 : E51 63 = .inl (tc 0, 8, .inl cp) := by rw [← g50]; exact (wU_far (by omega)).trans (f35)
      have f66 : E51 64 = .inl (tc 0, 8, .inl cw) := by rw [← g50]; exact (wU_far (by omega)).trans (f36)
      have f67 : E51 65 = .inl (tc 0, 40, .inl cd) := by rw [← g50]; exact (wU_far (by omega)).trans (f37)
      have f68 : E51 (3 + 7 * t) = .inr (2, [.ref (ad (3 + 7 * t + 1)), .ref (ad (3 + 7 * t + 2)), .ref (ad (3 + 7 * t + 3)), .int (nI (sz t))]) := by rw [← g50]; exact (wU_far (by omega)).trans (f38)
      have f69 : E51 (3 + 7 * t + 1) = .inl (tc 0, 12, .inl (fo t)) := by rw [← g50]; exact (wU_far (by omega)).trans (f39)
      have f70 : E51 (3 + 7 * t + 2) = .inl (tc 0, 12, .inl (fa t)) := by rw [← g50]; exact (wU_far (by omega)).trans (f40)
      have f71 : E51 (3 + 7 * t + 3) = .inl (tc 0, 12, .inl (fb t)) := by rw [← g50]; exact (wU_far (by omega)).trans (f41)
      have f72 := f43.cong (G := E51) (fun k q1 q2 => by rw [← g50]; exact wU_far (by omega))
      have f73 : E51 53 = .inr (4, [.ref (ad 54), .ref (ad 55), .int (nI (cn + 1))]) := by rw [← g50]; exact (wU_far (by omega)).trans (f44)
      have f74 : E51 54 = .inl (tc 0, 200, .inl (upd fc cn (((nI t) + (8 * (fo t k))) + (128 * ov)))) := by rw [← g50]; exact (wU_far (by omega)).trans (f45)
      have f75 : E51 55 = .inl (tc 0, 1000, .inl q21f) := by rw [← g50]; exact (wU_far (by omega)).trans (f46)
      have f76 : E51 (7 + 7 * t + 1) = .inr (0, [.ref (ad (7 + 7 * t + 1 + 1))]) := by rw [← g50]; exact (wU_far (by omega)).trans (f47)
      have f77 : E51 (7 + 7 * t + 1 + 1) = .inl (tc 0, 5, .inl wf) := by rw [← g50]; exact (wU_far (by omega)).trans (f48)
      have f78 : E51 (7 + 7 * t) = .inr (5, [.ref (ad (7 + 7 * t + 1)), .int (if nI (k + 1) < nI (sz t) then 1 else 2), .int (nI (k + 1)), .long rg]) := by rw [← g50]; exact (wU_own 0 (by omega)).trans q520
      exact q_vret X hlk hr hP hS dRW_doEvent_146 ⟨rfl, hI2.fin ht (cn := cn + 1) ⟨_, _, _, ⟨f78, f76, _, f77⟩, fun q => absurd q hst, goOk (by omega) (by omega)⟩ ⟨by omega, ⟨_, _, ⟨f73, f74, f75⟩, hfcN⟩, ⟨_, _, _, _, ⟨f58, f59, f60, f61, f62⟩, fun j hj => (hfw j hj).mono (by omega), fun j hj => (hfd j hj).mono (by omega)⟩, ⟨_, _, _, _, ⟨f63, f64, f65, f66, f67⟩, fun j hj => (hcw j hj).mono (by omega), fun j hj => (hcd j hj).mono (by omega)⟩⟩ f72⟩
    · obtain ⟨pl, hpl, epl⟩ := hov (hy2 h80)
      rw [epl] at hl
      refine lv_aload_n hx hb dRW_doEvent_83 rfl (lv_at hl 3 rfl) ?_
      refine g_RW_47 X hP (by omega) (f23) rfl dRW_doEvent_84 ?_
      refine lv_aload_n hx hb dRW_doEvent_87 rfl (lv_at hl 3 rfl) ?_
      refine g_RW_40 X hP (by omega) (f23) rfl dRW_doEvent_88 ?_
      refine lv_iload hx hb dRW_doEvent_91 (lv_at hl 0 rfl) ?_
      refine lv_iload hx hb dRW_doEvent_93 (lv_at hl 1 rfl) ?_
      refine lv_iload_n hx hb dRW_doEvent_95 rfl (lv_at hl 5 rfl) ?_
      refine x_iX (f := fun k => 0 + k) (x_runS (As := [.int (fo t k)]) (rest := [.int (nI pl), .int (nI cn), .ref (ad 53), .ref (ad 56)]) X (g_RW_isWrite l D tc (fun k => ad (0 + k)) (fun k => E20 (0 + k)) (fo t k)) rfl rfl (by decide) (by decide) w_471 w_1 w_469 w_470 ry_RW_isWrite (ct_pre X hP hD (fr_lt 0 66 0 (by omega)) (fr_inj 0 0)) ct_blind hl.1 (Nat.le_of_ble_eq_true rfl) dRW_doEvent_96 ⟨Nat.zero_le _, Nat.zero_le _⟩) hD hP hS (fr_lt 0 66 0 (by omega)) (fr_inj 0 0) (fun z1 H locs hz1 hD hP hS => ?_)
      refine x_v (f := fj 5 56 53) (x_runVN (C := R_BK) (As := [.ref (ad 53), .int (nI cn), .int (nI pl), .int z1]) (rest := []) X (g_BK_enter l D tc (fun k => ad (fj 5 56 53 k)) (fun k => E20 (fj 5 56 53 k)) fr fp fw fd (cn + 1) (upd fc cn (((nI t) + (8 * (fo t k))) + (128 * ov))) q21f cn pl z1 f28 f29 f30 f31 f32 f44 f45 f46 (by omega) (by omega) hpl (fun j hj => (hfw j hj).mono (by omega)) (fun j hj => (hfd j hj).mono (by omega)) hfcN) rfl rfl (by decide) (by decide) w_475 w_7 w_472 w_474 sel_BK_enter ry_BK_enter (x_recv X hP (by omega) (f28) rfl) (ct_pre X hP hD (fj_lt 5 3 66 56 53 (by omega) (by omega)) (fj_inj 5 3 56 53 (by omega))) ct_blind hl.1 (Nat.le_of_ble_eq_true rfl) dRW_doEvent_99 ⟨Nat.zero_le _, Nat.zero_le _⟩) hD hP hS (fj_lt 5 3 66 56 53 (by omega) (by omega)) (fj_inj 5 3 56 53 (by omega)) (fun o E1 h => h.1) (fun E79 H locs q82 hD hP hS => ?_)
      obtain ⟨-, q82r, q82p, q82w, q82d, ⟨q820, q821, q822, q823, q824⟩, q82B, q82C, q825, q826, q827⟩ := q82
      generalize g80 : wU 8 (fj 5 56 53) E20 E79 = E81 at hD hP
      have f83 : E81 0 = .inr (6, [.ref (ad 1), .ref (ad 2), .ref (ad 38), .ref (ad 48), .ref (ad 53), .ref (ad 56), .ref (ad 61), .int st, .int cs]) := by rw [← g80]; exact (wU_fjo (a := 5) (c := 3) (b1 := 56) (b2 := 53) (by omega) (by omega)).trans (f23)
      have f84 : E81 1 = .inl (tc 3, 5, .inr (.inr (.inr (.inr ra1)))) := by rw [← g80]; exact (wU_fjo (a := 5) (c := 3) (b1 := 56) (b2 := 53) (by omega) (by omega)).trans (f24)
      have f85 : E81 2 = .inl (tc 4, 5, .inr (.inr (.inr (.inr ra2)))) := by rw [← g80]; exact (wU_fjo (a := 5) (c := 3) (b1 := 56) (b2 := 53) (by omega) (by omega)).trans (f25)
      have f86 : E81 38 = .inl (tc 5, 3, .inr (.inr (.inr (.inr ra3)))) := by rw [← g80]; exact (wU_fjo (a := 5) (c := 3) (b1 := 56) (b2 := 53) (by omega) (by omega)).trans (f26)
      have f87 : E81 48 = .inl (tc 6, 2, .inr (.inr (.inr (.inr ra4)))) := by rw [← g80]; exact (wU_fjo (a := 5) (c := 3) (b1 := 56) (b2 := 53) (by omega) (by omega)).trans (f27)
      have f88 : E81 61 = .inr (3, [.ref (ad 62), .ref (ad 63), .ref (ad 64), .ref (ad 65)]) := by rw [← g80]; exact (wU_fjo (a := 5) (c := 3) (b1 := 56) (b2 := 53) (by omega) (by omega)).trans (f33)
      have f89 : E81 62 = .inl (tc 0, 8, .inl cr) := by rw [← g80]; exact (wU_fjo (a := 5) (c := 3) (b1 := 56) (b2 := 53) (by omega) (by omega)).trans (f34)
      have f90 : E81 63 = .inl (tc 0, 8, .inl cp) := by rw [← g80]; exact (wU_fjo (a := 5) (c := 3) (b1 := 56) (b2 := 53) (by omega) (by omega)).trans (f35)
      have f91 : E81 64 = .inl (tc 0, 8, .inl cw) := by rw [← g80]; exact (wU_fjo (a := 5) (c := 3) (b1 := 56) (b2 := 53) (by omega) (by omega)).trans (f36)
      have f92 : E81 65 = .inl (tc 0, 40, .inl cd) := by rw [← g80]; exact (wU_fjo (a := 5) (c := 3) (b1 := 56) (b2 := 53) (by omega) (by omega)).trans (f37)
      have f93 : E81 (3 + 7 * t) = .inr (2, [.ref (ad (3 + 7 * t + 1)), .ref (ad (3 + 7 * t + 2)), .ref (ad (3 + 7 * t + 3)), .int (nI (sz t))]) := by rw [← g80]; exact (wU_fjo (a := 5) (c := 3) (b1 := 56) (b2 := 53) (by omega) (by omega)).trans (f38)
      have f94 : E81 (3 + 7 * t + 1) = .inl (tc 0, 12, .inl (fo t)) := by rw [← g80]; exact (wU_fjo (a := 5) (c := 3) (b1 := 56) (b2 := 53) (by omega) (by omega)).trans (f39)
      have f95 : E81 (3 + 7 * t + 2) = .inl (tc 0, 12, .inl (fa t)) := by rw [← g80]; exact (wU_fjo (a := 5) (c := 3) (b1 := 56) (b2 := 53) (by omega) (by omega)).trans (f40)
      have f96 : E81 (3 + 7 * t + 3) = .inl (tc 0, 12, .inl (fb t)) := by rw [← g80]; exact (wU_fjo (a := 5) (c := 3) (b1 := 56) (b2 := 53) (by omega) (by omega)).trans (f41)
      have f97 : E81 (7 + 7 * t) = .inr (5, [.ref (ad (7 + 7 * t + 1)), .int 1, .int (nI k), .long rg]) := by rw [← g80]; exact (wU_fjo (a := 5) (c := 3) (b1 := 56) (b2 := 53) (by omega) (by omega)).trans (f42)
      have f98 := f43.cong (G := E81) (fun k q1 q2 => by rw [← g80]; exact wU_fjo (a := 5) (c := 3) (b1 := 56) (b2 := 53) (by omega) (by omega))
      have f99 : E81 (7 + 7 * t + 1) = .inr (0, [.ref (ad (7 + 7 * t + 1 + 1))]) := by rw [← g80]; exact (wU_fjo (a := 5) (c := 3) (b1 := 56) (b2 := 53) (by omega) (by omega)).trans (f47)
      have f100 : E81 (7 + 7 * t + 1 + 1) = .inl (tc 0, 5, .inl wf) := by rw [← g80]; exact (wU_fjo (a := 5) (c := 3) (b1 := 56) (b2 := 53) (by omega) (by omega)).trans (f48)
      have f101 : E81 56 = .inr (3, [.ref (ad 57), .ref (ad 58), .ref (ad 59), .ref (ad 60)]) := by rw [← g80]; exact (wU_fj1 (a := 5) (c := 3) (b1 := 56) (b2 := 53) (by omega) 0 (by omega)).trans q820
      have f102 : E81 57 = .inl (tc 0, 8, .inl q82r) := by rw [← g80]; exact (wU_fj1 (a := 5) (c := 3) (b1 := 56) (b2 := 53) (by omega) 1 (by omega)).trans q821
      have f103 : E81 58 = .inl (tc 0, 8, .inl q82p) := by rw [← g80]; exact (wU_fj1 (a := 5) (c := 3) (b1 := 56) (b2 := 53) (by omega) 2 (by omega)).trans q822
      have f104 : E81 59 = .inl (tc 0, 8, .inl q82w) := by rw [← g80]; exact (wU_fj1 (a := 5) (c := 3) (b1 := 56) (b2 := 53) (by omega) 3 (by omega)).trans q823
      have f105 : E81 60 = .inl (tc 0, 40, .inl q82d) := by rw [← g80]; exact (wU_fj1 (a := 5) (c := 3) (b1 := 56) (b2 := 53) (by omega) 4 (by omega)).trans q824
      have f106 : E81 53 = .inr (4, [.ref (ad 54), .ref (ad 55), .int (nI (cn + 1))]) := by rw [← g80]; exact (wU_fj2 (a := 5) (c := 3) (b1 := 56) (b2 := 53) (by omega) 0 (by omega)).trans (q825.trans f44)
      have f107 : E81 54 = .inl (tc 0, 200, .inl (upd fc cn (((nI t) + (8 * (fo t k))) + (128 * ov)))) := by rw [← g80]; exact (wU_fj2 (a := 5) (c := 3) (b1 := 56) (b2 := 53) (by omega) 1 (by omega)).trans (q826.trans f45)
      have f108 : E81 55 = .inl (tc 0, 1000, .inl q21f) := by rw [← g80]; exact (wU_fj2 (a := 5) (c := 3) (b1 := 56) (b2 := 53) (by omega) 2 (by omega)).trans (q827.trans f46)
      refine lv_aload_n hx hb dRW_doEvent_102 rfl (lv_at hl 3 rfl) ?_
      refine g_RW_51 X hP (by omega) (f83) rfl dRW_doEvent_103 ?_
      refine lv_aload_n hx hb dRW_doEvent_106 rfl (lv_at hl 3 rfl) ?_
      refine g_RW_40 X hP (by omega) (f83) rfl dRW_doEvent_107 ?_
      refine lv_iload hx hb dRW_doEvent_110 (lv_at hl 0 rfl) ?_
      refine lv_iload hx hb dRW_doEvent_112 (lv_at hl 1 rfl) ?_
      refine lv_iconst (v := 4) hx hb dRW_doEvent_114 (by decide) ?_
      refine va_mmin hx hb (by rw [X.2.2.1]; exact hl.1.symm) X.2.2.2.1 (X.2.2.2.2.1 _ w_486) (X.2.2.2.2.1 _ w_487) (X.2.2.2.2.1 _ w_17) (X.2.2.2.2.1 _ w_488) (by decide) (Nat.le_of_ble_eq_true rfl) (Nat.zero_le _) (Nat.zero_le _) dRW_doEvent_115 ?_
      obtain ⟨pm, hpm, epm⟩ := min4 hpl
      rw [epm]
      refine lv_iload_n hx hb dRW_doEvent_118 rfl (lv_at hl 5 rfl) ?_
      refine x_iX (f := fun k => 0 + k) (x_runS (As := [.int (fo t k)]) (rest := [.int (nI pm), .int (nI cn), .ref (ad 53), .ref (ad 61)]) X (g_RW_isWrite l D tc (fun k => ad (0 + k)) (fun k => E81 (0 + k)) (fo t k)) rfl rfl (by decide) (by decide) w_471 w_1 w_469 w_470 ry_RW_isWrite (ct_pre X hP hD (fr_lt 0 66 0 (by omega)) (fr_inj 0 0)) ct_blind hl.1 (Nat.le_of_ble_eq_true rfl) dRW_doEvent_119 ⟨Nat.zero_le _, Nat.zero_le _⟩) hD hP hS (fr_lt 0 66 0 (by omega)) (fr_inj 0 0) (fun z2 H locs hz2 hD hP hS => ?_)
      refine x_v (f := fj 5 61 53) (x_runVN (C := R_BK) (As := [.ref (ad 53), .int (nI cn), .int (nI pm), .int z2]) (rest := []) X (g_BK_enter l D tc (fun k => ad (fj 5 61 53 k)) (fun k => E81 (fj 5 61 53 k)) cr cp cw cd (cn + 1) (upd fc cn (((nI t) + (8 * (fo t k))) + (128 * ov))) q21f cn pm z2 f88 f89 f90 f91 f92 f106 f107 f108 (by omega) (by omega) hpm (fun j hj => (hcw j hj).mono (by omega)) (fun j hj => (hcd j hj).mono (by omega)) hfcN) rfl rfl (by decide) (by decide) w_475 w_7 w_472 w_474 sel_BK_enter ry_BK_enter (x_recv X hP (by omega) (f88) rfl) (ct_pre X hP hD (fj_lt 5 3 66 61 53 (by omega) (by omega)) (fj_inj 5 3 61 53 (by omega))) ct_blind hl.1 (Nat.le_of_ble_eq_true rfl) dRW_doEvent_122 ⟨Nat.zero_le _, Nat.zero_le _⟩) hD hP hS (fj_lt 5 3 66 61 53 (by omega) (by omega)) (fj_inj 5 3 61 53 (by omega)) (fun o E1 h => h.1) (fun E109 H locs q112 hD hP hS => ?_)
      obtain ⟨-, q112r, q112p, q112w, q112d, ⟨q1120, q1121, q1122, q1123, q1124⟩, q112B, q112C, q1125, q1126, q1127⟩ := q112
      generalize g110 : wU 8 (fj 5 61 53) E81 E109 = E111 at hD hP
      have f113 : E111 0 = .inr (6, [.ref (ad 1), .ref (ad 2), .ref (ad 38), .ref (ad 48), .ref (ad 53), .ref (ad 56), .ref (ad 61), .int st, .int cs]) := by rw [← g110]; exact (wU_fjo (a := 5) (c := 3) (b1 := 61) (b2 := 53) (by omega) (by omega)).trans (f83)
      have f114 : E111 1 = .inl (tc 3, 5, .inr (.inr (.inr (.inr ra1)))) := by rw [← g110]; exact (wU_fjo (a := 5) (c := 3) (b1 := 61) (b2 := 53) (by omega) (by omega)).trans (f84)
      have f115 : E111 2 = .inl (tc 4, 5, .inr (.inr (.inr (.inr ra2)))) := by rw [← g110]; exact (wU_fjo (a := 5) (c := 3) (b1 := 61) (b2 := 53) (by omega) (by omega)).trans (f85)
      have f116 : E111 38 = .inl (tc 5, 3, .inr (.inr (.inr (.inr ra3)))) := by rw [← g110]; exact (wU_fjo (a := 5) (c := 3) (b1 := 61) (b2 := 53) (by omega) (by omega)).trans (f86)
      have f117 : E111 48 = .inl (tc 6, 2, .inr (.inr (.inr (.inr ra4)))) := by rw [← g110]; exact (wU_fjo (a := 5) (c := 3) (b1 := 61) (b2 := 53) (by omega) (by omega)).trans (f87)
      have f118 : E111 (3 + 7 * t) = .inr (2, [.ref (ad (3 + 7 * t + 1)), .ref (ad (3 + 7 * t + 2)), .ref (ad (3 + 7 * t + 3)), .int (nI (sz t))]) := by rw [← g110]; exact (wU_fjo (a := 5) (c := 3) (b1 := 61) (b2 := 53) (by omega) (by omega)).trans (f93)
      have f119 : E111 (3 + 7 * t + 1) = .inl (tc 0, 12, .inl (fo t)) := by rw [← g110]; exact (wU_fjo (a := 5) (c := 3) (b1 := 61) (b2 := 53) (by omega) (by omega)).trans (f94)
      have f120 : E111 (3 + 7 * t + 2) = .inl (tc 0, 12, .inl (fa t)) := by rw [← g110]; exact (wU_fjo (a := 5) (c := 3) (b1 := 61) (b2 := 53) (by omega) (by omega)).trans (f95)
      have f121 : E111 (3 + 7 * t + 3) = .inl (tc 0, 12, .inl (fb t)) := by rw [← g110]; exact (wU_fjo (a := 5) (c := 3) (b1 := 61) (b2 := 53) (by omega) (by omega)).trans (f96)
      have f122 : E111 (7 + 7 * t) = .inr (5, [.ref (ad (7 + 7 * t + 1)), .int 1, .int (nI k), .long rg]) := by rw [← g110]; exact (wU_fjo (a := 5) (c := 3) (b1 := 61) (b2 := 53) (by omega) (by omega)).trans (f97)
      have f123 := f98.cong (G := E111) (fun k q1 q2 => by rw [← g110]; exact wU_fjo (a := 5) (c := 3) (b1 := 61) (b2 := 53) (by omega) (by omega))
      have f124 : E111 (7 + 7 * t + 1) = .inr (0, [.ref (ad (7 + 7 * t + 1 + 1))]) := by rw [← g110]; exact (wU_fjo (a := 5) (c := 3) (b1 := 61) (b2 := 53) (by omega) (by omega)).trans (f99)
      have f125 : E111 (7 + 7 * t + 1 + 1) = .inl (tc 0, 5, .inl wf) := by rw [← g110]; exact (wU_fjo (a := 5) (c := 3) (b1 := 61) (b2 := 53) (by omega) (by omega)).trans (f100)
      have f126 : E111 56 = .inr (3, [.ref (ad 57), .ref (ad 58), .ref (ad 59), .ref (ad 60)]) := by rw [← g110]; exact (wU_fjo (a := 5) (c := 3) (b1 := 61) (b2 := 53) (by omega) (by omega)).trans (f101)
      have f127 : E111 57 = .inl (tc 0, 8, .inl q82r) := by rw [← g110]; exact (wU_fjo (a := 5) (c := 3) (b1 := 61) (b2 := 53) (by omega) (by omega)).trans (f102)
      have f128 : E111 58 = .inl (tc 0, 8, .inl q82p) := by rw [← g110]; exact (wU_fjo (a := 5) (c := 3) (b1 := 61) (b2 := 53) (by omega) (by omega)).trans (f103)
      have f129 : E111 59 = .inl (tc 0, 8, .inl q82w) := by rw [← g110]; exact (wU_fjo (a := 5) (c := 3) (b1 := 61) (b2 := 53) (by omega) (by omega)).trans (f104)
      have f130 : E111 60 = .inl (tc 0, 40, .inl q82d) := by rw [← g110]; exact (wU_fjo (a := 5) (c := 3) (b1 := 61) (b2 := 53) (by omega) (by omega)).trans (f105)
      have f131 : E111 61 = .inr (3, [.ref (ad 62), .ref (ad 63), .ref (ad 64), .ref (ad 65)]) := by rw [← g110]; exact (wU_fj1 (a := 5) (c := 3) (b1 := 61) (b2 := 53) (by omega) 0 (by omega)).trans q1120
      have f132 : E111 62 = .inl (tc 0, 8, .inl q112r) := by rw [← g110]; exact (wU_fj1 (a := 5) (c := 3) (b1 := 61) (b2 := 53) (by omega) 1 (by omega)).trans q1121
      have f133 : E111 63 = .inl (tc 0, 8, .inl q112p) := by rw [← g110]; exact (wU_fj1 (a := 5) (c := 3) (b1 := 61) (b2 := 53) (by omega) 2 (by omega)).trans q1122
      have f134 : E111 64 = .inl (tc 0, 8, .inl q112w) := by rw [← g110]; exact (wU_fj1 (a := 5) (c := 3) (b1 := 61) (b2 := 53) (by omega) 3 (by omega)).trans q1123
      have f135 : E111 65 = .inl (tc 0, 40, .inl q112d) := by rw [← g110]; exact (wU_fj1 (a := 5) (c := 3) (b1 := 61) (b2 := 53) (by omega) 4 (by omega)).trans q1124
      have f136 : E111 53 = .inr (4, [.ref (ad 54), .ref (ad 55), .int (nI (cn + 1))]) := by rw [← g110]; exact (wU_fj2 (a := 5) (c := 3) (b1 := 61) (b2 := 53) (by omega) 0 (by omega)).trans (q1125.trans f106)
      have f137 : E111 54 = .inl (tc 0, 200, .inl (upd fc cn (((nI t) + (8 * (fo t k))) + (128 * ov)))) := by rw [← g110]; exact (wU_fj2 (a := 5) (c := 3) (b1 := 61) (b2 := 53) (by omega) 1 (by omega)).trans (q1126.trans f107)
      have f138 : E111 55 = .inl (tc 0, 1000, .inl q21f) := by rw [← g110]; exact (wU_fj2 (a := 5) (c := 3) (b1 := 61) (b2 := 53) (by omega) 2 (by omega)).trans (q1127.trans f108)
      refine lv_aload hx hb dRW_doEvent_125 (lv_at hl 2 rfl) ?_
      refine lv_aload hx hb dRW_doEvent_127 (lv_at hl 2 rfl) ?_
      refine g_RW_109 X hP (by omega) (f122) rfl dRW_doEvent_129 ?_
      refine lv_iconst (v := 1) hx hb dRW_doEvent_132 (by decide) ?_
      refine lv_iadd hx hb dRW_doEvent_133 ?_
      rw [show ((nI k) + 1) = nI (k + 1) from nI_1 k]
      refine lv_aload_n hx hb dRW_doEvent_134 rfl (lv_at hl 3 rfl) ?_
      refine g_RW_11 X hP (by omega) (f113) rfl dRW_doEvent_135 ?_
      refine lv_iload_n hx hb dRW_doEvent_138 rfl (lv_at hl 4 rfl) ?_
      refine q_aald (t0 := 3) t X hP (by omega) (f114) rfl (rfl) (by omega) (by decide) (rx1 t (by omega)) dRW_doEvent_139 ?_
      refine g_RW_196 X hP (by omega) (f118) rfl dRW_doEvent_140 ?_
      refine x_v (f := fun k => 7 + 7 * t + k) (x_runVN (C := R_WK) (As := [.int (nI (k + 1)), .int (nI (sz t))]) (rest := []) X (g_WK_goTo l D tc (fun k => ad (7 + 7 * t + k)) (fun k => E111 (7 + 7 * t + k)) (.ref (ad (7 + 7 * t + 1))) 1 (nI k) (nI (k + 1)) (nI (sz t)) rg f122) rfl rfl (by decide) (by decide) w_390 w_3 w_387 w_389 sel_WK_goTo ry_WK_goTo (x_recv X hP (by omega) (f122) rfl) (ct_pre X hP hD (fr_lt 1 66 (7 + 7 * t) (by omega)) (fr_inj 1 (7 + 7 * t))) ct_blind hl.1 (Nat.le_of_ble_eq_true rfl) dRW_doEvent_143 ⟨Nat.zero_le _, Nat.zero_le _⟩) hD hP hS (fr_lt 1 66 (7 + 7 * t) (by omega)) (fr_inj 1 (7 + 7 * t)) (fun o E1 h => h.1) (fun E139 H locs q142 hD hP hS => ?_)
      obtain ⟨-, q1420⟩ := q142
      generalize g140 : wU 1 (fun k => 7 + 7 * t + k) E111 E139 = E141 at hD hP
      have f143 : E141 0 = .inr (6, [.ref (ad 1), .ref (ad 2), .ref (ad 38), .ref (ad 48), .ref (ad 53), .ref (ad 56), .ref (ad 61), .int st, .int cs]) := by rw [← g140]; exact (wU_far (by omega)).trans (f113)
      have f144 : E141 1 = .inl (tc 3, 5, .inr (.inr (.inr (.inr ra1)))) := by rw [← g140]; exact (wU_far (by omega)).trans (f114)
      have f145 : E141 2 = .inl (tc 4, 5, .inr (.inr (.inr (.inr ra2)))) := by rw [← g140]; exact (wU_far (by omega)).trans (f115)
      have f146 : E141 38 = .inl (tc 5, 3, .inr (.inr (.inr (.inr ra3)))) := by rw [← g140]; exact (wU_far (by omega)).trans (f116)
      have f147 : E141 48 = .inl (tc 6, 2, .inr (.inr (.inr (.inr ra4)))) := by rw [← g140]; exact (wU_far (by omega)).trans (f117)
      have f148 : E141 (3 + 7 * t) = .inr (2, [.ref (ad (3 + 7 * t + 1)), .ref (ad (3 + 7 * t + 2)), .ref (ad (3 + 7 * t + 3)), .int (nI (sz t))]) := by rw [← g140]; exact (wU_far (by omega)).trans (f118)
      have f149 : E141 (3 + 7 * t + 1) = .inl (tc 0, 12, .inl (fo t)) := by rw [← g140]; exact (wU_far (by omega)).trans (f119)
      have f150 : E141 (3 + 7 * t + 2) = .inl (tc 0, 12, .inl (fa t)) := by rw [← g140]; exact (wU_far (by omega)).trans (f120)
      have f151 : E141 (3 + 7 * t + 3) = .inl (tc 0, 12, .inl (fb t)) := by rw [← g140]; exact (wU_far (by omega)).trans (f121)
      have f152 := f123.cong (G := E141) (fun k q1 q2 => by rw [← g140]; exact wU_far (by omega))
      have f153 : E141 (7 + 7 * t + 1) = .inr (0, [.ref (ad (7 + 7 * t + 1 + 1))]) := by rw [← g140]; exact (wU_far (by omega)).trans (f124)
      have f154 : E141 (7 + 7 * t + 1 + 1) = .inl (tc 0, 5, .inl wf) := by rw [← g140]; exact (wU_far (by omega)).trans (f125)
      have f155 : E141 56 = .inr (3, [.ref (ad 57), .ref (ad 58), .ref (ad 59), .ref (ad 60)]) := by rw [← g140]; exact (wU_far (by omega)).trans (f126)
      have f156 : E141 57 = .inl (tc 0, 8, .inl q82r) := by rw [← g140]; exact (wU_far (by omega)).trans (f127)
      have f157 : E141 58 = .inl (tc 0, 8, .inl q82p) := by rw [← g140]; exact (wU_far (by omega)).trans (f128)
      have f158 : E141 59 = .inl (tc 0, 8, .inl q82w) := by rw [← g140]; exact (wU_far (by omega)).trans (f129)
      have f159 : E141 60 = .inl (tc 0, 40, .inl q82d) := by rw [← g140]; exact (wU_far (by omega)).trans (f130)
      have f160 : E141 61 = .inr (3, [.ref (ad 62), .ref (ad 63), .ref (ad 64), .ref (ad 65)]) := by rw [← g140]; exact (wU_far (by omega)).trans (f131)
      have f161 : E141 62 = .inl (tc 0, 8, .inl q112r) := by rw [← g140]; exact (wU_far (by omega)).trans (f132)
      have f162 : E141 63 = .inl (tc 0, 8, .inl q112p) := by rw [← g140]; exact (wU_far (by omega)).trans (f133)
      have f163 : E141 64 = .inl (tc 0, 8, .inl q112w) := by rw [← g140]; exact (wU_far (by omega)).trans (f134)
      have f164 : E141 65 = .inl (tc 0, 40, .inl q112d) := by rw [← g140]; exact (wU_far (by omega)).trans (f135)
      have f165 : E141 53 = .inr (4, [.ref (ad 54), .ref (ad 55), .int (nI (cn + 1))]) := by rw [← g140]; exact (wU_far (by omega)).trans (f136)
      have f166 : E141 54 = .inl (tc 0, 200, .inl (upd fc cn (((nI t) + (8 * (fo t k))) + (128 * ov)))) := by rw [← g140]; exact (wU_far (by omega)).trans (f137)
      have f167 : E141 55 = .inl (tc 0, 1000, .inl q21f) := by rw [← g140]; exact (wU_far (by omega)).trans (f138)
      have f168 : E141 (7 + 7 * t) = .inr (5, [.ref (ad (7 + 7 * t + 1)), .int (if nI (k + 1) < nI (sz t) then 1 else 2), .int (nI (k + 1)), .long rg]) := by rw [← g140]; exact (wU_own 0 (by omega)).trans q1420
      exact q_vret X hlk hr hP hS dRW_doEvent_146 ⟨rfl, hI2.fin ht (cn := cn + 1) ⟨_, _, _, ⟨f168, f153, _, f154⟩, fun q => absurd q hst, goOk (by omega) (by omega)⟩ ⟨by omega, ⟨_, _, ⟨f165, f166, f167⟩, hfcN⟩, ⟨_, _, _, _, ⟨f155, f156, f157, f158, f159⟩, q82B, q82C⟩, ⟨_, _, _, _, ⟨f160, f161, f162, f163, f164⟩, q112B, q112C⟩⟩ f152⟩
  refine lv_aload_n hx hb dRW_doEvent_0 rfl (lv_at hl 0 rfl) ?_
  refine g_RW_17 X hP (by omega) (rh0) rfl dRW_doEvent_1 ?_
  refine lv_iload_n hx hb dRW_doEvent_4 rfl (lv_at hl 1 rfl) ?_
  refine q_aald (t0 := 4) t X hP (by omega) (rh2) rfl (rfl) (by omega) (by decide) (rx2 t (by omega)) dRW_doEvent_5 ?_
  refine lv_astore hx hb dRW_doEvent_6 hl (by decide) rfl (fun ls hl => ?_)
  have hl : lv_has ls 7 [(4, .ref (ad (7 + 7 * t))), (0, .ref (ad 0)), (1, .int (nI t)), (2, .int (fo t k)), (3, .int (fa t k))] := hl
  refine lv_iload_n hx hb dRW_doEvent_8 rfl (lv_at hl 3 rfl) ?_
  refine x_iX (f := fun k => 0 + k) (x_runS (As := [.int (fo t k)]) (rest := []) X (g_RW_isArrayAccess l D tc (fun k => ad (0 + k)) (fun k => E (0 + k)) (fo t k)) rfl rfl (by decide) (by decide) w_427 w_1 w_425 w_426 ry_RW_isArrayAccess (ct_pre X hP hD (fr_lt 0 66 0 (by omega)) (fr_inj 0 0)) ct_blind hl.1 (Nat.le_of_ble_eq_true rfl) dRW_doEvent_9 ⟨Nat.zero_le _, Nat.zero_le _⟩) hD hP hS (fr_lt 0 66 0 (by omega)) (fr_inj 0 0) (fun y H locs hy hD hP hS => ?_)
  refine lv_if_eq (tgt := 30) hx hb dRW_doEvent_12 rfl (fun h12 => ?_) (fun h12 => ?_)
  · refine lv_iload_n hx hb dRW_doEvent_30 rfl (lv_at hl 4 rfl) ?_
    exact J31 _ _ _ _ (fun h => ofA (hy h12) ((hok t ht).2 k hk).2 h) hD hP hS hl
  · refine lv_iconst (v := 4) hx hb dRW_doEvent_15 (by decide) ?_
    refine lv_aload hx hb dRW_doEvent_16 (lv_at hl 0 rfl) ?_
    refine g_RW_142 X hP (by omega) (w0) rfl dRW_doEvent_18 ?_
    refine lv_ldc2 (v := 3) hx hb X.2.2.2.1 (X.2.2.2.2.1 _ w_428) dRW_doEvent_21 ?_
    refine lv_land hx hb dRW_doEvent_24 ?_
    refine lv_l2i hx hb dRW_doEvent_25 rfl ?_
    refine lv_iadd hx hb dRW_doEvent_26 ?_
    refine lv_goto (tgt := 31) hx hb dRW_doEvent_27 rfl ?_
    exact J31 _ _ _ _ (fun _ => ofL rg) hD hP hS hl
