theorem dRW_doQuietly_0 : decode cRW_doQuietly 0 = .ok (.aload_n 0, 1) := by decide +kernel
theorem dRW_doQuietly_1 : decode cRW_doQuietly 1 = .ok (.getfield 17, 3) := by decide +kernel
theorem dRW_doQuietly_4 : decode cRW_doQuietly 4 = .ok (.iload_n 1, 1) := by decide +kernel
theorem dRW_doQuietly_5 : decode cRW_doQuietly 5 = .ok (.aaload, 1) := by decide +kernel
theorem dRW_doQuietly_6 : decode cRW_doQuietly 6 = .ok (.astore 4, 2) := by decide +kernel
theorem dRW_doQuietly_8 : decode cRW_doQuietly 8 = .ok (.aload 4, 2) := by decide +kernel
theorem dRW_doQuietly_10 : decode cRW_doQuietly 10 = .ok (.getfield 109, 3) := by decide +kernel
theorem dRW_doQuietly_13 : decode cRW_doQuietly 13 = .ok (.iconst 1, 1) := by decide +kernel
theorem dRW_doQuietly_14 : decode cRW_doQuietly 14 = .ok (.iadd, 1) := by decide +kernel
theorem dRW_doQuietly_15 : decode cRW_doQuietly 15 = .ok (.istore 5, 2) := by decide +kernel
theorem dRW_doQuietly_17 : decode cRW_doQuietly 17 = .ok (.iload_n 2, 1) := by decide +kernel
theorem dRW_doQuietly_18 : decode cRW_doQuietly 18 = .ok (.bipush 10, 2) := by decide +kernel
theorem dRW_doQuietly_20 : decode cRW_doQuietly 20 = .ok (.if_icmp .ne 13, 3) := by decide +kernel
theorem dRW_doQuietly_23 : decode cRW_doQuietly 23 = .ok (.aload 4, 2) := by decide +kernel
theorem dRW_doQuietly_25 : decode cRW_doQuietly 25 = .ok (.iload_n 3, 1) := by decide +kernel
theorem dRW_doQuietly_26 : decode cRW_doQuietly 26 = .ok (.i2l, 1) := by decide +kernel
theorem dRW_doQuietly_27 : decode cRW_doQuietly 27 = .ok (.putfield 142, 3) := by decide +kernel
theorem dRW_doQuietly_30 : decode cRW_doQuietly 30 = .ok (.goto 61, 3) := by decide +kernel
theorem dRW_doQuietly_33 : decode cRW_doQuietly 33 = .ok (.iload_n 2, 1) := by decide +kernel
theorem dRW_doQuietly_34 : decode cRW_doQuietly 34 = .ok (.bipush 11, 2) := by decide +kernel
theorem dRW_doQuietly_36 : decode cRW_doQuietly 36 = .ok (.if_icmp .ne 17, 3) := by decide +kernel
theorem dRW_doQuietly_39 : decode cRW_doQuietly 39 = .ok (.aload 4, 2) := by decide +kernel
theorem dRW_doQuietly_41 : decode cRW_doQuietly 41 = .ok (.dup, 1) := by decide +kernel
theorem dRW_doQuietly_42 : decode cRW_doQuietly 42 = .ok (.getfield 142, 3) := by decide +kernel
theorem dRW_doQuietly_45 : decode cRW_doQuietly 45 = .ok (.lconst 1, 1) := by decide +kernel
theorem dRW_doQuietly_46 : decode cRW_doQuietly 46 = .ok (.ladd, 1) := by decide +kernel
theorem dRW_doQuietly_47 : decode cRW_doQuietly 47 = .ok (.putfield 142, 3) := by decide +kernel
theorem dRW_doQuietly_50 : decode cRW_doQuietly 50 = .ok (.goto 41, 3) := by decide +kernel
theorem dRW_doQuietly_53 : decode cRW_doQuietly 53 = .ok (.aload 4, 2) := by decide +kernel
theorem dRW_doQuietly_55 : decode cRW_doQuietly 55 = .ok (.dup, 1) := by decide +kernel
theorem dRW_doQuietly_56 : decode cRW_doQuietly 56 = .ok (.getfield 142, 3) := by decide +kernel
theorem dRW_doQuietly_59 : decode cRW_doQuietly 59 = .ok (.lconst 1, 1) := by decide +kernel
theorem dRW_doQuietly_60 : decode cRW_doQuietly 60 = .ok (.lsub, 1) := by decide +kernel
theorem dRW_doQuietly_61 : decode cRW_doQuietly 61 = .ok (.putfield 142, 3) := by decide +kernel
theorem dRW_doQuietly_64 : decode cRW_doQuietly 64 = .ok (.aload 4, 2) := by decide +kernel
theorem dRW_doQuietly_66 : decode cRW_doQuietly 66 = .ok (.getfield 142, 3) := by decide +kernel
theorem dRW_doQuietly_69 : decode cRW_doQuietly 69 = .ok (.lconst 0, 1) := by decide +kernel
theorem dRW_doQuietly_70 : decode cRW_doQuietly 70 = .ok (.lcmp, 1) := by decide +kernel
theorem dRW_doQuietly_71 : decode cRW_doQuietly 71 = .ok (.ifCond .le 20, 3) := by decide +kernel
theorem dRW_doQuietly_74 : decode cRW_doQuietly 74 = .ok (.aload_n 0, 1) := by decide +kernel
theorem dRW_doQuietly_75 : decode cRW_doQuietly 75 = .ok (.getfield 11, 3) := by decide +kernel
theorem dRW_doQuietly_78 : decode cRW_doQuietly 78 = .ok (.iload_n 1, 1) := by decide +kernel
theorem dRW_doQuietly_79 : decode cRW_doQuietly 79 = .ok (.aaload, 1) := by decide +kernel
theorem dRW_doQuietly_80 : decode cRW_doQuietly 80 = .ok (.getfield 202, 3) := by decide +kernel
theorem dRW_doQuietly_83 : decode cRW_doQuietly 83 = .ok (.aload 4, 2) := by decide +kernel
theorem dRW_doQuietly_85 : decode cRW_doQuietly 85 = .ok (.getfield 109, 3) := by decide +kernel
theorem dRW_doQuietly_88 : decode cRW_doQuietly 88 = .ok (.iaload, 1) := by decide +kernel
theorem dRW_doQuietly_89 : decode cRW_doQuietly 89 = .ok (.istore 5, 2) := by decide +kernel
theorem dRW_doQuietly_91 : decode cRW_doQuietly 91 = .ok (.aload 4, 2) := by decide +kernel
theorem dRW_doQuietly_93 : decode cRW_doQuietly 93 = .ok (.iload 5, 2) := by decide +kernel
theorem dRW_doQuietly_95 : decode cRW_doQuietly 95 = .ok (.aload_n 0, 1) := by decide +kernel
theorem dRW_doQuietly_96 : decode cRW_doQuietly 96 = .ok (.getfield 11, 3) := by decide +kernel
theorem dRW_doQuietly_99 : decode cRW_doQuietly 99 = .ok (.iload_n 1, 1) := by decide +kernel
theorem dRW_doQuietly_100 : decode cRW_doQuietly 100 = .ok (.aaload, 1) := by decide +kernel
theorem dRW_doQuietly_101 : decode cRW_doQuietly 101 = .ok (.getfield 196, 3) := by decide +kernel
theorem dRW_doQuietly_104 : decode cRW_doQuietly 104 = .ok (.invokevirtual 205, 3) := by decide +kernel
theorem dRW_doQuietly_107 : decode cRW_doQuietly 107 = .ok (.return_, 1) := by decide +kernel
set_option maxHeartbeats 4000000 in
set_option maxRecDepth 100000 in
theorem g_RW_doQuietly (l : Launch) (D : va_G) (tc : Nat → ClassId) (ad : Nat → Nat) (E : Nat → va_E) (st cs : Int32) (sz : Nat → Nat) (fo fa fb : Nat → Nat → Int32) (t k : Nat) (rg : Int64) (hI : RI tc ad E st cs sz fo fa fb) (hst : ¬ st = 0) (ht : t < 5) (hk : k < sz t) (hw : isWK tc ad E (7 + 7 * t) 1 (nI k) rg) (hev : ¬ (¬ fo t k < 0 ∧ ¬ 9 < fo t k)) : Ct l D tc yRW_doQuietly 1 66 ad E [.ref (ad 0), .int (nI t), .int (fo t k), .int (fa t k)] (fun o E2 => o = .returned none ∧ RI tc ad E2 st cs sz fo fa fb) := by
  refine Ct.ofW (cc := cRW_doQuietly) (maxL := 6) (ret := none) (own := R_RW) (by decide) rfl w_386 (Nat.le_of_ble_eq_true rfl) ?_
  intro p e s m args below meth c ls X hlk hr hD hP hS hl
  have hx := X.1
  have hb := X.2.1
  have hl : lv_has ls 6 [(0, .ref (ad 0)), (1, .int (nI t)), (2, .int (fo t k)), (3, .int (fa t k))] := hl
  have hI0 := hI
  obtain ⟨hR, hpg, hwk, hlo, hck, ⟨cn, hcn, ⟨fc, fk, ⟨tt0, tt1, tt2⟩, hfc⟩, ⟨fr, fp, fw, fd, ⟨b0, b1, b2, b3, b4⟩, hfw, hfd⟩, ⟨cr, cp, cw, cd, ⟨c0, c1, c2, c3, c4⟩, hcw, hcd⟩⟩, hok, hnb⟩ := hI
  have hR0 := hR
  obtain ⟨rh0, ⟨ra1, rh1, rx1⟩, ⟨ra2, rh2, rx2⟩, ⟨ra3, rh3, rx3⟩, ⟨ra4, rh4, rx4⟩⟩ := hR
  obtain ⟨p0, p1, p2, p3⟩ := hpg t ht
  obtain ⟨w0, w1, wf, w2⟩ := hw
  have far0 : Far (7 + 7 * t) 3 E E := fun _ _ => rfl
  have hs12 := (hok t ht).1
  refine lv_aload_n hx hb dRW_doQuietly_0 rfl (lv_at hl 0 rfl) ?_
  refine g_RW_17 X hP (by omega) (rh0) rfl dRW_doQuietly_1 ?_
  refine lv_iload_n hx hb dRW_doQuietly_4 rfl (lv_at hl 1 rfl) ?_
  refine q_aald (t0 := 4) t X hP (by omega) (rh2) rfl (rfl) (by omega) (by decide) (rx2 t (by omega)) dRW_doQuietly_5 ?_
  refine lv_astore hx hb dRW_doQuietly_6 hl (by decide) rfl (fun ls hl => ?_)
  have hl : lv_has ls 6 [(4, .ref (ad (7 + 7 * t))), (0, .ref (ad 0)), (1, .int (nI t)), (2, .int (fo t k)), (3, .int (fa t k))] := hl
  refine lv_aload hx hb dRW_doQuietly_8 (lv_at hl 0 rfl) ?_
  refine g_RW_109 X hP (by omega) (w0) rfl dRW_doQuietly_10 ?_
  refine lv_iconst (v := 1) hx hb dRW_doQuietly_13 (by decide) ?_
  refine lv_iadd hx hb dRW_doQuietly_14 ?_
  rw [show ((nI k) + 1) = nI (k + 1) from nI_1 k]
  refine lv_istore hx hb dRW_doQuietly_15 hl (by decide) rfl (fun ls hl => ?_)
  have hl : lv_has ls 6 [(5, .int (nI (k + 1))), (4, .ref (ad (7 + 7 * t))), (0, .ref (ad 0)), (1, .int (nI t)), (2, .int (fo t k)), (3, .int (fa t k))] := hl
  refine lv_iload_n hx hb dRW_doQuietly_17 rfl (lv_at hl 4 rfl) ?_
  refine lv_bipush (v := 10) hx hb dRW_doQuietly_18 (by decide) ?_
  refine lv_icmp_ne (tgt := 33) hx hb dRW_doQuietly_20 rfl (fun h20 => ?_) (fun h20 => ?_)
  · refine lv_iload_n hx hb dRW_doQuietly_33 rfl (lv_at hl 4 rfl) ?_
    refine lv_bipush (v := 11) hx hb dRW_doQuietly_34 (by decide) ?_
    refine lv_icmp_ne (tgt := 53) hx hb dRW_doQuietly_36 rfl (fun h36 => ?_) (fun h36 => ?_)
    · refine lv_aload hx hb dRW_doQuietly_53 (lv_at hl 1 rfl) ?_
      refine lv_dup hx hb dRW_doQuietly_55 rfl ?_
      refine g_RW_142 X hP (by omega) (w0) rfl dRW_doQuietly_56 ?_
      refine lv_lconst (v := 1) hx hb dRW_doQuietly_59 (by decide) ?_
      refine lv_lsub hx hb dRW_doQuietly_60 ?_
      refine p_RW_142 X hD hP hS (by omega) (w0) rfl rfl (Nat.le_of_ble_eq_true rfl) dRW_doQuietly_61 (fun H locs hD hP hS => ?_)
      have hP : va_P D vwCl (wW 66 ad (va_up E (7 + 7 * t) (.inr (5, [.ref (ad (7 + 7 * t + 1)), .int 1, .int (nI k), .long (rg - 1)])))) H := hP
      have hD : va_D (Aw 66 ad) (wW 66 ad (va_up E (7 + 7 * t) (.inr (5, [.ref (ad (7 + 7 * t + 1)), .int 1, .int (nI k), .long (rg - 1)])))) := hD
      generalize g2 : va_up E (7 + 7 * t) (.inr (5, [.ref (ad (7 + 7 * t + 1)), .int 1, .int (nI k), .long (rg - 1)])) = E1 at hD hP
      have f3 : E1 0 = .inr (6, [.ref (ad 1), .ref (ad 2), .ref (ad 38), .ref (ad 48), .ref (ad 53), .ref (ad 56), .ref (ad 61), .int st, .int cs]) := by rw [← g2, va_up_ne _ _ (by omega)]; exact rh0
      have f4 : E1 1 = .inl (tc 3, 5, .inr (.inr (.inr (.inr ra1)))) := by rw [← g2, va_up_ne _ _ (by omega)]; exact rh1
      have f5 : E1 2 = .inl (tc 4, 5, .inr (.inr (.inr (.inr ra2)))) := by rw [← g2, va_up_ne _ _ (by omega)]; exact rh2
      have f6 : E1 38 = .inl (tc 5, 3, .inr (.inr (.inr (.inr ra3)))) := by rw [← g2, va_up_ne _ _ (by omega)]; exact rh3
      have f7 : E1 48 = .inl (tc 6, 2, .inr (.inr (.inr (.inr ra4)))) := by rw [← g2, va_up_ne _ _ (by omega)]; exact rh4
      have f8 : E1 (3 + 7 * t) = .inr (2, [.ref (ad (3 + 7 * t + 1)), .ref (ad (3 + 7 * t + 2)), .ref (ad (3 + 7 * t + 3)), .int (nI (sz t))]) := by rw [← g2, va_up_ne _ _ (by omega)]; exact p0
      have f9 : E1 (3 + 7 * t + 1) = .inl (tc 0, 12, .inl (fo t)) := by rw [← g2, va_up_ne _ _ (by omega)]; exact p1
      have f10 : E1 (3 + 7 * t + 2) = .inl (tc 0, 12, .inl (fa t)) := by rw [← g2, va_up_ne _ _ (by omega)]; exact p2
      have f11 : E1 (3 + 7 * t + 3) = .inl (tc 0, 12, .inl (fb t)) := by rw [← g2, va_up_ne _ _ (by omega)]; exact p3
      have f12 : E1 (7 + 7 * t) = .inr (5, [.ref (ad (7 + 7 * t + 1)), .int 1, .int (nI k), .long (rg - 1)]) := by rw [← g2]; exact va_up_self _ _ _
      have f13 : E1 (7 + 7 * t + 1) = .inr (0, [.ref (ad (7 + 7 * t + 1 + 1))]) := by rw [← g2, va_up_ne _ _ (by omega)]; exact w1
      have f14 : E1 (7 + 7 * t + 1 + 1) = .inl (tc 0, 5, .inl wf) := by rw [← g2, va_up_ne _ _ (by omega)]; exact w2
      have f15 := far0.cong (G := E1) (fun k q1 q2 => by rw [← g2, va_up_ne _ _ (by omega)])
      refine lv_aload hx hb dRW_doQuietly_64 (lv_at hl 1 rfl) ?_
      refine g_RW_142 X hP (by omega) (f12) rfl dRW_doQuietly_66 ?_
      refine lv_lconst (v := 0) hx hb dRW_doQuietly_69 (by decide) ?_
      refine W.lcmp hx hb dRW_doQuietly_70 ?_
      refine lv_if_le (tgt := 91) hx hb dRW_doQuietly_71 rfl (fun h71 => ?_) (fun h71 => ?_)
      · refine lv_aload hx hb dRW_doQuietly_91 (lv_at hl 1 rfl) ?_
        refine lv_iload hx hb dRW_doQuietly_93 (lv_at hl 0 rfl) ?_
        refine lv_aload_n hx hb dRW_doQuietly_95 rfl (lv_at hl 2 rfl) ?_
        refine g_RW_11 X hP (by omega) (f3) rfl dRW_doQuietly_96 ?_
        refine lv_iload_n hx hb dRW_doQuietly_99 rfl (lv_at hl 3 rfl) ?_
        refine q_aald (t0 := 3) t X hP (by omega) (f4) rfl (rfl) (by omega) (by decide) (rx1 t (by omega)) dRW_doQuietly_100 ?_
        refine g_RW_196 X hP (by omega) (f8) rfl dRW_doQuietly_101 ?_
        refine x_v (f := fun k => 7 + 7 * t + k) (x_runVN (C := R_WK) (As := [.int (nI (k + 1)), .int (nI (sz t))]) (rest := []) X (g_WK_goTo l D tc (fun k => ad (7 + 7 * t + k)) (fun k => E1 (7 + 7 * t + k)) (.ref (ad (7 + 7 * t + 1))) 1 (nI k) (nI (k + 1)) (nI (sz t)) (rg - 1) f12) rfl rfl (by decide) (by decide) w_390 w_3 w_387 w_389 sel_WK_goTo ry_WK_goTo (x_recv X hP (by omega) (f12) rfl) (ct_pre X hP hD (fr_lt 1 66 (7 + 7 * t) (by omega)) (fr_inj 1 (7 + 7 * t))) ct_blind hl.1 (Nat.le_of_ble_eq_true rfl) dRW_doQuietly_104 ⟨Nat.zero_le _, Nat.zero_le _⟩) hD hP hS (fr_lt 1 66 (7 + 7 * t) (by omega)) (fr_inj 1 (7 + 7 * t)) (fun o E1 h => h.1) (fun E16 H locs q19 hD hP hS => ?_)
        obtain ⟨-, q190⟩ := q19
        generalize g17 : wU 1 (fun k => 7 + 7 * t + k) E1 E16 = E18 at hD hP
        have f20 : E18 0 = .inr (6, [.ref (ad 1), .ref (ad 2), .ref (ad 38), .ref (ad 48), .ref (ad 53), .ref (ad 56), .ref (ad 61), .int st, .int cs]) := by rw [← g17]; exact (wU_far (by omega)).trans (f3)
        have f21 : E18 1 = .inl (tc 3, 5, .inr (.inr (.inr (.inr ra1)))) := by rw [← g17]; exact (wU_far (by omega)).trans (f4)
        have f22 : E18 2 = .inl (tc 4, 5, .inr (.inr (.inr (.inr ra2)))) := by rw [← g17]; exact (wU_far (by omega)).trans (f5)
        have f23 : E18 38 = .inl (tc 5, 3, .inr (.inr (.inr (.inr ra3)))) := by rw [← g17]; exact (wU_far (by omega)).trans (f6)
        have f24 : E18 48 = .inl (tc 6, 2, .inr (.inr (.inr (.inr ra4)))) := by rw [← g17]; exact (wU_far (by omega)).trans (f7)
        have f25 : E18 (3 + 7 * t) = .inr (2, [.ref (ad (3 + 7 * t + 1)), .ref (ad (3 + 7 * t + 2)), .ref (ad (3 + 7 * t + 3)), .int (nI (sz t))]) := by rw [← g17]; exact (wU_far (by omega)).trans (f8)
        have f26 : E18 (3 + 7 * t + 1) = .inl (tc 0, 12, .inl (fo t)) := by rw [← g17]; exact (wU_far (by omega)).trans (f9)
        have f27 : E18 (3 + 7 * t + 2) = .inl (tc 0, 12, .inl (fa t)) := by rw [← g17]; exact (wU_far (by omega)).trans (f10)
        have f28 : E18 (3 + 7 * t + 3) = .inl (tc 0, 12, .inl (fb t)) := by rw [← g17]; exact (wU_far (by omega)).trans (f11)
        have f29 : E18 (7 + 7 * t + 1) = .inr (0, [.ref (ad (7 + 7 * t + 1 + 1))]) := by rw [← g17]; exact (wU_far (by omega)).trans (f13)
        have f30 : E18 (7 + 7 * t + 1 + 1) = .inl (tc 0, 5, .inl wf) := by rw [← g17]; exact (wU_far (by omega)).trans (f14)
        have f31 := f15.cong (G := E18) (fun k q1 q2 => by rw [← g17]; exact wU_far (by omega))
        have f32 : E18 (7 + 7 * t) = .inr (5, [.ref (ad (7 + 7 * t + 1)), .int (if (nI (k + 1)) < nI (sz t) then 1 else 2), .int (nI (k + 1)), .long (rg - 1)]) := by rw [← g17]; exact (wU_own 0 (by omega)).trans q190
        exact q_vret X hlk hr hP hS dRW_doQuietly_107 ⟨rfl, hI0.wk ht ⟨_, _, _, ⟨f32, f29, _, f30⟩, fun q => absurd q hst, goOk (by omega) (by omega)⟩ f31⟩
      · refine lv_aload_n hx hb dRW_doQuietly_74 rfl (lv_at hl 2 rfl) ?_
        refine g_RW_11 X hP (by omega) (f3) rfl dRW_doQuietly_75 ?_
        refine lv_iload_n hx hb dRW_doQuietly_78 rfl (lv_at hl 3 rfl) ?_
        refine q_aald (t0 := 3) t X hP (by omega) (f4) rfl (rfl) (by omega) (by decide) (rx1 t (by omega)) dRW_doQuietly_79 ?_
        refine g_RW_202 X hP (by omega) (f8) rfl dRW_doQuietly_80 ?_
        refine lv_aload hx hb dRW_doQuietly_83 (lv_at hl 1 rfl) ?_
        refine g_RW_109 X hP (by omega) (f12) rfl dRW_doQuietly_85 ?_
        refine q_iald k X hP (by omega) (f11) (rfl) (by omega) (by decide) dRW_doQuietly_88 ?_
        refine lv_istore hx hb dRW_doQuietly_89 hl (by decide) rfl (fun ls hl => ?_)
        have hl : lv_has ls 6 [(5, .int ((fb t) k)), (4, .ref (ad (7 + 7 * t))), (0, .ref (ad 0)), (1, .int (nI t)), (2, .int (fo t k)), (3, .int (fa t k))] := hl
        refine lv_aload hx hb dRW_doQuietly_91 (lv_at hl 1 rfl) ?_
        refine lv_iload hx hb dRW_doQuietly_93 (lv_at hl 0 rfl) ?_
        refine lv_aload_n hx hb dRW_doQuietly_95 rfl (lv_at hl 2 rfl) ?_
        refine g_RW_11 X hP (by omega) (f3) rfl dRW_doQuietly_96 ?_
        refine lv_iload_n hx hb dRW_doQuietly_99 rfl (lv_at hl 3 rfl) ?_
        refine q_aald (t0 := 3) t X hP (by omega) (f4) rfl (rfl) (by omega) (by decide) (rx1 t (by omega)) dRW_doQuietly_100 ?_
        refine g_RW_196 X hP (by omega) (f8) rfl dRW_doQuietly_101 ?_
        refine x_v (f := fun k => 7 + 7 * t + k) (x_runVN (C := R_WK) (As := [.int ((fb t) k), .int (nI (sz t))]) (rest := []) X (g_WK_goTo l D tc (fun k => ad (7 + 7 * t + k)) (fun k => E1 (7 + 7 * t + k)) (.ref (ad (7 + 7 * t + 1))) 1 (nI k) ((fb t) k) (nI (sz t)) (rg - 1) f12) rfl rfl (by decide) (by decide) w_390 w_3 w_387 w_389 sel_WK_goTo ry_WK_goTo (x_recv X hP (by omega) (f12) rfl) (ct_pre X hP hD (fr_lt 1 66 (7 + 7 * t) (by omega)) (fr_inj 1 (7 + 7 * t))) ct_blind hl.1 (Nat.le_of_ble_eq_true rfl) dRW_doQuietly_104 ⟨Nat.zero_le _, Nat.zero_le _⟩) hD hP hS (fr_lt 1 66 (7 + 7 * t) (by omega)) (fr_inj 1 (7 + 7 * t)) (fun o E1 h => h.1) (fun E33 H locs q36 hD hP hS => ?_)
        obtain ⟨-, q360⟩ := q36
        generalize g34 : wU 1 (fun k => 7 + 7 * t + k) E1 E33 = E35 at hD hP
        have f37 : E35 0 = .inr (6, [.ref (ad 1), .ref (ad 2), .ref (ad 38), .ref (ad 48), .ref (ad 53), .ref (ad 56), .ref (ad 61), .int st, .int cs]) := by rw [← g34]; exact (wU_far (by omega)).trans (f3)
        have f38 : E35 1 = .inl (tc 3, 5, .inr (.inr (.inr (.inr ra1)))) := by rw [← g34]; exact (wU_far (by omega)).trans (f4)
        have f39 : E35 2 = .inl (tc 4, 5, .inr (.inr (.inr (.inr ra2)))) := by rw [← g34]; exact (wU_far (by omega)).trans (f5)
        have f40 : E35 38 = .inl (tc 5, 3, .inr (.inr (.inr (.inr ra3)))) := by rw [← g34]; exact (wU_far (by omega)).trans (f6)
        have f41 : E35 48 = .inl (tc 6, 2, .inr (.inr (.inr (.inr ra4)))) := by rw [← g34]; exact (wU_far (by omega)).trans (f7)
        have f42 : E35 (3 + 7 * t) = .inr (2, [.ref (ad (3 + 7 * t + 1)), .ref (ad (3 + 7 * t + 2)), .ref (ad (3 + 7 * t + 3)), .int (nI (sz t))]) := by rw [← g34]; exact (wU_far (by omega)).trans (f8)
        have f43 : E35 (3 + 7 * t + 1) = .inl (tc 0, 12, .inl (fo t)) := by rw [← g34]; exact (wU_far (by omega)).trans (f9)
        have f44 : E35 (3 + 7 * t + 2) = .inl (tc 0, 12, .inl (fa t)) := by rw [← g34]; exact (wU_far (by omega)).trans (f10)
        have f45 : E35 (3 + 7 * t + 3) = .inl (tc 0, 12, .inl (fb t)) := by rw [← g34]; exact (wU_far (by omega)).trans (f11)
        have f46 : E35 (7 + 7 * t + 1) = .inr (0, [.ref (ad (7 + 7 * t + 1 + 1))]) := by rw [← g34]; exact (wU_far (by omega)).trans (f13)
        have f47 : E35 (7 + 7 * t + 1 + 1) = .inl (tc 0, 5, .inl wf) := by rw [← g34]; exact (wU_far (by omega)).trans (f14)
        have f48 := f15.cong (G := E35) (fun k q1 q2 => by rw [← g34]; exact wU_far (by omega))
        have f49 : E35 (7 + 7 * t) = .inr (5, [.ref (ad (7 + 7 * t + 1)), .int (if ((fb t) k) < nI (sz t) then 1 else 2), .int ((fb t) k), .long (rg - 1)]) := by rw [← g34]; exact (wU_own 0 (by omega)).trans q360
        exact q_vret X hlk hr hP hS dRW_doQuietly_107 ⟨rfl, hI0.wk ht ⟨_, _, _, ⟨f49, f46, _, f47⟩, fun q => absurd q hst, fun _ => by obtain ⟨j9, hj9, ej⟩ := wi_of (by omega) (nb12 (nbI (hnb hst) ht hk) (op12 ((hok t ht).2 k hk).1 hev h20 h36)); exact ⟨j9, by omega, ej⟩⟩ f48⟩
    · refine lv_aload hx hb dRW_doQuietly_39 (lv_at hl 1 rfl) ?_
      refine lv_dup hx hb dRW_doQuietly_41 rfl ?_
      refine g_RW_142 X hP (by omega) (w0) rfl dRW_doQuietly_42 ?_
      refine lv_lconst (v := 1) hx hb dRW_doQuietly_45 (by decide) ?_
      refine lv_ladd hx hb dRW_doQuietly_46 ?_
      refine p_RW_142 X hD hP hS (by omega) (w0) rfl rfl (Nat.le_of_ble_eq_true rfl) dRW_doQuietly_47 (fun H locs hD hP hS => ?_)
      have hP : va_P D vwCl (wW 66 ad (va_up E (7 + 7 * t) (.inr (5, [.ref (ad (7 + 7 * t + 1)), .int 1, .int (nI k), .long (rg + 1)])))) H := hP
      have hD : va_D (Aw 66 ad) (wW 66 ad (va_up E (7 + 7 * t) (.inr (5, [.ref (ad (7 + 7 * t + 1)), .int 1, .int (nI k), .long (rg + 1)])))) := hD
      generalize g51 : va_up E (7 + 7 * t) (.inr (5, [.ref (ad (7 + 7 * t + 1)), .int 1, .int (nI k), .long (rg + 1)])) = E50 at hD hP
      have f52 : E50 0 = .inr (6, [.ref (ad 1), .ref (ad 2), .ref (ad 38), .ref (ad 48), .ref (ad 53), .ref (ad 56), .ref (ad 61), .int st, .int cs]) := by rw [← g51, va_up_ne _ _ (by omega)]; exact rh0
      have f53 : E50 1 = .inl (tc 3, 5, .inr (.inr (.inr (.inr ra1)))) := by rw [← g51, va_up_ne _ _ (by omega)]; exact rh1
      have f54 : E50 2 = .inl (tc 4, 5, .inr (.inr (.inr (.inr ra2)))) := by rw [← g51, va_up_ne _ _ (by omega)]; exact rh2
      have f55 : E50 38 = .inl (tc 5, 3, .inr (.inr (.inr (.inr ra3)))) := by rw [← g51, va_up_ne _ _ (by omega)]; exact rh3
      have f56 : E50 48 = .inl (tc 6, 2, .inr (.inr (.inr (.inr ra4)))) := by rw [← g51, va_up_ne _ _ (by omega)]; exact rh4
      have f57 : E50 (3 + 7 * t) = .inr (2, [.ref (ad (3 + 7 * t + 1)), .ref (ad (3 + 7 * t + 2)), .ref (ad (3 + 7 * t + 3)), .int (nI (sz t))]) := by rw [← g51, va_up_ne _ _ (by omega)]; exact p0
      have f58 : E50 (3 + 7 * t + 1) = .inl (tc 0, 12, .inl (fo t)) := by rw [← g51, va_up_ne _ _ (by omega)]; exact p1
      have f59 : E50 (3 + 7 * t + 2) = .inl (tc 0, 12, .inl (fa t)) := by rw [← g51, va_up_ne _ _ (by omega)]; exact p2
      have f60 : E50 (3 + 7 * t + 3) = .inl (tc 0, 12, .inl (fb t)) := by rw [← g51, va_up_ne _ _ (by omega)]; exact p3
      have f61 : E50 (7 + 7 * t) = .inr (5, [.ref (ad (7 + 7 * t + 1)), .int 1, .int (nI k), .long (rg + 1)]) := by rw [← g51]; exact va_up_self _ _ _
      have f62 : E50 (7 + 7 * t + 1) = .inr (0, [.ref (ad (7 + 7 * t + 1 + 1))]) := by rw [← g51, va_up_ne _ _ (by omega)]; exact w1
      have f63 : E50 (7 + 7 * t + 1 + 1) = .inl (tc 0, 5, .inl wf) := by rw [← g51, va_up_ne _ _ (by omega)]; exact w2
      have f64 := far0.cong (G := E50) (fun k q1 q2 => by rw [← g51, va_up_ne _ _ (by omega)])
      refine lv_goto (tgt := 91) hx hb dRW_doQuietly_50 rfl ?_
      refine lv_aload hx hb dRW_doQuietly_91 (lv_at hl 1 rfl) ?_
      refine lv_iload hx hb dRW_doQuietly_93 (lv_at hl 0 rfl) ?_
      refine lv_aload_n hx hb dRW_doQuietly_95 rfl (lv_at hl 2 rfl) ?_
      refine g_RW_11 X hP (by omega) (f52) rfl dRW_doQuietly_96 ?_
      refine lv_iload_n hx hb dRW_doQuietly_99 rfl (lv_at hl 3 rfl) ?_
      refine q_aald (t0 := 3) t X hP (by omega) (f53) rfl (rfl) (by omega) (by decide) (rx1 t (by omega)) dRW_doQuietly_100 ?_
      refine g_RW_196 X hP (by omega) (f57) rfl dRW_doQuietly_101 ?_
      refine x_v (f := fun k => 7 + 7 * t + k) (x_runVN (C := R_WK) (As := [.int (nI (k + 1)), .int (nI (sz t))]) (rest := []) X (g_WK_goTo l D tc (fun k => ad (7 + 7 * t + k)) (fun k => E50 (7 + 7 * t + k)) (.ref (ad (7 + 7 * t + 1))) 1 (nI k) (nI (k + 1)) (nI (sz t)) (rg + 1) f61) rfl rfl (by decide) (by decide) w_390 w_3 w_387 w_389 sel_WK_goTo ry_WK_goTo (x_recv X hP (by omega) (f61) rfl) (ct_pre X hP hD (fr_lt 1 66 (7 + 7 * t) (by omega)) (fr_inj 1 (7 + 7 * t))) ct_blind hl.1 (Nat.le_of_ble_eq_true rfl) dRW_doQuietly_104 ⟨Nat.zero_le _, Nat.zero_le _⟩) hD hP hS (fr_lt 1 66 (7 + 7 * t) (by omega)) (fr_inj 1 (7 + 7 * t)) (fun o E1 h => h.1) (fun E65 H locs q68 hD hP hS => ?_)
      obtain ⟨-, q680⟩ := q68
      generalize g66 : wU 1 (fun k => 7 + 7 * t + k) E50 E65 = E67 at hD hP
      have f69 : E67 0 = .inr (6, [.ref (ad 1), .ref (ad 2), .ref (ad 38), .ref (ad 48), .ref (ad 53), .ref (ad 56), .ref (ad 61), .int st, .int cs]) := by rw [← g66]; exact (wU_far (by omega)).trans (f52)
      have f70 : E67 1 = .inl (tc 3, 5, .inr (.inr (.inr (.inr ra1)))) := by rw [← g66]; exact (wU_far (by omega)).trans (f53)
      have f71 : E67 2 = .inl (tc 4, 5, .inr (.inr (.inr (.inr ra2)))) := by rw [← g66]; exact (wU_far (by omega)).trans (f54)
      have f72 : E67 38 = .inl (tc 5, 3, .inr (.inr (.inr (.inr ra3)))) := by rw [← g66]; exact (wU_far (by omega)).trans (f55)
      have f73 : E67 48 = .inl (tc 6, 2, .inr (.inr (.inr (.inr ra4)))) := by rw [← g66]; exact (wU_far (by omega)).trans (f56)
      have f74 : E67 (3 + 7 * t) = .inr (2, [.ref (ad (3 + 7 * t + 1)), .ref (ad (3 + 7 * t + 2)), .ref (ad (3 + 7 * t + 3)), .int (nI (sz t))]) := by rw [← g66]; exact (wU_far (by omega)).trans (f57)
      have f75 : E67 (3 + 7 * t + 1) = .inl (tc 0, 12, .inl (fo t)) := by rw [← g66]; exact (wU_far (by omega)).trans (f58)
      have f76 : E67 (3 + 7 * t + 2) = .inl (tc 0, 12, .inl (fa t)) := by rw [← g66]; exact (wU_far (by omega)).trans (f59)
      have f77 : E67 (3 + 7 * t + 3) = .inl (tc 0, 12, .inl (fb t)) := by rw [← g66]; exact (wU_far (by omega)).trans (f60)
      have f78 : E67 (7 + 7 * t + 1) = .inr (0, [.ref (ad (7 + 7 * t + 1 + 1))]) := by rw [← g66]; exact (wU_far (by omega)).trans (f62)
      have f79 : E67 (7 + 7 * t + 1 + 1) = .inl (tc 0, 5, .inl wf) := by rw [← g66]; exact (wU_far (by omega)).trans (f63)
      have f80 := f64.cong (G := E67) (fun k q1 q2 => by rw [← g66]; exact wU_far (by omega))
      have f81 : E67 (7 + 7 * t) = .inr (5, [.ref (ad (7 + 7 * t + 1)), .int (if (nI (k + 1)) < nI (sz t) then 1 else 2), .int (nI (k + 1)), .long (rg + 1)]) := by rw [← g66]; exact (wU_own 0 (by omega)).trans q680
      exact q_vret X hlk hr hP hS dRW_doQuietly_107 ⟨rfl, hI0.wk ht ⟨_, _, _, ⟨f81, f78, _, f79⟩, fun q => absurd q hst, goOk (by omega) (by omega)⟩ f80⟩
  · refine lv_aload hx hb dRW_doQuietly_23 (lv_at hl 1 rfl) ?_
    refine lv_iload_n hx hb dRW_doQuietly_25 rfl (lv_at hl 5 rfl) ?_
    refine lv_i2l hx hb dRW_doQuietly_26 rfl ?_
    refine p_RW_142 X hD hP hS (by omega) (w0) rfl rfl (Nat.le_of_ble_eq_true rfl) dRW_doQuietly_27 (fun H locs hD hP hS => ?_)
    have hP : va_P D vwCl (wW 66 ad (va_up E (7 + 7 * t) (.inr (5, [.ref (ad (7 + 7 * t + 1)), .int 1, .int (nI k), .long (fa t k).toInt64])))) H := hP
    have hD : va_D (Aw 66 ad) (wW 66 ad (va_up E (7 + 7 * t) (.inr (5, [.ref (ad (7 + 7 * t + 1)), .int 1, .int (nI k), .long (fa t k).toInt64])))) := hD
    generalize g83 : va_up E (7 + 7 * t) (.inr (5, [.ref (ad (7 + 7 * t + 1)), .int 1, .int (nI k), .long (fa t k).toInt64])) = E82 at hD hP
    have f84 : E82 0 = .inr (6, [.ref (ad 1), .ref (ad 2), .ref (ad 38), .ref (ad 48), .ref (ad 53), .ref (ad 56), .ref (ad 61), .int st, .int cs]) := by rw [← g83, va_up_ne _ _ (by omega)]; exact rh0
    have f85 : E82 1 = .inl (tc 3, 5, .inr (.inr (.inr (.inr ra1)))) := by rw [← g83, va_up_ne _ _ (by omega)]; exact rh1
    have f86 : E82 2 = .inl (tc 4, 5, .inr (.inr (.inr (.inr ra2)))) := by rw [← g83, va_up_ne _ _ (by omega)]; exact rh2
    have f87 : E82 38 = .inl (tc 5, 3, .inr (.inr (.inr (.inr ra3)))) := by rw [← g83, va_up_ne _ _ (by omega)]; exact rh3
    have f88 : E82 48 = .inl (tc 6, 2, .inr (.inr (.inr (.inr ra4)))) := by rw [← g83, va_up_ne _ _ (by omega)]; exact rh4
    have f89 : E82 (3 + 7 * t) = .inr (2, [.ref (ad (3 + 7 * t + 1)), .ref (ad (3 + 7 * t + 2)), .ref (ad (3 + 7 * t + 3)), .int (nI (sz t))]) := by rw [← g83, va_up_ne _ _ (by omega)]; exact p0
    have f90 : E82 (3 + 7 * t + 1) = .inl (tc 0, 12, .inl (fo t)) := by rw [← g83, va_up_ne _ _ (by omega)]; exact p1
    have f91 : E82 (3 + 7 * t + 2) = .inl (tc 0, 12, .inl (fa t)) := by rw [← g83, va_up_ne _ _ (by omega)]; exact p2
    have f92 : E82 (3 + 7 * t + 3) = .inl (tc 0, 12, .inl (fb t)) := by rw [← g83, va_up_ne _ _ (by omega)]; exact p3
    have f93 : E82 (7 + 7 * t) = .inr (5, [.ref (ad (7 + 7 * t + 1)), .int 1, .int (nI k), .long (fa t k).toInt64]) := by rw [← g83]; exact va_up_self _ _ _
    have f94 : E82 (7 + 7 * t + 1) = .inr (0, [.ref (ad (7 + 7 * t + 1 + 1))]) := by rw [← g83, va_up_ne _ _ (by omega)]; exact w1
    have f95 : E82 (7 + 7 * t + 1 + 1) = .inl (tc 0, 5, .inl wf) := by rw [← g83, va_up_ne _ _ (by omega)]; exact w2
    have f96 := far0.cong (G := E82) (fun k q1 q2 => by rw [← g83, va_up_ne _ _ (by omega)])
    refine lv_goto (tgt := 91) hx hb dRW_doQuietly_30 rfl ?_
    refine lv_aload hx hb dRW_doQuietly_91 (lv_at hl 1 rfl) ?_
    refine lv_iload hx hb dRW_doQuietly_93 (lv_at hl 0 rfl) ?_
    refine lv_aload_n hx hb dRW_doQuietly_95 rfl (lv_at hl 2 rfl) ?_
    refine g_RW_11 X hP (by omega) (f84) rfl dRW_doQuietly_96 ?_
    refine lv_iload_n hx hb dRW_doQuietly_99 rfl (lv_at hl 3 rfl) ?_
    refine q_aald (t0 := 3) t X hP (by omega) (f85) rfl (rfl) (by omega) (by decide) (rx1 t (by omega)) dRW_doQuietly_100 ?_
    refine g_RW_196 X hP (by omega) (f89) rfl dRW_doQuietly_101 ?_
    refine x_v (f := fun k => 7 + 7 * t + k) (x_runVN (C := R_WK) (As := [.int (nI (k + 1)), .int (nI (sz t))]) (rest := []) X (g_WK_goTo l D tc (fun k => ad (7 + 7 * t + k)) (fun k => E82 (7 + 7 * t + k)) (.ref (ad (7 + 7 * t + 1))) 1 (nI k) (nI (k + 1)) (nI (sz t)) ((fa t k).toInt64) f93) rfl rfl (by decide) (by decide) w_390 w_3 w_387 w_389 sel_WK_goTo ry_WK_goTo (x_recv X hP (by omega) (f93) rfl) (ct_pre X hP hD (fr_lt 1 66 (7 + 7 * t) (by omega)) (fr_inj 1 (7 + 7 * t))) ct_blind hl.1 (Nat.le_of_ble_eq_true rfl) dRW_doQuietly_104 ⟨Nat.zero_le _, Nat.zero_le _⟩) hD hP hS (fr_lt 1 66 (7 + 7 * t) (by omega)) (fr_inj 1 (7 + 7 * t)) (fun o E1 h => h.1) (fun E97 H locs q100 hD hP hS => ?_)
    obtain ⟨-, q1000⟩ := q100
    generalize g98 : wU 1 (fun k => 7 + 7 * t + k) E82 E97 = E99 at hD hP
    have f101 : E99 0 = .inr (6, [.ref (ad 1), .ref (ad 2), .ref (ad 38), .ref (ad 48), .ref (ad 53), .ref (ad 56), .ref (ad 61), .int st, .int cs]) := by rw [← g98]; exact (wU_far (by omega)).trans (f84)
    have f102 : E99 1 = .inl (tc 3, 5, .inr (.inr (.inr (.inr ra1)))) := by rw [← g98]; exact (wU_far (by omega)).trans (f85)
    have f103 : E99 2 = .inl (tc 4, 5, .inr (.inr (.inr (.inr ra2)))) := by rw [← g98]; exact (wU_far (by omega)).trans (f86)
    have f104 : E99 38 = .inl (tc 5, 3, .inr (.inr (.inr (.inr ra3)))) := by rw [← g98]; exact (wU_far (by omega)).trans (f87)
    have f105 : E99 48 = .inl (tc 6, 2, .inr (.inr (.inr (.inr ra4)))) := by rw [← g98]; exact (wU_far (by omega)).trans (f88)
    have f106 : E99 (3 + 7 * t) = .inr (2, [.ref (ad (3 + 7 * t + 1)), .ref (ad (3 + 7 * t + 2)), .ref (ad (3 + 7 * t + 3)), .int (nI (sz t))]) := by rw [← g98]; exact (wU_far (by omega)).trans (f89)
    have f107 : E99 (3 + 7 * t + 1) = .inl (tc 0, 12, .inl (fo t)) := by rw [← g98]; exact (wU_far (by omega)).trans (f90)
    have f108 : E99 (3 + 7 * t + 2) = .inl (tc 0, 12, .inl (fa t)) := by rw [← g98]; exact (wU_far (by omega)).trans (f91)
    have f109 : E99 (3 + 7 * t + 3) = .inl (tc 0, 12, .inl (fb t)) := by rw [← g98]; exact (wU_far (by omega)).trans (f92)
    have f110 : E99 (7 + 7 * t + 1) = .inr (0, [.ref (ad (7 + 7 * t + 1 + 1))]) := by rw [← g98]; exact (wU_far (by omega)).trans (f94)
    have f111 : E99 (7 + 7 * t + 1 + 1) = .inl (tc 0, 5, .inl wf) := by rw [← g98]; exact (wU_far (by omega)).trans (f95)
    have f112 := f96.cong (G := E99) (fun k q1 q2 => by rw [← g98]; exact wU_far (by omega))
    have f113 : E99 (7 + 7 * t) = .inr (5, [.ref (ad (7 + 7 * t + 1)), .int (if (nI (k + 1)) < nI (sz t) then 1 else 2), .int (nI (k + 1)), .long (fa t k).toInt64]) := by rw [← g98]; exact (wU_own 0 (by omega)).trans q1000
    exact q_vret X hlk hr hP hS dRW_doQuietly_107 ⟨rfl, hI0.wk ht ⟨_, _, _, ⟨f113, f110, _, f111⟩, fun q => absurd q hst, goOk (by omega) (by omega)⟩ f112⟩
