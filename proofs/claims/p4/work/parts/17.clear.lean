theorem dRW_again_0 : decode cRW_again 0 = .ok (.iload_n 1, 1) := by decide +kernel
theorem dRW_again_1 : decode cRW_again 1 = .ok (.ifCond .lt 14, 3) := by decide +kernel
theorem dRW_again_4 : decode cRW_again 4 = .ok (.iload_n 1, 1) := by decide +kernel
theorem dRW_again_5 : decode cRW_again 5 = .ok (.aload_n 0, 1) := by decide +kernel
theorem dRW_again_6 : decode cRW_again 6 = .ok (.getfield 40, 3) := by decide +kernel
theorem dRW_again_9 : decode cRW_again 9 = .ok (.getfield 152, 3) := by decide +kernel
theorem dRW_again_12 : decode cRW_again 12 = .ok (.if_icmp .le 5, 3) := by decide +kernel
theorem dRW_again_15 : decode cRW_again 15 = .ok (.iconst (-1), 1) := by decide +kernel
theorem dRW_again_16 : decode cRW_again 16 = .ok (.ireturn, 1) := by decide +kernel
theorem dRW_again_17 : decode cRW_again 17 = .ok (.aload_n 0, 1) := by decide +kernel
theorem dRW_again_18 : decode cRW_again 18 = .ok (.iload_n 2, 1) := by decide +kernel
theorem dRW_again_19 : decode cRW_again 19 = .ok (.invokevirtual 186, 3) := by decide +kernel
theorem dRW_again_22 : decode cRW_again 22 = .ok (.iload_n 1, 1) := by decide +kernel
theorem dRW_again_23 : decode cRW_again 23 = .ok (.invokevirtual 177, 3) := by decide +kernel
theorem dRW_again_26 : decode cRW_again 26 = .ok (.ireturn, 1) := by decide +kernel
theorem dRW_clear_0 : decode cRW_clear 0 = .ok (.iconst 0, 1) := by decide +kernel
theorem dRW_clear_1 : decode cRW_clear 1 = .ok (.istore_n 1, 1) := by decide +kernel
theorem dRW_clear_2 : decode cRW_clear 2 = .ok (.iload_n 1, 1) := by decide +kernel
theorem dRW_clear_3 : decode cRW_clear 3 = .ok (.iconst 5, 1) := by decide +kernel
theorem dRW_clear_4 : decode cRW_clear 4 = .ok (.if_icmp .ge 27, 3) := by decide +kernel
theorem dRW_clear_7 : decode cRW_clear 7 = .ok (.aload_n 0, 1) := by decide +kernel
theorem dRW_clear_8 : decode cRW_clear 8 = .ok (.getfield 11, 3) := by decide +kernel
theorem dRW_clear_11 : decode cRW_clear 11 = .ok (.iload_n 1, 1) := by decide +kernel
theorem dRW_clear_12 : decode cRW_clear 12 = .ok (.aaload, 1) := by decide +kernel
theorem dRW_clear_13 : decode cRW_clear 13 = .ok (.invokevirtual 77, 3) := by decide +kernel
theorem dRW_clear_16 : decode cRW_clear 16 = .ok (.aload_n 0, 1) := by decide +kernel
theorem dRW_clear_17 : decode cRW_clear 17 = .ok (.getfield 17, 3) := by decide +kernel
theorem dRW_clear_20 : decode cRW_clear 20 = .ok (.iload_n 1, 1) := by decide +kernel
theorem dRW_clear_21 : decode cRW_clear 21 = .ok (.aaload, 1) := by decide +kernel
theorem dRW_clear_22 : decode cRW_clear 22 = .ok (.invokevirtual 80, 3) := by decide +kernel
theorem dRW_clear_25 : decode cRW_clear 25 = .ok (.iinc 1 1, 3) := by decide +kernel
theorem dRW_clear_28 : decode cRW_clear 28 = .ok (.goto (-26), 3) := by decide +kernel
theorem dRW_clear_31 : decode cRW_clear 31 = .ok (.iconst 0, 1) := by decide +kernel
theorem dRW_clear_32 : decode cRW_clear 32 = .ok (.istore_n 1, 1) := by decide +kernel
theorem dRW_clear_33 : decode cRW_clear 33 = .ok (.iload_n 1, 1) := by decide +kernel
theorem dRW_clear_34 : decode cRW_clear 34 = .ok (.iconst 3, 1) := by decide +kernel
theorem dRW_clear_35 : decode cRW_clear 35 = .ok (.if_icmp .ge 18, 3) := by decide +kernel
theorem dRW_clear_38 : decode cRW_clear 38 = .ok (.aload_n 0, 1) := by decide +kernel
theorem dRW_clear_39 : decode cRW_clear 39 = .ok (.getfield 25, 3) := by decide +kernel
theorem dRW_clear_42 : decode cRW_clear 42 = .ok (.iload_n 1, 1) := by decide +kernel
theorem dRW_clear_43 : decode cRW_clear 43 = .ok (.aaload, 1) := by decide +kernel
theorem dRW_clear_44 : decode cRW_clear 44 = .ok (.invokevirtual 81, 3) := by decide +kernel
theorem dRW_clear_47 : decode cRW_clear 47 = .ok (.iinc 1 1, 3) := by decide +kernel
theorem dRW_clear_50 : decode cRW_clear 50 = .ok (.goto (-17), 3) := by decide +kernel
theorem dRW_clear_53 : decode cRW_clear 53 = .ok (.iconst 0, 1) := by decide +kernel
theorem dRW_clear_54 : decode cRW_clear 54 = .ok (.istore_n 1, 1) := by decide +kernel
theorem dRW_clear_55 : decode cRW_clear 55 = .ok (.iload_n 1, 1) := by decide +kernel
theorem dRW_clear_56 : decode cRW_clear 56 = .ok (.iconst 2, 1) := by decide +kernel
theorem dRW_clear_57 : decode cRW_clear 57 = .ok (.if_icmp .ge 18, 3) := by decide +kernel
theorem dRW_clear_60 : decode cRW_clear 60 = .ok (.aload_n 0, 1) := by decide +kernel
theorem dRW_clear_61 : decode cRW_clear 61 = .ok (.getfield 32, 3) := by decide +kernel
theorem dRW_clear_64 : decode cRW_clear 64 = .ok (.iload_n 1, 1) := by decide +kernel
theorem dRW_clear_65 : decode cRW_clear 65 = .ok (.aaload, 1) := by decide +kernel
theorem dRW_clear_66 : decode cRW_clear 66 = .ok (.invokevirtual 82, 3) := by decide +kernel
theorem dRW_clear_69 : decode cRW_clear 69 = .ok (.iinc 1 1, 3) := by decide +kernel
theorem dRW_clear_72 : decode cRW_clear 72 = .ok (.goto (-17), 3) := by decide +kernel
theorem dRW_clear_75 : decode cRW_clear 75 = .ok (.aload_n 0, 1) := by decide +kernel
theorem dRW_clear_76 : decode cRW_clear 76 = .ok (.getfield 40, 3) := by decide +kernel
theorem dRW_clear_79 : decode cRW_clear 79 = .ok (.invokevirtual 83, 3) := by decide +kernel
theorem dRW_clear_82 : decode cRW_clear 82 = .ok (.aload_n 0, 1) := by decide +kernel
theorem dRW_clear_83 : decode cRW_clear 83 = .ok (.getfield 47, 3) := by decide +kernel
theorem dRW_clear_86 : decode cRW_clear 86 = .ok (.invokevirtual 84, 3) := by decide +kernel
theorem dRW_clear_89 : decode cRW_clear 89 = .ok (.aload_n 0, 1) := by decide +kernel
theorem dRW_clear_90 : decode cRW_clear 90 = .ok (.getfield 51, 3) := by decide +kernel
theorem dRW_clear_93 : decode cRW_clear 93 = .ok (.invokevirtual 84, 3) := by decide +kernel
theorem dRW_clear_96 : decode cRW_clear 96 = .ok (.aload_n 0, 1) := by decide +kernel
theorem dRW_clear_97 : decode cRW_clear 97 = .ok (.iconst 0, 1) := by decide +kernel
theorem dRW_clear_98 : decode cRW_clear 98 = .ok (.putfield 54, 3) := by decide +kernel
theorem dRW_clear_101 : decode cRW_clear 101 = .ok (.aload_n 0, 1) := by decide +kernel
theorem dRW_clear_102 : decode cRW_clear 102 = .ok (.iconst 0, 1) := by decide +kernel
theorem dRW_clear_103 : decode cRW_clear 103 = .ok (.putfield 58, 3) := by decide +kernel
theorem dRW_clear_106 : decode cRW_clear 106 = .ok (.return_, 1) := by decide +kernel
set_option maxHeartbeats 4000000 in
set_option maxRecDepth 100000 in
theorem c_RW_again (l : Launch) (D : va_G) (tc : Nat → ClassId) (ad : Nat → Nat) (E : Nat → va_E) (k cb : Int32) (hF : RWf tc ad E) : Ct l D tc yRW_again 2 66 ad E [.ref (ad 0), .int k, .int cb] (fun o E2 => o = .returned (some (.int (if k = 0 then 0 else -1))) ∧ E2 = E) := by
  refine Ct.ofW (cc := cRW_again) (maxL := 3) (ret := (some .int)) (own := R_RW) (by decide) rfl w_268 (Nat.le_of_ble_eq_true rfl) ?_
  intro p e s m args below meth c ls X hlk hr hD hP hS hl
  have hx := X.1
  have hb := X.2.1
  have hl : lv_has ls 3 [(0, .ref (ad 0)), (1, .int k), (2, .int cb)] := hl
  have hF0 := hF
  obtain ⟨hR, hpg, hwk, hlo3, hck, ⟨fc, fk, tt0, tt1, tt2⟩, ⟨fr, fp, fw, fd, ⟨b0, b1, b2, b3, b4⟩, hfr, hfp, hfw, hfd⟩, ⟨cr, cp, cw, cd, ⟨c0, c1, c2, c3, c4⟩, hcr, hcp, hcw, hcd⟩⟩ := hF
  have hR0 := hR
  obtain ⟨rh0, ⟨ra1, rh1, rx1⟩, ⟨ra2, rh2, rx2⟩, ⟨ra3, rh3, rx3⟩, ⟨ra4, rh4, rx4⟩⟩ := hR
  refine lv_iload_n hx hb dRW_again_0 rfl (lv_at hl 1 rfl) ?_
  refine lv_if_lt (tgt := 15) hx hb dRW_again_1 rfl (fun h1 => ?_) (fun h1 => ?_)
  · refine lv_iconst (v := (-1)) hx hb dRW_again_15 (by decide) ?_
    exact q_iret X hlk hr hP hS dRW_again_16 (⟨by rw [if_neg (z_ne1 h1)], rfl⟩)
  · refine lv_iload_n hx hb dRW_again_4 rfl (lv_at hl 1 rfl) ?_
    refine lv_aload_n hx hb dRW_again_5 rfl (lv_at hl 0 rfl) ?_
    refine g_RW_40 X hP (by omega) (rh0) rfl dRW_again_6 ?_
    refine g_RW_152 X hP (by omega) (tt0) rfl dRW_again_9 ?_
    refine lv_icmp_le (tgt := 17) hx hb dRW_again_12 rfl (fun h12 => ?_) (fun h12 => ?_)
    · have hk := z_eq h1 h12
      by_cases hc : cb = 0
      · refine lv_aload_n hx hb dRW_again_17 rfl (lv_at hl 0 rfl) ?_
        refine lv_iload_n hx hb dRW_again_18 rfl (lv_at hl 2 rfl) ?_
        refine x_rE (v := ad 56) (f := fun k => 0 + k) (x_runV (C := R_RW) (As := [.int cb]) (rest := []) X (by have h := c_RW_bookOf l D tc (fun k => ad (0 + k)) (fun k => E (0 + k)) 0 0 cb (by simpa only [Nat.zero_add] using hR0); rw [if_pos hc] at h; exact h) rfl rfl (by decide) (by decide) w_246 w_1 w_243 w_245 sel_RW_bookOf ry_RW_bookOf (x_recv X hP (by omega) (rh0) rfl) (ct_pre X hP hD (fr_lt 66 66 0 (by omega)) (fr_inj 66 0)) ct_blind hl.1 (Nat.le_of_ble_eq_true rfl) dRW_again_19 ⟨Nat.zero_le _, Nat.zero_le _⟩) hD hP hS (fr_lt 66 66 0 (by omega)) (fr_inj 66 0) (fun H locs hD hP hS => ?_)
        refine lv_iload_n hx hb dRW_again_22 rfl (lv_at hl 1 rfl) ?_
        refine x_iX (f := fun k => 56 + k) (x_runVN (C := R_BK) (As := [.int k]) (rest := []) X (c_BK_placesWithin l D tc (fun k => ad (56 + k)) (fun k => E (56 + k)) fr _ _ _ k b0 b1) rfl rfl (by decide) (by decide) w_258 w_7 w_255 w_257 sel_BK_placesWithin ry_BK_placesWithin (x_recv X hP (by omega) (b0) rfl) (ct_pre X hP hD (fr_lt 5 66 56 (by omega)) (fr_inj 5 56)) ct_blind hl.1 (Nat.le_of_ble_eq_true rfl) dRW_again_23 ⟨Nat.zero_le _, Nat.zero_le _⟩) hD hP hS (fr_lt 5 66 56 (by omega)) (fr_inj 5 56) (fun z H locs hz hD hP hS => ?_)
        exact q_iret X hlk hr hP hS dRW_again_26 (⟨by rw [hz hfr, if_pos hk], rfl⟩)
      · refine lv_aload_n hx hb dRW_again_17 rfl (lv_at hl 0 rfl) ?_
        refine lv_iload_n hx hb dRW_again_18 rfl (lv_at hl 2 rfl) ?_
        refine x_rE (v := ad 61) (f := fun k => 0 + k) (x_runV (C := R_RW) (As := [.int cb]) (rest := []) X (by have h := c_RW_bookOf l D tc (fun k => ad (0 + k)) (fun k => E (0 + k)) 0 0 cb (by simpa only [Nat.zero_add] using hR0); rw [if_neg hc] at h; exact h) rfl rfl (by decide) (by decide) w_246 w_1 w_243 w_245 sel_RW_bookOf ry_RW_bookOf (x_recv X hP (by omega) (rh0) rfl) (ct_pre X hP hD (fr_lt 66 66 0 (by omega)) (fr_inj 66 0)) ct_blind hl.1 (Nat.le_of_ble_eq_true rfl) dRW_again_19 ⟨Nat.zero_le _, Nat.zero_le _⟩) hD hP hS (fr_lt 66 66 0 (by omega)) (fr_inj 66 0) (fun H locs hD hP hS => ?_)
        refine lv_iload_n hx hb dRW_again_22 rfl (lv_at hl 1 rfl) ?_
        refine x_iX (f := fun k => 61 + k) (x_runVN (C := R_BK) (As := [.int k]) (rest := []) X (c_BK_placesWithin l D tc (fun k => ad (61 + k)) (fun k => E (61 + k)) cr _ _ _ k c0 c1) rfl rfl (by decide) (by decide) w_258 w_7 w_255 w_257 sel_BK_placesWithin ry_BK_placesWithin (x_recv X hP (by omega) (c0) rfl) (ct_pre X hP hD (fr_lt 5 66 61 (by omega)) (fr_inj 5 61)) ct_blind hl.1 (Nat.le_of_ble_eq_true rfl) dRW_again_23 ⟨Nat.zero_le _, Nat.zero_le _⟩) hD hP hS (fr_lt 5 66 61 (by omega)) (fr_inj 5 61) (fun z H locs hz hD hP hS => ?_)
        exact q_iret X hlk hr hP hS dRW_again_26 (⟨by rw [hz hcr, if_pos hk], rfl⟩)
    · refine lv_iconst (v := (-1)) hx hb dRW_again_15 (by decide) ?_
      exact q_iret X hlk hr hP hS dRW_again_16 (⟨by rw [if_neg (z_ne2 h12)], rfl⟩)
set_option maxHeartbeats 4000000 in
set_option maxRecDepth 100000 in
theorem c_RW_clear (l : Launch) (D : va_G) (tc : Nat → ClassId) (ad : Nat → Nat) (E : Nat → va_E) (st cs : Int32) (hX : RWx tc ad E st cs) : Ct l D tc yRW_clear 3 66 ad E [.ref (ad 0)] (fun o E2 => o = .returned none ∧ RWf tc ad E2) := by
  refine Ct.ofW (cc := cRW_clear) (maxL := 2) (ret := none) (own := R_RW) (by decide) rfl w_175 (Nat.le_of_ble_eq_true rfl) ?_
  intro p e s m args below meth c ls X hlk hr hD hP hS hl
  have hx := X.1
  have hb := X.2.1
  have hl : lv_has ls 2 [(0, .ref (ad 0))] := hl
  obtain ⟨hR, hX1, hX2, hX3, hX4, hX5, hX6, hX7⟩ := hX
  refine lv_iconst (v := 0) hx hb dRW_clear_0 (by decide) ?_
  refine lv_istore_n hx hb dRW_clear_1 rfl hl (by decide) rfl (fun ls hl => ?_)
  have hl : lv_has ls 2 [(1, .int 0), (0, .ref (ad 0))] := hl
  have loop1 : ∀ (r i : Nat)  (H : Heap) (locs : List Loc) (ls : Array Slot) (F : Nat → va_E), i + r = 5 → isRW tc ad F st cs → (∀ t, t < i → ∃ fo fa fb : Nat → Int32, isPG tc ad F (3 + 7 * t) 0 fo fa fb) → (∀ t, t < i → isWK tc ad F (7 + 7 * t) 0 0 0) → (∀ t, i ≤ t → t < 5 → ∃ (sz : Nat) (fo fa fb : Nat → Int32), isPG tc ad F (3 + 7 * t) sz fo fa fb) → (∀ t, i ≤ t → t < 5 → ∃ (ph nx : Int32) (rg : Int64), isWK tc ad F (7 + 7 * t) ph nx rg) → (∀ t, t < 3 → ∃ ow dp : Int32, isLK tc ad F (39 + 3 * t) ow dp) → (∀ t, t < 2 → isCK tc ad F (49 + 2 * t)) → (∃ (cn : Nat) (fc fk : Nat → Int32), isTR tc ad F 53 cn fc fk) → (∃ fr fp fw fd : Nat → Int32, isBK tc ad F 56 fr fp fw fd) → (∃ fr fp fw fd : Nat → Int32, isBK tc ad F 61 fr fp fw fd) → va_D (Aw 66 ad) (wW 66 ad F) → va_P D vwCl (wW 66 ad F) H → va_S (Aw 66 ad) s.heap H locs → lv_has ls 2 [(1, .int (nI i)), (0, .ref (ad 0))] → W p l e (rmD 3) s m args below meth c H locs 0 0 (XQ below (CtQ D 66 ad (fun o E2 => o = .returned none ∧ RWf tc ad E2)) args s 0 0 (Aw 66 ad)) (F0 m 2 ls []) := by
    intro r
    induction r with
    | zero =>
      intro i  H locs ls F hi hR hPd hWd hPn hWn hL hV hT hB1 hB2 hD hP hS hl
      have hR0 := hR
      obtain ⟨rh0, ⟨ra1, rh1, rx1⟩, ⟨ra2, rh2, rx2⟩, ⟨ra3, rh3, rx3⟩, ⟨ra4, rh4, rx4⟩⟩ := hR
      refine lv_iload_n hx hb dRW_clear_2 rfl (lv_at hl 0 rfl) ?_
      refine lv_iconst (v := 5) hx hb dRW_clear_3 (by decide) ?_
      refine lv_icmp_ge (tgt := 31) hx hb dRW_clear_4 rfl (fun h4 => ?_) (fun h4 => absurd (nI_le (a := 5) (b := i) (by omega) (by omega)) h4)
      have hi5 : i = 5 := by omega
      subst hi5
      have loop2 : ∀ (r i : Nat)  (H : Heap) (locs : List Loc) (ls : Array Slot) (G : Nat → va_E), i + r = 3 → isRW tc ad G st cs → (∀ t, t < 5 → ∃ fo fa fb : Nat → Int32, isPG tc ad G (3 + 7 * t) 0 fo fa fb) → (∀ t, t < 5 → isWK tc ad G (7 + 7 * t) 0 0 0) → (∀ t, t < i → isLK tc ad G (39 + 3 * t) (-1) 0) → (∀ t, i ≤ t → t < 3 → ∃ ow dp : Int32, isLK tc ad G (39 + 3 * t) ow dp) → (∀ t, t < 2 → isCK tc ad G (49 + 2 * t)) → (∃ (cn : Nat) (fc fk : Nat → Int32), isTR tc ad G 53 cn fc fk) → (∃ fr fp fw fd : Nat → Int32, isBK tc ad G 56 fr fp fw fd) → (∃ fr fp fw fd : Nat → Int32, isBK tc ad G 61 fr fp fw fd) → va_D (Aw 66 ad) (wW 66 ad G) → va_P D vwCl (wW 66 ad G) H → va_S (Aw 66 ad) s.heap H locs → lv_has ls 2 [(1, .int (nI i)), (0, .ref (ad 0))] → W p l e (rmD 3) s m args below meth c H locs 0 0 (XQ below (CtQ D 66 ad (fun o E2 => o = .returned none ∧ RWf tc ad E2)) args s 0 0 (Aw 66 ad)) (F0 m 33 ls []) := by
        intro r
        induction r with
        | zero =>
          intro i  H locs ls G hi hR hP0 hW0 hL0 hL2 hV hT hB1 hB2 hD hP hS hl
          have hR0 := hR
          obtain ⟨rh0, ⟨ra1, rh1, rx1⟩, ⟨ra2, rh2, rx2⟩, ⟨ra3, rh3, rx3⟩, ⟨ra4, rh4, rx4⟩⟩ := hR
          refine lv_iload_n hx hb dRW_clear_33 rfl (lv_at hl 0 rfl) ?_
          refine lv_iconst (v := 3) hx hb dRW_clear_34 (by decide) ?_
          refine lv_icmp_ge (tgt := 53) hx hb dRW_clear_35 rfl (fun h35 => ?_) (fun h35 => absurd (nI_le (a := 3) (b := i) (by omega) (by omega)) h35)
          have hi3 : i = 3 := by omega
          subst hi3
          have loop3 : ∀ (r i : Nat)  (H : Heap) (locs : List Loc) (ls : Array Slot) (K : Nat → va_E), i + r = 2 → isRW tc ad K st cs → (∀ t, t < 5 → ∃ fo fa fb : Nat → Int32, isPG tc ad K (3 + 7 * t) 0 fo fa fb) → (∀ t, t < 5 → isWK tc ad K (7 + 7 * t) 0 0 0) → (∀ t, t < 3 → isLK tc ad K (39 + 3 * t) (-1) 0) → (∀ t, t < 2 → isCK tc ad K (49 + 2 * t)) → (∃ (cn : Nat) (fc fk : Nat → Int32), isTR tc ad K 53 cn fc fk) → (∃ fr fp fw fd : Nat → Int32, isBK tc ad K 56 fr fp fw fd) → (∃ fr fp fw fd : Nat → Int32, isBK tc ad K 61 fr fp fw fd) → va_D (Aw 66 ad) (wW 66 ad K) → va_P D vwCl (wW 66 ad K) H → va_S (Aw 66 ad) s.heap H locs → lv_has ls 2 [(1, .int (nI i)), (0, .ref (ad 0))] → W p l e (rmD 3) s m args below meth c H locs 0 0 (XQ below (CtQ D 66 ad (fun o E2 => o = .returned none ∧ RWf tc ad E2)) args s 0 0 (Aw 66 ad)) (F0 m 55 ls []) := by
            intro r
            induction r with
            | zero =>
              intro i  H locs ls K hi hR hP0 hW0 hL0 hV hT hB1 hB2 hD hP hS hl
              have hR0 := hR
              obtain ⟨rh0, ⟨ra1, rh1, rx1⟩, ⟨ra2, rh2, rx2⟩, ⟨ra3, rh3, rx3⟩, ⟨ra4, rh4, rx4⟩⟩ := hR
              refine lv_iload_n hx hb dRW_clear_55 rfl (lv_at hl 0 rfl) ?_
              refine lv_iconst (v := 2) hx hb dRW_clear_56 (by decide) ?_
              refine lv_icmp_ge (tgt := 75) hx hb dRW_clear_57 rfl (fun h57 => ?_) (fun h57 => absurd (nI_le (a := 2) (b := i) (by omega) (by omega)) h57)
              obtain ⟨cn, fc, fk, tt0, tt1, tt2⟩ := hT
              obtain ⟨br, bp, bw, bd, b0, b1, b2, b3, b4⟩ := hB1
              obtain ⟨cr, cp, cw, cd, c0, c1, c2, c3, c4⟩ := hB2
              refine lv_aload_n hx hb dRW_clear_75 rfl (lv_at hl 1 rfl) ?_
              refine g_RW_40 X hP (by omega) (rh0) rfl dRW_clear_76 ?_
              refine x_v (f := fun k => 53 + k) (x_runVN (C := R_TR) (As := []) (rest := []) X (c_TR_forget l D tc (fun k => ad (53 + k)) (fun k => K (53 + k)) cn fc fk (tt0) (tt1) (tt2)) rfl rfl (by decide) (by decide) w_198 w_6 w_195 w_197 sel_TR_forget ry_TR_forget (x_recv X hP (by omega) (tt0) rfl) (ct_pre X hP hD (fr_lt 3 66 53 (by omega)) (fr_inj 3 53)) ct_blind hl.1 (Nat.le_of_ble_eq_true rfl) dRW_clear_79 ⟨Nat.zero_le _, Nat.zero_le _⟩) hD hP hS (fr_lt 3 66 53 (by omega)) (fr_inj 3 53) (fun o E1 h => h.1) (fun E1 H locs q4 hD hP hS => ?_)
              obtain ⟨-, q40, q41, q42⟩ := q4
              generalize g2 : wU 3 (fun k => 53 + k) K E1 = E3 at hD hP
              have f5 : E3 0 = .inr (6, [.ref (ad 1), .ref (ad 2), .ref (ad 38), .ref (ad 48), .ref (ad 53), .ref (ad 56), .ref (ad 61), .int st, .int cs]) := by rw [← g2, wU_far (by omega)]; exact rh0
              have f6 : E3 1 = .inl (tc 3, 5, .inr (.inr (.inr (.inr ra1)))) := by rw [← g2, wU_far (by omega)]; exact rh1
              have f7 : E3 2 = .inl (tc 4, 5, .inr (.inr (.inr (.inr ra2)))) := by rw [← g2, wU_far (by omega)]; exact rh2
              have f8 : E3 38 = .inl (tc 5, 3, .inr (.inr (.inr (.inr ra3)))) := by rw [← g2, wU_far (by omega)]; exact rh3
              have f9 : E3 48 = .inl (tc 6, 2, .inr (.inr (.inr (.inr ra4)))) := by rw [← g2, wU_far (by omega)]; exact rh4
              have f10 : E3 56 = .inr (3, [.ref (ad 57), .ref (ad 58), .ref (ad 59), .ref (ad 60)]) := by rw [← g2, wU_far (by omega)]; exact b0
              have f11 : E3 57 = .inl (tc 0, 8, .inl br) := by rw [← g2, wU_far (by omega)]; exact b1
              have f12 : E3 58 = .inl (tc 0, 8, .inl bp) := by rw [← g2, wU_far (by omega)]; exact b2
              have f13 : E3 59 = .inl (tc 0, 8, .inl bw) := by rw [← g2, wU_far (by omega)]; exact b3
              have f14 : E3 60 = .inl (tc 0, 40, .inl bd) := by rw [← g2, wU_far (by omega)]; exact b4
              have f15 : E3 61 = .inr (3, [.ref (ad 62), .ref (ad 63), .ref (ad 64), .ref (ad 65)]) := by rw [← g2, wU_far (by omega)]; exact c0
              have f16 : E3 62 = .inl (tc 0, 8, .inl cr) := by rw [← g2, wU_far (by omega)]; exact c1
              have f17 : E3 63 = .inl (tc 0, 8, .inl cp) := by rw [← g2, wU_far (by omega)]; exact c2
              have f18 : E3 64 = .inl (tc 0, 8, .inl cw) := by rw [← g2, wU_far (by omega)]; exact c3
              have f19 : E3 65 = .inl (tc 0, 40, .inl cd) := by rw [← g2, wU_far (by omega)]; exact c4
              have f20 : E3 53 = .inr (4, [.ref (ad 54), .ref (ad 55), .int (nI 0)]) := by rw [← g2]; exact (wU_own 0 (by omega)).trans (q40)
              have f21 : E3 54 = .inl (tc 0, 200, .inl fc) := by rw [← g2]; exact (wU_own 1 (by omega)).trans (q41)
              have f22 : E3 55 = .inl (tc 0, 1000, .inl fk) := by rw [← g2]; exact (wU_own 2 (by omega)).trans (q42)
              refine lv_aload_n hx hb dRW_clear_82 rfl (lv_at hl 1 rfl) ?_
              refine g_RW_47 X hP (by omega) (f5) rfl dRW_clear_83 ?_
              refine x_v (f := fun k => 56 + k) (x_runVN (C := R_BK) (As := []) (rest := []) X (c_BK_forget l D tc (fun k => ad (56 + k)) (fun k => E3 (56 + k)) br bp bw bd (f10) (f11) (f12) (f13) (f14)) rfl rfl (by decide) (by decide) w_119 w_7 w_199 w_118 sel_BK_forget ry_BK_forget (x_recv X hP (by omega) (f10) rfl) (ct_pre X hP hD (fr_lt 5 66 56 (by omega)) (fr_inj 5 56)) ct_blind hl.1 (Nat.le_of_ble_eq_true rfl) dRW_clear_86 ⟨Nat.zero_le _, Nat.zero_le _⟩) hD hP hS (fr_lt 5 66 56 (by omega)) (fr_inj 5 56) (fun o E1 h => h.1) (fun E23 H locs q26 hD hP hS => ?_)
              obtain ⟨-, q26r, q26p, q26w, q26d, ⟨q260, q261, q262, q263, q264⟩, q26A, q26B, q26C, q26D⟩ := q26
              generalize g24 : wU 5 (fun k => 56 + k) E3 E23 = E25 at hD hP
              have f27 : E25 0 = .inr (6, [.ref (ad 1), .ref (ad 2), .ref (ad 38), .ref (ad 48), .ref (ad 53), .ref (ad 56), .ref (ad 61), .int st, .int cs]) := by rw [← g24, wU_far (by omega)]; exact f5
              have f28 : E25 1 = .inl (tc 3, 5, .inr (.inr (.inr (.inr ra1)))) := by rw [← g24, wU_far (by omega)]; exact f6
              have f29 : E25 2 = .inl (tc 4, 5, .inr (.inr (.inr (.inr ra2)))) := by rw [← g24, wU_far (by omega)]; exact f7
              have f30 : E25 38 = .inl (tc 5, 3, .inr (.inr (.inr (.inr ra3)))) := by rw [← g24, wU_far (by omega)]; exact f8
              have f31 : E25 48 = .inl (tc 6, 2, .inr (.inr (.inr (.inr ra4)))) := by rw [← g24, wU_far (by omega)]; exact f9
              have f32 : E25 61 = .inr (3, [.ref (ad 62), .ref (ad 63), .ref (ad 64), .ref (ad 65)]) := by rw [← g24, wU_far (by omega)]; exact f15
              have f33 : E25 62 = .inl (tc 0, 8, .inl cr) := by rw [← g24, wU_far (by omega)]; exact f16
              have f34 : E25 63 = .inl (tc 0, 8, .inl cp) := by rw [← g24, wU_far (by omega)]; exact f17
              have f35 : E25 64 = .inl (tc 0, 8, .inl cw) := by rw [← g24, wU_far (by omega)]; exact f18
              have f36 : E25 65 = .inl (tc 0, 40, .inl cd) := by rw [← g24, wU_far (by omega)]; exact f19
              have f37 : E25 53 = .inr (4, [.ref (ad 54), .ref (ad 55), .int (nI 0)]) := by rw [← g24, wU_far (by omega)]; exact f20
              have f38 : E25 54 = .inl (tc 0, 200, .inl fc) := by rw [← g24, wU_far (by omega)]; exact f21
              have f39 : E25 55 = .inl (tc 0, 1000, .inl fk) := by rw [← g24, wU_far (by omega)]; exact f22
              have f40 : E25 56 = .inr (3, [.ref (ad 57), .ref (ad 58), .ref (ad 59), .ref (ad 60)]) := by rw [← g24]; exact (wU_own 0 (by omega)).trans (q260)
              have f41 : E25 57 = .inl (tc 0, 8, .inl q26r) := by rw [← g24]; exact (wU_own 1 (by omega)).trans (q261)
              have f42 : E25 58 = .inl (tc 0, 8, .inl q26p) := by rw [← g24]; exact (wU_own 2 (by omega)).trans (q262)
              have f43 : E25 59 = .inl (tc 0, 8, .inl q26w) := by rw [← g24]; exact (wU_own 3 (by omega)).trans (q263)
              have f44 : E25 60 = .inl (tc 0, 40, .inl q26d) := by rw [← g24]; exact (wU_own 4 (by omega)).trans (q264)
              refine lv_aload_n hx hb dRW_clear_89 rfl (lv_at hl 1 rfl) ?_
              refine g_RW_51 X hP (by omega) (f27) rfl dRW_clear_90 ?_
              refine x_v (f := fun k => 61 + k) (x_runVN (C := R_BK) (As := []) (rest := []) X (c_BK_forget l D tc (fun k => ad (61 + k)) (fun k => E25 (61 + k)) cr cp cw cd (f32) (f33) (f34) (f35) (f36)) rfl rfl (by decide) (by decide) w_119 w_7 w_199 w_118 sel_BK_forget ry_BK_forget (x_recv X hP (by omega) (f32) rfl) (ct_pre X hP hD (fr_lt 5 66 61 (by omega)) (fr_inj 5 61)) ct_blind hl.1 (Nat.le_of_ble_eq_true rfl) dRW_clear_93 ⟨Nat.zero_le _, Nat.zero_le _⟩) hD hP hS (fr_lt 5 66 61 (by omega)) (fr_inj 5 61) (fun o E1 h => h.1) (fun E45 H locs q48 hD hP hS => ?_)
              obtain ⟨-, q48r, q48p, q48w, q48d, ⟨q480, q481, q482, q483, q484⟩, q48A, q48B, q48C, q48D⟩ := q48
              generalize g46 : wU 5 (fun k => 61 + k) E25 E45 = E47 at hD hP
              have f49 : E47 0 = .inr (6, [.ref (ad 1), .ref (ad 2), .ref (ad 38), .ref (ad 48), .ref (ad 53), .ref (ad 56), .ref (ad 61), .int st, .int cs]) := by rw [← g46, wU_far (by omega)]; exact f27
              have f50 : E47 1 = .inl (tc 3, 5, .inr (.inr (.inr (.inr ra1)))) := by rw [← g46, wU_far (by omega)]; exact f28
              have f51 : E47 2 = .inl (tc 4, 5, .inr (.inr (.inr (.inr ra2)))) := by rw [← g46, wU_far (by omega)]; exact f29
              have f52 : E47 38 = .inl (tc 5, 3, .inr (.inr (.inr (.inr ra3)))) := by rw [← g46, wU_far (by omega)]; exact f30
              have f53 : E47 48 = .inl (tc 6, 2, .inr (.inr (.inr (.inr ra4)))) := by rw [← g46, wU_far (by omega)]; exact f31
              have f54 : E47 53 = .inr (4, [.ref (ad 54), .ref (ad 55), .int (nI 0)]) := by rw [← g46, wU_far (by omega)]; exact f37
              have f55 : E47 54 = .inl (tc 0, 200, .inl fc) := by rw [← g46, wU_far (by omega)]; exact f38
              have f56 : E47 55 = .inl (tc 0, 1000, .inl fk) := by rw [← g46, wU_far (by omega)]; exact f39
              have f57 : E47 56 = .inr (3, [.ref (ad 57), .ref (ad 58), .ref (ad 59), .ref (ad 60)]) := by rw [← g46, wU_far (by omega)]; exact f40
              have f58 : E47 57 = .inl (tc 0, 8, .inl q26r) := by rw [← g46, wU_far (by omega)]; exact f41
              have f59 : E47 58 = .inl (tc 0, 8, .inl q26p) := by rw [← g46, wU_far (by omega)]; exact f42
              have f60 : E47 59 = .inl (tc 0, 8, .inl q26w) := by rw [← g46, wU_far (by omega)]; exact f43
              have f61 : E47 60 = .inl (tc 0, 40, .inl q26d) := by rw [← g46, wU_far (by omega)]; exact f44
              have f62 : E47 61 = .inr (3, [.ref (ad 62), .ref (ad 63), .ref (ad 64), .ref (ad 65)]) := by rw [← g46]; exact (wU_own 0 (by omega)).trans (q480)
              have f63 : E47 62 = .inl (tc 0, 8, .inl q48r) := by rw [← g46]; exact (wU_own 1 (by omega)).trans (q481)
              have f64 : E47 63 = .inl (tc 0, 8, .inl q48p) := by rw [← g46]; exact (wU_own 2 (by omega)).trans (q482)
              have f65 : E47 64 = .inl (tc 0, 8, .inl q48w) := by rw [← g46]; exact (wU_own 3 (by omega)).trans (q483)
              have f66 : E47 65 = .inl (tc 0, 40, .inl q48d) := by rw [← g46]; exact (wU_own 4 (by omega)).trans (q484)
              refine lv_aload_n hx hb dRW_clear_96 rfl (lv_at hl 1 rfl) ?_
              refine lv_iconst (v := 0) hx hb dRW_clear_97 (by decide) ?_
              refine p_RW_54 X hD hP hS (by omega) (f49) rfl rfl (Nat.le_of_ble_eq_true rfl) dRW_clear_98 (fun H locs hD hP hS => ?_)
              have hP : va_P D vwCl (wW 66 ad (va_up E47 0 (.inr (6, [.ref (ad 1), .ref (ad 2), .ref (ad 38), .ref (ad 48), .ref (ad 53), .ref (ad 56), .ref (ad 61), .int 0, .int cs])))) H := hP
              have hD : va_D (Aw 66 ad) (wW 66 ad (va_up E47 0 (.inr (6, [.ref (ad 1), .ref (ad 2), .ref (ad 38), .ref (ad 48), .ref (ad 53), .ref (ad 56), .ref (ad 61), .int 0, .int cs])))) := hD
              generalize g68 : va_up E47 0 (.inr (6, [.ref (ad 1), .ref (ad 2), .ref (ad 38), .ref (ad 48), .ref (ad 53), .ref (ad 56), .ref (ad 61), .int 0, .int cs])) = E67 at hD hP
              have f69 : E67 0 = .inr (6, [.ref (ad 1), .ref (ad 2), .ref (ad 38), .ref (ad 48), .ref (ad 53), .ref (ad 56), .ref (ad 61), .int 0, .int cs]) := by rw [← g68]; exact va_up_self _ _ _
              have f70 : E67 1 = .inl (tc 3, 5, .inr (.inr (.inr (.inr ra1)))) := by rw [← g68, va_up_ne _ _ (by omega)]; exact f50
              have f71 : E67 2 = .inl (tc 4, 5, .inr (.inr (.inr (.inr ra2)))) := by rw [← g68, va_up_ne _ _ (by omega)]; exact f51
              have f72 : E67 38 = .inl (tc 5, 3, .inr (.inr (.inr (.inr ra3)))) := by rw [← g68, va_up_ne _ _ (by omega)]; exact f52
              have f73 : E67 48 = .inl (tc 6, 2, .inr (.inr (.inr (.inr ra4)))) := by rw [← g68, va_up_ne _ _ (by omega)]; exact f53
              have f74 : E67 53 = .inr (4, [.ref (ad 54), .ref (ad 55), .int (nI 0)]) := by rw [← g68, va_up_ne _ _ (by omega)]; exact f54
              have f75 : E67 54 = .inl (tc 0, 200, .inl fc) := by rw [← g68, va_up_ne _ _ (by omega)]; exact f55
              have f76 : E67 55 = .inl (tc 0, 1000, .inl fk) := by rw [← g68, va_up_ne _ _ (by omega)]; exact f56
              have f77 : E67 56 = .inr (3, [.ref (ad 57), .ref (ad 58), .ref (ad 59), .ref (ad 60)]) := by rw [← g68, va_up_ne _ _ (by omega)]; exact f57
              have f78 : E67 57 = .inl (tc 0, 8, .inl q26r) := by rw [← g68, va_up_ne _ _ (by omega)]; exact f58
              have f79 : E67 58 = .inl (tc 0, 8, .inl q26p) := by rw [← g68, va_up_ne _ _ (by omega)]; exact f59
              have f80 : E67 59 = .inl (tc 0, 8, .inl q26w) := by rw [← g68, va_up_ne _ _ (by omega)]; exact f60
              have f81 : E67 60 = .inl (tc 0, 40, .inl q26d) := by rw [← g68, va_up_ne _ _ (by omega)]; exact f61
              have f82 : E67 61 = .inr (3, [.ref (ad 62), .ref (ad 63), .ref (ad 64), .ref (ad 65)]) := by rw [← g68, va_up_ne _ _ (by omega)]; exact f62
              have f83 : E67 62 = .inl (tc 0, 8, .inl q48r) := by rw [← g68, va_up_ne _ _ (by omega)]; exact f63
              have f84 : E67 63 = .inl (tc 0, 8, .inl q48p) := by rw [← g68, va_up_ne _ _ (by omega)]; exact f64
              have f85 : E67 64 = .inl (tc 0, 8, .inl q48w) := by rw [← g68, va_up_ne _ _ (by omega)]; exact f65
              have f86 : E67 65 = .inl (tc 0, 40, .inl q48d) := by rw [← g68, va_up_ne _ _ (by omega)]; exact f66
              refine lv_aload_n hx hb dRW_clear_101 rfl (lv_at hl 1 rfl) ?_
              refine lv_iconst (v := 0) hx hb dRW_clear_102 (by decide) ?_
              refine p_RW_58 X hD hP hS (by omega) (f69) rfl rfl (Nat.le_of_ble_eq_true rfl) dRW_clear_103 (fun H locs hD hP hS => ?_)
              have hP : va_P D vwCl (wW 66 ad (va_up E67 0 (.inr (6, [.ref (ad 1), .ref (ad 2), .ref (ad 38), .ref (ad 48), .ref (ad 53), .ref (ad 56), .ref (ad 61), .int 0, .int 0])))) H := hP
              have hD : va_D (Aw 66 ad) (wW 66 ad (va_up E67 0 (.inr (6, [.ref (ad 1), .ref (ad 2), .ref (ad 38), .ref (ad 48), .ref (ad 53), .ref (ad 56), .ref (ad 61), .int 0, .int 0])))) := hD
              generalize g88 : va_up E67 0 (.inr (6, [.ref (ad 1), .ref (ad 2), .ref (ad 38), .ref (ad 48), .ref (ad 53), .ref (ad 56), .ref (ad 61), .int 0, .int 0])) = E87 at hD hP
              have f89 : E87 0 = .inr (6, [.ref (ad 1), .ref (ad 2), .ref (ad 38), .ref (ad 48), .ref (ad 53), .ref (ad 56), .ref (ad 61), .int 0, .int 0]) := by rw [← g88]; exact va_up_self _ _ _
              have f90 : E87 1 = .inl (tc 3, 5, .inr (.inr (.inr (.inr ra1)))) := by rw [← g88, va_up_ne _ _ (by omega)]; exact f70
              have f91 : E87 2 = .inl (tc 4, 5, .inr (.inr (.inr (.inr ra2)))) := by rw [← g88, va_up_ne _ _ (by omega)]; exact f71
              have f92 : E87 38 = .inl (tc 5, 3, .inr (.inr (.inr (.inr ra3)))) := by rw [← g88, va_up_ne _ _ (by omega)]; exact f72
              have f93 : E87 48 = .inl (tc 6, 2, .inr (.inr (.inr (.inr ra4)))) := by rw [← g88, va_up_ne _ _ (by omega)]; exact f73
              have f94 : E87 53 = .inr (4, [.ref (ad 54), .ref (ad 55), .int (nI 0)]) := by rw [← g88, va_up_ne _ _ (by omega)]; exact f74
              have f95 : E87 54 = .inl (tc 0, 200, .inl fc) := by rw [← g88, va_up_ne _ _ (by omega)]; exact f75
              have f96 : E87 55 = .inl (tc 0, 1000, .inl fk) := by rw [← g88, va_up_ne _ _ (by omega)]; exact f76
              have f97 : E87 56 = .inr (3, [.ref (ad 57), .ref (ad 58), .ref (ad 59), .ref (ad 60)]) := by rw [← g88, va_up_ne _ _ (by omega)]; exact f77
              have f98 : E87 57 = .inl (tc 0, 8, .inl q26r) := by rw [← g88, va_up_ne _ _ (by omega)]; exact f78
              have f99 : E87 58 = .inl (tc 0, 8, .inl q26p) := by rw [← g88, va_up_ne _ _ (by omega)]; exact f79
              have f100 : E87 59 = .inl (tc 0, 8, .inl q26w) := by rw [← g88, va_up_ne _ _ (by omega)]; exact f80
              have f101 : E87 60 = .inl (tc 0, 40, .inl q26d) := by rw [← g88, va_up_ne _ _ (by omega)]; exact f81
              have f102 : E87 61 = .inr (3, [.ref (ad 62), .ref (ad 63), .ref (ad 64), .ref (ad 65)]) := by rw [← g88, va_up_ne _ _ (by omega)]; exact f82
              have f103 : E87 62 = .inl (tc 0, 8, .inl q48r) := by rw [← g88, va_up_ne _ _ (by omega)]; exact f83
              have f104 : E87 63 = .inl (tc 0, 8, .inl q48p) := by rw [← g88, va_up_ne _ _ (by omega)]; exact f84
              have f105 : E87 64 = .inl (tc 0, 8, .inl q48w) := by rw [← g88, va_up_ne _ _ (by omega)]; exact f85
              have f106 : E87 65 = .inl (tc 0, 40, .inl q48d) := by rw [← g88, va_up_ne _ _ (by omega)]; exact f86
              have far : ∀ k, 0 < k → k < 53 → E87 k = K k := fun k h1 h2 => by rw [← g88, va_up_ne _ _ (by omega), ← g68, va_up_ne _ _ (by omega), ← g46, wU_far (by omega), ← g24, wU_far (by omega), ← g2, wU_far (by omega)]
              exact q_vret X hlk hr hP hS dRW_clear_106 ⟨rfl, ⟨f89, ⟨_, f90, rx1⟩, ⟨_, f91, rx2⟩, ⟨_, f92, rx3⟩, ⟨_, f93, rx4⟩⟩, (fun t ht => by obtain ⟨a, b, c, h⟩ := hP0 t ht; exact ⟨a, b, c, h.cong (fun k q1 q2 => far k (by omega) (by omega))⟩), (fun t ht => (hW0 t ht).cong (fun k q1 q2 => far k (by omega) (by omega))), (fun t ht => (hL0 t ht).cong (fun k q1 q2 => far k (by omega) (by omega))), (fun t ht => (hV t ht).cong (fun k q1 q2 => far k (by omega) (by omega))), ⟨_, _, f94, f95, f96⟩, ⟨_, _, _, _, ⟨f97, f98, f99, f100, f101⟩, q26A, q26B, q26C, q26D⟩, ⟨_, _, _, _, ⟨f102, f103, f104, f105, f106⟩, q48A, q48B, q48C, q48D⟩⟩
            | succ r ih =>
              intro i  H locs ls K hi hR hP0 hW0 hL0 hV hT hB1 hB2 hD hP hS hl
              have hR0 := hR
              obtain ⟨rh0, ⟨ra1, rh1, rx1⟩, ⟨ra2, rh2, rx2⟩, ⟨ra3, rh3, rx3⟩, ⟨ra4, rh4, rx4⟩⟩ := hR
              refine lv_iload_n hx hb dRW_clear_55 rfl (lv_at hl 0 rfl) ?_
              refine lv_iconst (v := 2) hx hb dRW_clear_56 (by decide) ?_
              refine lv_icmp_ge (tgt := 75) hx hb dRW_clear_57 rfl (fun h57 => absurd h57 (nI_ge (a := i) (b := 2) (by omega) (by omega))) (fun h57 => ?_)
              obtain ⟨v0, vf, v1⟩ := hV i (by omega)
              refine lv_aload_n hx hb dRW_clear_60 rfl (lv_at hl 1 rfl) ?_
              refine g_RW_32 X hP (by omega) (rh0) rfl dRW_clear_61 ?_
              refine lv_iload_n hx hb dRW_clear_64 rfl (lv_at hl 0 rfl) ?_
              refine q_aald (t0 := 6) i X hP (by omega) (rh4) rfl (rfl) (by omega) (by decide) (rx4 i (by omega)) dRW_clear_65 ?_
              refine x_v (f := fun k => (49 + 2 * i) + k) (x_runVN (C := R_CK) (As := []) (rest := []) X (c_CK_forget l D tc (fun k => ad (49 + 2 * i + k)) (fun k => K (49 + 2 * i + k)) vf v0 v1) rfl rfl (by decide) (by decide) w_187 w_4 w_194 w_186 sel_CK_forget ry_CK_forget (x_recv X hP (by omega) (v0) rfl) (ct_pre X hP hD (fr_lt 2 66 (49 + 2 * i) (by omega)) (fr_inj 2 (49 + 2 * i))) ct_blind hl.1 (Nat.le_of_ble_eq_true rfl) dRW_clear_66 ⟨Nat.zero_le _, Nat.zero_le _⟩) hD hP hS (fr_lt 2 66 (49 + 2 * i) (by omega)) (fr_inj 2 (49 + 2 * i)) (fun o E1 h => h.1) (fun E107 H locs q110 hD hP hS => ?_)
              obtain ⟨-, q1100, q110f, q1101, -⟩ := q110
              generalize g108 : wU 2 (fun k => (49 + 2 * i) + k) K E107 = E109 at hD hP
              have f111 : E109 0 = .inr (6, [.ref (ad 1), .ref (ad 2), .ref (ad 38), .ref (ad 48), .ref (ad 53), .ref (ad 56), .ref (ad 61), .int st, .int cs]) := by rw [← g108, wU_far (by omega)]; exact rh0
              have f112 : E109 1 = .inl (tc 3, 5, .inr (.inr (.inr (.inr ra1)))) := by rw [← g108, wU_far (by omega)]; exact rh1
              have f113 : E109 2 = .inl (tc 4, 5, .inr (.inr (.inr (.inr ra2)))) := by rw [← g108, wU_far (by omega)]; exact rh2
              have f114 : E109 38 = .inl (tc 5, 3, .inr (.inr (.inr (.inr ra3)))) := by rw [← g108, wU_far (by omega)]; exact rh3
              have f115 : E109 48 = .inl (tc 6, 2, .inr (.inr (.inr (.inr ra4)))) := by rw [← g108, wU_far (by omega)]; exact rh4
              have f116 : E109 (49 + 2 * i) = .inr (0, [.ref (ad (49 + 2 * i + 1))]) := by rw [← g108]; exact (wU_own 0 (by omega)).trans (q1100)
              have f117 : E109 (49 + 2 * i + 1) = .inl (tc 0, 5, .inl q110f) := by rw [← g108]; exact (wU_own 1 (by omega)).trans (q1101)
              refine lv_iinc (k := 0) (v := nI (i + 1)) hx hb dRW_clear_69 hl rfl (nI_1 i) (by decide) rfl (fun ls hl => ?_)
              have hl : lv_has ls 2 [(1, .int (nI (i + 1))), (0, .ref (ad 0))] := hl
              refine lv_goto (tgt := 55) hx hb dRW_clear_72 rfl ?_
              have far : ∀ k, k < 49 + 2 * i ∨ 51 + 2 * i ≤ k → E109 k = K k := fun k hk => by rw [← g108, wU_far (by omega)]
              have nck : isCK tc ad E109 (49 + 2 * i) := ⟨f116, _, f117⟩
              exact ih (i + 1) _ _ _ _ (by omega) (hR0.cong (far 0 (by omega)) (far 1 (by omega)) (far 2 (by omega)) (far 38 (by omega)) (far 48 (by omega))) (fun t ht => by obtain ⟨a, b, c, h⟩ := hP0 t ht; exact ⟨a, b, c, h.cong (fun k q1 q2 => far k (by omega))⟩) (fun t ht => (hW0 t ht).cong (fun k q1 q2 => far k (by omega))) (fun t h9 => (hL0 t h9).cong (fun k q1 q2 => far k (by omega))) (fun t ht => by by_cases h : t = i; (· subst h; exact nck); (· exact (hV t ht).cong (fun k q1 q2 => far k (by omega)))) (by obtain ⟨cn, fc, fk, h⟩ := hT; exact ⟨cn, fc, fk, h.cong (fun k q1 q2 => far k (by omega))⟩) (by obtain ⟨a, b, c, d, h⟩ := hB1; exact ⟨a, b, c, d, h.cong (fun k q1 q2 => far k (by omega))⟩) (by obtain ⟨a, b, c, d, h⟩ := hB2; exact ⟨a, b, c, d, h.cong (fun k q1 q2 => far k (by omega))⟩) hD hP hS hl
          refine lv_iconst (v := 0) hx hb dRW_clear_53 (by decide) ?_
          refine lv_istore_n hx hb dRW_clear_54 rfl hl (by decide) rfl (fun ls hl => ?_)
          have hl : lv_has ls 2 [(1, .int 0), (0, .ref (ad 0))] := hl
          exact loop3 2 0 _ _ _ _ (by omega) hR0 hP0 hW0 (fun t h => hL0 t h) hV hT hB1 hB2 hD hP hS hl
        | succ r ih =>
          intro i  H locs ls G hi hR hP0 hW0 hL0 hL2 hV hT hB1 hB2 hD hP hS hl
          have hR0 := hR
          obtain ⟨rh0, ⟨ra1, rh1, rx1⟩, ⟨ra2, rh2, rx2⟩, ⟨ra3, rh3, rx3⟩, ⟨ra4, rh4, rx4⟩⟩ := hR
          refine lv_iload_n hx hb dRW_clear_33 rfl (lv_at hl 0 rfl) ?_
          refine lv_iconst (v := 3) hx hb dRW_clear_34 (by decide) ?_
          refine lv_icmp_ge (tgt := 53) hx hb dRW_clear_35 rfl (fun h35 => absurd h35 (nI_ge (a := i) (b := 3) (by omega) (by omega))) (fun h35 => ?_)
          obtain ⟨ow, dp, k0, k1, lf, k2⟩ := hL2 i (Nat.le_refl i) (by omega)
          refine lv_aload_n hx hb dRW_clear_38 rfl (lv_at hl 1 rfl) ?_
          refine g_RW_25 X hP (by omega) (rh0) rfl dRW_clear_39 ?_
          refine lv_iload_n hx hb dRW_clear_42 rfl (lv_at hl 0 rfl) ?_
          refine q_aald (t0 := 5) i X hP (by omega) (rh3) rfl (rfl) (by omega) (by decide) (rx3 i (by omega)) dRW_clear_43 ?_
          refine x_v (f := fun k => (39 + 3 * i) + k) (x_runVN (C := R_LK) (As := []) (rest := []) X (c_LK_forget l D tc (fun k => ad (39 + 3 * i + k)) (fun k => G (39 + 3 * i + k)) ow dp lf k0 k1 k2) rfl rfl (by decide) (by decide) w_192 w_5 w_189 w_191 sel_LK_forget ry_LK_forget (x_recv X hP (by omega) (k0) rfl) (ct_pre X hP hD (fr_lt 3 66 (39 + 3 * i) (by omega)) (fr_inj 3 (39 + 3 * i))) ct_blind hl.1 (Nat.le_of_ble_eq_true rfl) dRW_clear_44 ⟨Nat.zero_le _, Nat.zero_le _⟩) hD hP hS (fr_lt 3 66 (39 + 3 * i) (by omega)) (fr_inj 3 (39 + 3 * i)) (fun o E1 h => h.1) (fun E118 H locs q121 hD hP hS => ?_)
          obtain ⟨-, q1210, q1211, q121f, q1212⟩ := q121
          generalize g119 : wU 3 (fun k => (39 + 3 * i) + k) G E118 = E120 at hD hP
          have f122 : E120 0 = .inr (6, [.ref (ad 1), .ref (ad 2), .ref (ad 38), .ref (ad 48), .ref (ad 53), .ref (ad 56), .ref (ad 61), .int st, .int cs]) := by rw [← g119, wU_far (by omega)]; exact rh0
          have f123 : E120 1 = .inl (tc 3, 5, .inr (.inr (.inr (.inr ra1)))) := by rw [← g119, wU_far (by omega)]; exact rh1
          have f124 : E120 2 = .inl (tc 4, 5, .inr (.inr (.inr (.inr ra2)))) := by rw [← g119, wU_far (by omega)]; exact rh2
          have f125 : E120 38 = .inl (tc 5, 3, .inr (.inr (.inr (.inr ra3)))) := by rw [← g119, wU_far (by omega)]; exact rh3
          have f126 : E120 48 = .inl (tc 6, 2, .inr (.inr (.inr (.inr ra4)))) := by rw [← g119, wU_far (by omega)]; exact rh4
          have f127 : E120 (39 + 3 * i) = .inr (1, [.ref (ad (39 + 3 * i + 1)), .int (-1), .int 0]) := by rw [← g119]; exact (wU_own 0 (by omega)).trans (q1210)
          have f128 : E120 (39 + 3 * i + 1) = .inr (0, [.ref (ad (39 + 3 * i + 1 + 1))]) := by rw [← g119]; exact (wU_own 1 (by omega)).trans (q1211)
          have f129 : E120 (39 + 3 * i + 1 + 1) = .inl (tc 0, 5, .inl q121f) := by rw [← g119]; exact (wU_own 2 (by omega)).trans (q1212)
          refine lv_iinc (k := 0) (v := nI (i + 1)) hx hb dRW_clear_47 hl rfl (nI_1 i) (by decide) rfl (fun ls hl => ?_)
          have hl : lv_has ls 2 [(1, .int (nI (i + 1))), (0, .ref (ad 0))] := hl
          refine lv_goto (tgt := 33) hx hb dRW_clear_50 rfl ?_
          have far : ∀ k, k < 39 + 3 * i ∨ 42 + 3 * i ≤ k → E120 k = G k := fun k hk => by rw [← g119, wU_far (by omega)]
          have nlk : isLK tc ad E120 (39 + 3 * i) (-1) 0 := ⟨f127, f128, _, f129⟩
          exact ih (i + 1) _ _ _ _ (by omega) (hR0.cong (far 0 (by omega)) (far 1 (by omega)) (far 2 (by omega)) (far 38 (by omega)) (far 48 (by omega))) (fun t ht => by obtain ⟨a, b, c, h⟩ := hP0 t ht; exact ⟨a, b, c, h.cong (fun k q1 q2 => far k (by omega))⟩) (fun t ht => (hW0 t ht).cong (fun k q1 q2 => far k (by omega))) (fun t ht => by by_cases h : t = i; (· subst h; exact nlk); (· exact (hL0 t (by omega)).cong (fun k q1 q2 => far k (by omega)))) (fun t h8 h9 => by obtain ⟨ow, dp, h⟩ := hL2 t (by omega) h9; exact ⟨ow, dp, h.cong (fun k q1 q2 => far k (by omega))⟩) (fun t ht => (hV t ht).cong (fun k q1 q2 => far k (by omega))) (by obtain ⟨cn, fc, fk, h⟩ := hT; exact ⟨cn, fc, fk, h.cong (fun k q1 q2 => far k (by omega))⟩) (by obtain ⟨a, b, c, d, h⟩ := hB1; exact ⟨a, b, c, d, h.cong (fun k q1 q2 => far k (by omega))⟩) (by obtain ⟨a, b, c, d, h⟩ := hB2; exact ⟨a, b, c, d, h.cong (fun k q1 q2 => far k (by omega))⟩) hD hP hS hl
      refine lv_iconst (v := 0) hx hb dRW_clear_31 (by decide) ?_
      refine lv_istore_n hx hb dRW_clear_32 rfl hl (by decide) rfl (fun ls hl => ?_)
      have hl : lv_has ls 2 [(1, .int 0), (0, .ref (ad 0))] := hl
      exact loop2 3 0 _ _ _ _ (by omega) hR0 (fun t h => hPd t h) (fun t h => hWd t h) (fun t h => absurd h (Nat.not_lt_zero t)) (fun t _ h => hL t h) hV hT hB1 hB2 hD hP hS hl
    | succ r ih =>
      intro i  H locs ls F hi hR hPd hWd hPn hWn hL hV hT hB1 hB2 hD hP hS hl
      have hR0 := hR
      obtain ⟨rh0, ⟨ra1, rh1, rx1⟩, ⟨ra2, rh2, rx2⟩, ⟨ra3, rh3, rx3⟩, ⟨ra4, rh4, rx4⟩⟩ := hR
      refine lv_iload_n hx hb dRW_clear_2 rfl (lv_at hl 0 rfl) ?_
      refine lv_iconst (v := 5) hx hb dRW_clear_3 (by decide) ?_
      refine lv_icmp_ge (tgt := 31) hx hb dRW_clear_4 rfl (fun h4 => absurd h4 (nI_ge (a := i) (b := 5) (by omega) (by omega))) (fun h4 => ?_)
      obtain ⟨psz, pfo, pfa, pfb, p0, p1, p2, p3⟩ := hPn i (Nat.le_refl i) (by omega)
      obtain ⟨ph, nx, rg, k0, k1, wf, k2⟩ := hWn i (Nat.le_refl i) (by omega)
      refine lv_aload_n hx hb dRW_clear_7 rfl (lv_at hl 1 rfl) ?_
      refine g_RW_11 X hP (by omega) (rh0) rfl dRW_clear_8 ?_
      refine lv_iload_n hx hb dRW_clear_11 rfl (lv_at hl 0 rfl) ?_
      refine q_aald (t0 := 3) i X hP (by omega) (rh1) rfl (rfl) (by omega) (by decide) (rx1 i (by omega)) dRW_clear_12 ?_
      refine x_v (f := fun k => (3 + 7 * i) + k) (x_runVN (C := R_PG) (As := []) (rest := []) X (c_PG_forget l D tc (fun k => ad (3 + 7 * i + k)) (fun k => F (3 + 7 * i + k)) psz pfo pfa pfb p0 p1 p2 p3) rfl rfl (by decide) (by decide) w_179 w_2 w_176 w_178 sel_PG_forget ry_PG_forget (x_recv X hP (by omega) (p0) rfl) (ct_pre X hP hD (fr_lt 4 66 (3 + 7 * i) (by omega)) (fr_inj 4 (3 + 7 * i))) ct_blind hl.1 (Nat.le_of_ble_eq_true rfl) dRW_clear_13 ⟨Nat.zero_le _, Nat.zero_le _⟩) hD hP hS (fr_lt 4 66 (3 + 7 * i) (by omega)) (fr_inj 4 (3 + 7 * i)) (fun o E1 h => h.1) (fun E130 H locs q133 hD hP hS => ?_)
      obtain ⟨-, q1330, q1331, q1332, q1333⟩ := q133
      generalize g131 : wU 4 (fun k => (3 + 7 * i) + k) F E130 = E132 at hD hP
      have f134 : E132 0 = .inr (6, [.ref (ad 1), .ref (ad 2), .ref (ad 38), .ref (ad 48), .ref (ad 53), .ref (ad 56), .ref (ad 61), .int st, .int cs]) := by rw [← g131, wU_far (by omega)]; exact rh0
      have f135 : E132 1 = .inl (tc 3, 5, .inr (.inr (.inr (.inr ra1)))) := by rw [← g131, wU_far (by omega)]; exact rh1
      have f136 : E132 2 = .inl (tc 4, 5, .inr (.inr (.inr (.inr ra2)))) := by rw [← g131, wU_far (by omega)]; exact rh2
      have f137 : E132 38 = .inl (tc 5, 3, .inr (.inr (.inr (.inr ra3)))) := by rw [← g131, wU_far (by omega)]; exact rh3
      have f138 : E132 48 = .inl (tc 6, 2, .inr (.inr (.inr (.inr ra4)))) := by rw [← g131, wU_far (by omega)]; exact rh4
      have f139 : E132 (7 + 7 * i) = .inr (5, [.ref (ad (7 + 7 * i + 1)), .int ph, .int nx, .long rg]) := by rw [← g131, wU_far (by omega)]; exact k0
      have f140 : E132 (7 + 7 * i + 1) = .inr (0, [.ref (ad (7 + 7 * i + 1 + 1))]) := by rw [← g131, wU_far (by omega)]; exact k1
      have f141 : E132 (7 + 7 * i + 1 + 1) = .inl (tc 0, 5, .inl wf) := by rw [← g131, wU_far (by omega)]; exact k2
      have f142 : E132 (3 + 7 * i) = .inr (2, [.ref (ad (3 + 7 * i + 1)), .ref (ad (3 + 7 * i + 2)), .ref (ad (3 + 7 * i + 3)), .int (nI 0)]) := by rw [← g131]; exact (wU_own 0 (by omega)).trans (q1330)
      have f143 : E132 (3 + 7 * i + 1) = .inl (tc 0, 12, .inl pfo) := by rw [← g131]; exact (wU_own 1 (by omega)).trans (q1331)
      have f144 : E132 (3 + 7 * i + 2) = .inl (tc 0, 12, .inl pfa) := by rw [← g131]; exact (wU_own 2 (by omega)).trans (q1332)
      have f145 : E132 (3 + 7 * i + 3) = .inl (tc 0, 12, .inl pfb) := by rw [← g131]; exact (wU_own 3 (by omega)).trans (q1333)
      refine lv_aload_n hx hb dRW_clear_16 rfl (lv_at hl 1 rfl) ?_
      refine g_RW_17 X hP (by omega) (f134) rfl dRW_clear_17 ?_
      refine lv_iload_n hx hb dRW_clear_20 rfl (lv_at hl 0 rfl) ?_
      refine q_aald (t0 := 4) i X hP (by omega) (f136) rfl (rfl) (by omega) (by decide) (rx2 i (by omega)) dRW_clear_21 ?_
      refine x_v (f := fun k => (7 + 7 * i) + k) (x_runVN (C := R_WK) (As := []) (rest := []) X (c_WK_forget l D tc (fun k => ad (7 + 7 * i + k)) (fun k => E132 (7 + 7 * i + k)) ph nx rg wf (f139) (f140) (f141)) rfl rfl (by decide) (by decide) w_183 w_3 w_180 w_182 sel_WK_forget ry_WK_forget (x_recv X hP (by omega) (f139) rfl) (ct_pre X hP hD (fr_lt 3 66 (7 + 7 * i) (by omega)) (fr_inj 3 (7 + 7 * i))) ct_blind hl.1 (Nat.le_of_ble_eq_true rfl) dRW_clear_22 ⟨Nat.zero_le _, Nat.zero_le _⟩) hD hP hS (fr_lt 3 66 (7 + 7 * i) (by omega)) (fr_inj 3 (7 + 7 * i)) (fun o E1 h => h.1) (fun E146 H locs q149 hD hP hS => ?_)
      obtain ⟨-, q1490, q1491, q149f, q1492⟩ := q149
      generalize g147 : wU 3 (fun k => (7 + 7 * i) + k) E132 E146 = E148 at hD hP
      have f150 : E148 0 = .inr (6, [.ref (ad 1), .ref (ad 2), .ref (ad 38), .ref (ad 48), .ref (ad 53), .ref (ad 56), .ref (ad 61), .int st, .int cs]) := by rw [← g147, wU_far (by omega)]; exact f134
      have f151 : E148 1 = .inl (tc 3, 5, .inr (.inr (.inr (.inr ra1)))) := by rw [← g147, wU_far (by omega)]; exact f135
      have f152 : E148 2 = .inl (tc 4, 5, .inr (.inr (.inr (.inr ra2)))) := by rw [← g147, wU_far (by omega)]; exact f136
      have f153 : E148 38 = .inl (tc 5, 3, .inr (.inr (.inr (.inr ra3)))) := by rw [← g147, wU_far (by omega)]; exact f137
      have f154 : E148 48 = .inl (tc 6, 2, .inr (.inr (.inr (.inr ra4)))) := by rw [← g147, wU_far (by omega)]; exact f138
      have f155 : E148 (3 + 7 * i) = .inr (2, [.ref (ad (3 + 7 * i + 1)), .ref (ad (3 + 7 * i + 2)), .ref (ad (3 + 7 * i + 3)), .int (nI 0)]) := by rw [← g147, wU_far (by omega)]; exact f142
      have f156 : E148 (3 + 7 * i + 1) = .inl (tc 0, 12, .inl pfo) := by rw [← g147, wU_far (by omega)]; exact f143
      have f157 : E148 (3 + 7 * i + 2) = .inl (tc 0, 12, .inl pfa) := by rw [← g147, wU_far (by omega)]; exact f144
      have f158 : E148 (3 + 7 * i + 3) = .inl (tc 0, 12, .inl pfb) := by rw [← g147, wU_far (by omega)]; exact f145
      have f159 : E148 (7 + 7 * i) = .inr (5, [.ref (ad (7 + 7 * i + 1)), .int 0, .int 0, .long 0]) := by rw [← g147]; exact (wU_own 0 (by omega)).trans (q1490)
      have f160 : E148 (7 + 7 * i + 1) = .inr (0, [.ref (ad (7 + 7 * i + 1 + 1))]) := by rw [← g147]; exact (wU_own 1 (by omega)).trans (q1491)
      have f161 : E148 (7 + 7 * i + 1 + 1) = .inl (tc 0, 5, .inl q149f) := by rw [← g147]; exact (wU_own 2 (by omega)).trans (q1492)
      refine lv_iinc (k := 0) (v := nI (i + 1)) hx hb dRW_clear_25 hl rfl (nI_1 i) (by decide) rfl (fun ls hl => ?_)
      have hl : lv_has ls 2 [(1, .int (nI (i + 1))), (0, .ref (ad 0))] := hl
      refine lv_goto (tgt := 2) hx hb dRW_clear_28 rfl ?_
      have far : ∀ k, k < 3 + 7 * i ∨ 10 + 7 * i ≤ k → E148 k = F k := fun k hk => by rw [← g147, wU_far (by omega), ← g131, wU_far (by omega)]
      have npg : isPG tc ad E148 (3 + 7 * i) 0 pfo pfa pfb := ⟨f155, f156, f157, f158⟩
      have nwk : isWK tc ad E148 (7 + 7 * i) 0 0 0 := ⟨f159, f160, _, f161⟩
      exact ih (i + 1) _ _ _ _ (by omega) (hR0.cong (far 0 (by omega)) (far 1 (by omega)) (far 2 (by omega)) (far 38 (by omega)) (far 48 (by omega))) (fun t ht => by by_cases h : t = i; (· subst h; exact ⟨_, _, _, npg⟩); (· obtain ⟨a, b, c, h'⟩ := hPd t (by omega); exact ⟨a, b, c, h'.cong (fun k q1 q2 => far k (by omega))⟩)) (fun t ht => by by_cases h : t = i; (· subst h; exact nwk); (· exact (hWd t (by omega)).cong (fun k q1 q2 => far k (by omega)))) (fun t h1 h2 => by obtain ⟨z, a, b, c, h'⟩ := hPn t (by omega) h2; exact ⟨z, a, b, c, h'.cong (fun k q1 q2 => far k (by omega))⟩) (fun t h1 h2 => by obtain ⟨a, b, c, h'⟩ := hWn t (by omega) h2; exact ⟨a, b, c, h'.cong (fun k q1 q2 => far k (by omega))⟩) (fun t ht => by obtain ⟨ow, dp, h⟩ := hL t ht; exact ⟨ow, dp, h.cong (fun k q1 q2 => far k (by omega))⟩) (fun t ht => (hV t ht).cong (fun k q1 q2 => far k (by omega))) (by obtain ⟨cn, fc, fk, h⟩ := hT; exact ⟨cn, fc, fk, h.cong (fun k q1 q2 => far k (by omega))⟩) (by obtain ⟨a, b, c, d, h⟩ := hB1; exact ⟨a, b, c, d, h.cong (fun k q1 q2 => far k (by omega))⟩) (by obtain ⟨a, b, c, d, h⟩ := hB2; exact ⟨a, b, c, d, h.cong (fun k q1 q2 => far k (by omega))⟩) hD hP hS hl
  exact loop1 5 0 _ _ _ _ (by omega) hR (fun t h => absurd h (Nat.not_lt_zero t)) (fun t h => absurd h (Nat.not_lt_zero t)) (fun t _ h => hX1 t h) (fun t _ h => hX2 t h) hX3 hX4 hX5 hX6 hX7 hD hP hS hl
