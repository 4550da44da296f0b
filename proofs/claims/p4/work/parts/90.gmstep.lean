
set_option maxHeartbeats 4000000 in
set_option maxRecDepth 100000 in
theorem g_MD_step (l : Launch) (D : va_G) (tc : Nat → ClassId) (ad : Nat → Nat) (E : Nat → va_E) (th st : Int32) (sz : Nat → Nat) (fo fa fb : Nat → Nat → Int32) (t1 : Int32) (hI : MI tc ad E th st sz fo fa fb) (hok : pgOk sz fo fa) (hnb : ¬ st = 0 → allBad sz fo fa fb = false) : Ct l D tc yMD_step 4 17 ad E [.ref (ad 0), .int t1] (fun o E2 => ∃ r th2 : Int32, o = .returned (some (.int r)) ∧ MI tc ad E2 th2 st sz fo fa fb) := by
  refine Ct.ofW (cc := cMD_step) (maxL := 6) (ret := (some .int)) (own := R_MD) (by decide) rfl w_571 (Nat.le_of_ble_eq_true rfl) ?_
  intro p e s m args below meth c ls X hlk hr hD hP hS hl
  have hx := X.1
  have hb := X.2.1
  have hl : lv_has ls 6 [(0, .ref (ad 0)), (1, .int t1)] := hl
  obtain ⟨ic, cn, A, J, hM, hc, q1, q2, q5⟩ := hI
  have hM0 := hM
  obtain ⟨m0, m1, m2, m3, m4, m5, m6, m7, m8, m9, m10, m11, m12, m13, m14, m15, m16⟩ := hM
  refine lv_iload_n hx hb dMD_step_0 rfl (lv_at hl 1 rfl) ?_
  refine lv_iconst (v := 5) hx hb dMD_step_1 (by decide) ?_
  refine x_iE (f := fun k => 0 + k) (x_runS (As := [.int t1, .int 5]) (rest := []) X (c_MD_within l D tc (fun k => ad (0 + k)) (fun k => E (0 + k)) t1 5 (n := 5) (by decide)) rfl rfl (by decide) (by decide) w_551 w_9 w_549 w_550 ry_MD_within (ct_pre X hP hD (fr_lt 0 17 0 (by omega)) (fr_inj 0 0)) ct_blind hl.1 (Nat.le_of_ble_eq_true rfl) dMD_step_2 ⟨Nat.zero_le _, Nat.zero_le _⟩) hD hP hS (fr_lt 0 17 0 (by omega)) (fr_inj 0 0) (fun H locs hD hP hS => ?_)
  refine lv_if_ne (tgt := 14) hx hb dMD_step_5 rfl (fun h5 => ?_) (fun h5 => ?_)
  · obtain ⟨j, hj, rfl⟩ := wi_of (n := 5) (by decide) (bi_t h5)
    refine lv_aload_n hx hb dMD_step_14 rfl (lv_at hl 0 rfl) ?_
    refine g_MD_71 X hP (by omega) (m0) rfl dMD_step_15 ?_
    refine lv_if_eq (tgt := 31) hx hb dMD_step_18 rfl (fun h18 => ?_) (fun h18 => ?_)
    · refine lv_aload_n hx hb dMD_step_31 rfl (lv_at hl 0 rfl) ?_
      refine lv_iconst (v := 2) hx hb dMD_step_32 (by decide) ?_
      refine x_i (f := fun k => 0 + k) (x_runV (C := R_MD) (As := [.int 2]) (rest := []) X (c_MD_raise l D tc (fun k => ad (0 + k)) (fun k => E (0 + k)) th st ic (nI cn) A J 2 (by simpa only [Nat.zero_add] using hM0)) rfl rfl (by decide) (by decide) w_563 w_9 w_560 w_562 sel_MD_raise ry_MD_raise (x_recv X hP (by omega) (m0) rfl) (ct_pre X hP hD (fr_lt 17 17 0 (by omega)) (fr_inj 17 0)) ct_blind hl.1 (Nat.le_of_ble_eq_true rfl) dMD_step_33 ⟨Nat.zero_le _, Nat.zero_le _⟩) hD hP hS (fr_lt 17 17 0 (by omega)) (fr_inj 17 0) (fun o E1 h => ⟨_, h.1⟩) (fun r5 E1 H locs q4 hD hP hS => ?_)
      obtain ⟨-, q4m⟩ := q4
      generalize g2 : wU 17 (fun k => 0 + k) E E1 = E3 at hD hP
      exact q_iret X hlk hr hP hS dMD_step_36 ⟨_, 2, rfl, ic, cn, A, J, by rw [← g2]; exact isMD.back q4m, hc, q1, q2, q5⟩
    · refine lv_aload_n hx hb dMD_step_21 rfl (lv_at hl 0 rfl) ?_
      refine g_MD_22 X hP (by omega) (m0) rfl dMD_step_22 ?_
      refine lv_iload_n hx hb dMD_step_25 rfl (lv_at hl 1 rfl) ?_
      refine q_iald j X hP (by omega) (m5) (rfl) (by omega) (by decide) dMD_step_26 ?_
      refine lv_iconst (v := 1) hx hb dMD_step_27 (by decide) ?_
      refine lv_icmp_eq (tgt := 37) hx hb dMD_step_28 rfl (fun h28 => ?_) (fun h28 => ?_)
      · obtain ⟨k, hk, ek⟩ := (q5 h18 j hj).1 h28
        obtain ⟨hs12, hok2⟩ := hok j hj
        obtain ⟨o2, o3, o4⟩ := q2 j hj k hk
        obtain ⟨hop, hna⟩ := hok2 k hk
        refine lv_bipush (v := 12) hx hb dMD_step_37 (by decide) ?_
        refine lv_iload_n hx hb dMD_step_39 rfl (lv_at hl 1 rfl) ?_
        refine lv_imul hx hb dMD_step_40 ?_
        rw [show (12 * (nI j)) = nI (12 * j) from pk_mul 12 j]
        refine lv_aload_n hx hb dMD_step_41 rfl (lv_at hl 0 rfl) ?_
        refine g_MD_25 X hP (by omega) (m0) rfl dMD_step_42 ?_
        refine lv_iload_n hx hb dMD_step_45 rfl (lv_at hl 1 rfl) ?_
        refine q_iald j X hP (by omega) (m6) (rfl) (by omega) (by decide) dMD_step_46 ?_
        refine lv_iadd hx hb dMD_step_47 ?_
        rw [show ((nI (12 * j)) + ((A 6) j)) = nI (12 * j + k) from by rw [ek]; exact nI_add _ _]
        refine lv_istore_n hx hb dMD_step_48 rfl hl (by decide) rfl (fun ls hl => ?_)
        have hl : lv_has ls 6 [(2, .int (nI (12 * j + k))), (0, .ref (ad 0)), (1, .int (nI j))] := hl
        refine lv_aload_n hx hb dMD_step_49 rfl (lv_at hl 1 rfl) ?_
        refine g_MD_13 X hP (by omega) (m0) rfl dMD_step_50 ?_
        refine lv_iload_n hx hb dMD_step_53 rfl (lv_at hl 0 rfl) ?_
        refine q_iald (12 * j + k) X hP (by omega) (m2) (rfl) (by omega) (by decide) dMD_step_54 ?_
        refine lv_istore_n hx hb dMD_step_55 rfl hl (by decide) rfl (fun ls hl => ?_)
        have hl : lv_has ls 6 [(3, .int ((A 2) (12 * j + k))), (2, .int (nI (12 * j + k))), (0, .ref (ad 0)), (1, .int (nI j))] := hl
        refine lv_aload_n hx hb dMD_step_56 rfl (lv_at hl 2 rfl) ?_
        refine g_MD_16 X hP (by omega) (m0) rfl dMD_step_57 ?_
        refine lv_iload_n hx hb dMD_step_60 rfl (lv_at hl 1 rfl) ?_
        refine q_iald (12 * j + k) X hP (by omega) (m3) (rfl) (by omega) (by decide) dMD_step_61 ?_
        refine lv_istore hx hb dMD_step_62 hl (by decide) rfl (fun ls hl => ?_)
        have hl : lv_has ls 6 [(4, .int ((A 3) (12 * j + k))), (3, .int ((A 2) (12 * j + k))), (2, .int (nI (12 * j + k))), (0, .ref (ad 0)), (1, .int (nI j))] := hl
        obtain ⟨n9, hn9, en9⟩ := wi_of (n := 13) (by decide) hop
        rw [en9] at hna
        have eo : A 2 (12 * j + k) = nI n9 := o2.trans en9
        rcases (by omega : n9 = 0 ∨ n9 = 1 ∨ n9 = 2 ∨ n9 = 3 ∨ n9 = 4 ∨ n9 = 5 ∨ n9 = 6 ∨ n9 = 7 ∨ n9 = 8 ∨ n9 = 9 ∨ n9 = 10 ∨ n9 = 11 ∨ n9 = 12) with rfl | rfl | rfl | rfl | rfl | rfl | rfl | rfl | rfl | rfl | rfl | rfl | rfl
        · have eo : A 2 (12 * j + k) = 0 := eo
          rw [eo] at hl
          obtain ⟨q, hq, eq⟩ := wi_of (n := 8) (by decide) hna
          have eq : A 3 (12 * j + k) = nI q := o3.trans eq
          refine lv_iload_n hx hb dMD_step_64 rfl (lv_at hl 1 rfl) ?_
          refine lv_iconst (v := 3) hx hb dMD_step_65 (by decide) ?_
          refine lv_icmp_ne (tgt := 80) hx hb dMD_step_66 rfl (fun h66 => ?_) (fun h66 => absurd h66 (by decide))
          refine lv_iload_n hx hb dMD_step_80 rfl (lv_at hl 1 rfl) ?_
          refine lv_bipush (v := 6) hx hb dMD_step_81 (by decide) ?_
          refine lv_icmp_ne (tgt := 96) hx hb dMD_step_83 rfl (fun h83 => ?_) (fun h83 => absurd h83 (by decide))
          refine lv_iload_n hx hb dMD_step_96 rfl (lv_at hl 1 rfl) ?_
          refine lv_bipush (v := 7) hx hb dMD_step_97 (by decide) ?_
          refine lv_icmp_ne (tgt := 118) hx hb dMD_step_99 rfl (fun h99 => ?_) (fun h99 => absurd h99 (by decide))
          refine lv_aload_n hx hb dMD_step_118 rfl (lv_at hl 3 rfl) ?_
          refine lv_iconst (v := 0) hx hb dMD_step_119 (by decide) ?_
          refine p_MD_63 X hD hP hS (by omega) (m0) rfl rfl (Nat.le_of_ble_eq_true rfl) dMD_step_120 (fun H locs hD hP hS => ?_)
          have hP : va_P D vwCl (wW 17 ad (va_up E 0 (.inr (7, [.int 0, .int st, .int ic, .ref (ad 1), .ref (ad 2), .ref (ad 3), .ref (ad 4), .ref (ad 5), .ref (ad 6), .ref (ad 7), .ref (ad 8), .ref (ad 9), .int (nI cn), .ref (ad 10), .ref (ad 11), .ref (ad 12), .ref (ad 13), .ref (ad 14), .ref (ad 15), .ref (ad 16)])))) H := hP
          have hD : va_D (Aw 17 ad) (wW 17 ad (va_up E 0 (.inr (7, [.int 0, .int st, .int ic, .ref (ad 1), .ref (ad 2), .ref (ad 3), .ref (ad 4), .ref (ad 5), .ref (ad 6), .ref (ad 7), .ref (ad 8), .ref (ad 9), .int (nI cn), .ref (ad 10), .ref (ad 11), .ref (ad 12), .ref (ad 13), .ref (ad 14), .ref (ad 15), .ref (ad 16)])))) := hD
          generalize g7 : va_up E 0 (.inr (7, [.int 0, .int st, .int ic, .ref (ad 1), .ref (ad 2), .ref (ad 3), .ref (ad 4), .ref (ad 5), .ref (ad 6), .ref (ad 7), .ref (ad 8), .ref (ad 9), .int (nI cn), .ref (ad 10), .ref (ad 11), .ref (ad 12), .ref (ad 13), .ref (ad 14), .ref (ad 15), .ref (ad 16)])) = E6 at hD hP
          have f8 : E6 0 = .inr (7, [.int 0, .int st, .int ic, .ref (ad 1), .ref (ad 2), .ref (ad 3), .ref (ad 4), .ref (ad 5), .ref (ad 6), .ref (ad 7), .ref (ad 8), .ref (ad 9), .int (nI cn), .ref (ad 10), .ref (ad 11), .ref (ad 12), .ref (ad 13), .ref (ad 14), .ref (ad 15), .ref (ad 16)]) := by rw [← g7]; exact va_up_self _ _ _
          have f9 : E6 1 = .inl (tc 0, 5, .inl (A 1)) := by rw [← g7, va_up_ne _ _ (by omega)]; exact m1
          have f10 : E6 2 = .inl (tc 0, 60, .inl (A 2)) := by rw [← g7, va_up_ne _ _ (by omega)]; exact m2
          have f11 : E6 3 = .inl (tc 0, 60, .inl (A 3)) := by rw [← g7, va_up_ne _ _ (by omega)]; exact m3
          have f12 : E6 4 = .inl (tc 0, 60, .inl (A 4)) := by rw [← g7, va_up_ne _ _ (by omega)]; exact m4
          have f13 : E6 5 = .inl (tc 0, 5, .inl (A 5)) := by rw [← g7, va_up_ne _ _ (by omega)]; exact m5
          have f14 : E6 6 = .inl (tc 0, 5, .inl (A 6)) := by rw [← g7, va_up_ne _ _ (by omega)]; exact m6
          have f15 : E6 7 = .inl (tc 0, 5, .inl (A 7)) := by rw [← g7, va_up_ne _ _ (by omega)]; exact m7
          have f16 : E6 8 = .inl (tc 0, 3, .inl (A 8)) := by rw [← g7, va_up_ne _ _ (by omega)]; exact m8
          have f17 : E6 9 = .inl (tc 0, 3, .inl (A 9)) := by rw [← g7, va_up_ne _ _ (by omega)]; exact m9
          have f18 : E6 10 = .inl (tc 0, 200, .inl (A 10)) := by rw [← g7, va_up_ne _ _ (by omega)]; exact m10
          have f19 : E6 11 = .inl (tc 0, 200, .inl (A 11)) := by rw [← g7, va_up_ne _ _ (by omega)]; exact m11
          have f20 : E6 12 = .inl (tc 0, 200, .inl (A 12)) := by rw [← g7, va_up_ne _ _ (by omega)]; exact m12
          have f21 : E6 13 = .inl (tc 2, 200, .inl (A 13)) := by rw [← g7, va_up_ne _ _ (by omega)]; exact m13
          have f22 : E6 15 = .inl (tc 0, 8, .inl (A 15)) := by rw [← g7, va_up_ne _ _ (by omega)]; exact m15
          have f23 : E6 16 = .inl (tc 0, 8, .inl (A 16)) := by rw [← g7, va_up_ne _ _ (by omega)]; exact m16
          have f24 : E6 14 = .inl (tc 1, 800, .inr (.inl J)) := by rw [← g7, va_up_ne _ _ (by omega)]; exact m14
          refine lv_iload_n hx hb dMD_step_123 rfl (lv_at hl 1 rfl) ?_
          refine lv_bipush (v := 10) hx hb dMD_step_124 (by decide) ?_
          refine lv_icmp_lt (tgt := 137) hx hb dMD_step_126 rfl (fun h126 => ?_) (fun h126 => absurd (by decide) h126)
          refine lv_iload_n hx hb dMD_step_137 rfl (lv_at hl 1 rfl) ?_
          refine lv_iconst (v := 2) hx hb dMD_step_138 (by decide) ?_
          refine lv_icmp_ne (tgt := 163) hx hb dMD_step_139 rfl (fun h139 => ?_) (fun h139 => absurd h139 (by decide))
          refine lv_iload_n hx hb dMD_step_163 rfl (lv_at hl 1 rfl) ?_
          refine lv_bipush (v := 7) hx hb dMD_step_164 (by decide) ?_
          refine lv_icmp_ne (tgt := 184) hx hb dMD_step_166 rfl (fun h166 => ?_) (fun h166 => absurd h166 (by decide))
          refine lv_iconst (v := 0) hx hb dMD_step_184 (by decide) ?_
          refine lv_istore hx hb dMD_step_185 hl (by decide) rfl (fun ls hl => ?_)
          have hl : lv_has ls 6 [(5, .int 0), (4, .int ((A 3) (12 * j + k))), (3, .int 0), (2, .int (nI (12 * j + k))), (0, .ref (ad 0)), (1, .int (nI j))] := hl
          refine lv_iload hx hb dMD_step_187 (lv_at hl 0 rfl) ?_
          refine lv_if_ne (tgt := 202) hx hb dMD_step_189 rfl (fun h189 => absurd h189 (by decide)) (fun h189 => ?_)
          refine lv_aload_n hx hb dMD_step_192 rfl (lv_at hl 4 rfl) ?_
          refine g_MD_78 X hP (by omega) (f8) rfl dMD_step_193 ?_
          refine lv_sipush (v := 200) hx hb dMD_step_196 (by decide) ?_
          refine lv_icmp_ne (tgt := 204) hx hb dMD_step_199 rfl (fun h199 => ?_) (fun h199 => ?_)
          · have hc9 : cn < 200 := by rcases Nat.lt_or_ge cn 200 with h | h; (· exact h); (· exact absurd (by rw [show cn = 200 by omega]; rfl) h199)
            refine lv_aload_n hx hb dMD_step_204 rfl (lv_at hl 4 rfl) ?_
            refine lv_iload_n hx hb dMD_step_205 rfl (lv_at hl 5 rfl) ?_
            refine lv_iload_n hx hb dMD_step_206 rfl (lv_at hl 2 rfl) ?_
            refine lv_iload_n hx hb dMD_step_207 rfl (lv_at hl 2 rfl) ?_
            refine lv_bipush (v := 8) hx hb dMD_step_208 (by decide) ?_
            refine lv_icmp_lt (tgt := 226) hx hb dMD_step_210 rfl (fun h210 => ?_) (fun h210 => absurd (by decide) h210)
            refine lv_iload hx hb dMD_step_226 (lv_at hl 1 rfl) ?_
            refine x_v (f := fun k => 0 + k) (x_runV (C := R_MD) (As := [.int (nI j), .int 0, .int ((A 3) (12 * j + k))]) (rest := []) X (g_MD_note l D tc (fun k => ad (0 + k)) (fun k => E6 (0 + k)) 0 st ic cn A J j 0 ((A 3) (12 * j + k)) (by simpa only [Nat.zero_add] using (show isMD tc ad E6 0 st ic (nI cn) A J from ⟨f8, f9, f10, f11, f12, f13, f14, f15, f16, f17, f18, f19, f20, f21, f24, f22, f23⟩)) hj hc9 (fun h => absurd h (by decide)) (fun h => absurd h (by decide)) (fun _ => ⟨q, hq, eq⟩)) rfl rfl (by decide) (by decide) w_583 w_9 w_580 w_582 sel_MD_note ry_MD_note (x_recv X hP (by omega) (f8) rfl) (ct_pre X hP hD (fr_lt 17 17 0 (by omega)) (fr_inj 17 0)) ct_blind hl.1 (Nat.le_of_ble_eq_true rfl) dMD_step_228 ⟨Nat.zero_le _, Nat.zero_le _⟩) hD hP hS (fr_lt 17 17 0 (by omega)) (fr_inj 17 0) (fun o E1 h => h.1) (fun E25 H locs q28 hD hP hS => ?_)
            obtain ⟨-, q28B, q28J, q28m, q281, q285⟩ := q28
            generalize g26 : wU 17 (fun k => 0 + k) E6 E25 = E27 at hD hP
            have hM8 : isMD tc ad E27 0 st ic (nI (cn + 1)) q28B q28J := by rw [← g26]; exact isMD.back q28m
            have hM7 := hM8
            obtain ⟨m0, m1, m2, m3, m4, m5, m6, m7, m8, m9, m10, m11, m12, m13, m14, m15, m16⟩ := hM8
            refine lv_aload_n hx hb dMD_step_231 rfl (lv_at hl 4 rfl) ?_
            refine lv_iload_n hx hb dMD_step_232 rfl (lv_at hl 5 rfl) ?_
            refine lv_aload_n hx hb dMD_step_233 rfl (lv_at hl 4 rfl) ?_
            refine g_MD_25 X hP (by omega) (m0) rfl dMD_step_234 ?_
            refine lv_iload_n hx hb dMD_step_237 rfl (lv_at hl 5 rfl) ?_
            refine q_iald j X hP (by omega) (m6) (rfl) (by omega) (by decide) dMD_step_238 ?_
            refine lv_iconst (v := 1) hx hb dMD_step_239 (by decide) ?_
            refine lv_iadd hx hb dMD_step_240 ?_
            rw [show (((q28B 6) j) + 1) = nI (k + 1) from by rw [q281 6 (by decide), ek]; exact nI_1 k]
            refine x_v (f := fun k => 0 + k) (x_runV (C := R_MD) (As := [.int (nI j), .int (nI (k + 1))]) (rest := []) X (g_MD_go l D tc (fun k => ad (0 + k)) (fun k => E27 (0 + k)) 0 st ic (cn + 1) q28B q28J j (nI (k + 1)) (by simpa only [Nat.zero_add] using hM7) hj) rfl rfl (by decide) (by decide) w_579 w_9 w_576 w_578 sel_MD_go ry_MD_go (x_recv X hP (by omega) (m0) rfl) (ct_pre X hP hD (fr_lt 17 17 0 (by omega)) (fr_inj 17 0)) ct_blind hl.1 (Nat.le_of_ble_eq_true rfl) dMD_step_241 ⟨Nat.zero_le _, Nat.zero_le _⟩) hD hP hS (fr_lt 17 17 0 (by omega)) (fr_inj 17 0) (fun o E1 h => h.1) (fun E29 H locs q32 hD hP hS => ?_)
            obtain ⟨-, q32v, q32m, q321, q322⟩ := q32
            generalize g30 : wU 17 (fun k => 0 + k) E27 E29 = E31 at hD hP
            refine lv_iconst (v := 1) hx hb dMD_step_244 (by decide) ?_
            exact q_iret X hlk hr hP hS dMD_step_245 ⟨_, 0, rfl, ic, cn + 1, (va_up (va_up q28B 6 (upd (q28B 6) j (nI (k + 1)))) 5 (upd (q28B 5) j q32v)), q28J, by rw [← g30]; exact isMD.back q32m, by omega, fun t ht => by rw [va_up_ne _ _ (by decide), va_up_ne _ _ (by decide), q281 1 (by decide)]; exact q1 t ht, fun t ht k hk => by rw [va_up_ne _ _ (by decide), va_up_ne _ _ (by decide), va_up_ne _ _ (by decide), va_up_ne _ _ (by decide), va_up_ne _ _ (by decide), va_up_ne _ _ (by decide), q281 2 (by decide), q281 3 (by decide), q281 4 (by decide)]; exact q2 t ht k hk, stepB hk q1 (fun t ht => (hok t ht).1) (q5 h18) q281 q285 (fun h => absurd h (by decide)) q321 q322⟩
          · refine lv_iconst (v := 0) hx hb dMD_step_202 (by decide) ?_
            exact q_iret X hlk hr hP hS dMD_step_203 ⟨_, 0, rfl, ic, cn, A, J, ⟨f8, f9, f10, f11, f12, f13, f14, f15, f16, f17, f18, f19, f20, f21, f24, f22, f23⟩, hc, q1, q2, q5⟩
        · have eo : A 2 (12 * j + k) = 1 := eo
          rw [eo] at hl
          obtain ⟨q, hq, eq⟩ := wi_of (n := 8) (by decide) hna
          have eq : A 3 (12 * j + k) = nI q := o3.trans eq
          refine lv_iload_n hx hb dMD_step_64 rfl (lv_at hl 1 rfl) ?_
          refine lv_iconst (v := 3) hx hb dMD_step_65 (by decide) ?_
          refine lv_icmp_ne (tgt := 80) hx hb dMD_step_66 rfl (fun h66 => ?_) (fun h66 => absurd h66 (by decide))
          refine lv_iload_n hx hb dMD_step_80 rfl (lv_at hl 1 rfl) ?_
          refine lv_bipush (v := 6) hx hb dMD_step_81 (by decide) ?_
          refine lv_icmp_ne (tgt := 96) hx hb dMD_step_83 rfl (fun h83 => ?_) (fun h83 => absurd h83 (by decide))
          refine lv_iload_n hx hb dMD_step_96 rfl (lv_at hl 1 rfl) ?_
          refine lv_bipush (v := 7) hx hb dMD_step_97 (by decide) ?_
          refine lv_icmp_ne (tgt := 118) hx hb dMD_step_99 rfl (fun h99 => ?_) (fun h99 => absurd h99 (by decide))
          refine lv_aload_n hx hb dMD_step_118 rfl (lv_at hl 3 rfl) ?_
          refine lv_iconst (v := 0) hx hb dMD_step_119 (by decide) ?_
          refine p_MD_63 X hD hP hS (by omega) (m0) rfl rfl (Nat.le_of_ble_eq_true rfl) dMD_step_120 (fun H locs hD hP hS => ?_)
          have hP : va_P D vwCl (wW 17 ad (va_up E 0 (.inr (7, [.int 0, .int st, .int ic, .ref (ad 1), .ref (ad 2), .ref (ad 3), .ref (ad 4), .ref (ad 5), .ref (ad 6), .ref (ad 7), .ref (ad 8), .ref (ad 9), .int (nI cn), .ref (ad 10), .ref (ad 11), .ref (ad 12), .ref (ad 13), .ref (ad 14), .ref (ad 15), .ref (ad 16)])))) H := hP
          have hD : va_D (Aw 17 ad) (wW 17 ad (va_up E 0 (.inr (7, [.int 0, .int st, .int ic, .ref (ad 1), .ref (ad 2), .ref (ad 3), .ref (ad 4), .ref (ad 5), .ref (ad 6), .ref (ad 7), .ref (ad 8), .ref (ad 9), .int (nI cn), .ref (ad 10), .ref (ad 11), .ref (ad 12), .ref (ad 13), .ref (ad 14), .ref (ad 15), .ref (ad 16)])))) := hD
          generalize g34 : va_up E 0 (.inr (7, [.int 0, .int st, .int ic, .ref (ad 1), .ref (ad 2), .ref (ad 3), .ref (ad 4), .ref (ad 5), .ref (ad 6), .ref (ad 7), .ref (ad 8), .ref (ad 9), .int (nI cn), .ref (ad 10), .ref (ad 11), .ref (ad 12), .ref (ad 13), .ref (ad 14), .ref (ad 15), .ref (ad 16)])) = E33 at hD hP
          have f35 : E33 0 = .inr (7, [.int 0, .int st, .int ic, .ref (ad 1), .ref (ad 2), .ref (ad 3), .ref (ad 4), .ref (ad 5), .ref (ad 6), .ref (ad 7), .ref (ad 8), .ref (ad 9), .int (nI cn), .ref (ad 10), .ref (ad 11), .ref (ad 12), .ref (ad 13), .ref (ad 14), .ref (ad 15), .ref (ad 16)]) := by rw [← g34]; exact va_up_self _ _ _
          have f36 : E33 1 = .inl (tc 0, 5, .inl (A 1)) := by rw [← g34, va_up_ne _ _ (by omega)]; exact m1
          have f37 : E33 2 = .inl (tc 0, 60, .inl (A 2)) := by rw [← g34, va_up_ne _ _ (by omega)]; exact m2
          have f38 : E33 3 = .inl (tc 0, 60, .inl (A 3)) := by rw [← g34, va_up_ne _ _ (by omega)]; exact m3
          have f39 : E33 4 = .inl (tc 0, 60, .inl (A 4)) := by rw [← g34, va_up_ne _ _ (by omega)]; exact m4
          have f40 : E33 5 = .inl (tc 0, 5, .inl (A 5)) := by rw [← g34, va_up_ne _ _ (by omega)]; exact m5
          have f41 : E33 6 = .inl (tc 0, 5, .inl (A 6)) := by rw [← g34, va_up_ne _ _ (by omega)]; exact m6
          have f42 : E33 7 = .inl (tc 0, 5, .inl (A 7)) := by rw [← g34, va_up_ne _ _ (by omega)]; exact m7
          have f43 : E33 8 = .inl (tc 0, 3, .inl (A 8)) := by rw [← g34, va_up_ne _ _ (by omega)]; exact m8
          have f44 : E33 9 = .inl (tc 0, 3, .inl (A 9)) := by rw [← g34, va_up_ne _ _ (by omega)]; exact m9
          have f45 : E33 10 = .inl (tc 0, 200, .inl (A 10)) := by rw [← g34, va_up_ne _ _ (by omega)]; exact m10
          have f46 : E33 11 = .inl (tc 0, 200, .inl (A 11)) := by rw [← g34, va_up_ne _ _ (by omega)]; exact m11
          have f47 : E33 12 = .inl (tc 0, 200, .inl (A 12)) := by rw [← g34, va_up_ne _ _ (by omega)]; exact m12
          have f48 : E33 13 = .inl (tc 2, 200, .inl (A 13)) := by rw [← g34, va_up_ne _ _ (by omega)]; exact m13
          have f49 : E33 15 = .inl (tc 0, 8, .inl (A 15)) := by rw [← g34, va_up_ne _ _ (by omega)]; exact m15
          have f50 : E33 16 = .inl (tc 0, 8, .inl (A 16)) := by rw [← g34, va_up_ne _ _ (by omega)]; exact m16
          have f51 : E33 14 = .inl (tc 1, 800, .inr (.inl J)) := by rw [← g34, va_up_ne _ _ (by omega)]; exact m14
          refine lv_iload_n hx hb dMD_step_123 rfl (lv_at hl 1 rfl) ?_
          refine lv_bipush (v := 10) hx hb dMD_step_124 (by decide) ?_
          refine lv_icmp_lt (tgt := 137) hx hb dMD_step_126 rfl (fun h126 => ?_) (fun h126 => absurd (by decide) h126)
          refine lv_iload_n hx hb dMD_step_137 rfl (lv_at hl 1 rfl) ?_
          refine lv_iconst (v := 2) hx hb dMD_step_138 (by decide) ?_
          refine lv_icmp_ne (tgt := 163) hx hb dMD_step_139 rfl (fun h139 => ?_) (fun h139 => absurd h139 (by decide))
          refine lv_iload_n hx hb dMD_step_163 rfl (lv_at hl 1 rfl) ?_
          refine lv_bipush (v := 7) hx hb dMD_step_164 (by decide) ?_
          refine lv_icmp_ne (tgt := 184) hx hb dMD_step_166 rfl (fun h166 => ?_) (fun h166 => absurd h166 (by decide))
          refine lv_iconst (v := 0) hx hb dMD_step_184 (by decide) ?_
          refine lv_istore hx hb dMD_step_185 hl (by decide) rfl (fun ls hl => ?_)
          have hl : lv_has ls 6 [(5, .int 0), (4, .int ((A 3) (12 * j + k))), (3, .int 1), (2, .int (nI (12 * j + k))), (0, .ref (ad 0)), (1, .int (nI j))] := hl
          refine lv_iload hx hb dMD_step_187 (lv_at hl 0 rfl) ?_
          refine lv_if_ne (tgt := 202) hx hb dMD_step_189 rfl (fun h189 => absurd h189 (by decide)) (fun h189 => ?_)
          refine lv_aload_n hx hb dMD_step_192 rfl (lv_at hl 4 rfl) ?_
          refine g_MD_78 X hP (by omega) (f35) rfl dMD_step_193 ?_
          refine lv_sipush (v := 200) hx hb dMD_step_196 (by decide) ?_
          refine lv_icmp_ne (tgt := 204) hx hb dMD_step_199 rfl (fun h199 => ?_) (fun h199 => ?_)
          · have hc9 : cn < 200 := by rcases Nat.lt_or_ge cn 200 with h | h; (· exact h); (· exact absurd (by rw [show cn = 200 by omega]; rfl) h199)
            refine lv_aload_n hx hb dMD_step_204 rfl (lv_at hl 4 rfl) ?_
            refine lv_iload_n hx hb dMD_step_205 rfl (lv_at hl 5 rfl) ?_
            refine lv_iload_n hx hb dMD_step_206 rfl (lv_at hl 2 rfl) ?_
            refine lv_iload_n hx hb dMD_step_207 rfl (lv_at hl 2 rfl) ?_
            refine lv_bipush (v := 8) hx hb dMD_step_208 (by decide) ?_
            refine lv_icmp_lt (tgt := 226) hx hb dMD_step_210 rfl (fun h210 => ?_) (fun h210 => absurd (by decide) h210)
            refine lv_iload hx hb dMD_step_226 (lv_at hl 1 rfl) ?_
            refine x_v (f := fun k => 0 + k) (x_runV (C := R_MD) (As := [.int (nI j), .int 1, .int ((A 3) (12 * j + k))]) (rest := []) X (g_MD_note l D tc (fun k => ad (0 + k)) (fun k => E33 (0 + k)) 0 st ic cn A J j 1 ((A 3) (12 * j + k)) (by simpa only [Nat.zero_add] using (show isMD tc ad E33 0 st ic (nI cn) A J from ⟨f35, f36, f37, f38, f39, f40, f41, f42, f43, f44, f45, f46, f47, f48, f51, f49, f50⟩)) hj hc9 (fun h => absurd h (by decide)) (fun h => absurd h (by decide)) (fun _ => ⟨q, hq, eq⟩)) rfl rfl (by decide) (by decide) w_583 w_9 w_580 w_582 sel_MD_note ry_MD_note (x_recv X hP (by omega) (f35) rfl) (ct_pre X hP hD (fr_lt 17 17 0 (by omega)) (fr_inj 17 0)) ct_blind hl.1 (Nat.le_of_ble_eq_true rfl) dMD_step_228 ⟨Nat.zero_le _, Nat.zero_le _⟩) hD hP hS (fr_lt 17 17 0 (by omega)) (fr_inj 17 0) (fun o E1 h => h.1) (fun E52 H locs q55 hD hP hS => ?_)
            obtain ⟨-, q55B, q55J, q55m, q551, q555⟩ := q55
            generalize g53 : wU 17 (fun k => 0 + k) E33 E52 = E54 at hD hP
            have hM8 : isMD tc ad E54 0 st ic (nI (cn + 1)) q55B q55J := by rw [← g53]; exact isMD.back q55m
            have hM7 := hM8
            obtain ⟨m0, m1, m2, m3, m4, m5, m6, m7, m8, m9, m10, m11, m12, m13, m14, m15, m16⟩ := hM8
            refine lv_aload_n hx hb dMD_step_231 rfl (lv_at hl 4 rfl) ?_
            refine lv_iload_n hx hb dMD_step_232 rfl (lv_at hl 5 rfl) ?_
            refine lv_aload_n hx hb dMD_step_233 rfl (lv_at hl 4 rfl) ?_
            refine g_MD_25 X hP (by omega) (m0) rfl dMD_step_234 ?_
            refine lv_iload_n hx hb dMD_step_237 rfl (lv_at hl 5 rfl) ?_
            refine q_iald j X hP (by omega) (m6) (rfl) (by omega) (by decide) dMD_step_238 ?_
            refine lv_iconst (v := 1) hx hb dMD_step_239 (by decide) ?_
            refine lv_iadd hx hb dMD_step_240 ?_
            rw [show (((q55B 6) j) + 1) = nI (k + 1) from by rw [q551 6 (by decide), ek]; exact nI_1 k]
            refine x_v (f := fun k => 0 + k) (x_runV (C := R_MD) (As := [.int (nI j), .int (nI (k + 1))]) (rest := []) X (g_MD_go l D tc (fun k => ad (0 + k)) (fun k => E54 (0 + k)) 0 st ic (cn + 1) q55B q55J j (nI (k + 1)) (by simpa only [Nat.zero_add] using hM7) hj) rfl rfl (by decide) (by decide) w_579 w_9 w_576 w_578 sel_MD_go ry_MD_go (x_recv X hP (by omega) (m0) rfl) (ct_pre X hP hD (fr_lt 17 17 0 (by omega)) (fr_inj 17 0)) ct_blind hl.1 (Nat.le_of_ble_eq_true rfl) dMD_step_241 ⟨Nat.zero_le _, Nat.zero_le _⟩) hD hP hS (fr_lt 17 17 0 (by omega)) (fr_inj 17 0) (fun o E1 h => h.1) (fun E56 H locs q59 hD hP hS => ?_)
            obtain ⟨-, q59v, q59m, q591, q592⟩ := q59
            generalize g57 : wU 17 (fun k => 0 + k) E54 E56 = E58 at hD hP
            refine lv_iconst (v := 1) hx hb dMD_step_244 (by decide) ?_
            exact q_iret X hlk hr hP hS dMD_step_245 ⟨_, 0, rfl, ic, cn + 1, (va_up (va_up q55B 6 (upd (q55B 6) j (nI (k + 1)))) 5 (upd (q55B 5) j q59v)), q55J, by rw [← g57]; exact isMD.back q59m, by omega, fun t ht => by rw [va_up_ne _ _ (by decide), va_up_ne _ _ (by decide), q551 1 (by decide)]; exact q1 t ht, fun t ht k hk => by rw [va_up_ne _ _ (by decide), va_up_ne _ _ (by decide), va_up_ne _ _ (by decide), va_up_ne _ _ (by decide), va_up_ne _ _ (by decide), va_up_ne _ _ (by decide), q551 2 (by decide), q551 3 (by decide), q551 4 (by decide)]; exact q2 t ht k hk, stepB hk q1 (fun t ht => (hok t ht).1) (q5 h18) q551 q555 (fun h => absurd h (by decide)) q591 q592⟩
          · refine lv_iconst (v := 0) hx hb dMD_step_202 (by decide) ?_
            exact q_iret X hlk hr hP hS dMD_step_203 ⟨_, 0, rfl, ic, cn, A, J, ⟨f35, f36, f37, f38, f39, f40, f41, f42, f43, f44, f45, f46, f47, f48, f51, f49, f50⟩, hc, q1, q2, q5⟩
        · have eo : A 2 (12 * j + k) = 2 := eo
          rw [eo] at hl
          obtain ⟨q, hq, eq⟩ := wi_of (n := 3) (by decide) hna
          have eq : A 3 (12 * j + k) = nI q := o3.trans eq
          refine lv_iload_n hx hb dMD_step_64 rfl (lv_at hl 1 rfl) ?_
          refine lv_iconst (v := 3) hx hb dMD_step_65 (by decide) ?_
          refine lv_icmp_ne (tgt := 80) hx hb dMD_step_66 rfl (fun h66 => ?_) (fun h66 => absurd h66 (by decide))
          refine lv_iload_n hx hb dMD_step_80 rfl (lv_at hl 1 rfl) ?_
          refine lv_bipush (v := 6) hx hb dMD_step_81 (by decide) ?_
          refine lv_icmp_ne (tgt := 96) hx hb dMD_step_83 rfl (fun h83 => ?_) (fun h83 => absurd h83 (by decide))
          refine lv_iload_n hx hb dMD_step_96 rfl (lv_at hl 1 rfl) ?_
          refine lv_bipush (v := 7) hx hb dMD_step_97 (by decide) ?_
          refine lv_icmp_ne (tgt := 118) hx hb dMD_step_99 rfl (fun h99 => ?_) (fun h99 => absurd h99 (by decide))
          refine lv_aload_n hx hb dMD_step_118 rfl (lv_at hl 3 rfl) ?_
          refine lv_iconst (v := 0) hx hb dMD_step_119 (by decide) ?_
          refine p_MD_63 X hD hP hS (by omega) (m0) rfl rfl (Nat.le_of_ble_eq_true rfl) dMD_step_120 (fun H locs hD hP hS => ?_)
          have hP : va_P D vwCl (wW 17 ad (va_up E 0 (.inr (7, [.int 0, .int st, .int ic, .ref (ad 1), .ref (ad 2), .ref (ad 3), .ref (ad 4), .ref (ad 5), .ref (ad 6), .ref (ad 7), .ref (ad 8), .ref (ad 9), .int (nI cn), .ref (ad 10), .ref (ad 11), .ref (ad 12), .ref (ad 13), .ref (ad 14), .ref (ad 15), .ref (ad 16)])))) H := hP
          have hD : va_D (Aw 17 ad) (wW 17 ad (va_up E 0 (.inr (7, [.int 0, .int st, .int ic, .ref (ad 1), .ref (ad 2), .ref (ad 3), .ref (ad 4), .ref (ad 5), .ref (ad 6), .ref (ad 7), .ref (ad 8), .ref (ad 9), .int (nI cn), .ref (ad 10), .ref (ad 11), .ref (ad 12), .ref (ad 13), .ref (ad 14), .ref (ad 15), .ref (ad 16)])))) := hD
          generalize g61 : va_up E 0 (.inr (7, [.int 0, .int st, .int ic, .ref (ad 1), .ref (ad 2), .ref (ad 3), .ref (ad 4), .ref (ad 5), .ref (ad 6), .ref (ad 7), .ref (ad 8), .ref (ad 9), .int (nI cn), .ref (ad 10), .ref (ad 11), .ref (ad 12), .ref (ad 13), .ref (ad 14), .ref (ad 15), .ref (ad 16)])) = E60 at hD hP
          have f62 : E60 0 = .inr (7, [.int 0, .int st, .int ic, .ref (ad 1), .ref (ad 2), .ref (ad 3), .ref (ad 4), .ref (ad 5), .ref (ad 6), .ref (ad 7), .ref (ad 8), .ref (ad 9), .int (nI cn), .ref (ad 10), .ref (ad 11), .ref (ad 12), .ref (ad 13), .ref (ad 14), .ref (ad 15), .ref (ad 16)]) := by rw [← g61]; exact va_up_self _ _ _
          have f63 : E60 1 = .inl (tc 0, 5, .inl (A 1)) := by rw [← g61, va_up_ne _ _ (by omega)]; exact m1
          have f64 : E60 2 = .inl (tc 0, 60, .inl (A 2)) := by rw [← g61, va_up_ne _ _ (by omega)]; exact m2
          have f65 : E60 3 = .inl (tc 0, 60, .inl (A 3)) := by rw [← g61, va_up_ne _ _ (by omega)]; exact m3
          have f66 : E60 4 = .inl (tc 0, 60, .inl (A 4)) := by rw [← g61, va_up_ne _ _ (by omega)]; exact m4
          have f67 : E60 5 = .inl (tc 0, 5, .inl (A 5)) := by rw [← g61, va_up_ne _ _ (by omega)]; exact m5
          have f68 : E60 6 = .inl (tc 0, 5, .inl (A 6)) := by rw [← g61, va_up_ne _ _ (by omega)]; exact m6
          have f69 : E60 7 = .inl (tc 0, 5, .inl (A 7)) := by rw [← g61, va_up_ne _ _ (by omega)]; exact m7
          have f70 : E60 8 = .inl (tc 0, 3, .inl (A 8)) := by rw [← g61, va_up_ne _ _ (by omega)]; exact m8
          have f71 : E60 9 = .inl (tc 0, 3, .inl (A 9)) := by rw [← g61, va_up_ne _ _ (by omega)]; exact m9
          have f72 : E60 10 = .inl (tc 0, 200, .inl (A 10)) := by rw [← g61, va_up_ne _ _ (by omega)]; exact m10
          have f73 : E60 11 = .inl (tc 0, 200, .inl (A 11)) := by rw [← g61, va_up_ne _ _ (by omega)]; exact m11
          have f74 : E60 12 = .inl (tc 0, 200, .inl (A 12)) := by rw [← g61, va_up_ne _ _ (by omega)]; exact m12
          have f75 : E60 13 = .inl (tc 2, 200, .inl (A 13)) := by rw [← g61, va_up_ne _ _ (by omega)]; exact m13
          have f76 : E60 15 = .inl (tc 0, 8, .inl (A 15)) := by rw [← g61, va_up_ne _ _ (by omega)]; exact m15
          have f77 : E60 16 = .inl (tc 0, 8, .inl (A 16)) := by rw [← g61, va_up_ne _ _ (by omega)]; exact m16
          have f78 : E60 14 = .inl (tc 1, 800, .inr (.inl J)) := by rw [← g61, va_up_ne _ _ (by omega)]; exact m14
          refine lv_iload_n hx hb dMD_step_123 rfl (lv_at hl 1 rfl) ?_
          refine lv_bipush (v := 10) hx hb dMD_step_124 (by decide) ?_
          refine lv_icmp_lt (tgt := 137) hx hb dMD_step_126 rfl (fun h126 => ?_) (fun h126 => absurd (by decide) h126)
          refine lv_iload_n hx hb dMD_step_137 rfl (lv_at hl 1 rfl) ?_
          refine lv_iconst (v := 2) hx hb dMD_step_138 (by decide) ?_
          refine lv_icmp_ne (tgt := 163) hx hb dMD_step_139 rfl (fun h139 => absurd h139 (by decide)) (fun h139 => ?_)
          refine lv_aload_n hx hb dMD_step_142 rfl (lv_at hl 3 rfl) ?_
          refine g_MD_31 X hP (by omega) (f62) rfl dMD_step_143 ?_
          refine lv_iload hx hb dMD_step_146 (lv_at hl 0 rfl) ?_
          refine q_iald q X hP (by omega) (f70) (eq) (by omega) (by decide) dMD_step_148 ?_
          refine lv_if_lt (tgt := 163) hx hb dMD_step_149 rfl (fun h149 => ?_) (fun h149 => ?_)
          · refine lv_iload_n hx hb dMD_step_163 rfl (lv_at hl 1 rfl) ?_
            refine lv_bipush (v := 7) hx hb dMD_step_164 (by decide) ?_
            refine lv_icmp_ne (tgt := 184) hx hb dMD_step_166 rfl (fun h166 => ?_) (fun h166 => absurd h166 (by decide))
            refine lv_iconst (v := 0) hx hb dMD_step_184 (by decide) ?_
            refine lv_istore hx hb dMD_step_185 hl (by decide) rfl (fun ls hl => ?_)
            have hl : lv_has ls 6 [(5, .int 0), (4, .int ((A 3) (12 * j + k))), (3, .int 2), (2, .int (nI (12 * j + k))), (0, .ref (ad 0)), (1, .int (nI j))] := hl
            refine lv_iload hx hb dMD_step_187 (lv_at hl 0 rfl) ?_
            refine lv_if_ne (tgt := 202) hx hb dMD_step_189 rfl (fun h189 => absurd h189 (by decide)) (fun h189 => ?_)
            refine lv_aload_n hx hb dMD_step_192 rfl (lv_at hl 4 rfl) ?_
            refine g_MD_78 X hP (by omega) (f62) rfl dMD_step_193 ?_
            refine lv_sipush (v := 200) hx hb dMD_step_196 (by decide) ?_
            refine lv_icmp_ne (tgt := 204) hx hb dMD_step_199 rfl (fun h199 => ?_) (fun h199 => ?_)
            · have hc9 : cn < 200 := by rcases Nat.lt_or_ge cn 200 with h | h; (· exact h); (· exact absurd (by rw [show cn = 200 by omega]; rfl) h199)
              refine lv_aload_n hx hb dMD_step_204 rfl (lv_at hl 4 rfl) ?_
              refine lv_iload_n hx hb dMD_step_205 rfl (lv_at hl 5 rfl) ?_
              refine lv_iload_n hx hb dMD_step_206 rfl (lv_at hl 2 rfl) ?_
              refine lv_iload_n hx hb dMD_step_207 rfl (lv_at hl 2 rfl) ?_
              refine lv_bipush (v := 8) hx hb dMD_step_208 (by decide) ?_
              refine lv_icmp_lt (tgt := 226) hx hb dMD_step_210 rfl (fun h210 => ?_) (fun h210 => absurd (by decide) h210)
              refine lv_iload hx hb dMD_step_226 (lv_at hl 1 rfl) ?_
              refine x_v (f := fun k => 0 + k) (x_runV (C := R_MD) (As := [.int (nI j), .int 2, .int ((A 3) (12 * j + k))]) (rest := []) X (g_MD_note l D tc (fun k => ad (0 + k)) (fun k => E60 (0 + k)) 0 st ic cn A J j 2 ((A 3) (12 * j + k)) (by simpa only [Nat.zero_add] using (show isMD tc ad E60 0 st ic (nI cn) A J from ⟨f62, f63, f64, f65, f66, f67, f68, f69, f70, f71, f72, f73, f74, f75, f78, f76, f77⟩)) hj hc9 (fun _ => ⟨q, hq, eq⟩) (fun h => absurd h (by decide)) (fun h => absurd h (by decide))) rfl rfl (by decide) (by decide) w_583 w_9 w_580 w_582 sel_MD_note ry_MD_note (x_recv X hP (by omega) (f62) rfl) (ct_pre X hP hD (fr_lt 17 17 0 (by omega)) (fr_inj 17 0)) ct_blind hl.1 (Nat.le_of_ble_eq_true rfl) dMD_step_228 ⟨Nat.zero_le _, Nat.zero_le _⟩) hD hP hS (fr_lt 17 17 0 (by omega)) (fr_inj 17 0) (fun o E1 h => h.1) (fun E79 H locs q82 hD hP hS => ?_)
              obtain ⟨-, q82B, q82J, q82m, q821, q825⟩ := q82
              generalize g80 : wU 17 (fun k => 0 + k) E60 E79 = E81 at hD hP
              have hM8 : isMD tc ad E81 0 st ic (nI (cn + 1)) q82B q82J := by rw [← g80]; exact isMD.back q82m
              have hM7 := hM8
              obtain ⟨m0, m1, m2, m3, m4, m5, m6, m7, m8, m9, m10, m11, m12, m13, m14, m15, m16⟩ := hM8
              refine lv_aload_n hx hb dMD_step_231 rfl (lv_at hl 4 rfl) ?_
              refine lv_iload_n hx hb dMD_step_232 rfl (lv_at hl 5 rfl) ?_
              refine lv_aload_n hx hb dMD_step_233 rfl (lv_at hl 4 rfl) ?_
              refine g_MD_25 X hP (by omega) (m0) rfl dMD_step_234 ?_
              refine lv_iload_n hx hb dMD_step_237 rfl (lv_at hl 5 rfl) ?_
              refine q_iald j X hP (by omega) (m6) (rfl) (by omega) (by decide) dMD_step_238 ?_
              refine lv_iconst (v := 1) hx hb dMD_step_239 (by decide) ?_
              refine lv_iadd hx hb dMD_step_240 ?_
              rw [show (((q82B 6) j) + 1) = nI (k + 1) from by rw [q821 6 (by decide), ek]; exact nI_1 k]
              refine x_v (f := fun k => 0 + k) (x_runV (C := R_MD) (As := [.int (nI j), .int (nI (k + 1))]) (rest := []) X (g_MD_go l D tc (fun k => ad (0 + k)) (fun k => E81 (0 + k)) 0 st ic (cn + 1) q82B q82J j (nI (k + 1)) (by simpa only [Nat.zero_add] using hM7) hj) rfl rfl (by decide) (by decide) w_579 w_9 w_576 w_578 sel_MD_go ry_MD_go (x_recv X hP (by omega) (m0) rfl) (ct_pre X hP hD (fr_lt 17 17 0 (by omega)) (fr_inj 17 0)) ct_blind hl.1 (Nat.le_of_ble_eq_true rfl) dMD_step_241 ⟨Nat.zero_le _, Nat.zero_le _⟩) hD hP hS (fr_lt 17 17 0 (by omega)) (fr_inj 17 0) (fun o E1 h => h.1) (fun E83 H locs q86 hD hP hS => ?_)
              obtain ⟨-, q86v, q86m, q861, q862⟩ := q86
              generalize g84 : wU 17 (fun k => 0 + k) E81 E83 = E85 at hD hP
              refine lv_iconst (v := 1) hx hb dMD_step_244 (by decide) ?_
              exact q_iret X hlk hr hP hS dMD_step_245 ⟨_, 0, rfl, ic, cn + 1, (va_up (va_up q82B 6 (upd (q82B 6) j (nI (k + 1)))) 5 (upd (q82B 5) j q86v)), q82J, by rw [← g84]; exact isMD.back q86m, by omega, fun t ht => by rw [va_up_ne _ _ (by decide), va_up_ne _ _ (by decide), q821 1 (by decide)]; exact q1 t ht, fun t ht k hk => by rw [va_up_ne _ _ (by decide), va_up_ne _ _ (by decide), va_up_ne _ _ (by decide), va_up_ne _ _ (by decide), va_up_ne _ _ (by decide), va_up_ne _ _ (by decide), q821 2 (by decide), q821 3 (by decide), q821 4 (by decide)]; exact q2 t ht k hk, stepB hk q1 (fun t ht => (hok t ht).1) (q5 h18) q821 q825 (fun h => absurd h (by decide)) q861 q862⟩
            · refine lv_iconst (v := 0) hx hb dMD_step_202 (by decide) ?_
              exact q_iret X hlk hr hP hS dMD_step_203 ⟨_, 0, rfl, ic, cn, A, J, ⟨f62, f63, f64, f65, f66, f67, f68, f69, f70, f71, f72, f73, f74, f75, f78, f76, f77⟩, hc, q1, q2, q5⟩
          · refine lv_aload_n hx hb dMD_step_152 rfl (lv_at hl 3 rfl) ?_
            refine g_MD_31 X hP (by omega) (f62) rfl dMD_step_153 ?_
            refine lv_iload hx hb dMD_step_156 (lv_at hl 0 rfl) ?_
            refine q_iald q X hP (by omega) (f70) (eq) (by omega) (by decide) dMD_step_158 ?_
            refine lv_iload_n hx hb dMD_step_159 rfl (lv_at hl 4 rfl) ?_
            refine lv_icmp_ne (tgt := 180) hx hb dMD_step_160 rfl (fun h160 => ?_) (fun h160 => ?_)
            · refine lv_iconst (v := 1) hx hb dMD_step_180 (by decide) ?_
              refine lv_goto (tgt := 185) hx hb dMD_step_181 rfl ?_
              refine lv_istore hx hb dMD_step_185 hl (by decide) rfl (fun ls hl => ?_)
              have hl : lv_has ls 6 [(5, .int 1), (4, .int ((A 3) (12 * j + k))), (3, .int 2), (2, .int (nI (12 * j + k))), (0, .ref (ad 0)), (1, .int (nI j))] := hl
              refine lv_iload hx hb dMD_step_187 (lv_at hl 0 rfl) ?_
              refine lv_if_ne (tgt := 202) hx hb dMD_step_189 rfl (fun h189 => ?_) (fun h189 => absurd h189 (by decide))
              refine lv_iconst (v := 0) hx hb dMD_step_202 (by decide) ?_
              exact q_iret X hlk hr hP hS dMD_step_203 ⟨_, 0, rfl, ic, cn, A, J, ⟨f62, f63, f64, f65, f66, f67, f68, f69, f70, f71, f72, f73, f74, f75, f78, f76, f77⟩, hc, q1, q2, q5⟩
            · refine lv_iload_n hx hb dMD_step_163 rfl (lv_at hl 1 rfl) ?_
              refine lv_bipush (v := 7) hx hb dMD_step_164 (by decide) ?_
              refine lv_icmp_ne (tgt := 184) hx hb dMD_step_166 rfl (fun h166 => ?_) (fun h166 => absurd h166 (by decide))
              refine lv_iconst (v := 0) hx hb dMD_step_184 (by decide) ?_
              refine lv_istore hx hb dMD_step_185 hl (by decide) rfl (fun ls hl => ?_)
              have hl : lv_has ls 6 [(5, .int 0), (4, .int ((A 3) (12 * j + k))), (3, .int 2), (2, .int (nI (12 * j + k))), (0, .ref (ad 0)), (1, .int (nI j))] := hl
              refine lv_iload hx hb dMD_step_187 (lv_at hl 0 rfl) ?_
              refine lv_if_ne (tgt := 202) hx hb dMD_step_189 rfl (fun h189 => absurd h189 (by decide)) (fun h189 => ?_)
              refine lv_aload_n hx hb dMD_step_192 rfl (lv_at hl 4 rfl) ?_
              refine g_MD_78 X hP (by omega) (f62) rfl dMD_step_193 ?_
              refine lv_sipush (v := 200) hx hb dMD_step_196 (by decide) ?_
              refine lv_icmp_ne (tgt := 204) hx hb dMD_step_199 rfl (fun h199 => ?_) (fun h199 => ?_)
              · have hc9 : cn < 200 := by rcases Nat.lt_or_ge cn 200 with h | h; (· exact h); (· exact absurd (by rw [show cn = 200 by omega]; rfl) h199)
                refine lv_aload_n hx hb dMD_step_204 rfl (lv_at hl 4 rfl) ?_
                refine lv_iload_n hx hb dMD_step_205 rfl (lv_at hl 5 rfl) ?_
                refine lv_iload_n hx hb dMD_step_206 rfl (lv_at hl 2 rfl) ?_
                refine lv_iload_n hx hb dMD_step_207 rfl (lv_at hl 2 rfl) ?_
                refine lv_bipush (v := 8) hx hb dMD_step_208 (by decide) ?_
                refine lv_icmp_lt (tgt := 226) hx hb dMD_step_210 rfl (fun h210 => ?_) (fun h210 => absurd (by decide) h210)
                refine lv_iload hx hb dMD_step_226 (lv_at hl 1 rfl) ?_
                refine x_v (f := fun k => 0 + k) (x_runV (C := R_MD) (As := [.int (nI j), .int 2, .int ((A 3) (12 * j + k))]) (rest := []) X (g_MD_note l D tc (fun k => ad (0 + k)) (fun k => E60 (0 + k)) 0 st ic cn A J j 2 ((A 3) (12 * j + k)) (by simpa only [Nat.zero_add] using (show isMD tc ad E60 0 st ic (nI cn) A J from ⟨f62, f63, f64, f65, f66, f67, f68, f69, f70, f71, f72, f73, f74, f75, f78, f76, f77⟩)) hj hc9 (fun _ => ⟨q, hq, eq⟩) (fun h => absurd h (by decide)) (fun h => absurd h (by decide))) rfl rfl (by decide) (by decide) w_583 w_9 w_580 w_582 sel_MD_note ry_MD_note (x_recv X hP (by omega) (f62) rfl) (ct_pre X hP hD (fr_lt 17 17 0 (by omega)) (fr_inj 17 0)) ct_blind hl.1 (Nat.le_of_ble_eq_true rfl) dMD_step_228 ⟨Nat.zero_le _, Nat.zero_le _⟩) hD hP hS (fr_lt 17 17 0 (by omega)) (fr_inj 17 0) (fun o E1 h => h.1) (fun E87 H locs q90 hD hP hS => ?_)
                obtain ⟨-, q90B, q90J, q90m, q901, q905⟩ := q90
                generalize g88 : wU 17 (fun k => 0 + k) E60 E87 = E89 at hD hP
                have hM8 : isMD tc ad E89 0 st ic (nI (cn + 1)) q90B q90J := by rw [← g88]; exact isMD.back q90m
                have hM7 := hM8
                obtain ⟨m0, m1, m2, m3, m4, m5, m6, m7, m8, m9, m10, m11, m12, m13, m14, m15, m16⟩ := hM8
                refine lv_aload_n hx hb dMD_step_231 rfl (lv_at hl 4 rfl) ?_
                refine lv_iload_n hx hb dMD_step_232 rfl (lv_at hl 5 rfl) ?_
                refine lv_aload_n hx hb dMD_step_233 rfl (lv_at hl 4 rfl) ?_
                refine g_MD_25 X hP (by omega) (m0) rfl dMD_step_234 ?_
                refine lv_iload_n hx hb dMD_step_237 rfl (lv_at hl 5 rfl) ?_
                refine q_iald j X hP (by omega) (m6) (rfl) (by omega) (by decide) dMD_step_238 ?_
                refine lv_iconst (v := 1) hx hb dMD_step_239 (by decide) ?_
                refine lv_iadd hx hb dMD_step_240 ?_
                rw [show (((q90B 6) j) + 1) = nI (k + 1) from by rw [q901 6 (by decide), ek]; exact nI_1 k]
                refine x_v (f := fun k => 0 + k) (x_runV (C := R_MD) (As := [.int (nI j), .int (nI (k + 1))]) (rest := []) X (g_MD_go l D tc (fun k => ad (0 + k)) (fun k => E89 (0 + k)) 0 st ic (cn + 1) q90B q90J j (nI (k + 1)) (by simpa only [Nat.zero_add] using hM7) hj) rfl rfl (by decide) (by decide) w_579 w_9 w_576 w_578 sel_MD_go ry_MD_go (x_recv X hP (by omega) (m0) rfl) (ct_pre X hP hD (fr_lt 17 17 0 (by omega)) (fr_inj 17 0)) ct_blind hl.1 (Nat.le_of_ble_eq_true rfl) dMD_step_241 ⟨Nat.zero_le _, Nat.zero_le _⟩) hD hP hS (fr_lt 17 17 0 (by omega)) (fr_inj 17 0) (fun o E1 h => h.1) (fun E91 H locs q94 hD hP hS => ?_)
                obtain ⟨-, q94v, q94m, q941, q942⟩ := q94
                generalize g92 : wU 17 (fun k => 0 + k) E89 E91 = E93 at hD hP
                refine lv_iconst (v := 1) hx hb dMD_step_244 (by decide) ?_
                exact q_iret X hlk hr hP hS dMD_step_245 ⟨_, 0, rfl, ic, cn + 1, (va_up (va_up q90B 6 (upd (q90B 6) j (nI (k + 1)))) 5 (upd (q90B 5) j q94v)), q90J, by rw [← g92]; exact isMD.back q94m, by omega, fun t ht => by rw [va_up_ne _ _ (by decide), va_up_ne _ _ (by decide), q901 1 (by decide)]; exact q1 t ht, fun t ht k hk => by rw [va_up_ne _ _ (by decide), va_up_ne _ _ (by decide), va_up_ne _ _ (by decide), va_up_ne _ _ (by decide), va_up_ne _ _ (by decide), va_up_ne _ _ (by decide), q901 2 (by decide), q901 3 (by decide), q901 4 (by decide)]; exact q2 t ht k hk, stepB hk q1 (fun t ht => (hok t ht).1) (q5 h18) q901 q905 (fun h => absurd h (by decide)) q941 q942⟩
              · refine lv_iconst (v := 0) hx hb dMD_step_202 (by decide) ?_
                exact q_iret X hlk hr hP hS dMD_step_203 ⟨_, 0, rfl, ic, cn, A, J, ⟨f62, f63, f64, f65, f66, f67, f68, f69, f70, f71, f72, f73, f74, f75, f78, f76, f77⟩, hc, q1, q2, q5⟩
        · have eo : A 2 (12 * j + k) = 3 := eo
          rw [eo] at hl
          obtain ⟨q, hq, eq⟩ := wi_of (n := 3) (by decide) hna
          have eq : A 3 (12 * j + k) = nI q := o3.trans eq
          refine lv_iload_n hx hb dMD_step_64 rfl (lv_at hl 1 rfl) ?_
          refine lv_iconst (v := 3) hx hb dMD_step_65 (by decide) ?_
          refine lv_icmp_ne (tgt := 80) hx hb dMD_step_66 rfl (fun h66 => absurd h66 (by decide)) (fun h66 => ?_)
          refine lv_aload_n hx hb dMD_step_69 rfl (lv_at hl 3 rfl) ?_
          refine g_MD_31 X hP (by omega) (m0) rfl dMD_step_70 ?_
          refine lv_iload hx hb dMD_step_73 (lv_at hl 0 rfl) ?_
          refine q_iald q X hP (by omega) (m8) (eq) (by omega) (by decide) dMD_step_75 ?_
          refine lv_iload_n hx hb dMD_step_76 rfl (lv_at hl 4 rfl) ?_
          refine lv_icmp_ne (tgt := 112) hx hb dMD_step_77 rfl (fun h77 => ?_) (fun h77 => ?_)
          · refine lv_aload_n hx hb dMD_step_112 rfl (lv_at hl 3 rfl) ?_
            refine lv_iconst (v := 3) hx hb dMD_step_113 (by decide) ?_
            refine x_i (f := fun k => 0 + k) (x_runV (C := R_MD) (As := [.int 3]) (rest := []) X (c_MD_raise l D tc (fun k => ad (0 + k)) (fun k => E (0 + k)) th st ic (nI cn) A J 3 (by simpa only [Nat.zero_add] using hM0)) rfl rfl (by decide) (by decide) w_563 w_9 w_560 w_562 sel_MD_raise ry_MD_raise (x_recv X hP (by omega) (m0) rfl) (ct_pre X hP hD (fr_lt 17 17 0 (by omega)) (fr_inj 17 0)) ct_blind hl.1 (Nat.le_of_ble_eq_true rfl) dMD_step_114 ⟨Nat.zero_le _, Nat.zero_le _⟩) hD hP hS (fr_lt 17 17 0 (by omega)) (fr_inj 17 0) (fun o E1 h => ⟨_, h.1⟩) (fun r99 E95 H locs q98 hD hP hS => ?_)
            obtain ⟨-, q98m⟩ := q98
            generalize g96 : wU 17 (fun k => 0 + k) E E95 = E97 at hD hP
            exact q_iret X hlk hr hP hS dMD_step_117 ⟨_, 3, rfl, ic, cn, A, J, by rw [← g96]; exact isMD.back q98m, hc, q1, q2, q5⟩
          · refine lv_iload_n hx hb dMD_step_80 rfl (lv_at hl 1 rfl) ?_
            refine lv_bipush (v := 6) hx hb dMD_step_81 (by decide) ?_
            refine lv_icmp_ne (tgt := 96) hx hb dMD_step_83 rfl (fun h83 => ?_) (fun h83 => absurd h83 (by decide))
            refine lv_iload_n hx hb dMD_step_96 rfl (lv_at hl 1 rfl) ?_
            refine lv_bipush (v := 7) hx hb dMD_step_97 (by decide) ?_
            refine lv_icmp_ne (tgt := 118) hx hb dMD_step_99 rfl (fun h99 => ?_) (fun h99 => absurd h99 (by decide))
            refine lv_aload_n hx hb dMD_step_118 rfl (lv_at hl 3 rfl) ?_
            refine lv_iconst (v := 0) hx hb dMD_step_119 (by decide) ?_
            refine p_MD_63 X hD hP hS (by omega) (m0) rfl rfl (Nat.le_of_ble_eq_true rfl) dMD_step_120 (fun H locs hD hP hS => ?_)
            have hP : va_P D vwCl (wW 17 ad (va_up E 0 (.inr (7, [.int 0, .int st, .int ic, .ref (ad 1), .ref (ad 2), .ref (ad 3), .ref (ad 4), .ref (ad 5), .ref (ad 6), .ref (ad 7), .ref (ad 8), .ref (ad 9), .int (nI cn), .ref (ad 10), .ref (ad 11), .ref (ad 12), .ref (ad 13), .ref (ad 14), .ref (ad 15), .ref (ad 16)])))) H := hP
            have hD : va_D (Aw 17 ad) (wW 17 ad (va_up E 0 (.inr (7, [.int 0, .int st, .int ic, .ref (ad 1), .ref (ad 2), .ref (ad 3), .ref (ad 4), .ref (ad 5), .ref (ad 6), .ref (ad 7), .ref (ad 8), .ref (ad 9), .int (nI cn), .ref (ad 10), .ref (ad 11), .ref (ad 12), .ref (ad 13), .ref (ad 14), .ref (ad 15), .ref (ad 16)])))) := hD
            generalize g101 : va_up E 0 (.inr (7, [.int 0, .int st, .int ic, .ref (ad 1), .ref (ad 2), .ref (ad 3), .ref (ad 4), .ref (ad 5), .ref (ad 6), .ref (ad 7), .ref (ad 8), .ref (ad 9), .int (nI cn), .ref (ad 10), .ref (ad 11), .ref (ad 12), .ref (ad 13), .ref (ad 14), .ref (ad 15), .ref (ad 16)])) = E100 at hD hP
            have f102 : E100 0 = .inr (7, [.int 0, .int st, .int ic, .ref (ad 1), .ref (ad 2), .ref (ad 3), .ref (ad 4), .ref (ad 5), .ref (ad 6), .ref (ad 7), .ref (ad 8), .ref (ad 9), .int (nI cn), .ref (ad 10), .ref (ad 11), .ref (ad 12), .ref (ad 13), .ref (ad 14), .ref (ad 15), .ref (ad 16)]) := by rw [← g101]; exact va_up_self _ _ _
            have f103 : E100 1 = .inl (tc 0, 5, .inl (A 1)) := by rw [← g101, va_up_ne _ _ (by omega)]; exact m1
            have f104 : E100 2 = .inl (tc 0, 60, .inl (A 2)) := by rw [← g101, va_up_ne _ _ (by omega)]; exact m2
            have f105 : E100 3 = .inl (tc 0, 60, .inl (A 3)) := by rw [← g101, va_up_ne _ _ (by omega)]; exact m3
            have f106 : E100 4 = .inl (tc 0, 60, .inl (A 4)) := by rw [← g101, va_up_ne _ _ (by omega)]; exact m4
            have f107 : E100 5 = .inl (tc 0, 5, .inl (A 5)) := by rw [← g101, va_up_ne _ _ (by omega)]; exact m5
            have f108 : E100 6 = .inl (tc 0, 5, .inl (A 6)) := by rw [← g101, va_up_ne _ _ (by omega)]; exact m6
            have f109 : E100 7 = .inl (tc 0, 5, .inl (A 7)) := by rw [← g101, va_up_ne _ _ (by omega)]; exact m7
            have f110 : E100 8 = .inl (tc 0, 3, .inl (A 8)) := by rw [← g101, va_up_ne _ _ (by omega)]; exact m8
            have f111 : E100 9 = .inl (tc 0, 3, .inl (A 9)) := by rw [← g101, va_up_ne _ _ (by omega)]; exact m9
            have f112 : E100 10 = .inl (tc 0, 200, .inl (A 10)) := by rw [← g101, va_up_ne _ _ (by omega)]; exact m10
            have f113 : E100 11 = .inl (tc 0, 200, .inl (A 11)) := by rw [← g101, va_up_ne _ _ (by omega)]; exact m11
            have f114 : E100 12 = .inl (tc 0, 200, .inl (A 12)) := by rw [← g101, va_up_ne _ _ (by omega)]; exact m12
            have f115 : E100 13 = .inl (tc 2, 200, .inl (A 13)) := by rw [← g101, va_up_ne _ _ (by omega)]; exact m13
            have f116 : E100 15 = .inl (tc 0, 8, .inl (A 15)) := by rw [← g101, va_up_ne _ _ (by omega)]; exact m15
            have f117 : E100 16 = .inl (tc 0, 8, .inl (A 16)) := by rw [← g101, va_up_ne _ _ (by omega)]; exact m16
            have f118 : E100 14 = .inl (tc 1, 800, .inr (.inl J)) := by rw [← g101, va_up_ne _ _ (by omega)]; exact m14
            refine lv_iload_n hx hb dMD_step_123 rfl (lv_at hl 1 rfl) ?_
            refine lv_bipush (v := 10) hx hb dMD_step_124 (by decide) ?_
            refine lv_icmp_lt (tgt := 137) hx hb dMD_step_126 rfl (fun h126 => ?_) (fun h126 => absurd (by decide) h126)
            refine lv_iload_n hx hb dMD_step_137 rfl (lv_at hl 1 rfl) ?_
            refine lv_iconst (v := 2) hx hb dMD_step_138 (by decide) ?_
            refine lv_icmp_ne (tgt := 163) hx hb dMD_step_139 rfl (fun h139 => ?_) (fun h139 => absurd h139 (by decide))
            refine lv_iload_n hx hb dMD_step_163 rfl (lv_at hl 1 rfl) ?_
            refine lv_bipush (v := 7) hx hb dMD_step_164 (by decide) ?_
            refine lv_icmp_ne (tgt := 184) hx hb dMD_step_166 rfl (fun h166 => ?_) (fun h166 => absurd h166 (by decide))
            refine lv_iconst (v := 0) hx hb dMD_step_184 (by decide) ?_
            refine lv_istore hx hb dMD_step_185 hl (by decide) rfl (fun ls hl => ?_)
            have hl : lv_has ls 6 [(5, .int 0), (4, .int ((A 3) (12 * j + k))), (3, .int 3), (2, .int (nI (12 * j + k))), (0, .ref (ad 0)), (1, .int (nI j))] := hl
            refine lv_iload hx hb dMD_step_187 (lv_at hl 0 rfl) ?_
            refine lv_if_ne (tgt := 202) hx hb dMD_step_189 rfl (fun h189 => absurd h189 (by decide)) (fun h189 => ?_)
            refine lv_aload_n hx hb dMD_step_192 rfl (lv_at hl 4 rfl) ?_
            refine g_MD_78 X hP (by omega) (f102) rfl dMD_step_193 ?_
            refine lv_sipush (v := 200) hx hb dMD_step_196 (by decide) ?_
            refine lv_icmp_ne (tgt := 204) hx hb dMD_step_199 rfl (fun h199 => ?_) (fun h199 => ?_)
            · have hc9 : cn < 200 := by rcases Nat.lt_or_ge cn 200 with h | h; (· exact h); (· exact absurd (by rw [show cn = 200 by omega]; rfl) h199)
              refine lv_aload_n hx hb dMD_step_204 rfl (lv_at hl 4 rfl) ?_
              refine lv_iload_n hx hb dMD_step_205 rfl (lv_at hl 5 rfl) ?_
              refine lv_iload_n hx hb dMD_step_206 rfl (lv_at hl 2 rfl) ?_
              refine lv_iload_n hx hb dMD_step_207 rfl (lv_at hl 2 rfl) ?_
              refine lv_bipush (v := 8) hx hb dMD_step_208 (by decide) ?_
              refine lv_icmp_lt (tgt := 226) hx hb dMD_step_210 rfl (fun h210 => ?_) (fun h210 => absurd (by decide) h210)
              refine lv_iload hx hb dMD_step_226 (lv_at hl 1 rfl) ?_
              refine x_v (f := fun k => 0 + k) (x_runV (C := R_MD) (As := [.int (nI j), .int 3, .int ((A 3) (12 * j + k))]) (rest := []) X (g_MD_note l D tc (fun k => ad (0 + k)) (fun k => E100 (0 + k)) 0 st ic cn A J j 3 ((A 3) (12 * j + k)) (by simpa only [Nat.zero_add] using (show isMD tc ad E100 0 st ic (nI cn) A J from ⟨f102, f103, f104, f105, f106, f107, f108, f109, f110, f111, f112, f113, f114, f115, f118, f116, f117⟩)) hj hc9 (fun _ => ⟨q, hq, eq⟩) (fun h => absurd h (by decide)) (fun h => absurd h (by decide))) rfl rfl (by decide) (by decide) w_583 w_9 w_580 w_582 sel_MD_note ry_MD_note (x_recv X hP (by omega) (f102) rfl) (ct_pre X hP hD (fr_lt 17 17 0 (by omega)) (fr_inj 17 0)) ct_blind hl.1 (Nat.le_of_ble_eq_true rfl) dMD_step_228 ⟨Nat.zero_le _, Nat.zero_le _⟩) hD hP hS (fr_lt 17 17 0 (by omega)) (fr_inj 17 0) (fun o E1 h => h.1) (fun E119 H locs q122 hD hP hS => ?_)
              obtain ⟨-, q122B, q122J, q122m, q1221, q1225⟩ := q122
              generalize g120 : wU 17 (fun k => 0 + k) E100 E119 = E121 at hD hP
              have hM8 : isMD tc ad E121 0 st ic (nI (cn + 1)) q122B q122J := by rw [← g120]; exact isMD.back q122m
              have hM7 := hM8
              obtain ⟨m0, m1, m2, m3, m4, m5, m6, m7, m8, m9, m10, m11, m12, m13, m14, m15, m16⟩ := hM8
              refine lv_aload_n hx hb dMD_step_231 rfl (lv_at hl 4 rfl) ?_
              refine lv_iload_n hx hb dMD_step_232 rfl (lv_at hl 5 rfl) ?_
              refine lv_aload_n hx hb dMD_step_233 rfl (lv_at hl 4 rfl) ?_
              refine g_MD_25 X hP (by omega) (m0) rfl dMD_step_234 ?_
              refine lv_iload_n hx hb dMD_step_237 rfl (lv_at hl 5 rfl) ?_
              refine q_iald j X hP (by omega) (m6) (rfl) (by omega) (by decide) dMD_step_238 ?_
              refine lv_iconst (v := 1) hx hb dMD_step_239 (by decide) ?_
              refine lv_iadd hx hb dMD_step_240 ?_
              rw [show (((q122B 6) j) + 1) = nI (k + 1) from by rw [q1221 6 (by decide), ek]; exact nI_1 k]
              refine x_v (f := fun k => 0 + k) (x_runV (C := R_MD) (As := [.int (nI j), .int (nI (k + 1))]) (rest := []) X (g_MD_go l D tc (fun k => ad (0 + k)) (fun k => E121 (0 + k)) 0 st ic (cn + 1) q122B q122J j (nI (k + 1)) (by simpa only [Nat.zero_add] using hM7) hj) rfl rfl (by decide) (by decide) w_579 w_9 w_576 w_578 sel_MD_go ry_MD_go (x_recv X hP (by omega) (m0) rfl) (ct_pre X hP hD (fr_lt 17 17 0 (by omega)) (fr_inj 17 0)) ct_blind hl.1 (Nat.le_of_ble_eq_true rfl) dMD_step_241 ⟨Nat.zero_le _, Nat.zero_le _⟩) hD hP hS (fr_lt 17 17 0 (by omega)) (fr_inj 17 0) (fun o E1 h => h.1) (fun E123 H locs q126 hD hP hS => ?_)
              obtain ⟨-, q126v, q126m, q1261, q1262⟩ := q126
              generalize g124 : wU 17 (fun k => 0 + k) E121 E123 = E125 at hD hP
              refine lv_iconst (v := 1) hx hb dMD_step_244 (by decide) ?_
              exact q_iret X hlk hr hP hS dMD_step_245 ⟨_, 0, rfl, ic, cn + 1, (va_up (va_up q122B 6 (upd (q122B 6) j (nI (k + 1)))) 5 (upd (q122B 5) j q126v)), q122J, by rw [← g124]; exact isMD.back q126m, by omega, fun t ht => by rw [va_up_ne _ _ (by decide), va_up_ne _ _ (by decide), q1221 1 (by decide)]; exact q1 t ht, fun t ht k hk => by rw [va_up_ne _ _ (by decide), va_up_ne _ _ (by decide), va_up_ne _ _ (by decide), va_up_ne _ _ (by decide), va_up_ne _ _ (by decide), va_up_ne _ _ (by decide), q1221 2 (by decide), q1221 3 (by decide), q1221 4 (by decide)]; exact q2 t ht k hk, stepB hk q1 (fun t ht => (hok t ht).1) (q5 h18) q1221 q1225 (fun h => absurd h (by decide)) q1261 q1262⟩
            · refine lv_iconst (v := 0) hx hb dMD_step_202 (by decide) ?_
              exact q_iret X hlk hr hP hS dMD_step_203 ⟨_, 0, rfl, ic, cn, A, J, ⟨f102, f103, f104, f105, f106, f107, f108, f109, f110, f111, f112, f113, f114, f115, f118, f116, f117⟩, hc, q1, q2, q5⟩
        · have eo : A 2 (12 * j + k) = 4 := eo
          rw [eo] at hl
          obtain ⟨q, hq, eq⟩ := wi_of (n := 2) (by decide) hna
          have eq : A 3 (12 * j + k) = nI q := o3.trans eq
          refine lv_iload_n hx hb dMD_step_64 rfl (lv_at hl 1 rfl) ?_
          refine lv_iconst (v := 3) hx hb dMD_step_65 (by decide) ?_
          refine lv_icmp_ne (tgt := 80) hx hb dMD_step_66 rfl (fun h66 => ?_) (fun h66 => absurd h66 (by decide))
          refine lv_iload_n hx hb dMD_step_80 rfl (lv_at hl 1 rfl) ?_
          refine lv_bipush (v := 6) hx hb dMD_step_81 (by decide) ?_
          refine lv_icmp_ne (tgt := 96) hx hb dMD_step_83 rfl (fun h83 => ?_) (fun h83 => absurd h83 (by decide))
          refine lv_iload_n hx hb dMD_step_96 rfl (lv_at hl 1 rfl) ?_
          refine lv_bipush (v := 7) hx hb dMD_step_97 (by decide) ?_
          refine lv_icmp_ne (tgt := 118) hx hb dMD_step_99 rfl (fun h99 => ?_) (fun h99 => absurd h99 (by decide))
          refine lv_aload_n hx hb dMD_step_118 rfl (lv_at hl 3 rfl) ?_
          refine lv_iconst (v := 0) hx hb dMD_step_119 (by decide) ?_
          refine p_MD_63 X hD hP hS (by omega) (m0) rfl rfl (Nat.le_of_ble_eq_true rfl) dMD_step_120 (fun H locs hD hP hS => ?_)
          have hP : va_P D vwCl (wW 17 ad (va_up E 0 (.inr (7, [.int 0, .int st, .int ic, .ref (ad 1), .ref (ad 2), .ref (ad 3), .ref (ad 4), .ref (ad 5), .ref (ad 6), .ref (ad 7), .ref (ad 8), .ref (ad 9), .int (nI cn), .ref (ad 10), .ref (ad 11), .ref (ad 12), .ref (ad 13), .ref (ad 14), .ref (ad 15), .ref (ad 16)])))) H := hP
          have hD : va_D (Aw 17 ad) (wW 17 ad (va_up E 0 (.inr (7, [.int 0, .int st, .int ic, .ref (ad 1), .ref (ad 2), .ref (ad 3), .ref (ad 4), .ref (ad 5), .ref (ad 6), .ref (ad 7), .ref (ad 8), .ref (ad 9), .int (nI cn), .ref (ad 10), .ref (ad 11), .ref (ad 12), .ref (ad 13), .ref (ad 14), .ref (ad 15), .ref (ad 16)])))) := hD
          generalize g128 : va_up E 0 (.inr (7, [.int 0, .int st, .int ic, .ref (ad 1), .ref (ad 2), .ref (ad 3), .ref (ad 4), .ref (ad 5), .ref (ad 6), .ref (ad 7), .ref (ad 8), .ref (ad 9), .int (nI cn), .ref (ad 10), .ref (ad 11), .ref (ad 12), .ref (ad 13), .ref (ad 14), .ref (ad 15), .ref (ad 16)])) = E127 at hD hP
          have f129 : E127 0 = .inr (7, [.int 0, .int st, .int ic, .ref (ad 1), .ref (ad 2), .ref (ad 3), .ref (ad 4), .ref (ad 5), .ref (ad 6), .ref (ad 7), .ref (ad 8), .ref (ad 9), .int (nI cn), .ref (ad 10), .ref (ad 11), .ref (ad 12), .ref (ad 13), .ref (ad 14), .ref (ad 15), .ref (ad 16)]) := by rw [← g128]; exact va_up_self _ _ _
          have f130 : E127 1 = .inl (tc 0, 5, .inl (A 1)) := by rw [← g128, va_up_ne _ _ (by omega)]; exact m1
          have f131 : E127 2 = .inl (tc 0, 60, .inl (A 2)) := by rw [← g128, va_up_ne _ _ (by omega)]; exact m2
          have f132 : E127 3 = .inl (tc 0, 60, .inl (A 3)) := by rw [← g128, va_up_ne _ _ (by omega)]; exact m3
          have f133 : E127 4 = .inl (tc 0, 60, .inl (A 4)) := by rw [← g128, va_up_ne _ _ (by omega)]; exact m4
          have f134 : E127 5 = .inl (tc 0, 5, .inl (A 5)) := by rw [← g128, va_up_ne _ _ (by omega)]; exact m5
          have f135 : E127 6 = .inl (tc 0, 5, .inl (A 6)) := by rw [← g128, va_up_ne _ _ (by omega)]; exact m6
          have f136 : E127 7 = .inl (tc 0, 5, .inl (A 7)) := by rw [← g128, va_up_ne _ _ (by omega)]; exact m7
          have f137 : E127 8 = .inl (tc 0, 3, .inl (A 8)) := by rw [← g128, va_up_ne _ _ (by omega)]; exact m8
          have f138 : E127 9 = .inl (tc 0, 3, .inl (A 9)) := by rw [← g128, va_up_ne _ _ (by omega)]; exact m9
          have f139 : E127 10 = .inl (tc 0, 200, .inl (A 10)) := by rw [← g128, va_up_ne _ _ (by omega)]; exact m10
          have f140 : E127 11 = .inl (tc 0, 200, .inl (A 11)) := by rw [← g128, va_up_ne _ _ (by omega)]; exact m11
          have f141 : E127 12 = .inl (tc 0, 200, .inl (A 12)) := by rw [← g128, va_up_ne _ _ (by omega)]; exact m12
          have f142 : E127 13 = .inl (tc 2, 200, .inl (A 13)) := by rw [← g128, va_up_ne _ _ (by omega)]; exact m13
          have f143 : E127 15 = .inl (tc 0, 8, .inl (A 15)) := by rw [← g128, va_up_ne _ _ (by omega)]; exact m15
          have f144 : E127 16 = .inl (tc 0, 8, .inl (A 16)) := by rw [← g128, va_up_ne _ _ (by omega)]; exact m16
          have f145 : E127 14 = .inl (tc 1, 800, .inr (.inl J)) := by rw [← g128, va_up_ne _ _ (by omega)]; exact m14
          refine lv_iload_n hx hb dMD_step_123 rfl (lv_at hl 1 rfl) ?_
          refine lv_bipush (v := 10) hx hb dMD_step_124 (by decide) ?_
          refine lv_icmp_lt (tgt := 137) hx hb dMD_step_126 rfl (fun h126 => ?_) (fun h126 => absurd (by decide) h126)
          refine lv_iload_n hx hb dMD_step_137 rfl (lv_at hl 1 rfl) ?_
          refine lv_iconst (v := 2) hx hb dMD_step_138 (by decide) ?_
          refine lv_icmp_ne (tgt := 163) hx hb dMD_step_139 rfl (fun h139 => ?_) (fun h139 => absurd h139 (by decide))
          refine lv_iload_n hx hb dMD_step_163 rfl (lv_at hl 1 rfl) ?_
          refine lv_bipush (v := 7) hx hb dMD_step_164 (by decide) ?_
          refine lv_icmp_ne (tgt := 184) hx hb dMD_step_166 rfl (fun h166 => ?_) (fun h166 => absurd h166 (by decide))
          refine lv_iconst (v := 0) hx hb dMD_step_184 (by decide) ?_
          refine lv_istore hx hb dMD_step_185 hl (by decide) rfl (fun ls hl => ?_)
          have hl : lv_has ls 6 [(5, .int 0), (4, .int ((A 3) (12 * j + k))), (3, .int 4), (2, .int (nI (12 * j + k))), (0, .ref (ad 0)), (1, .int (nI j))] := hl
          refine lv_iload hx hb dMD_step_187 (lv_at hl 0 rfl) ?_
          refine lv_if_ne (tgt := 202) hx hb dMD_step_189 rfl (fun h189 => absurd h189 (by decide)) (fun h189 => ?_)
          refine lv_aload_n hx hb dMD_step_192 rfl (lv_at hl 4 rfl) ?_
          refine g_MD_78 X hP (by omega) (f129) rfl dMD_step_193 ?_
          refine lv_sipush (v := 200) hx hb dMD_step_196 (by decide) ?_
          refine lv_icmp_ne (tgt := 204) hx hb dMD_step_199 rfl (fun h199 => ?_) (fun h199 => ?_)
          · have hc9 : cn < 200 := by rcases Nat.lt_or_ge cn 200 with h | h; (· exact h); (· exact absurd (by rw [show cn = 200 by omega]; rfl) h199)
            refine lv_aload_n hx hb dMD_step_204 rfl (lv_at hl 4 rfl) ?_
            refine lv_iload_n hx hb dMD_step_205 rfl (lv_at hl 5 rfl) ?_
            refine lv_iload_n hx hb dMD_step_206 rfl (lv_at hl 2 rfl) ?_
            refine lv_iload_n hx hb dMD_step_207 rfl (lv_at hl 2 rfl) ?_
            refine lv_bipush (v := 8) hx hb dMD_step_208 (by decide) ?_
            refine lv_icmp_lt (tgt := 226) hx hb dMD_step_210 rfl (fun h210 => ?_) (fun h210 => absurd (by decide) h210)
            refine lv_iload hx hb dMD_step_226 (lv_at hl 1 rfl) ?_
            refine x_v (f := fun k => 0 + k) (x_runV (C := R_MD) (As := [.int (nI j), .int 4, .int ((A 3) (12 * j + k))]) (rest := []) X (g_MD_note l D tc (fun k => ad (0 + k)) (fun k => E127 (0 + k)) 0 st ic cn A J j 4 ((A 3) (12 * j + k)) (by simpa only [Nat.zero_add] using (show isMD tc ad E127 0 st ic (nI cn) A J from ⟨f129, f130, f131, f132, f133, f134, f135, f136, f137, f138, f139, f140, f141, f142, f145, f143, f144⟩)) hj hc9 (fun h => absurd h (by decide)) (fun h => absurd h (by decide)) (fun h => absurd h (by decide))) rfl rfl (by decide) (by decide) w_583 w_9 w_580 w_582 sel_MD_note ry_MD_note (x_recv X hP (by omega) (f129) rfl) (ct_pre X hP hD (fr_lt 17 17 0 (by omega)) (fr_inj 17 0)) ct_blind hl.1 (Nat.le_of_ble_eq_true rfl) dMD_step_228 ⟨Nat.zero_le _, Nat.zero_le _⟩) hD hP hS (fr_lt 17 17 0 (by omega)) (fr_inj 17 0) (fun o E1 h => h.1) (fun E146 H locs q149 hD hP hS => ?_)
            obtain ⟨-, q149B, q149J, q149m, q1491, q1495⟩ := q149
            generalize g147 : wU 17 (fun k => 0 + k) E127 E146 = E148 at hD hP
            have hM8 : isMD tc ad E148 0 st ic (nI (cn + 1)) q149B q149J := by rw [← g147]; exact isMD.back q149m
            have hM7 := hM8
            obtain ⟨m0, m1, m2, m3, m4, m5, m6, m7, m8, m9, m10, m11, m12, m13, m14, m15, m16⟩ := hM8
            refine lv_aload_n hx hb dMD_step_231 rfl (lv_at hl 4 rfl) ?_
            refine lv_iload_n hx hb dMD_step_232 rfl (lv_at hl 5 rfl) ?_
            refine lv_aload_n hx hb dMD_step_233 rfl (lv_at hl 4 rfl) ?_
            refine g_MD_25 X hP (by omega) (m0) rfl dMD_step_234 ?_
            refine lv_iload_n hx hb dMD_step_237 rfl (lv_at hl 5 rfl) ?_
            refine q_iald j X hP (by omega) (m6) (rfl) (by omega) (by decide) dMD_step_238 ?_
            refine lv_iconst (v := 1) hx hb dMD_step_239 (by decide) ?_
            refine lv_iadd hx hb dMD_step_240 ?_
            rw [show (((q149B 6) j) + 1) = nI (k + 1) from by rw [q1491 6 (by decide), ek]; exact nI_1 k]
            refine x_v (f := fun k => 0 + k) (x_runV (C := R_MD) (As := [.int (nI j), .int (nI (k + 1))]) (rest := []) X (g_MD_go l D tc (fun k => ad (0 + k)) (fun k => E148 (0 + k)) 0 st ic (cn + 1) q149B q149J j (nI (k + 1)) (by simpa only [Nat.zero_add] using hM7) hj) rfl rfl (by decide) (by decide) w_579 w_9 w_576 w_578 sel_MD_go ry_MD_go (x_recv X hP (by omega) (m0) rfl) (ct_pre X hP hD (fr_lt 17 17 0 (by omega)) (fr_inj 17 0)) ct_blind hl.1 (Nat.le_of_ble_eq_true rfl) dMD_step_241 ⟨Nat.zero_le _, Nat.zero_le _⟩) hD hP hS (fr_lt 17 17 0 (by omega)) (fr_inj 17 0) (fun o E1 h => h.1) (fun E150 H locs q153 hD hP hS => ?_)
            obtain ⟨-, q153v, q153m, q1531, q1532⟩ := q153
            generalize g151 : wU 17 (fun k => 0 + k) E148 E150 = E152 at hD hP
            refine lv_iconst (v := 1) hx hb dMD_step_244 (by decide) ?_
            exact q_iret X hlk hr hP hS dMD_step_245 ⟨_, 0, rfl, ic, cn + 1, (va_up (va_up q149B 6 (upd (q149B 6) j (nI (k + 1)))) 5 (upd (q149B 5) j q153v)), q149J, by rw [← g151]; exact isMD.back q153m, by omega, fun t ht => by rw [va_up_ne _ _ (by decide), va_up_ne _ _ (by decide), q1491 1 (by decide)]; exact q1 t ht, fun t ht k hk => by rw [va_up_ne _ _ (by decide), va_up_ne _ _ (by decide), va_up_ne _ _ (by decide), va_up_ne _ _ (by decide), va_up_ne _ _ (by decide), va_up_ne _ _ (by decide), q1491 2 (by decide), q1491 3 (by decide), q1491 4 (by decide)]; exact q2 t ht k hk, stepB hk q1 (fun t ht => (hok t ht).1) (q5 h18) q1491 q1495 (fun h => absurd h (by decide)) q1531 q1532⟩
          · refine lv_iconst (v := 0) hx hb dMD_step_202 (by decide) ?_
            exact q_iret X hlk hr hP hS dMD_step_203 ⟨_, 0, rfl, ic, cn, A, J, ⟨f129, f130, f131, f132, f133, f134, f135, f136, f137, f138, f139, f140, f141, f142, f145, f143, f144⟩, hc, q1, q2, q5⟩
        · have eo : A 2 (12 * j + k) = 5 := eo
          rw [eo] at hl
          obtain ⟨q, hq, eq⟩ := wi_of (n := 2) (by decide) hna
          have eq : A 3 (12 * j + k) = nI q := o3.trans eq
          refine lv_iload_n hx hb dMD_step_64 rfl (lv_at hl 1 rfl) ?_
          refine lv_iconst (v := 3) hx hb dMD_step_65 (by decide) ?_
          refine lv_icmp_ne (tgt := 80) hx hb dMD_step_66 rfl (fun h66 => ?_) (fun h66 => absurd h66 (by decide))
          refine lv_iload_n hx hb dMD_step_80 rfl (lv_at hl 1 rfl) ?_
          refine lv_bipush (v := 6) hx hb dMD_step_81 (by decide) ?_
          refine lv_icmp_ne (tgt := 96) hx hb dMD_step_83 rfl (fun h83 => ?_) (fun h83 => absurd h83 (by decide))
          refine lv_iload_n hx hb dMD_step_96 rfl (lv_at hl 1 rfl) ?_
          refine lv_bipush (v := 7) hx hb dMD_step_97 (by decide) ?_
          refine lv_icmp_ne (tgt := 118) hx hb dMD_step_99 rfl (fun h99 => ?_) (fun h99 => absurd h99 (by decide))
          refine lv_aload_n hx hb dMD_step_118 rfl (lv_at hl 3 rfl) ?_
          refine lv_iconst (v := 0) hx hb dMD_step_119 (by decide) ?_
          refine p_MD_63 X hD hP hS (by omega) (m0) rfl rfl (Nat.le_of_ble_eq_true rfl) dMD_step_120 (fun H locs hD hP hS => ?_)
          have hP : va_P D vwCl (wW 17 ad (va_up E 0 (.inr (7, [.int 0, .int st, .int ic, .ref (ad 1), .ref (ad 2), .ref (ad 3), .ref (ad 4), .ref (ad 5), .ref (ad 6), .ref (ad 7), .ref (ad 8), .ref (ad 9), .int (nI cn), .ref (ad 10), .ref (ad 11), .ref (ad 12), .ref (ad 13), .ref (ad 14), .ref (ad 15), .ref (ad 16)])))) H := hP
          have hD : va_D (Aw 17 ad) (wW 17 ad (va_up E 0 (.inr (7, [.int 0, .int st, .int ic, .ref (ad 1), .ref (ad 2), .ref (ad 3), .ref (ad 4), .ref (ad 5), .ref (ad 6), .ref (ad 7), .ref (ad 8), .ref (ad 9), .int (nI cn), .ref (ad 10), .ref (ad 11), .ref (ad 12), .ref (ad 13), .ref (ad 14), .ref (ad 15), .ref (ad 16)])))) := hD
          generalize g155 : va_up E 0 (.inr (7, [.int 0, .int st, .int ic, .ref (ad 1), .ref (ad 2), .ref (ad 3), .ref (ad 4), .ref (ad 5), .ref (ad 6), .ref (ad 7), .ref (ad 8), .ref (ad 9), .int (nI cn), .ref (ad 10), .ref (ad 11), .ref (ad 12), .ref (ad 13), .ref (ad 14), .ref (ad 15), .ref (ad 16)])) = E154 at hD hP
          have f156 : E154 0 = .inr (7, [.int 0, .int st, .int ic, .ref (ad 1), .ref (ad 2), .ref (ad 3), .ref (ad 4), .ref (ad 5), .ref (ad 6), .ref (ad 7), .ref (ad 8), .ref (ad 9), .int (nI cn), .ref (ad 10), .ref (ad 11), .ref (ad 12), .ref (ad 13), .ref (ad 14), .ref (ad 15), .ref (ad 16)]) := by rw [← g155]; exact va_up_self _ _ _
          have f157 : E154 1 = .inl (tc 0, 5, .inl (A 1)) := by rw [← g155, va_up_ne _ _ (by omega)]; exact m1
          have f158 : E154 2 = .inl (tc 0, 60, .inl (A 2)) := by rw [← g155, va_up_ne _ _ (by omega)]; exact m2
          have f159 : E154 3 = .inl (tc 0, 60, .inl (A 3)) := by rw [← g155, va_up_ne _ _ (by omega)]; exact m3
          have f160 : E154 4 = .inl (tc 0, 60, .inl (A 4)) := by rw [← g155, va_up_ne _ _ (by omega)]; exact m4
          have f161 : E154 5 = .inl (tc 0, 5, .inl (A 5)) := by rw [← g155, va_up_ne _ _ (by omega)]; exact m5
          have f162 : E154 6 = .inl (tc 0, 5, .inl (A 6)) := by rw [← g155, va_up_ne _ _ (by omega)]; exact m6
          have f163 : E154 7 = .inl (tc 0, 5, .inl (A 7)) := by rw [← g155, va_up_ne _ _ (by omega)]; exact m7
          have f164 : E154 8 = .inl (tc 0, 3, .inl (A 8)) := by rw [← g155, va_up_ne _ _ (by omega)]; exact m8
          have f165 : E154 9 = .inl (tc 0, 3, .inl (A 9)) := by rw [← g155, va_up_ne _ _ (by omega)]; exact m9
          have f166 : E154 10 = .inl (tc 0, 200, .inl (A 10)) := by rw [← g155, va_up_ne _ _ (by omega)]; exact m10
          have f167 : E154 11 = .inl (tc 0, 200, .inl (A 11)) := by rw [← g155, va_up_ne _ _ (by omega)]; exact m11
          have f168 : E154 12 = .inl (tc 0, 200, .inl (A 12)) := by rw [← g155, va_up_ne _ _ (by omega)]; exact m12
          have f169 : E154 13 = .inl (tc 2, 200, .inl (A 13)) := by rw [← g155, va_up_ne _ _ (by omega)]; exact m13
          have f170 : E154 15 = .inl (tc 0, 8, .inl (A 15)) := by rw [← g155, va_up_ne _ _ (by omega)]; exact m15
          have f171 : E154 16 = .inl (tc 0, 8, .inl (A 16)) := by rw [← g155, va_up_ne _ _ (by omega)]; exact m16
          have f172 : E154 14 = .inl (tc 1, 800, .inr (.inl J)) := by rw [← g155, va_up_ne _ _ (by omega)]; exact m14
          refine lv_iload_n hx hb dMD_step_123 rfl (lv_at hl 1 rfl) ?_
          refine lv_bipush (v := 10) hx hb dMD_step_124 (by decide) ?_
          refine lv_icmp_lt (tgt := 137) hx hb dMD_step_126 rfl (fun h126 => ?_) (fun h126 => absurd (by decide) h126)
          refine lv_iload_n hx hb dMD_step_137 rfl (lv_at hl 1 rfl) ?_
          refine lv_iconst (v := 2) hx hb dMD_step_138 (by decide) ?_
          refine lv_icmp_ne (tgt := 163) hx hb dMD_step_139 rfl (fun h139 => ?_) (fun h139 => absurd h139 (by decide))
          refine lv_iload_n hx hb dMD_step_163 rfl (lv_at hl 1 rfl) ?_
          refine lv_bipush (v := 7) hx hb dMD_step_164 (by decide) ?_
          refine lv_icmp_ne (tgt := 184) hx hb dMD_step_166 rfl (fun h166 => ?_) (fun h166 => absurd h166 (by decide))
          refine lv_iconst (v := 0) hx hb dMD_step_184 (by decide) ?_
          refine lv_istore hx hb dMD_step_185 hl (by decide) rfl (fun ls hl => ?_)
          have hl : lv_has ls 6 [(5, .int 0), (4, .int ((A 3) (12 * j + k))), (3, .int 5), (2, .int (nI (12 * j + k))), (0, .ref (ad 0)), (1, .int (nI j))] := hl
          refine lv_iload hx hb dMD_step_187 (lv_at hl 0 rfl) ?_
          refine lv_if_ne (tgt := 202) hx hb dMD_step_189 rfl (fun h189 => absurd h189 (by decide)) (fun h189 => ?_)
          refine lv_aload_n hx hb dMD_step_192 rfl (lv_at hl 4 rfl) ?_
          refine g_MD_78 X hP (by omega) (f156) rfl dMD_step_193 ?_
          refine lv_sipush (v := 200) hx hb dMD_step_196 (by decide) ?_
          refine lv_icmp_ne (tgt := 204) hx hb dMD_step_199 rfl (fun h199 => ?_) (fun h199 => ?_)
          · have hc9 : cn < 200 := by rcases Nat.lt_or_ge cn 200 with h | h; (· exact h); (· exact absurd (by rw [show cn = 200 by omega]; rfl) h199)
            refine lv_aload_n hx hb dMD_step_204 rfl (lv_at hl 4 rfl) ?_
            refine lv_iload_n hx hb dMD_step_205 rfl (lv_at hl 5 rfl) ?_
            refine lv_iload_n hx hb dMD_step_206 rfl (lv_at hl 2 rfl) ?_
            refine lv_iload_n hx hb dMD_step_207 rfl (lv_at hl 2 rfl) ?_
            refine lv_bipush (v := 8) hx hb dMD_step_208 (by decide) ?_
            refine lv_icmp_lt (tgt := 226) hx hb dMD_step_210 rfl (fun h210 => ?_) (fun h210 => absurd (by decide) h210)
            refine lv_iload hx hb dMD_step_226 (lv_at hl 1 rfl) ?_
            refine x_v (f := fun k => 0 + k) (x_runV (C := R_MD) (As := [.int (nI j), .int 5, .int ((A 3) (12 * j + k))]) (rest := []) X (g_MD_note l D tc (fun k => ad (0 + k)) (fun k => E154 (0 + k)) 0 st ic cn A J j 5 ((A 3) (12 * j + k)) (by simpa only [Nat.zero_add] using (show isMD tc ad E154 0 st ic (nI cn) A J from ⟨f156, f157, f158, f159, f160, f161, f162, f163, f164, f165, f166, f167, f168, f169, f172, f170, f171⟩)) hj hc9 (fun h => absurd h (by decide)) (fun h => absurd h (by decide)) (fun h => absurd h (by decide))) rfl rfl (by decide) (by decide) w_583 w_9 w_580 w_582 sel_MD_note ry_MD_note (x_recv X hP (by omega) (f156) rfl) (ct_pre X hP hD (fr_lt 17 17 0 (by omega)) (fr_inj 17 0)) ct_blind hl.1 (Nat.le_of_ble_eq_true rfl) dMD_step_228 ⟨Nat.zero_le _, Nat.zero_le _⟩) hD hP hS (fr_lt 17 17 0 (by omega)) (fr_inj 17 0) (fun o E1 h => h.1) (fun E173 H locs q176 hD hP hS => ?_)
            obtain ⟨-, q176B, q176J, q176m, q1761, q1765⟩ := q176
            generalize g174 : wU 17 (fun k => 0 + k) E154 E173 = E175 at hD hP
            have hM8 : isMD tc ad E175 0 st ic (nI (cn + 1)) q176B q176J := by rw [← g174]; exact isMD.back q176m
            have hM7 := hM8
            obtain ⟨m0, m1, m2, m3, m4, m5, m6, m7, m8, m9, m10, m11, m12, m13, m14, m15, m16⟩ := hM8
            refine lv_aload_n hx hb dMD_step_231 rfl (lv_at hl 4 rfl) ?_
            refine lv_iload_n hx hb dMD_step_232 rfl (lv_at hl 5 rfl) ?_
            refine lv_aload_n hx hb dMD_step_233 rfl (lv_at hl 4 rfl) ?_
            refine g_MD_25 X hP (by omega) (m0) rfl dMD_step_234 ?_
            refine lv_iload_n hx hb dMD_step_237 rfl (lv_at hl 5 rfl) ?_
            refine q_iald j X hP (by omega) (m6) (rfl) (by omega) (by decide) dMD_step_238 ?_
            refine lv_iconst (v := 1) hx hb dMD_step_239 (by decide) ?_
            refine lv_iadd hx hb dMD_step_240 ?_
            rw [show (((q176B 6) j) + 1) = nI (k + 1) from by rw [q1761 6 (by decide), ek]; exact nI_1 k]
            refine x_v (f := fun k => 0 + k) (x_runV (C := R_MD) (As := [.int (nI j), .int (nI (k + 1))]) (rest := []) X (g_MD_go l D tc (fun k => ad (0 + k)) (fun k => E175 (0 + k)) 0 st ic (cn + 1) q176B q176J j (nI (k + 1)) (by simpa only [Nat.zero_add] using hM7) hj) rfl rfl (by decide) (by decide) w_579 w_9 w_576 w_578 sel_MD_go ry_MD_go (x_recv X hP (by omega) (m0) rfl) (ct_pre X hP hD (fr_lt 17 17 0 (by omega)) (fr_inj 17 0)) ct_blind hl.1 (Nat.le_of_ble_eq_true rfl) dMD_step_241 ⟨Nat.zero_le _, Nat.zero_le _⟩) hD hP hS (fr_lt 17 17 0 (by omega)) (fr_inj 17 0) (fun o E1 h => h.1) (fun E177 H locs q180 hD hP hS => ?_)
            obtain ⟨-, q180v, q180m, q1801, q1802⟩ := q180
            generalize g178 : wU 17 (fun k => 0 + k) E175 E177 = E179 at hD hP
            refine lv_iconst (v := 1) hx hb dMD_step_244 (by decide) ?_
            exact q_iret X hlk hr hP hS dMD_step_245 ⟨_, 0, rfl, ic, cn + 1, (va_up (va_up q176B 6 (upd (q176B 6) j (nI (k + 1)))) 5 (upd (q176B 5) j q180v)), q176J, by rw [← g178]; exact isMD.back q180m, by omega, fun t ht => by rw [va_up_ne _ _ (by decide), va_up_ne _ _ (by decide), q1761 1 (by decide)]; exact q1 t ht, fun t ht k hk => by rw [va_up_ne _ _ (by decide), va_up_ne _ _ (by decide), va_up_ne _ _ (by decide), va_up_ne _ _ (by decide), va_up_ne _ _ (by decide), va_up_ne _ _ (by decide), q1761 2 (by decide), q1761 3 (by decide), q1761 4 (by decide)]; exact q2 t ht k hk, stepB hk q1 (fun t ht => (hok t ht).1) (q5 h18) q1761 q1765 (fun h => absurd h (by decide)) q1801 q1802⟩
          · refine lv_iconst (v := 0) hx hb dMD_step_202 (by decide) ?_
            exact q_iret X hlk hr hP hS dMD_step_203 ⟨_, 0, rfl, ic, cn, A, J, ⟨f156, f157, f158, f159, f160, f161, f162, f163, f164, f165, f166, f167, f168, f169, f172, f170, f171⟩, hc, q1, q2, q5⟩
        · have eo : A 2 (12 * j + k) = 6 := eo
          rw [eo] at hl
          obtain ⟨q, hq, eq⟩ := wi_of (n := 5) (by decide) hna
          have eq : A 3 (12 * j + k) = nI q := o3.trans eq
          refine lv_iload_n hx hb dMD_step_64 rfl (lv_at hl 1 rfl) ?_
          refine lv_iconst (v := 3) hx hb dMD_step_65 (by decide) ?_
          refine lv_icmp_ne (tgt := 80) hx hb dMD_step_66 rfl (fun h66 => ?_) (fun h66 => absurd h66 (by decide))
          refine lv_iload_n hx hb dMD_step_80 rfl (lv_at hl 1 rfl) ?_
          refine lv_bipush (v := 6) hx hb dMD_step_81 (by decide) ?_
          refine lv_icmp_ne (tgt := 96) hx hb dMD_step_83 rfl (fun h83 => absurd h83 (by decide)) (fun h83 => ?_)
          refine lv_aload_n hx hb dMD_step_86 rfl (lv_at hl 3 rfl) ?_
          refine g_MD_22 X hP (by omega) (m0) rfl dMD_step_87 ?_
          refine lv_iload hx hb dMD_step_90 (lv_at hl 0 rfl) ?_
          refine q_iald q X hP (by omega) (m5) (eq) (by omega) (by decide) dMD_step_92 ?_
          refine lv_if_ne (tgt := 112) hx hb dMD_step_93 rfl (fun h93 => ?_) (fun h93 => ?_)
          · refine lv_aload_n hx hb dMD_step_112 rfl (lv_at hl 3 rfl) ?_
            refine lv_iconst (v := 3) hx hb dMD_step_113 (by decide) ?_
            refine x_i (f := fun k => 0 + k) (x_runV (C := R_MD) (As := [.int 3]) (rest := []) X (c_MD_raise l D tc (fun k => ad (0 + k)) (fun k => E (0 + k)) th st ic (nI cn) A J 3 (by simpa only [Nat.zero_add] using hM0)) rfl rfl (by decide) (by decide) w_563 w_9 w_560 w_562 sel_MD_raise ry_MD_raise (x_recv X hP (by omega) (m0) rfl) (ct_pre X hP hD (fr_lt 17 17 0 (by omega)) (fr_inj 17 0)) ct_blind hl.1 (Nat.le_of_ble_eq_true rfl) dMD_step_114 ⟨Nat.zero_le _, Nat.zero_le _⟩) hD hP hS (fr_lt 17 17 0 (by omega)) (fr_inj 17 0) (fun o E1 h => ⟨_, h.1⟩) (fun r185 E181 H locs q184 hD hP hS => ?_)
            obtain ⟨-, q184m⟩ := q184
            generalize g182 : wU 17 (fun k => 0 + k) E E181 = E183 at hD hP
            exact q_iret X hlk hr hP hS dMD_step_117 ⟨_, 3, rfl, ic, cn, A, J, by rw [← g182]; exact isMD.back q184m, hc, q1, q2, q5⟩
          · refine lv_iload_n hx hb dMD_step_96 rfl (lv_at hl 1 rfl) ?_
            refine lv_bipush (v := 7) hx hb dMD_step_97 (by decide) ?_
            refine lv_icmp_ne (tgt := 118) hx hb dMD_step_99 rfl (fun h99 => ?_) (fun h99 => absurd h99 (by decide))
            refine lv_aload_n hx hb dMD_step_118 rfl (lv_at hl 3 rfl) ?_
            refine lv_iconst (v := 0) hx hb dMD_step_119 (by decide) ?_
            refine p_MD_63 X hD hP hS (by omega) (m0) rfl rfl (Nat.le_of_ble_eq_true rfl) dMD_step_120 (fun H locs hD hP hS => ?_)
            have hP : va_P D vwCl (wW 17 ad (va_up E 0 (.inr (7, [.int 0, .int st, .int ic, .ref (ad 1), .ref (ad 2), .ref (ad 3), .ref (ad 4), .ref (ad 5), .ref (ad 6), .ref (ad 7), .ref (ad 8), .ref (ad 9), .int (nI cn), .ref (ad 10), .ref (ad 11), .ref (ad 12), .ref (ad 13), .ref (ad 14), .ref (ad 15), .ref (ad 16)])))) H := hP
            have hD : va_D (Aw 17 ad) (wW 17 ad (va_up E 0 (.inr (7, [.int 0, .int st, .int ic, .ref (ad 1), .ref (ad 2), .ref (ad 3), .ref (ad 4), .ref (ad 5), .ref (ad 6), .ref (ad 7), .ref (ad 8), .ref (ad 9), .int (nI cn), .ref (ad 10), .ref (ad 11), .ref (ad 12), .ref (ad 13), .ref (ad 14), .ref (ad 15), .ref (ad 16)])))) := hD
            generalize g187 : va_up E 0 (.inr (7, [.int 0, .int st, .int ic, .ref (ad 1), .ref (ad 2), .ref (ad 3), .ref (ad 4), .ref (ad 5), .ref (ad 6), .ref (ad 7), .ref (ad 8), .ref (ad 9), .int (nI cn), .ref (ad 10), .ref (ad 11), .ref (ad 12), .ref (ad 13), .ref (ad 14), .ref (ad 15), .ref (ad 16)])) = E186 at hD hP
            have f188 : E186 0 = .inr (7, [.int 0, .int st, .int ic, .ref (ad 1), .ref (ad 2), .ref (ad 3), .ref (ad 4), .ref (ad 5), .ref (ad 6), .ref (ad 7), .ref (ad 8), .ref (ad 9), .int (nI cn), .ref (ad 10), .ref (ad 11), .ref (ad 12), .ref (ad 13), .ref (ad 14), .ref (ad 15), .ref (ad 16)]) := by rw [← g187]; exact va_up_self _ _ _
            have f189 : E186 1 = .inl (tc 0, 5, .inl (A 1)) := by rw [← g187, va_up_ne _ _ (by omega)]; exact m1
            have f190 : E186 2 = .inl (tc 0, 60, .inl (A 2)) := by rw [← g187, va_up_ne _ _ (by omega)]; exact m2
            have f191 : E186 3 = .inl (tc 0, 60, .inl (A 3)) := by rw [← g187, va_up_ne _ _ (by omega)]; exact m3
            have f192 : E186 4 = .inl (tc 0, 60, .inl (A 4)) := by rw [← g187, va_up_ne _ _ (by omega)]; exact m4
            have f193 : E186 5 = .inl (tc 0, 5, .inl (A 5)) := by rw [← g187, va_up_ne _ _ (by omega)]; exact m5
            have f194 : E186 6 = .inl (tc 0, 5, .inl (A 6)) := by rw [← g187, va_up_ne _ _ (by omega)]; exact m6
            have f195 : E186 7 = .inl (tc 0, 5, .inl (A 7)) := by rw [← g187, va_up_ne _ _ (by omega)]; exact m7
            have f196 : E186 8 = .inl (tc 0, 3, .inl (A 8)) := by rw [← g187, va_up_ne _ _ (by omega)]; exact m8
            have f197 : E186 9 = .inl (tc 0, 3, .inl (A 9)) := by rw [← g187, va_up_ne _ _ (by omega)]; exact m9
            have f198 : E186 10 = .inl (tc 0, 200, .inl (A 10)) := by rw [← g187, va_up_ne _ _ (by omega)]; exact m10
            have f199 : E186 11 = .inl (tc 0, 200, .inl (A 11)) := by rw [← g187, va_up_ne _ _ (by omega)]; exact m11
            have f200 : E186 12 = .inl (tc 0, 200, .inl (A 12)) := by rw [← g187, va_up_ne _ _ (by omega)]; exact m12
            have f201 : E186 13 = .inl (tc 2, 200, .inl (A 13)) := by rw [← g187, va_up_ne _ _ (by omega)]; exact m13
            have f202 : E186 15 = .inl (tc 0, 8, .inl (A 15)) := by rw [← g187, va_up_ne _ _ (by omega)]; exact m15
            have f203 : E186 16 = .inl (tc 0, 8, .inl (A 16)) := by rw [← g187, va_up_ne _ _ (by omega)]; exact m16
            have f204 : E186 14 = .inl (tc 1, 800, .inr (.inl J)) := by rw [← g187, va_up_ne _ _ (by omega)]; exact m14
            refine lv_iload_n hx hb dMD_step_123 rfl (lv_at hl 1 rfl) ?_
            refine lv_bipush (v := 10) hx hb dMD_step_124 (by decide) ?_
            refine lv_icmp_lt (tgt := 137) hx hb dMD_step_126 rfl (fun h126 => ?_) (fun h126 => absurd (by decide) h126)
            refine lv_iload_n hx hb dMD_step_137 rfl (lv_at hl 1 rfl) ?_
            refine lv_iconst (v := 2) hx hb dMD_step_138 (by decide) ?_
            refine lv_icmp_ne (tgt := 163) hx hb dMD_step_139 rfl (fun h139 => ?_) (fun h139 => absurd h139 (by decide))
            refine lv_iload_n hx hb dMD_step_163 rfl (lv_at hl 1 rfl) ?_
            refine lv_bipush (v := 7) hx hb dMD_step_164 (by decide) ?_
            refine lv_icmp_ne (tgt := 184) hx hb dMD_step_166 rfl (fun h166 => ?_) (fun h166 => absurd h166 (by decide))
            refine lv_iconst (v := 0) hx hb dMD_step_184 (by decide) ?_
            refine lv_istore hx hb dMD_step_185 hl (by decide) rfl (fun ls hl => ?_)
            have hl : lv_has ls 6 [(5, .int 0), (4, .int ((A 3) (12 * j + k))), (3, .int 6), (2, .int (nI (12 * j + k))), (0, .ref (ad 0)), (1, .int (nI j))] := hl
            refine lv_iload hx hb dMD_step_187 (lv_at hl 0 rfl) ?_
            refine lv_if_ne (tgt := 202) hx hb dMD_step_189 rfl (fun h189 => absurd h189 (by decide)) (fun h189 => ?_)
            refine lv_aload_n hx hb dMD_step_192 rfl (lv_at hl 4 rfl) ?_
            refine g_MD_78 X hP (by omega) (f188) rfl dMD_step_193 ?_
            refine lv_sipush (v := 200) hx hb dMD_step_196 (by decide) ?_
            refine lv_icmp_ne (tgt := 204) hx hb dMD_step_199 rfl (fun h199 => ?_) (fun h199 => ?_)
            · have hc9 : cn < 200 := by rcases Nat.lt_or_ge cn 200 with h | h; (· exact h); (· exact absurd (by rw [show cn = 200 by omega]; rfl) h199)
              refine lv_aload_n hx hb dMD_step_204 rfl (lv_at hl 4 rfl) ?_
              refine lv_iload_n hx hb dMD_step_205 rfl (lv_at hl 5 rfl) ?_
              refine lv_iload_n hx hb dMD_step_206 rfl (lv_at hl 2 rfl) ?_
              refine lv_iload_n hx hb dMD_step_207 rfl (lv_at hl 2 rfl) ?_
              refine lv_bipush (v := 8) hx hb dMD_step_208 (by decide) ?_
              refine lv_icmp_lt (tgt := 226) hx hb dMD_step_210 rfl (fun h210 => ?_) (fun h210 => absurd (by decide) h210)
              refine lv_iload hx hb dMD_step_226 (lv_at hl 1 rfl) ?_
              refine x_v (f := fun k => 0 + k) (x_runV (C := R_MD) (As := [.int (nI j), .int 6, .int ((A 3) (12 * j + k))]) (rest := []) X (g_MD_note l D tc (fun k => ad (0 + k)) (fun k => E186 (0 + k)) 0 st ic cn A J j 6 ((A 3) (12 * j + k)) (by simpa only [Nat.zero_add] using (show isMD tc ad E186 0 st ic (nI cn) A J from ⟨f188, f189, f190, f191, f192, f193, f194, f195, f196, f197, f198, f199, f200, f201, f204, f202, f203⟩)) hj hc9 (fun h => absurd h (by decide)) (fun _ => ⟨q, hq, eq⟩) (fun h => absurd h (by decide))) rfl rfl (by decide) (by decide) w_583 w_9 w_580 w_582 sel_MD_note ry_MD_note (x_recv X hP (by omega) (f188) rfl) (ct_pre X hP hD (fr_lt 17 17 0 (by omega)) (fr_inj 17 0)) ct_blind hl.1 (Nat.le_of_ble_eq_true rfl) dMD_step_228 ⟨Nat.zero_le _, Nat.zero_le _⟩) hD hP hS (fr_lt 17 17 0 (by omega)) (fr_inj 17 0) (fun o E1 h => h.1) (fun E205 H locs q208 hD hP hS => ?_)
              obtain ⟨-, q208B, q208J, q208m, q2081, q2085⟩ := q208
              generalize g206 : wU 17 (fun k => 0 + k) E186 E205 = E207 at hD hP
              have hM8 : isMD tc ad E207 0 st ic (nI (cn + 1)) q208B q208J := by rw [← g206]; exact isMD.back q208m
              have hM7 := hM8
              obtain ⟨m0, m1, m2, m3, m4, m5, m6, m7, m8, m9, m10, m11, m12, m13, m14, m15, m16⟩ := hM8
              refine lv_aload_n hx hb dMD_step_231 rfl (lv_at hl 4 rfl) ?_
              refine lv_iload_n hx hb dMD_step_232 rfl (lv_at hl 5 rfl) ?_
              refine lv_aload_n hx hb dMD_step_233 rfl (lv_at hl 4 rfl) ?_
              refine g_MD_25 X hP (by omega) (m0) rfl dMD_step_234 ?_
              refine lv_iload_n hx hb dMD_step_237 rfl (lv_at hl 5 rfl) ?_
              refine q_iald j X hP (by omega) (m6) (rfl) (by omega) (by decide) dMD_step_238 ?_
              refine lv_iconst (v := 1) hx hb dMD_step_239 (by decide) ?_
              refine lv_iadd hx hb dMD_step_240 ?_
              rw [show (((q208B 6) j) + 1) = nI (k + 1) from by rw [q2081 6 (by decide), ek]; exact nI_1 k]
              refine x_v (f := fun k => 0 + k) (x_runV (C := R_MD) (As := [.int (nI j), .int (nI (k + 1))]) (rest := []) X (g_MD_go l D tc (fun k => ad (0 + k)) (fun k => E207 (0 + k)) 0 st ic (cn + 1) q208B q208J j (nI (k + 1)) (by simpa only [Nat.zero_add] using hM7) hj) rfl rfl (by decide) (by decide) w_579 w_9 w_576 w_578 sel_MD_go ry_MD_go (x_recv X hP (by omega) (m0) rfl) (ct_pre X hP hD (fr_lt 17 17 0 (by omega)) (fr_inj 17 0)) ct_blind hl.1 (Nat.le_of_ble_eq_true rfl) dMD_step_241 ⟨Nat.zero_le _, Nat.zero_le _⟩) hD hP hS (fr_lt 17 17 0 (by omega)) (fr_inj 17 0) (fun o E1 h => h.1) (fun E209 H locs q212 hD hP hS => ?_)
              obtain ⟨-, q212v, q212m, q2121, q2122⟩ := q212
              generalize g210 : wU 17 (fun k => 0 + k) E207 E209 = E211 at hD hP
              refine lv_iconst (v := 1) hx hb dMD_step_244 (by decide) ?_
              exact q_iret X hlk hr hP hS dMD_step_245 ⟨_, 0, rfl, ic, cn + 1, (va_up (va_up q208B 6 (upd (q208B 6) j (nI (k + 1)))) 5 (upd (q208B 5) j q212v)), q208J, by rw [← g210]; exact isMD.back q212m, by omega, fun t ht => by rw [va_up_ne _ _ (by decide), va_up_ne _ _ (by decide), q2081 1 (by decide)]; exact q1 t ht, fun t ht k hk => by rw [va_up_ne _ _ (by decide), va_up_ne _ _ (by decide), va_up_ne _ _ (by decide), va_up_ne _ _ (by decide), va_up_ne _ _ (by decide), va_up_ne _ _ (by decide), q2081 2 (by decide), q2081 3 (by decide), q2081 4 (by decide)]; exact q2 t ht k hk, stepB hk q1 (fun t ht => (hok t ht).1) (q5 h18) q2081 q2085 (fun _ u hu e => by have e2 := (nI_eq (by omega) (by omega)).mp (eq.symm.trans e); subst e2; exact h93) q2121 q2122⟩
            · refine lv_iconst (v := 0) hx hb dMD_step_202 (by decide) ?_
              exact q_iret X hlk hr hP hS dMD_step_203 ⟨_, 0, rfl, ic, cn, A, J, ⟨f188, f189, f190, f191, f192, f193, f194, f195, f196, f197, f198, f199, f200, f201, f204, f202, f203⟩, hc, q1, q2, q5⟩
        · have eo : A 2 (12 * j + k) = 7 := eo
          rw [eo] at hl
          obtain ⟨q, hq, eq⟩ := wi_of (n := 5) (by decide) hna
          have eq : A 3 (12 * j + k) = nI q := o3.trans eq
          refine lv_iload_n hx hb dMD_step_64 rfl (lv_at hl 1 rfl) ?_
          refine lv_iconst (v := 3) hx hb dMD_step_65 (by decide) ?_
          refine lv_icmp_ne (tgt := 80) hx hb dMD_step_66 rfl (fun h66 => ?_) (fun h66 => absurd h66 (by decide))
          refine lv_iload_n hx hb dMD_step_80 rfl (lv_at hl 1 rfl) ?_
          refine lv_bipush (v := 6) hx hb dMD_step_81 (by decide) ?_
          refine lv_icmp_ne (tgt := 96) hx hb dMD_step_83 rfl (fun h83 => ?_) (fun h83 => absurd h83 (by decide))
          refine lv_iload_n hx hb dMD_step_96 rfl (lv_at hl 1 rfl) ?_
          refine lv_bipush (v := 7) hx hb dMD_step_97 (by decide) ?_
          refine lv_icmp_ne (tgt := 118) hx hb dMD_step_99 rfl (fun h99 => absurd h99 (by decide)) (fun h99 => ?_)
          refine lv_aload_n hx hb dMD_step_102 rfl (lv_at hl 3 rfl) ?_
          refine g_MD_22 X hP (by omega) (m0) rfl dMD_step_103 ?_
          refine lv_iload hx hb dMD_step_106 (lv_at hl 0 rfl) ?_
          refine q_iald q X hP (by omega) (m5) (eq) (by omega) (by decide) dMD_step_108 ?_
          refine lv_if_ne (tgt := 118) hx hb dMD_step_109 rfl (fun h109 => ?_) (fun h109 => ?_)
          · refine lv_aload_n hx hb dMD_step_118 rfl (lv_at hl 3 rfl) ?_
            refine lv_iconst (v := 0) hx hb dMD_step_119 (by decide) ?_
            refine p_MD_63 X hD hP hS (by omega) (m0) rfl rfl (Nat.le_of_ble_eq_true rfl) dMD_step_120 (fun H locs hD hP hS => ?_)
            have hP : va_P D vwCl (wW 17 ad (va_up E 0 (.inr (7, [.int 0, .int st, .int ic, .ref (ad 1), .ref (ad 2), .ref (ad 3), .ref (ad 4), .ref (ad 5), .ref (ad 6), .ref (ad 7), .ref (ad 8), .ref (ad 9), .int (nI cn), .ref (ad 10), .ref (ad 11), .ref (ad 12), .ref (ad 13), .ref (ad 14), .ref (ad 15), .ref (ad 16)])))) H := hP
            have hD : va_D (Aw 17 ad) (wW 17 ad (va_up E 0 (.inr (7, [.int 0, .int st, .int ic, .ref (ad 1), .ref (ad 2), .ref (ad 3), .ref (ad 4), .ref (ad 5), .ref (ad 6), .ref (ad 7), .ref (ad 8), .ref (ad 9), .int (nI cn), .ref (ad 10), .ref (ad 11), .ref (ad 12), .ref (ad 13), .ref (ad 14), .ref (ad 15), .ref (ad 16)])))) := hD
            generalize g214 : va_up E 0 (.inr (7, [.int 0, .int st, .int ic, .ref (ad 1), .ref (ad 2), .ref (ad 3), .ref (ad 4), .ref (ad 5), .ref (ad 6), .ref (ad 7), .ref (ad 8), .ref (ad 9), .int (nI cn), .ref (ad 10), .ref (ad 11), .ref (ad 12), .ref (ad 13), .ref (ad 14), .ref (ad 15), .ref (ad 16)])) = E213 at hD hP
            have f215 : E213 0 = .inr (7, [.int 0, .int st, .int ic, .ref (ad 1), .ref (ad 2), .ref (ad 3), .ref (ad 4), .ref (ad 5), .ref (ad 6), .ref (ad 7), .ref (ad 8), .ref (ad 9), .int (nI cn), .ref (ad 10), .ref (ad 11), .ref (ad 12), .ref (ad 13), .ref (ad 14), .ref (ad 15), .ref (ad 16)]) := by rw [← g214]; exact va_up_self _ _ _
            have f216 : E213 1 = .inl (tc 0, 5, .inl (A 1)) := by rw [← g214, va_up_ne _ _ (by omega)]; exact m1
            have f217 : E213 2 = .inl (tc 0, 60, .inl (A 2)) := by rw [← g214, va_up_ne _ _ (by omega)]; exact m2
            have f218 : E213 3 = .inl (tc 0, 60, .inl (A 3)) := by rw [← g214, va_up_ne _ _ (by omega)]; exact m3
            have f219 : E213 4 = .inl (tc 0, 60, .inl (A 4)) := by rw [← g214, va_up_ne _ _ (by omega)]; exact m4
            have f220 : E213 5 = .inl (tc 0, 5, .inl (A 5)) := by rw [← g214, va_up_ne _ _ (by omega)]; exact m5
            have f221 : E213 6 = .inl (tc 0, 5, .inl (A 6)) := by rw [← g214, va_up_ne _ _ (by omega)]; exact m6
            have f222 : E213 7 = .inl (tc 0, 5, .inl (A 7)) := by rw [← g214, va_up_ne _ _ (by omega)]; exact m7
            have f223 : E213 8 = .inl (tc 0, 3, .inl (A 8)) := by rw [← g214, va_up_ne _ _ (by omega)]; exact m8
            have f224 : E213 9 = .inl (tc 0, 3, .inl (A 9)) := by rw [← g214, va_up_ne _ _ (by omega)]; exact m9
            have f225 : E213 10 = .inl (tc 0, 200, .inl (A 10)) := by rw [← g214, va_up_ne _ _ (by omega)]; exact m10
            have f226 : E213 11 = .inl (tc 0, 200, .inl (A 11)) := by rw [← g214, va_up_ne _ _ (by omega)]; exact m11
            have f227 : E213 12 = .inl (tc 0, 200, .inl (A 12)) := by rw [← g214, va_up_ne _ _ (by omega)]; exact m12
            have f228 : E213 13 = .inl (tc 2, 200, .inl (A 13)) := by rw [← g214, va_up_ne _ _ (by omega)]; exact m13
            have f229 : E213 15 = .inl (tc 0, 8, .inl (A 15)) := by rw [← g214, va_up_ne _ _ (by omega)]; exact m15
            have f230 : E213 16 = .inl (tc 0, 8, .inl (A 16)) := by rw [← g214, va_up_ne _ _ (by omega)]; exact m16
            have f231 : E213 14 = .inl (tc 1, 800, .inr (.inl J)) := by rw [← g214, va_up_ne _ _ (by omega)]; exact m14
            refine lv_iload_n hx hb dMD_step_123 rfl (lv_at hl 1 rfl) ?_
            refine lv_bipush (v := 10) hx hb dMD_step_124 (by decide) ?_
            refine lv_icmp_lt (tgt := 137) hx hb dMD_step_126 rfl (fun h126 => ?_) (fun h126 => absurd (by decide) h126)
            refine lv_iload_n hx hb dMD_step_137 rfl (lv_at hl 1 rfl) ?_
            refine lv_iconst (v := 2) hx hb dMD_step_138 (by decide) ?_
            refine lv_icmp_ne (tgt := 163) hx hb dMD_step_139 rfl (fun h139 => ?_) (fun h139 => absurd h139 (by decide))
            refine lv_iload_n hx hb dMD_step_163 rfl (lv_at hl 1 rfl) ?_
            refine lv_bipush (v := 7) hx hb dMD_step_164 (by decide) ?_
            refine lv_icmp_ne (tgt := 184) hx hb dMD_step_166 rfl (fun h166 => absurd h166 (by decide)) (fun h166 => ?_)
            refine lv_aload_n hx hb dMD_step_169 rfl (lv_at hl 3 rfl) ?_
            refine g_MD_22 X hP (by omega) (f215) rfl dMD_step_170 ?_
            refine lv_iload hx hb dMD_step_173 (lv_at hl 0 rfl) ?_
            refine q_iald q X hP (by omega) (f220) (eq) (by omega) (by decide) dMD_step_175 ?_
            refine lv_iconst (v := 2) hx hb dMD_step_176 (by decide) ?_
            refine lv_icmp_eq (tgt := 184) hx hb dMD_step_177 rfl (fun h177 => ?_) (fun h177 => ?_)
            · refine lv_iconst (v := 0) hx hb dMD_step_184 (by decide) ?_
              refine lv_istore hx hb dMD_step_185 hl (by decide) rfl (fun ls hl => ?_)
              have hl : lv_has ls 6 [(5, .int 0), (4, .int ((A 3) (12 * j + k))), (3, .int 7), (2, .int (nI (12 * j + k))), (0, .ref (ad 0)), (1, .int (nI j))] := hl
              refine lv_iload hx hb dMD_step_187 (lv_at hl 0 rfl) ?_
              refine lv_if_ne (tgt := 202) hx hb dMD_step_189 rfl (fun h189 => absurd h189 (by decide)) (fun h189 => ?_)
              refine lv_aload_n hx hb dMD_step_192 rfl (lv_at hl 4 rfl) ?_
              refine g_MD_78 X hP (by omega) (f215) rfl dMD_step_193 ?_
              refine lv_sipush (v := 200) hx hb dMD_step_196 (by decide) ?_
              refine lv_icmp_ne (tgt := 204) hx hb dMD_step_199 rfl (fun h199 => ?_) (fun h199 => ?_)
              · have hc9 : cn < 200 := by rcases Nat.lt_or_ge cn 200 with h | h; (· exact h); (· exact absurd (by rw [show cn = 200 by omega]; rfl) h199)
                refine lv_aload_n hx hb dMD_step_204 rfl (lv_at hl 4 rfl) ?_
                refine lv_iload_n hx hb dMD_step_205 rfl (lv_at hl 5 rfl) ?_
                refine lv_iload_n hx hb dMD_step_206 rfl (lv_at hl 2 rfl) ?_
                refine lv_iload_n hx hb dMD_step_207 rfl (lv_at hl 2 rfl) ?_
                refine lv_bipush (v := 8) hx hb dMD_step_208 (by decide) ?_
                refine lv_icmp_lt (tgt := 226) hx hb dMD_step_210 rfl (fun h210 => ?_) (fun h210 => absurd (by decide) h210)
                refine lv_iload hx hb dMD_step_226 (lv_at hl 1 rfl) ?_
                refine x_v (f := fun k => 0 + k) (x_runV (C := R_MD) (As := [.int (nI j), .int 7, .int ((A 3) (12 * j + k))]) (rest := []) X (g_MD_note l D tc (fun k => ad (0 + k)) (fun k => E213 (0 + k)) 0 st ic cn A J j 7 ((A 3) (12 * j + k)) (by simpa only [Nat.zero_add] using (show isMD tc ad E213 0 st ic (nI cn) A J from ⟨f215, f216, f217, f218, f219, f220, f221, f222, f223, f224, f225, f226, f227, f228, f231, f229, f230⟩)) hj hc9 (fun h => absurd h (by decide)) (fun h => absurd h (by decide)) (fun h => absurd h (by decide))) rfl rfl (by decide) (by decide) w_583 w_9 w_580 w_582 sel_MD_note ry_MD_note (x_recv X hP (by omega) (f215) rfl) (ct_pre X hP hD (fr_lt 17 17 0 (by omega)) (fr_inj 17 0)) ct_blind hl.1 (Nat.le_of_ble_eq_true rfl) dMD_step_228 ⟨Nat.zero_le _, Nat.zero_le _⟩) hD hP hS (fr_lt 17 17 0 (by omega)) (fr_inj 17 0) (fun o E1 h => h.1) (fun E232 H locs q235 hD hP hS => ?_)
                obtain ⟨-, q235B, q235J, q235m, q2351, q2355⟩ := q235
                generalize g233 : wU 17 (fun k => 0 + k) E213 E232 = E234 at hD hP
                have hM8 : isMD tc ad E234 0 st ic (nI (cn + 1)) q235B q235J := by rw [← g233]; exact isMD.back q235m
                have hM7 := hM8
                obtain ⟨m0, m1, m2, m3, m4, m5, m6, m7, m8, m9, m10, m11, m12, m13, m14, m15, m16⟩ := hM8
                refine lv_aload_n hx hb dMD_step_231 rfl (lv_at hl 4 rfl) ?_
                refine lv_iload_n hx hb dMD_step_232 rfl (lv_at hl 5 rfl) ?_
                refine lv_aload_n hx hb dMD_step_233 rfl (lv_at hl 4 rfl) ?_
                refine g_MD_25 X hP (by omega) (m0) rfl dMD_step_234 ?_
                refine lv_iload_n hx hb dMD_step_237 rfl (lv_at hl 5 rfl) ?_
                refine q_iald j X hP (by omega) (m6) (rfl) (by omega) (by decide) dMD_step_238 ?_
                refine lv_iconst (v := 1) hx hb dMD_step_239 (by decide) ?_
                refine lv_iadd hx hb dMD_step_240 ?_
                rw [show (((q235B 6) j) + 1) = nI (k + 1) from by rw [q2351 6 (by decide), ek]; exact nI_1 k]
                refine x_v (f := fun k => 0 + k) (x_runV (C := R_MD) (As := [.int (nI j), .int (nI (k + 1))]) (rest := []) X (g_MD_go l D tc (fun k => ad (0 + k)) (fun k => E234 (0 + k)) 0 st ic (cn + 1) q235B q235J j (nI (k + 1)) (by simpa only [Nat.zero_add] using hM7) hj) rfl rfl (by decide) (by decide) w_579 w_9 w_576 w_578 sel_MD_go ry_MD_go (x_recv X hP (by omega) (m0) rfl) (ct_pre X hP hD (fr_lt 17 17 0 (by omega)) (fr_inj 17 0)) ct_blind hl.1 (Nat.le_of_ble_eq_true rfl) dMD_step_241 ⟨Nat.zero_le _, Nat.zero_le _⟩) hD hP hS (fr_lt 17 17 0 (by omega)) (fr_inj 17 0) (fun o E1 h => h.1) (fun E236 H locs q239 hD hP hS => ?_)
                obtain ⟨-, q239v, q239m, q2391, q2392⟩ := q239
                generalize g237 : wU 17 (fun k => 0 + k) E234 E236 = E238 at hD hP
                refine lv_iconst (v := 1) hx hb dMD_step_244 (by decide) ?_
                exact q_iret X hlk hr hP hS dMD_step_245 ⟨_, 0, rfl, ic, cn + 1, (va_up (va_up q235B 6 (upd (q235B 6) j (nI (k + 1)))) 5 (upd (q235B 5) j q239v)), q235J, by rw [← g237]; exact isMD.back q239m, by omega, fun t ht => by rw [va_up_ne _ _ (by decide), va_up_ne _ _ (by decide), q2351 1 (by decide)]; exact q1 t ht, fun t ht k hk => by rw [va_up_ne _ _ (by decide), va_up_ne _ _ (by decide), va_up_ne _ _ (by decide), va_up_ne _ _ (by decide), va_up_ne _ _ (by decide), va_up_ne _ _ (by decide), q2351 2 (by decide), q2351 3 (by decide), q2351 4 (by decide)]; exact q2 t ht k hk, stepB hk q1 (fun t ht => (hok t ht).1) (q5 h18) q2351 q2355 (fun h => absurd h (by decide)) q2391 q2392⟩
              · refine lv_iconst (v := 0) hx hb dMD_step_202 (by decide) ?_
                exact q_iret X hlk hr hP hS dMD_step_203 ⟨_, 0, rfl, ic, cn, A, J, ⟨f215, f216, f217, f218, f219, f220, f221, f222, f223, f224, f225, f226, f227, f228, f231, f229, f230⟩, hc, q1, q2, q5⟩
            · refine lv_iconst (v := 1) hx hb dMD_step_180 (by decide) ?_
              refine lv_goto (tgt := 185) hx hb dMD_step_181 rfl ?_
              refine lv_istore hx hb dMD_step_185 hl (by decide) rfl (fun ls hl => ?_)
              have hl : lv_has ls 6 [(5, .int 1), (4, .int ((A 3) (12 * j + k))), (3, .int 7), (2, .int (nI (12 * j + k))), (0, .ref (ad 0)), (1, .int (nI j))] := hl
              refine lv_iload hx hb dMD_step_187 (lv_at hl 0 rfl) ?_
              refine lv_if_ne (tgt := 202) hx hb dMD_step_189 rfl (fun h189 => ?_) (fun h189 => absurd h189 (by decide))
              refine lv_iconst (v := 0) hx hb dMD_step_202 (by decide) ?_
              exact q_iret X hlk hr hP hS dMD_step_203 ⟨_, 0, rfl, ic, cn, A, J, ⟨f215, f216, f217, f218, f219, f220, f221, f222, f223, f224, f225, f226, f227, f228, f231, f229, f230⟩, hc, q1, q2, q5⟩
          · refine lv_aload_n hx hb dMD_step_112 rfl (lv_at hl 3 rfl) ?_
            refine lv_iconst (v := 3) hx hb dMD_step_113 (by decide) ?_
            refine x_i (f := fun k => 0 + k) (x_runV (C := R_MD) (As := [.int 3]) (rest := []) X (c_MD_raise l D tc (fun k => ad (0 + k)) (fun k => E (0 + k)) th st ic (nI cn) A J 3 (by simpa only [Nat.zero_add] using hM0)) rfl rfl (by decide) (by decide) w_563 w_9 w_560 w_562 sel_MD_raise ry_MD_raise (x_recv X hP (by omega) (m0) rfl) (ct_pre X hP hD (fr_lt 17 17 0 (by omega)) (fr_inj 17 0)) ct_blind hl.1 (Nat.le_of_ble_eq_true rfl) dMD_step_114 ⟨Nat.zero_le _, Nat.zero_le _⟩) hD hP hS (fr_lt 17 17 0 (by omega)) (fr_inj 17 0) (fun o E1 h => ⟨_, h.1⟩) (fun r244 E240 H locs q243 hD hP hS => ?_)
            obtain ⟨-, q243m⟩ := q243
            generalize g241 : wU 17 (fun k => 0 + k) E E240 = E242 at hD hP
            exact q_iret X hlk hr hP hS dMD_step_117 ⟨_, 3, rfl, ic, cn, A, J, by rw [← g241]; exact isMD.back q243m, hc, q1, q2, q5⟩
        · have eo : A 2 (12 * j + k) = 8 := eo
          rw [eo] at hl
          refine lv_iload_n hx hb dMD_step_64 rfl (lv_at hl 1 rfl) ?_
          refine lv_iconst (v := 3) hx hb dMD_step_65 (by decide) ?_
          refine lv_icmp_ne (tgt := 80) hx hb dMD_step_66 rfl (fun h66 => ?_) (fun h66 => absurd h66 (by decide))
          refine lv_iload_n hx hb dMD_step_80 rfl (lv_at hl 1 rfl) ?_
          refine lv_bipush (v := 6) hx hb dMD_step_81 (by decide) ?_
          refine lv_icmp_ne (tgt := 96) hx hb dMD_step_83 rfl (fun h83 => ?_) (fun h83 => absurd h83 (by decide))
          refine lv_iload_n hx hb dMD_step_96 rfl (lv_at hl 1 rfl) ?_
          refine lv_bipush (v := 7) hx hb dMD_step_97 (by decide) ?_
          refine lv_icmp_ne (tgt := 118) hx hb dMD_step_99 rfl (fun h99 => ?_) (fun h99 => absurd h99 (by decide))
          refine lv_aload_n hx hb dMD_step_118 rfl (lv_at hl 3 rfl) ?_
          refine lv_iconst (v := 0) hx hb dMD_step_119 (by decide) ?_
          refine p_MD_63 X hD hP hS (by omega) (m0) rfl rfl (Nat.le_of_ble_eq_true rfl) dMD_step_120 (fun H locs hD hP hS => ?_)
          have hP : va_P D vwCl (wW 17 ad (va_up E 0 (.inr (7, [.int 0, .int st, .int ic, .ref (ad 1), .ref (ad 2), .ref (ad 3), .ref (ad 4), .ref (ad 5), .ref (ad 6), .ref (ad 7), .ref (ad 8), .ref (ad 9), .int (nI cn), .ref (ad 10), .ref (ad 11), .ref (ad 12), .ref (ad 13), .ref (ad 14), .ref (ad 15), .ref (ad 16)])))) H := hP
          have hD : va_D (Aw 17 ad) (wW 17 ad (va_up E 0 (.inr (7, [.int 0, .int st, .int ic, .ref (ad 1), .ref (ad 2), .ref (ad 3), .ref (ad 4), .ref (ad 5), .ref (ad 6), .ref (ad 7), .ref (ad 8), .ref (ad 9), .int (nI cn), .ref (ad 10), .ref (ad 11), .ref (ad 12), .ref (ad 13), .ref (ad 14), .ref (ad 15), .ref (ad 16)])))) := hD
          generalize g246 : va_up E 0 (.inr (7, [.int 0, .int st, .int ic, .ref (ad 1), .ref (ad 2), .ref (ad 3), .ref (ad 4), .ref (ad 5), .ref (ad 6), .ref (ad 7), .ref (ad 8), .ref (ad 9), .int (nI cn), .ref (ad 10), .ref (ad 11), .ref (ad 12), .ref (ad 13), .ref (ad 14), .ref (ad 15), .ref (ad 16)])) = E245 at hD hP
          have f247 : E245 0 = .inr (7, [.int 0, .int st, .int ic, .ref (ad 1), .ref (ad 2), .ref (ad 3), .ref (ad 4), .ref (ad 5), .ref (ad 6), .ref (ad 7), .ref (ad 8), .ref (ad 9), .int (nI cn), .ref (ad 10), .ref (ad 11), .ref (ad 12), .ref (ad 13), .ref (ad 14), .ref (ad 15), .ref (ad 16)]) := by rw [← g246]; exact va_up_self _ _ _
          have f248 : E245 1 = .inl (tc 0, 5, .inl (A 1)) := by rw [← g246, va_up_ne _ _ (by omega)]; exact m1
          have f249 : E245 2 = .inl (tc 0, 60, .inl (A 2)) := by rw [← g246, va_up_ne _ _ (by omega)]; exact m2
          have f250 : E245 3 = .inl (tc 0, 60, .inl (A 3)) := by rw [← g246, va_up_ne _ _ (by omega)]; exact m3
          have f251 : E245 4 = .inl (tc 0, 60, .inl (A 4)) := by rw [← g246, va_up_ne _ _ (by omega)]; exact m4
          have f252 : E245 5 = .inl (tc 0, 5, .inl (A 5)) := by rw [← g246, va_up_ne _ _ (by omega)]; exact m5
          have f253 : E245 6 = .inl (tc 0, 5, .inl (A 6)) := by rw [← g246, va_up_ne _ _ (by omega)]; exact m6
          have f254 : E245 7 = .inl (tc 0, 5, .inl (A 7)) := by rw [← g246, va_up_ne _ _ (by omega)]; exact m7
          have f255 : E245 8 = .inl (tc 0, 3, .inl (A 8)) := by rw [← g246, va_up_ne _ _ (by omega)]; exact m8
          have f256 : E245 9 = .inl (tc 0, 3, .inl (A 9)) := by rw [← g246, va_up_ne _ _ (by omega)]; exact m9
          have f257 : E245 10 = .inl (tc 0, 200, .inl (A 10)) := by rw [← g246, va_up_ne _ _ (by omega)]; exact m10
          have f258 : E245 11 = .inl (tc 0, 200, .inl (A 11)) := by rw [← g246, va_up_ne _ _ (by omega)]; exact m11
          have f259 : E245 12 = .inl (tc 0, 200, .inl (A 12)) := by rw [← g246, va_up_ne _ _ (by omega)]; exact m12
          have f260 : E245 13 = .inl (tc 2, 200, .inl (A 13)) := by rw [← g246, va_up_ne _ _ (by omega)]; exact m13
          have f261 : E245 15 = .inl (tc 0, 8, .inl (A 15)) := by rw [← g246, va_up_ne _ _ (by omega)]; exact m15
          have f262 : E245 16 = .inl (tc 0, 8, .inl (A 16)) := by rw [← g246, va_up_ne _ _ (by omega)]; exact m16
          have f263 : E245 14 = .inl (tc 1, 800, .inr (.inl J)) := by rw [← g246, va_up_ne _ _ (by omega)]; exact m14
          refine lv_iload_n hx hb dMD_step_123 rfl (lv_at hl 1 rfl) ?_
          refine lv_bipush (v := 10) hx hb dMD_step_124 (by decide) ?_
          refine lv_icmp_lt (tgt := 137) hx hb dMD_step_126 rfl (fun h126 => ?_) (fun h126 => absurd (by decide) h126)
          refine lv_iload_n hx hb dMD_step_137 rfl (lv_at hl 1 rfl) ?_
          refine lv_iconst (v := 2) hx hb dMD_step_138 (by decide) ?_
          refine lv_icmp_ne (tgt := 163) hx hb dMD_step_139 rfl (fun h139 => ?_) (fun h139 => absurd h139 (by decide))
          refine lv_iload_n hx hb dMD_step_163 rfl (lv_at hl 1 rfl) ?_
          refine lv_bipush (v := 7) hx hb dMD_step_164 (by decide) ?_
          refine lv_icmp_ne (tgt := 184) hx hb dMD_step_166 rfl (fun h166 => ?_) (fun h166 => absurd h166 (by decide))
          refine lv_iconst (v := 0) hx hb dMD_step_184 (by decide) ?_
          refine lv_istore hx hb dMD_step_185 hl (by decide) rfl (fun ls hl => ?_)
          have hl : lv_has ls 6 [(5, .int 0), (4, .int ((A 3) (12 * j + k))), (3, .int 8), (2, .int (nI (12 * j + k))), (0, .ref (ad 0)), (1, .int (nI j))] := hl
          refine lv_iload hx hb dMD_step_187 (lv_at hl 0 rfl) ?_
          refine lv_if_ne (tgt := 202) hx hb dMD_step_189 rfl (fun h189 => absurd h189 (by decide)) (fun h189 => ?_)
          refine lv_aload_n hx hb dMD_step_192 rfl (lv_at hl 4 rfl) ?_
          refine g_MD_78 X hP (by omega) (f247) rfl dMD_step_193 ?_
          refine lv_sipush (v := 200) hx hb dMD_step_196 (by decide) ?_
          refine lv_icmp_ne (tgt := 204) hx hb dMD_step_199 rfl (fun h199 => ?_) (fun h199 => ?_)
          · have hc9 : cn < 200 := by rcases Nat.lt_or_ge cn 200 with h | h; (· exact h); (· exact absurd (by rw [show cn = 200 by omega]; rfl) h199)
            refine lv_aload_n hx hb dMD_step_204 rfl (lv_at hl 4 rfl) ?_
            refine lv_iload_n hx hb dMD_step_205 rfl (lv_at hl 5 rfl) ?_
            refine lv_iload_n hx hb dMD_step_206 rfl (lv_at hl 2 rfl) ?_
            refine lv_iload_n hx hb dMD_step_207 rfl (lv_at hl 2 rfl) ?_
            refine lv_bipush (v := 8) hx hb dMD_step_208 (by decide) ?_
            refine lv_icmp_lt (tgt := 226) hx hb dMD_step_210 rfl (fun h210 => absurd h210 (by decide)) (fun h210 => ?_)
            refine lv_iconst (v := 4) hx hb dMD_step_213 (by decide) ?_
            refine lv_aload_n hx hb dMD_step_214 rfl (lv_at hl 4 rfl) ?_
            refine g_MD_28 X hP (by omega) (f247) rfl dMD_step_215 ?_
            refine lv_iload_n hx hb dMD_step_218 rfl (lv_at hl 5 rfl) ?_
            refine q_iald j X hP (by omega) (f254) (rfl) (by omega) (by decide) dMD_step_219 ?_
            refine lv_iconst (v := 3) hx hb dMD_step_220 (by decide) ?_
            refine lv_iand hx hb dMD_step_221 ?_
            refine lv_iadd hx hb dMD_step_222 ?_
            refine lv_goto (tgt := 228) hx hb dMD_step_223 rfl ?_
            obtain ⟨pq, hpq, epq⟩ := ofI ((A 7) j)
            rw [epq]
            refine x_v (f := fun k => 0 + k) (x_runV (C := R_MD) (As := [.int (nI j), .int 8, .int (nI pq)]) (rest := []) X (g_MD_note l D tc (fun k => ad (0 + k)) (fun k => E245 (0 + k)) 0 st ic cn A J j 8 (nI pq) (by simpa only [Nat.zero_add] using (show isMD tc ad E245 0 st ic (nI cn) A J from ⟨f247, f248, f249, f250, f251, f252, f253, f254, f255, f256, f257, f258, f259, f260, f263, f261, f262⟩)) hj hc9 (fun h => absurd h (by decide)) (fun h => absurd h (by decide)) (fun _ => ⟨pq, hpq, rfl⟩)) rfl rfl (by decide) (by decide) w_583 w_9 w_580 w_582 sel_MD_note ry_MD_note (x_recv X hP (by omega) (f247) rfl) (ct_pre X hP hD (fr_lt 17 17 0 (by omega)) (fr_inj 17 0)) ct_blind hl.1 (Nat.le_of_ble_eq_true rfl) dMD_step_228 ⟨Nat.zero_le _, Nat.zero_le _⟩) hD hP hS (fr_lt 17 17 0 (by omega)) (fr_inj 17 0) (fun o E1 h => h.1) (fun E264 H locs q267 hD hP hS => ?_)
            obtain ⟨-, q267B, q267J, q267m, q2671, q2675⟩ := q267
            generalize g265 : wU 17 (fun k => 0 + k) E245 E264 = E266 at hD hP
            have hM8 : isMD tc ad E266 0 st ic (nI (cn + 1)) q267B q267J := by rw [← g265]; exact isMD.back q267m
            have hM7 := hM8
            obtain ⟨m0, m1, m2, m3, m4, m5, m6, m7, m8, m9, m10, m11, m12, m13, m14, m15, m16⟩ := hM8
            refine lv_aload_n hx hb dMD_step_231 rfl (lv_at hl 4 rfl) ?_
            refine lv_iload_n hx hb dMD_step_232 rfl (lv_at hl 5 rfl) ?_
            refine lv_aload_n hx hb dMD_step_233 rfl (lv_at hl 4 rfl) ?_
            refine g_MD_25 X hP (by omega) (m0) rfl dMD_step_234 ?_
            refine lv_iload_n hx hb dMD_step_237 rfl (lv_at hl 5 rfl) ?_
            refine q_iald j X hP (by omega) (m6) (rfl) (by omega) (by decide) dMD_step_238 ?_
            refine lv_iconst (v := 1) hx hb dMD_step_239 (by decide) ?_
            refine lv_iadd hx hb dMD_step_240 ?_
            rw [show (((q267B 6) j) + 1) = nI (k + 1) from by rw [q2671 6 (by decide), ek]; exact nI_1 k]
            refine x_v (f := fun k => 0 + k) (x_runV (C := R_MD) (As := [.int (nI j), .int (nI (k + 1))]) (rest := []) X (g_MD_go l D tc (fun k => ad (0 + k)) (fun k => E266 (0 + k)) 0 st ic (cn + 1) q267B q267J j (nI (k + 1)) (by simpa only [Nat.zero_add] using hM7) hj) rfl rfl (by decide) (by decide) w_579 w_9 w_576 w_578 sel_MD_go ry_MD_go (x_recv X hP (by omega) (m0) rfl) (ct_pre X hP hD (fr_lt 17 17 0 (by omega)) (fr_inj 17 0)) ct_blind hl.1 (Nat.le_of_ble_eq_true rfl) dMD_step_241 ⟨Nat.zero_le _, Nat.zero_le _⟩) hD hP hS (fr_lt 17 17 0 (by omega)) (fr_inj 17 0) (fun o E1 h => h.1) (fun E268 H locs q271 hD hP hS => ?_)
            obtain ⟨-, q271v, q271m, q2711, q2712⟩ := q271
            generalize g269 : wU 17 (fun k => 0 + k) E266 E268 = E270 at hD hP
            refine lv_iconst (v := 1) hx hb dMD_step_244 (by decide) ?_
            exact q_iret X hlk hr hP hS dMD_step_245 ⟨_, 0, rfl, ic, cn + 1, (va_up (va_up q267B 6 (upd (q267B 6) j (nI (k + 1)))) 5 (upd (q267B 5) j q271v)), q267J, by rw [← g269]; exact isMD.back q271m, by omega, fun t ht => by rw [va_up_ne _ _ (by decide), va_up_ne _ _ (by decide), q2671 1 (by decide)]; exact q1 t ht, fun t ht k hk => by rw [va_up_ne _ _ (by decide), va_up_ne _ _ (by decide), va_up_ne _ _ (by decide), va_up_ne _ _ (by decide), va_up_ne _ _ (by decide), va_up_ne _ _ (by decide), q2671 2 (by decide), q2671 3 (by decide), q2671 4 (by decide)]; exact q2 t ht k hk, stepB hk q1 (fun t ht => (hok t ht).1) (q5 h18) q2671 q2675 (fun h => absurd h (by decide)) q2711 q2712⟩
          · refine lv_iconst (v := 0) hx hb dMD_step_202 (by decide) ?_
            exact q_iret X hlk hr hP hS dMD_step_203 ⟨_, 0, rfl, ic, cn, A, J, ⟨f247, f248, f249, f250, f251, f252, f253, f254, f255, f256, f257, f258, f259, f260, f263, f261, f262⟩, hc, q1, q2, q5⟩
        · have eo : A 2 (12 * j + k) = 9 := eo
          rw [eo] at hl
          refine lv_iload_n hx hb dMD_step_64 rfl (lv_at hl 1 rfl) ?_
          refine lv_iconst (v := 3) hx hb dMD_step_65 (by decide) ?_
          refine lv_icmp_ne (tgt := 80) hx hb dMD_step_66 rfl (fun h66 => ?_) (fun h66 => absurd h66 (by decide))
          refine lv_iload_n hx hb dMD_step_80 rfl (lv_at hl 1 rfl) ?_
          refine lv_bipush (v := 6) hx hb dMD_step_81 (by decide) ?_
          refine lv_icmp_ne (tgt := 96) hx hb dMD_step_83 rfl (fun h83 => ?_) (fun h83 => absurd h83 (by decide))
          refine lv_iload_n hx hb dMD_step_96 rfl (lv_at hl 1 rfl) ?_
          refine lv_bipush (v := 7) hx hb dMD_step_97 (by decide) ?_
          refine lv_icmp_ne (tgt := 118) hx hb dMD_step_99 rfl (fun h99 => ?_) (fun h99 => absurd h99 (by decide))
          refine lv_aload_n hx hb dMD_step_118 rfl (lv_at hl 3 rfl) ?_
          refine lv_iconst (v := 0) hx hb dMD_step_119 (by decide) ?_
          refine p_MD_63 X hD hP hS (by omega) (m0) rfl rfl (Nat.le_of_ble_eq_true rfl) dMD_step_120 (fun H locs hD hP hS => ?_)
          have hP : va_P D vwCl (wW 17 ad (va_up E 0 (.inr (7, [.int 0, .int st, .int ic, .ref (ad 1), .ref (ad 2), .ref (ad 3), .ref (ad 4), .ref (ad 5), .ref (ad 6), .ref (ad 7), .ref (ad 8), .ref (ad 9), .int (nI cn), .ref (ad 10), .ref (ad 11), .ref (ad 12), .ref (ad 13), .ref (ad 14), .ref (ad 15), .ref (ad 16)])))) H := hP
          have hD : va_D (Aw 17 ad) (wW 17 ad (va_up E 0 (.inr (7, [.int 0, .int st, .int ic, .ref (ad 1), .ref (ad 2), .ref (ad 3), .ref (ad 4), .ref (ad 5), .ref (ad 6), .ref (ad 7), .ref (ad 8), .ref (ad 9), .int (nI cn), .ref (ad 10), .ref (ad 11), .ref (ad 12), .ref (ad 13), .ref (ad 14), .ref (ad 15), .ref (ad 16)])))) := hD
          generalize g273 : va_up E 0 (.inr (7, [.int 0, .int st, .int ic, .ref (ad 1), .ref (ad 2), .ref (ad 3), .ref (ad 4), .ref (ad 5), .ref (ad 6), .ref (ad 7), .ref (ad 8), .ref (ad 9), .int (nI cn), .ref (ad 10), .ref (ad 11), .ref (ad 12), .ref (ad 13), .ref (ad 14), .ref (ad 15), .ref (ad 16)])) = E272 at hD hP
          have f274 : E272 0 = .inr (7, [.int 0, .int st, .int ic, .ref (ad 1), .ref (ad 2), .ref (ad 3), .ref (ad 4), .ref (ad 5), .ref (ad 6), .ref (ad 7), .ref (ad 8), .ref (ad 9), .int (nI cn), .ref (ad 10), .ref (ad 11), .ref (ad 12), .ref (ad 13), .ref (ad 14), .ref (ad 15), .ref (ad 16)]) := by rw [← g273]; exact va_up_self _ _ _
          have f275 : E272 1 = .inl (tc 0, 5, .inl (A 1)) := by rw [← g273, va_up_ne _ _ (by omega)]; exact m1
          have f276 : E272 2 = .inl (tc 0, 60, .inl (A 2)) := by rw [← g273, va_up_ne _ _ (by omega)]; exact m2
          have f277 : E272 3 = .inl (tc 0, 60, .inl (A 3)) := by rw [← g273, va_up_ne _ _ (by omega)]; exact m3
          have f278 : E272 4 = .inl (tc 0, 60, .inl (A 4)) := by rw [← g273, va_up_ne _ _ (by omega)]; exact m4
          have f279 : E272 5 = .inl (tc 0, 5, .inl (A 5)) := by rw [← g273, va_up_ne _ _ (by omega)]; exact m5
          have f280 : E272 6 = .inl (tc 0, 5, .inl (A 6)) := by rw [← g273, va_up_ne _ _ (by omega)]; exact m6
          have f281 : E272 7 = .inl (tc 0, 5, .inl (A 7)) := by rw [← g273, va_up_ne _ _ (by omega)]; exact m7
          have f282 : E272 8 = .inl (tc 0, 3, .inl (A 8)) := by rw [← g273, va_up_ne _ _ (by omega)]; exact m8
          have f283 : E272 9 = .inl (tc 0, 3, .inl (A 9)) := by rw [← g273, va_up_ne _ _ (by omega)]; exact m9
          have f284 : E272 10 = .inl (tc 0, 200, .inl (A 10)) := by rw [← g273, va_up_ne _ _ (by omega)]; exact m10
          have f285 : E272 11 = .inl (tc 0, 200, .inl (A 11)) := by rw [← g273, va_up_ne _ _ (by omega)]; exact m11
          have f286 : E272 12 = .inl (tc 0, 200, .inl (A 12)) := by rw [← g273, va_up_ne _ _ (by omega)]; exact m12
          have f287 : E272 13 = .inl (tc 2, 200, .inl (A 13)) := by rw [← g273, va_up_ne _ _ (by omega)]; exact m13
          have f288 : E272 15 = .inl (tc 0, 8, .inl (A 15)) := by rw [← g273, va_up_ne _ _ (by omega)]; exact m15
          have f289 : E272 16 = .inl (tc 0, 8, .inl (A 16)) := by rw [← g273, va_up_ne _ _ (by omega)]; exact m16
          have f290 : E272 14 = .inl (tc 1, 800, .inr (.inl J)) := by rw [← g273, va_up_ne _ _ (by omega)]; exact m14
          refine lv_iload_n hx hb dMD_step_123 rfl (lv_at hl 1 rfl) ?_
          refine lv_bipush (v := 10) hx hb dMD_step_124 (by decide) ?_
          refine lv_icmp_lt (tgt := 137) hx hb dMD_step_126 rfl (fun h126 => ?_) (fun h126 => absurd (by decide) h126)
          refine lv_iload_n hx hb dMD_step_137 rfl (lv_at hl 1 rfl) ?_
          refine lv_iconst (v := 2) hx hb dMD_step_138 (by decide) ?_
          refine lv_icmp_ne (tgt := 163) hx hb dMD_step_139 rfl (fun h139 => ?_) (fun h139 => absurd h139 (by decide))
          refine lv_iload_n hx hb dMD_step_163 rfl (lv_at hl 1 rfl) ?_
          refine lv_bipush (v := 7) hx hb dMD_step_164 (by decide) ?_
          refine lv_icmp_ne (tgt := 184) hx hb dMD_step_166 rfl (fun h166 => ?_) (fun h166 => absurd h166 (by decide))
          refine lv_iconst (v := 0) hx hb dMD_step_184 (by decide) ?_
          refine lv_istore hx hb dMD_step_185 hl (by decide) rfl (fun ls hl => ?_)
          have hl : lv_has ls 6 [(5, .int 0), (4, .int ((A 3) (12 * j + k))), (3, .int 9), (2, .int (nI (12 * j + k))), (0, .ref (ad 0)), (1, .int (nI j))] := hl
          refine lv_iload hx hb dMD_step_187 (lv_at hl 0 rfl) ?_
          refine lv_if_ne (tgt := 202) hx hb dMD_step_189 rfl (fun h189 => absurd h189 (by decide)) (fun h189 => ?_)
          refine lv_aload_n hx hb dMD_step_192 rfl (lv_at hl 4 rfl) ?_
          refine g_MD_78 X hP (by omega) (f274) rfl dMD_step_193 ?_
          refine lv_sipush (v := 200) hx hb dMD_step_196 (by decide) ?_
          refine lv_icmp_ne (tgt := 204) hx hb dMD_step_199 rfl (fun h199 => ?_) (fun h199 => ?_)
          · have hc9 : cn < 200 := by rcases Nat.lt_or_ge cn 200 with h | h; (· exact h); (· exact absurd (by rw [show cn = 200 by omega]; rfl) h199)
            refine lv_aload_n hx hb dMD_step_204 rfl (lv_at hl 4 rfl) ?_
            refine lv_iload_n hx hb dMD_step_205 rfl (lv_at hl 5 rfl) ?_
            refine lv_iload_n hx hb dMD_step_206 rfl (lv_at hl 2 rfl) ?_
            refine lv_iload_n hx hb dMD_step_207 rfl (lv_at hl 2 rfl) ?_
            refine lv_bipush (v := 8) hx hb dMD_step_208 (by decide) ?_
            refine lv_icmp_lt (tgt := 226) hx hb dMD_step_210 rfl (fun h210 => absurd h210 (by decide)) (fun h210 => ?_)
            refine lv_iconst (v := 4) hx hb dMD_step_213 (by decide) ?_
            refine lv_aload_n hx hb dMD_step_214 rfl (lv_at hl 4 rfl) ?_
            refine g_MD_28 X hP (by omega) (f274) rfl dMD_step_215 ?_
            refine lv_iload_n hx hb dMD_step_218 rfl (lv_at hl 5 rfl) ?_
            refine q_iald j X hP (by omega) (f281) (rfl) (by omega) (by decide) dMD_step_219 ?_
            refine lv_iconst (v := 3) hx hb dMD_step_220 (by decide) ?_
            refine lv_iand hx hb dMD_step_221 ?_
            refine lv_iadd hx hb dMD_step_222 ?_
            refine lv_goto (tgt := 228) hx hb dMD_step_223 rfl ?_
            obtain ⟨pq, hpq, epq⟩ := ofI ((A 7) j)
            rw [epq]
            refine x_v (f := fun k => 0 + k) (x_runV (C := R_MD) (As := [.int (nI j), .int 9, .int (nI pq)]) (rest := []) X (g_MD_note l D tc (fun k => ad (0 + k)) (fun k => E272 (0 + k)) 0 st ic cn A J j 9 (nI pq) (by simpa only [Nat.zero_add] using (show isMD tc ad E272 0 st ic (nI cn) A J from ⟨f274, f275, f276, f277, f278, f279, f280, f281, f282, f283, f284, f285, f286, f287, f290, f288, f289⟩)) hj hc9 (fun h => absurd h (by decide)) (fun h => absurd h (by decide)) (fun _ => ⟨pq, hpq, rfl⟩)) rfl rfl (by decide) (by decide) w_583 w_9 w_580 w_582 sel_MD_note ry_MD_note (x_recv X hP (by omega) (f274) rfl) (ct_pre X hP hD (fr_lt 17 17 0 (by omega)) (fr_inj 17 0)) ct_blind hl.1 (Nat.le_of_ble_eq_true rfl) dMD_step_228 ⟨Nat.zero_le _, Nat.zero_le _⟩) hD hP hS (fr_lt 17 17 0 (by omega)) (fr_inj 17 0) (fun o E1 h => h.1) (fun E291 H locs q294 hD hP hS => ?_)
            obtain ⟨-, q294B, q294J, q294m, q2941, q2945⟩ := q294
            generalize g292 : wU 17 (fun k => 0 + k) E272 E291 = E293 at hD hP
            have hM8 : isMD tc ad E293 0 st ic (nI (cn + 1)) q294B q294J := by rw [← g292]; exact isMD.back q294m
            have hM7 := hM8
            obtain ⟨m0, m1, m2, m3, m4, m5, m6, m7, m8, m9, m10, m11, m12, m13, m14, m15, m16⟩ := hM8
            refine lv_aload_n hx hb dMD_step_231 rfl (lv_at hl 4 rfl) ?_
            refine lv_iload_n hx hb dMD_step_232 rfl (lv_at hl 5 rfl) ?_
            refine lv_aload_n hx hb dMD_step_233 rfl (lv_at hl 4 rfl) ?_
            refine g_MD_25 X hP (by omega) (m0) rfl dMD_step_234 ?_
            refine lv_iload_n hx hb dMD_step_237 rfl (lv_at hl 5 rfl) ?_
            refine q_iald j X hP (by omega) (m6) (rfl) (by omega) (by decide) dMD_step_238 ?_
            refine lv_iconst (v := 1) hx hb dMD_step_239 (by decide) ?_
            refine lv_iadd hx hb dMD_step_240 ?_
            rw [show (((q294B 6) j) + 1) = nI (k + 1) from by rw [q2941 6 (by decide), ek]; exact nI_1 k]
            refine x_v (f := fun k => 0 + k) (x_runV (C := R_MD) (As := [.int (nI j), .int (nI (k + 1))]) (rest := []) X (g_MD_go l D tc (fun k => ad (0 + k)) (fun k => E293 (0 + k)) 0 st ic (cn + 1) q294B q294J j (nI (k + 1)) (by simpa only [Nat.zero_add] using hM7) hj) rfl rfl (by decide) (by decide) w_579 w_9 w_576 w_578 sel_MD_go ry_MD_go (x_recv X hP (by omega) (m0) rfl) (ct_pre X hP hD (fr_lt 17 17 0 (by omega)) (fr_inj 17 0)) ct_blind hl.1 (Nat.le_of_ble_eq_true rfl) dMD_step_241 ⟨Nat.zero_le _, Nat.zero_le _⟩) hD hP hS (fr_lt 17 17 0 (by omega)) (fr_inj 17 0) (fun o E1 h => h.1) (fun E295 H locs q298 hD hP hS => ?_)
            obtain ⟨-, q298v, q298m, q2981, q2982⟩ := q298
            generalize g296 : wU 17 (fun k => 0 + k) E293 E295 = E297 at hD hP
            refine lv_iconst (v := 1) hx hb dMD_step_244 (by decide) ?_
            exact q_iret X hlk hr hP hS dMD_step_245 ⟨_, 0, rfl, ic, cn + 1, (va_up (va_up q294B 6 (upd (q294B 6) j (nI (k + 1)))) 5 (upd (q294B 5) j q298v)), q294J, by rw [← g296]; exact isMD.back q298m, by omega, fun t ht => by rw [va_up_ne _ _ (by decide), va_up_ne _ _ (by decide), q2941 1 (by decide)]; exact q1 t ht, fun t ht k hk => by rw [va_up_ne _ _ (by decide), va_up_ne _ _ (by decide), va_up_ne _ _ (by decide), va_up_ne _ _ (by decide), va_up_ne _ _ (by decide), va_up_ne _ _ (by decide), q2941 2 (by decide), q2941 3 (by decide), q2941 4 (by decide)]; exact q2 t ht k hk, stepB hk q1 (fun t ht => (hok t ht).1) (q5 h18) q2941 q2945 (fun h => absurd h (by decide)) q2981 q2982⟩
          · refine lv_iconst (v := 0) hx hb dMD_step_202 (by decide) ?_
            exact q_iret X hlk hr hP hS dMD_step_203 ⟨_, 0, rfl, ic, cn, A, J, ⟨f274, f275, f276, f277, f278, f279, f280, f281, f282, f283, f284, f285, f286, f287, f290, f288, f289⟩, hc, q1, q2, q5⟩
        · have eo : A 2 (12 * j + k) = 10 := eo
          rw [eo] at hl
          refine lv_iload_n hx hb dMD_step_64 rfl (lv_at hl 1 rfl) ?_
          refine lv_iconst (v := 3) hx hb dMD_step_65 (by decide) ?_
          refine lv_icmp_ne (tgt := 80) hx hb dMD_step_66 rfl (fun h66 => ?_) (fun h66 => absurd h66 (by decide))
          refine lv_iload_n hx hb dMD_step_80 rfl (lv_at hl 1 rfl) ?_
          refine lv_bipush (v := 6) hx hb dMD_step_81 (by decide) ?_
          refine lv_icmp_ne (tgt := 96) hx hb dMD_step_83 rfl (fun h83 => ?_) (fun h83 => absurd h83 (by decide))
          refine lv_iload_n hx hb dMD_step_96 rfl (lv_at hl 1 rfl) ?_
          refine lv_bipush (v := 7) hx hb dMD_step_97 (by decide) ?_
          refine lv_icmp_ne (tgt := 118) hx hb dMD_step_99 rfl (fun h99 => ?_) (fun h99 => absurd h99 (by decide))
          refine lv_aload_n hx hb dMD_step_118 rfl (lv_at hl 3 rfl) ?_
          refine lv_iconst (v := 0) hx hb dMD_step_119 (by decide) ?_
          refine p_MD_63 X hD hP hS (by omega) (m0) rfl rfl (Nat.le_of_ble_eq_true rfl) dMD_step_120 (fun H locs hD hP hS => ?_)
          have hP : va_P D vwCl (wW 17 ad (va_up E 0 (.inr (7, [.int 0, .int st, .int ic, .ref (ad 1), .ref (ad 2), .ref (ad 3), .ref (ad 4), .ref (ad 5), .ref (ad 6), .ref (ad 7), .ref (ad 8), .ref (ad 9), .int (nI cn), .ref (ad 10), .ref (ad 11), .ref (ad 12), .ref (ad 13), .ref (ad 14), .ref (ad 15), .ref (ad 16)])))) H := hP
          have hD : va_D (Aw 17 ad) (wW 17 ad (va_up E 0 (.inr (7, [.int 0, .int st, .int ic, .ref (ad 1), .ref (ad 2), .ref (ad 3), .ref (ad 4), .ref (ad 5), .ref (ad 6), .ref (ad 7), .ref (ad 8), .ref (ad 9), .int (nI cn), .ref (ad 10), .ref (ad 11), .ref (ad 12), .ref (ad 13), .ref (ad 14), .ref (ad 15), .ref (ad 16)])))) := hD
          generalize g300 : va_up E 0 (.inr (7, [.int 0, .int st, .int ic, .ref (ad 1), .ref (ad 2), .ref (ad 3), .ref (ad 4), .ref (ad 5), .ref (ad 6), .ref (ad 7), .ref (ad 8), .ref (ad 9), .int (nI cn), .ref (ad 10), .ref (ad 11), .ref (ad 12), .ref (ad 13), .ref (ad 14), .ref (ad 15), .ref (ad 16)])) = E299 at hD hP
          have f301 : E299 0 = .inr (7, [.int 0, .int st, .int ic, .ref (ad 1), .ref (ad 2), .ref (ad 3), .ref (ad 4), .ref (ad 5), .ref (ad 6), .ref (ad 7), .ref (ad 8), .ref (ad 9), .int (nI cn), .ref (ad 10), .ref (ad 11), .ref (ad 12), .ref (ad 13), .ref (ad 14), .ref (ad 15), .ref (ad 16)]) := by rw [← g300]; exact va_up_self _ _ _
          have f302 : E299 1 = .inl (tc 0, 5, .inl (A 1)) := by rw [← g300, va_up_ne _ _ (by omega)]; exact m1
          have f303 : E299 2 = .inl (tc 0, 60, .inl (A 2)) := by rw [← g300, va_up_ne _ _ (by omega)]; exact m2
          have f304 : E299 3 = .inl (tc 0, 60, .inl (A 3)) := by rw [← g300, va_up_ne _ _ (by omega)]; exact m3
          have f305 : E299 4 = .inl (tc 0, 60, .inl (A 4)) := by rw [← g300, va_up_ne _ _ (by omega)]; exact m4
          have f306 : E299 5 = .inl (tc 0, 5, .inl (A 5)) := by rw [← g300, va_up_ne _ _ (by omega)]; exact m5
          have f307 : E299 6 = .inl (tc 0, 5, .inl (A 6)) := by rw [← g300, va_up_ne _ _ (by omega)]; exact m6
          have f308 : E299 7 = .inl (tc 0, 5, .inl (A 7)) := by rw [← g300, va_up_ne _ _ (by omega)]; exact m7
          have f309 : E299 8 = .inl (tc 0, 3, .inl (A 8)) := by rw [← g300, va_up_ne _ _ (by omega)]; exact m8
          have f310 : E299 9 = .inl (tc 0, 3, .inl (A 9)) := by rw [← g300, va_up_ne _ _ (by omega)]; exact m9
          have f311 : E299 10 = .inl (tc 0, 200, .inl (A 10)) := by rw [← g300, va_up_ne _ _ (by omega)]; exact m10
          have f312 : E299 11 = .inl (tc 0, 200, .inl (A 11)) := by rw [← g300, va_up_ne _ _ (by omega)]; exact m11
          have f313 : E299 12 = .inl (tc 0, 200, .inl (A 12)) := by rw [← g300, va_up_ne _ _ (by omega)]; exact m12
          have f314 : E299 13 = .inl (tc 2, 200, .inl (A 13)) := by rw [← g300, va_up_ne _ _ (by omega)]; exact m13
          have f315 : E299 15 = .inl (tc 0, 8, .inl (A 15)) := by rw [← g300, va_up_ne _ _ (by omega)]; exact m15
          have f316 : E299 16 = .inl (tc 0, 8, .inl (A 16)) := by rw [← g300, va_up_ne _ _ (by omega)]; exact m16
          have f317 : E299 14 = .inl (tc 1, 800, .inr (.inl J)) := by rw [← g300, va_up_ne _ _ (by omega)]; exact m14
          refine lv_iload_n hx hb dMD_step_123 rfl (lv_at hl 1 rfl) ?_
          refine lv_bipush (v := 10) hx hb dMD_step_124 (by decide) ?_
          refine lv_icmp_lt (tgt := 137) hx hb dMD_step_126 rfl (fun h126 => absurd h126 (by decide)) (fun h126 => ?_)
          refine lv_aload_n hx hb dMD_step_129 rfl (lv_at hl 3 rfl) ?_
          refine lv_iload_n hx hb dMD_step_130 rfl (lv_at hl 4 rfl) ?_
          refine lv_iload_n hx hb dMD_step_131 rfl (lv_at hl 2 rfl) ?_
          refine x_v (f := fun k => 0 + k) (x_runV (C := R_MD) (As := [.int (nI j), .int (nI (12 * j + k))]) (rest := []) X (g_MD_plain l D tc (fun k => ad (0 + k)) (fun k => E299 (0 + k)) 0 st ic cn A J j (12 * j + k) (by simpa only [Nat.zero_add] using (show isMD tc ad E299 0 st ic (nI cn) A J from ⟨f301, f302, f303, f304, f305, f306, f307, f308, f309, f310, f311, f312, f313, f314, f317, f315, f316⟩)) hj (by omega)) rfl rfl (by decide) (by decide) w_575 w_9 w_572 w_574 sel_MD_plain ry_MD_plain (x_recv X hP (by omega) (f301) rfl) (ct_pre X hP hD (fr_lt 17 17 0 (by omega)) (fr_inj 17 0)) ct_blind hl.1 (Nat.le_of_ble_eq_true rfl) dMD_step_132 ⟨Nat.zero_le _, Nat.zero_le _⟩) hD hP hS (fr_lt 17 17 0 (by omega)) (fr_inj 17 0) (fun o E1 h => h.1) (fun E318 H locs q321 hD hP hS => ?_)
          obtain ⟨-, q321r, q321n, q321v, q321m, q3211, q3212, q3213⟩ := q321
          generalize g319 : wU 17 (fun k => 0 + k) E299 E318 = E320 at hD hP
          refine lv_iconst (v := 2) hx hb dMD_step_135 (by decide) ?_
          exact q_iret X hlk hr hP hS dMD_step_136 ⟨_, 0, rfl, ic, cn, (va_up (va_up (va_up A 7 q321r) 6 (upd (A 6) j q321n)) 5 (upd (A 5) j q321v)), J, by rw [← g319]; exact isMD.back q321m, hc, q1, q2, stepA hj (q5 h18) q3211 q3212 (plainK hk hs12 (q1 j hj) ek o2 o4 (hnb h18) hj q3213)⟩
        · have eo : A 2 (12 * j + k) = 11 := eo
          rw [eo] at hl
          refine lv_iload_n hx hb dMD_step_64 rfl (lv_at hl 1 rfl) ?_
          refine lv_iconst (v := 3) hx hb dMD_step_65 (by decide) ?_
          refine lv_icmp_ne (tgt := 80) hx hb dMD_step_66 rfl (fun h66 => ?_) (fun h66 => absurd h66 (by decide))
          refine lv_iload_n hx hb dMD_step_80 rfl (lv_at hl 1 rfl) ?_
          refine lv_bipush (v := 6) hx hb dMD_step_81 (by decide) ?_
          refine lv_icmp_ne (tgt := 96) hx hb dMD_step_83 rfl (fun h83 => ?_) (fun h83 => absurd h83 (by decide))
          refine lv_iload_n hx hb dMD_step_96 rfl (lv_at hl 1 rfl) ?_
          refine lv_bipush (v := 7) hx hb dMD_step_97 (by decide) ?_
          refine lv_icmp_ne (tgt := 118) hx hb dMD_step_99 rfl (fun h99 => ?_) (fun h99 => absurd h99 (by decide))
          refine lv_aload_n hx hb dMD_step_118 rfl (lv_at hl 3 rfl) ?_
          refine lv_iconst (v := 0) hx hb dMD_step_119 (by decide) ?_
          refine p_MD_63 X hD hP hS (by omega) (m0) rfl rfl (Nat.le_of_ble_eq_true rfl) dMD_step_120 (fun H locs hD hP hS => ?_)
          have hP : va_P D vwCl (wW 17 ad (va_up E 0 (.inr (7, [.int 0, .int st, .int ic, .ref (ad 1), .ref (ad 2), .ref (ad 3), .ref (ad 4), .ref (ad 5), .ref (ad 6), .ref (ad 7), .ref (ad 8), .ref (ad 9), .int (nI cn), .ref (ad 10), .ref (ad 11), .ref (ad 12), .ref (ad 13), .ref (ad 14), .ref (ad 15), .ref (ad 16)])))) H := hP
          have hD : va_D (Aw 17 ad) (wW 17 ad (va_up E 0 (.inr (7, [.int 0, .int st, .int ic, .ref (ad 1), .ref (ad 2), .ref (ad 3), .ref (ad 4), .ref (ad 5), .ref (ad 6), .ref (ad 7), .ref (ad 8), .ref (ad 9), .int (nI cn), .ref (ad 10), .ref (ad 11), .ref (ad 12), .ref (ad 13), .ref (ad 14), .ref (ad 15), .ref (ad 16)])))) := hD
          generalize g323 : va_up E 0 (.inr (7, [.int 0, .int st, .int ic, .ref (ad 1), .ref (ad 2), .ref (ad 3), .ref (ad 4), .ref (ad 5), .ref (ad 6), .ref (ad 7), .ref (ad 8), .ref (ad 9), .int (nI cn), .ref (ad 10), .ref (ad 11), .ref (ad 12), .ref (ad 13), .ref (ad 14), .ref (ad 15), .ref (ad 16)])) = E322 at hD hP
          have f324 : E322 0 = .inr (7, [.int 0, .int st, .int ic, .ref (ad 1), .ref (ad 2), .ref (ad 3), .ref (ad 4), .ref (ad 5), .ref (ad 6), .ref (ad 7), .ref (ad 8), .ref (ad 9), .int (nI cn), .ref (ad 10), .ref (ad 11), .ref (ad 12), .ref (ad 13), .ref (ad 14), .ref (ad 15), .ref (ad 16)]) := by rw [← g323]; exact va_up_self _ _ _
          have f325 : E322 1 = .inl (tc 0, 5, .inl (A 1)) := by rw [← g323, va_up_ne _ _ (by omega)]; exact m1
          have f326 : E322 2 = .inl (tc 0, 60, .inl (A 2)) := by rw [← g323, va_up_ne _ _ (by omega)]; exact m2
          have f327 : E322 3 = .inl (tc 0, 60, .inl (A 3)) := by rw [← g323, va_up_ne _ _ (by omega)]; exact m3
          have f328 : E322 4 = .inl (tc 0, 60, .inl (A 4)) := by rw [← g323, va_up_ne _ _ (by omega)]; exact m4
          have f329 : E322 5 = .inl (tc 0, 5, .inl (A 5)) := by rw [← g323, va_up_ne _ _ (by omega)]; exact m5
          have f330 : E322 6 = .inl (tc 0, 5, .inl (A 6)) := by rw [← g323, va_up_ne _ _ (by omega)]; exact m6
          have f331 : E322 7 = .inl (tc 0, 5, .inl (A 7)) := by rw [← g323, va_up_ne _ _ (by omega)]; exact m7
          have f332 : E322 8 = .inl (tc 0, 3, .inl (A 8)) := by rw [← g323, va_up_ne _ _ (by omega)]; exact m8
          have f333 : E322 9 = .inl (tc 0, 3, .inl (A 9)) := by rw [← g323, va_up_ne _ _ (by omega)]; exact m9
          have f334 : E322 10 = .inl (tc 0, 200, .inl (A 10)) := by rw [← g323, va_up_ne _ _ (by omega)]; exact m10
          have f335 : E322 11 = .inl (tc 0, 200, .inl (A 11)) := by rw [← g323, va_up_ne _ _ (by omega)]; exact m11
          have f336 : E322 12 = .inl (tc 0, 200, .inl (A 12)) := by rw [← g323, va_up_ne _ _ (by omega)]; exact m12
          have f337 : E322 13 = .inl (tc 2, 200, .inl (A 13)) := by rw [← g323, va_up_ne _ _ (by omega)]; exact m13
          have f338 : E322 15 = .inl (tc 0, 8, .inl (A 15)) := by rw [← g323, va_up_ne _ _ (by omega)]; exact m15
          have f339 : E322 16 = .inl (tc 0, 8, .inl (A 16)) := by rw [← g323, va_up_ne _ _ (by omega)]; exact m16
          have f340 : E322 14 = .inl (tc 1, 800, .inr (.inl J)) := by rw [← g323, va_up_ne _ _ (by omega)]; exact m14
          refine lv_iload_n hx hb dMD_step_123 rfl (lv_at hl 1 rfl) ?_
          refine lv_bipush (v := 10) hx hb dMD_step_124 (by decide) ?_
          refine lv_icmp_lt (tgt := 137) hx hb dMD_step_126 rfl (fun h126 => absurd h126 (by decide)) (fun h126 => ?_)
          refine lv_aload_n hx hb dMD_step_129 rfl (lv_at hl 3 rfl) ?_
          refine lv_iload_n hx hb dMD_step_130 rfl (lv_at hl 4 rfl) ?_
          refine lv_iload_n hx hb dMD_step_131 rfl (lv_at hl 2 rfl) ?_
          refine x_v (f := fun k => 0 + k) (x_runV (C := R_MD) (As := [.int (nI j), .int (nI (12 * j + k))]) (rest := []) X (g_MD_plain l D tc (fun k => ad (0 + k)) (fun k => E322 (0 + k)) 0 st ic cn A J j (12 * j + k) (by simpa only [Nat.zero_add] using (show isMD tc ad E322 0 st ic (nI cn) A J from ⟨f324, f325, f326, f327, f328, f329, f330, f331, f332, f333, f334, f335, f336, f337, f340, f338, f339⟩)) hj (by omega)) rfl rfl (by decide) (by decide) w_575 w_9 w_572 w_574 sel_MD_plain ry_MD_plain (x_recv X hP (by omega) (f324) rfl) (ct_pre X hP hD (fr_lt 17 17 0 (by omega)) (fr_inj 17 0)) ct_blind hl.1 (Nat.le_of_ble_eq_true rfl) dMD_step_132 ⟨Nat.zero_le _, Nat.zero_le _⟩) hD hP hS (fr_lt 17 17 0 (by omega)) (fr_inj 17 0) (fun o E1 h => h.1) (fun E341 H locs q344 hD hP hS => ?_)
          obtain ⟨-, q344r, q344n, q344v, q344m, q3441, q3442, q3443⟩ := q344
          generalize g342 : wU 17 (fun k => 0 + k) E322 E341 = E343 at hD hP
          refine lv_iconst (v := 2) hx hb dMD_step_135 (by decide) ?_
          exact q_iret X hlk hr hP hS dMD_step_136 ⟨_, 0, rfl, ic, cn, (va_up (va_up (va_up A 7 q344r) 6 (upd (A 6) j q344n)) 5 (upd (A 5) j q344v)), J, by rw [← g342]; exact isMD.back q344m, hc, q1, q2, stepA hj (q5 h18) q3441 q3442 (plainK hk hs12 (q1 j hj) ek o2 o4 (hnb h18) hj q3443)⟩
        · have eo : A 2 (12 * j + k) = 12 := eo
          rw [eo] at hl
          refine lv_iload_n hx hb dMD_step_64 rfl (lv_at hl 1 rfl) ?_
          refine lv_iconst (v := 3) hx hb dMD_step_65 (by decide) ?_
          refine lv_icmp_ne (tgt := 80) hx hb dMD_step_66 rfl (fun h66 => ?_) (fun h66 => absurd h66 (by decide))
          refine lv_iload_n hx hb dMD_step_80 rfl (lv_at hl 1 rfl) ?_
          refine lv_bipush (v := 6) hx hb dMD_step_81 (by decide) ?_
          refine lv_icmp_ne (tgt := 96) hx hb dMD_step_83 rfl (fun h83 => ?_) (fun h83 => absurd h83 (by decide))
          refine lv_iload_n hx hb dMD_step_96 rfl (lv_at hl 1 rfl) ?_
          refine lv_bipush (v := 7) hx hb dMD_step_97 (by decide) ?_
          refine lv_icmp_ne (tgt := 118) hx hb dMD_step_99 rfl (fun h99 => ?_) (fun h99 => absurd h99 (by decide))
          refine lv_aload_n hx hb dMD_step_118 rfl (lv_at hl 3 rfl) ?_
          refine lv_iconst (v := 0) hx hb dMD_step_119 (by decide) ?_
          refine p_MD_63 X hD hP hS (by omega) (m0) rfl rfl (Nat.le_of_ble_eq_true rfl) dMD_step_120 (fun H locs hD hP hS => ?_)
          have hP : va_P D vwCl (wW 17 ad (va_up E 0 (.inr (7, [.int 0, .int st, .int ic, .ref (ad 1), .ref (ad 2), .ref (ad 3), .ref (ad 4), .ref (ad 5), .ref (ad 6), .ref (ad 7), .ref (ad 8), .ref (ad 9), .int (nI cn), .ref (ad 10), .ref (ad 11), .ref (ad 12), .ref (ad 13), .ref (ad 14), .ref (ad 15), .ref (ad 16)])))) H := hP
          have hD : va_D (Aw 17 ad) (wW 17 ad (va_up E 0 (.inr (7, [.int 0, .int st, .int ic, .ref (ad 1), .ref (ad 2), .ref (ad 3), .ref (ad 4), .ref (ad 5), .ref (ad 6), .ref (ad 7), .ref (ad 8), .ref (ad 9), .int (nI cn), .ref (ad 10), .ref (ad 11), .ref (ad 12), .ref (ad 13), .ref (ad 14), .ref (ad 15), .ref (ad 16)])))) := hD
          generalize g346 : va_up E 0 (.inr (7, [.int 0, .int st, .int ic, .ref (ad 1), .ref (ad 2), .ref (ad 3), .ref (ad 4), .ref (ad 5), .ref (ad 6), .ref (ad 7), .ref (ad 8), .ref (ad 9), .int (nI cn), .ref (ad 10), .ref (ad 11), .ref (ad 12), .ref (ad 13), .ref (ad 14), .ref (ad 15), .ref (ad 16)])) = E345 at hD hP
          have f347 : E345 0 = .inr (7, [.int 0, .int st, .int ic, .ref (ad 1), .ref (ad 2), .ref (ad 3), .ref (ad 4), .ref (ad 5), .ref (ad 6), .ref (ad 7), .ref (ad 8), .ref (ad 9), .int (nI cn), .ref (ad 10), .ref (ad 11), .ref (ad 12), .ref (ad 13), .ref (ad 14), .ref (ad 15), .ref (ad 16)]) := by rw [← g346]; exact va_up_self _ _ _
          have f348 : E345 1 = .inl (tc 0, 5, .inl (A 1)) := by rw [← g346, va_up_ne _ _ (by omega)]; exact m1
          have f349 : E345 2 = .inl (tc 0, 60, .inl (A 2)) := by rw [← g346, va_up_ne _ _ (by omega)]; exact m2
          have f350 : E345 3 = .inl (tc 0, 60, .inl (A 3)) := by rw [← g346, va_up_ne _ _ (by omega)]; exact m3
          have f351 : E345 4 = .inl (tc 0, 60, .inl (A 4)) := by rw [← g346, va_up_ne _ _ (by omega)]; exact m4
          have f352 : E345 5 = .inl (tc 0, 5, .inl (A 5)) := by rw [← g346, va_up_ne _ _ (by omega)]; exact m5
          have f353 : E345 6 = .inl (tc 0, 5, .inl (A 6)) := by rw [← g346, va_up_ne _ _ (by omega)]; exact m6
          have f354 : E345 7 = .inl (tc 0, 5, .inl (A 7)) := by rw [← g346, va_up_ne _ _ (by omega)]; exact m7
          have f355 : E345 8 = .inl (tc 0, 3, .inl (A 8)) := by rw [← g346, va_up_ne _ _ (by omega)]; exact m8
          have f356 : E345 9 = .inl (tc 0, 3, .inl (A 9)) := by rw [← g346, va_up_ne _ _ (by omega)]; exact m9
          have f357 : E345 10 = .inl (tc 0, 200, .inl (A 10)) := by rw [← g346, va_up_ne _ _ (by omega)]; exact m10
          have f358 : E345 11 = .inl (tc 0, 200, .inl (A 11)) := by rw [← g346, va_up_ne _ _ (by omega)]; exact m11
          have f359 : E345 12 = .inl (tc 0, 200, .inl (A 12)) := by rw [← g346, va_up_ne _ _ (by omega)]; exact m12
          have f360 : E345 13 = .inl (tc 2, 200, .inl (A 13)) := by rw [← g346, va_up_ne _ _ (by omega)]; exact m13
          have f361 : E345 15 = .inl (tc 0, 8, .inl (A 15)) := by rw [← g346, va_up_ne _ _ (by omega)]; exact m15
          have f362 : E345 16 = .inl (tc 0, 8, .inl (A 16)) := by rw [← g346, va_up_ne _ _ (by omega)]; exact m16
          have f363 : E345 14 = .inl (tc 1, 800, .inr (.inl J)) := by rw [← g346, va_up_ne _ _ (by omega)]; exact m14
          refine lv_iload_n hx hb dMD_step_123 rfl (lv_at hl 1 rfl) ?_
          refine lv_bipush (v := 10) hx hb dMD_step_124 (by decide) ?_
          refine lv_icmp_lt (tgt := 137) hx hb dMD_step_126 rfl (fun h126 => absurd h126 (by decide)) (fun h126 => ?_)
          refine lv_aload_n hx hb dMD_step_129 rfl (lv_at hl 3 rfl) ?_
          refine lv_iload_n hx hb dMD_step_130 rfl (lv_at hl 4 rfl) ?_
          refine lv_iload_n hx hb dMD_step_131 rfl (lv_at hl 2 rfl) ?_
          refine x_v (f := fun k => 0 + k) (x_runV (C := R_MD) (As := [.int (nI j), .int (nI (12 * j + k))]) (rest := []) X (g_MD_plain l D tc (fun k => ad (0 + k)) (fun k => E345 (0 + k)) 0 st ic cn A J j (12 * j + k) (by simpa only [Nat.zero_add] using (show isMD tc ad E345 0 st ic (nI cn) A J from ⟨f347, f348, f349, f350, f351, f352, f353, f354, f355, f356, f357, f358, f359, f360, f363, f361, f362⟩)) hj (by omega)) rfl rfl (by decide) (by decide) w_575 w_9 w_572 w_574 sel_MD_plain ry_MD_plain (x_recv X hP (by omega) (f347) rfl) (ct_pre X hP hD (fr_lt 17 17 0 (by omega)) (fr_inj 17 0)) ct_blind hl.1 (Nat.le_of_ble_eq_true rfl) dMD_step_132 ⟨Nat.zero_le _, Nat.zero_le _⟩) hD hP hS (fr_lt 17 17 0 (by omega)) (fr_inj 17 0) (fun o E1 h => h.1) (fun E364 H locs q367 hD hP hS => ?_)
          obtain ⟨-, q367r, q367n, q367v, q367m, q3671, q3672, q3673⟩ := q367
          generalize g365 : wU 17 (fun k => 0 + k) E345 E364 = E366 at hD hP
          refine lv_iconst (v := 2) hx hb dMD_step_135 (by decide) ?_
          exact q_iret X hlk hr hP hS dMD_step_136 ⟨_, 0, rfl, ic, cn, (va_up (va_up (va_up A 7 q367r) 6 (upd (A 6) j q367n)) 5 (upd (A 5) j q367v)), J, by rw [← g365]; exact isMD.back q367m, hc, q1, q2, stepA hj (q5 h18) q3671 q3672 (plainK hk hs12 (q1 j hj) ek o2 o4 (hnb h18) hj q3673)⟩
      · refine lv_aload_n hx hb dMD_step_31 rfl (lv_at hl 0 rfl) ?_
        refine lv_iconst (v := 2) hx hb dMD_step_32 (by decide) ?_
        refine x_i (f := fun k => 0 + k) (x_runV (C := R_MD) (As := [.int 2]) (rest := []) X (c_MD_raise l D tc (fun k => ad (0 + k)) (fun k => E (0 + k)) th st ic (nI cn) A J 2 (by simpa only [Nat.zero_add] using hM0)) rfl rfl (by decide) (by decide) w_563 w_9 w_560 w_562 sel_MD_raise ry_MD_raise (x_recv X hP (by omega) (m0) rfl) (ct_pre X hP hD (fr_lt 17 17 0 (by omega)) (fr_inj 17 0)) ct_blind hl.1 (Nat.le_of_ble_eq_true rfl) dMD_step_33 ⟨Nat.zero_le _, Nat.zero_le _⟩) hD hP hS (fr_lt 17 17 0 (by omega)) (fr_inj 17 0) (fun o E1 h => ⟨_, h.1⟩) (fun r372 E368 H locs q371 hD hP hS => ?_)
        obtain ⟨-, q371m⟩ := q371
        generalize g369 : wU 17 (fun k => 0 + k) E E368 = E370 at hD hP
        exact q_iret X hlk hr hP hS dMD_step_36 ⟨_, 2, rfl, ic, cn, A, J, by rw [← g369]; exact isMD.back q371m, hc, q1, q2, q5⟩
  · refine lv_aload_n hx hb dMD_step_8 rfl (lv_at hl 0 rfl) ?_
    refine lv_iconst (v := 1) hx hb dMD_step_9 (by decide) ?_
    refine x_i (f := fun k => 0 + k) (x_runV (C := R_MD) (As := [.int 1]) (rest := []) X (c_MD_raise l D tc (fun k => ad (0 + k)) (fun k => E (0 + k)) th st ic (nI cn) A J 1 (by simpa only [Nat.zero_add] using hM0)) rfl rfl (by decide) (by decide) w_563 w_9 w_560 w_562 sel_MD_raise ry_MD_raise (x_recv X hP (by omega) (m0) rfl) (ct_pre X hP hD (fr_lt 17 17 0 (by omega)) (fr_inj 17 0)) ct_blind hl.1 (Nat.le_of_ble_eq_true rfl) dMD_step_10 ⟨Nat.zero_le _, Nat.zero_le _⟩) hD hP hS (fr_lt 17 17 0 (by omega)) (fr_inj 17 0) (fun o E1 h => ⟨_, h.1⟩) (fun r377 E373 H locs q376 hD hP hS => ?_)
    obtain ⟨-, q376m⟩ := q376
    generalize g374 : wU 17 (fun k => 0 + k) E E373 = E375 at hD hP
    exact q_iret X hlk hr hP hS dMD_step_13 ⟨_, 1, rfl, ic, cn, A, J, by rw [← g374]; exact isMD.back q376m, hc, q1, q2, q5⟩
