theorem dPG_isBad_0 : decode cPG_isBad 0 = .ok (.iconst 0, 1) := by decide +kernel
theorem dPG_isBad_1 : decode cPG_isBad 1 = .ok (.istore_n 2, 1) := by decide +kernel
theorem dPG_isBad_2 : decode cPG_isBad 2 = .ok (.iload_n 2, 1) := by decide +kernel
theorem dPG_isBad_3 : decode cPG_isBad 3 = .ok (.aload_n 0, 1) := by decide +kernel
theorem dPG_isBad_4 : decode cPG_isBad 4 = .ok (.getfield 21, 3) := by decide +kernel
theorem dPG_isBad_7 : decode cPG_isBad 7 = .ok (.if_icmp .ge 84, 3) := by decide +kernel
theorem dPG_isBad_10 : decode cPG_isBad 10 = .ok (.aload_n 0, 1) := by decide +kernel
theorem dPG_isBad_11 : decode cPG_isBad 11 = .ok (.getfield 9, 3) := by decide +kernel
theorem dPG_isBad_14 : decode cPG_isBad 14 = .ok (.iload_n 2, 1) := by decide +kernel
theorem dPG_isBad_15 : decode cPG_isBad 15 = .ok (.iaload, 1) := by decide +kernel
theorem dPG_isBad_16 : decode cPG_isBad 16 = .ok (.bipush 12, 2) := by decide +kernel
theorem dPG_isBad_18 : decode cPG_isBad 18 = .ok (.if_icmp .ne 24, 3) := by decide +kernel
theorem dPG_isBad_21 : decode cPG_isBad 21 = .ok (.aload_n 0, 1) := by decide +kernel
theorem dPG_isBad_22 : decode cPG_isBad 22 = .ok (.getfield 18, 3) := by decide +kernel
theorem dPG_isBad_25 : decode cPG_isBad 25 = .ok (.iload_n 2, 1) := by decide +kernel
theorem dPG_isBad_26 : decode cPG_isBad 26 = .ok (.iaload, 1) := by decide +kernel
theorem dPG_isBad_27 : decode cPG_isBad 27 = .ok (.ifCond .lt 13, 3) := by decide +kernel
theorem dPG_isBad_30 : decode cPG_isBad 30 = .ok (.aload_n 0, 1) := by decide +kernel
theorem dPG_isBad_31 : decode cPG_isBad 31 = .ok (.getfield 18, 3) := by decide +kernel
theorem dPG_isBad_34 : decode cPG_isBad 34 = .ok (.iload_n 2, 1) := by decide +kernel
theorem dPG_isBad_35 : decode cPG_isBad 35 = .ok (.iaload, 1) := by decide +kernel
theorem dPG_isBad_36 : decode cPG_isBad 36 = .ok (.iload_n 2, 1) := by decide +kernel
theorem dPG_isBad_37 : decode cPG_isBad 37 = .ok (.if_icmp .lt 5, 3) := by decide +kernel
theorem dPG_isBad_40 : decode cPG_isBad 40 = .ok (.iconst 1, 1) := by decide +kernel
theorem dPG_isBad_41 : decode cPG_isBad 41 = .ok (.ireturn, 1) := by decide +kernel
theorem dPG_isBad_42 : decode cPG_isBad 42 = .ok (.aload_n 0, 1) := by decide +kernel
theorem dPG_isBad_43 : decode cPG_isBad 43 = .ok (.getfield 9, 3) := by decide +kernel
theorem dPG_isBad_46 : decode cPG_isBad 46 = .ok (.iload_n 2, 1) := by decide +kernel
theorem dPG_isBad_47 : decode cPG_isBad 47 = .ok (.iaload, 1) := by decide +kernel
theorem dPG_isBad_48 : decode cPG_isBad 48 = .ok (.bipush 6, 2) := by decide +kernel
theorem dPG_isBad_50 : decode cPG_isBad 50 = .ok (.if_icmp .eq 14, 3) := by decide +kernel
theorem dPG_isBad_53 : decode cPG_isBad 53 = .ok (.aload_n 0, 1) := by decide +kernel
theorem dPG_isBad_54 : decode cPG_isBad 54 = .ok (.getfield 9, 3) := by decide +kernel
theorem dPG_isBad_57 : decode cPG_isBad 57 = .ok (.iload_n 2, 1) := by decide +kernel
theorem dPG_isBad_58 : decode cPG_isBad 58 = .ok (.iaload, 1) := by decide +kernel
theorem dPG_isBad_59 : decode cPG_isBad 59 = .ok (.bipush 7, 2) := by decide +kernel
theorem dPG_isBad_61 : decode cPG_isBad 61 = .ok (.if_icmp .ne 24, 3) := by decide +kernel
theorem dPG_isBad_64 : decode cPG_isBad 64 = .ok (.aload_n 0, 1) := by decide +kernel
theorem dPG_isBad_65 : decode cPG_isBad 65 = .ok (.getfield 15, 3) := by decide +kernel
theorem dPG_isBad_68 : decode cPG_isBad 68 = .ok (.iload_n 2, 1) := by decide +kernel
theorem dPG_isBad_69 : decode cPG_isBad 69 = .ok (.iaload, 1) := by decide +kernel
theorem dPG_isBad_70 : decode cPG_isBad 70 = .ok (.iload_n 1, 1) := by decide +kernel
theorem dPG_isBad_71 : decode cPG_isBad 71 = .ok (.if_icmp .eq 12, 3) := by decide +kernel
theorem dPG_isBad_74 : decode cPG_isBad 74 = .ok (.aload_n 0, 1) := by decide +kernel
theorem dPG_isBad_75 : decode cPG_isBad 75 = .ok (.getfield 15, 3) := by decide +kernel
theorem dPG_isBad_78 : decode cPG_isBad 78 = .ok (.iload_n 2, 1) := by decide +kernel
theorem dPG_isBad_79 : decode cPG_isBad 79 = .ok (.iaload, 1) := by decide +kernel
theorem dPG_isBad_80 : decode cPG_isBad 80 = .ok (.ifCond .ne 5, 3) := by decide +kernel
theorem dPG_isBad_83 : decode cPG_isBad 83 = .ok (.iconst 1, 1) := by decide +kernel
theorem dPG_isBad_84 : decode cPG_isBad 84 = .ok (.ireturn, 1) := by decide +kernel
theorem dPG_isBad_85 : decode cPG_isBad 85 = .ok (.iinc 2 1, 3) := by decide +kernel
theorem dPG_isBad_88 : decode cPG_isBad 88 = .ok (.goto (-86), 3) := by decide +kernel
theorem dPG_isBad_91 : decode cPG_isBad 91 = .ok (.iconst 0, 1) := by decide +kernel
theorem dPG_isBad_92 : decode cPG_isBad 92 = .ok (.ireturn, 1) := by decide +kernel
theorem dRW_areBad_0 : decode cRW_areBad 0 = .ok (.iconst 0, 1) := by decide +kernel
theorem dRW_areBad_1 : decode cRW_areBad 1 = .ok (.istore_n 1, 1) := by decide +kernel
theorem dRW_areBad_2 : decode cRW_areBad 2 = .ok (.iload_n 1, 1) := by decide +kernel
theorem dRW_areBad_3 : decode cRW_areBad 3 = .ok (.iconst 5, 1) := by decide +kernel
theorem dRW_areBad_4 : decode cRW_areBad 4 = .ok (.if_icmp .ge 24, 3) := by decide +kernel
theorem dRW_areBad_7 : decode cRW_areBad 7 = .ok (.aload_n 0, 1) := by decide +kernel
theorem dRW_areBad_8 : decode cRW_areBad 8 = .ok (.getfield 11, 3) := by decide +kernel
theorem dRW_areBad_11 : decode cRW_areBad 11 = .ok (.iload_n 1, 1) := by decide +kernel
theorem dRW_areBad_12 : decode cRW_areBad 12 = .ok (.aaload, 1) := by decide +kernel
theorem dRW_areBad_13 : decode cRW_areBad 13 = .ok (.iload_n 1, 1) := by decide +kernel
theorem dRW_areBad_14 : decode cRW_areBad 14 = .ok (.invokevirtual 193, 3) := by decide +kernel
theorem dRW_areBad_17 : decode cRW_areBad 17 = .ok (.ifCond .eq 5, 3) := by decide +kernel
theorem dRW_areBad_20 : decode cRW_areBad 20 = .ok (.iconst 1, 1) := by decide +kernel
theorem dRW_areBad_21 : decode cRW_areBad 21 = .ok (.ireturn, 1) := by decide +kernel
theorem dRW_areBad_22 : decode cRW_areBad 22 = .ok (.iinc 1 1, 3) := by decide +kernel
theorem dRW_areBad_25 : decode cRW_areBad 25 = .ok (.goto (-23), 3) := by decide +kernel
theorem dRW_areBad_28 : decode cRW_areBad 28 = .ok (.aload_n 0, 1) := by decide +kernel
theorem dRW_areBad_29 : decode cRW_areBad 29 = .ok (.getfield 11, 3) := by decide +kernel
theorem dRW_areBad_32 : decode cRW_areBad 32 = .ok (.iconst 0, 1) := by decide +kernel
theorem dRW_areBad_33 : decode cRW_areBad 33 = .ok (.aaload, 1) := by decide +kernel
theorem dRW_areBad_34 : decode cRW_areBad 34 = .ok (.getfield 196, 3) := by decide +kernel
theorem dRW_areBad_37 : decode cRW_areBad 37 = .ok (.ifCond .ne 7, 3) := by decide +kernel
theorem dRW_areBad_40 : decode cRW_areBad 40 = .ok (.iconst 1, 1) := by decide +kernel
theorem dRW_areBad_41 : decode cRW_areBad 41 = .ok (.goto 4, 3) := by decide +kernel
theorem dRW_areBad_44 : decode cRW_areBad 44 = .ok (.iconst 0, 1) := by decide +kernel
theorem dRW_areBad_45 : decode cRW_areBad 45 = .ok (.ireturn, 1) := by decide +kernel
set_option maxHeartbeats 4000000 in
set_option maxRecDepth 100000 in
theorem c_PG_isBad (l : Launch) (D : va_G) (tc : Nat → ClassId) (ad : Nat → Nat) (E : Nat → va_E) (sz : Nat) (fo fa fb : Nat → Int32) (ow : Int32) (h0 : E 0 = .inr (2, [.ref (ad 1), .ref (ad 2), .ref (ad 3), .int (nI sz)])) (h1 : E 1 = .inl (tc 0, 12, .inl fo)) (h2 : E 2 = .inl (tc 0, 12, .inl fa)) (h3 : E 3 = .inl (tc 0, 12, .inl fb)) (hs : sz ≤ 12) : Ct l D tc yPG_isBad 0 4 ad E [.ref (ad 0), .int ow] (fun o E2 => o = .returned (some (.int (bi (pgBad ow sz fo fa fb)))) ∧ E2 = E) := by
  refine Ct.ofW (cc := cPG_isBad) (maxL := 3) (ret := (some .boolean)) (own := R_PG) (by decide) rfl w_338 (Nat.le_of_ble_eq_true rfl) ?_
  intro p e s m args below meth c ls X hlk hr hD hP hS hl
  have hx := X.1
  have hb := X.2.1
  have hl : lv_has ls 3 [(0, .ref (ad 0)), (1, .int ow)] := hl
  refine lv_iconst (v := 0) hx hb dPG_isBad_0 (by decide) ?_
  refine lv_istore_n hx hb dPG_isBad_1 rfl hl (by decide) rfl (fun ls hl => ?_)
  have hl : lv_has ls 3 [(2, .int 0), (0, .ref (ad 0)), (1, .int ow)] := hl
  have loop : ∀ (r i : Nat)  (H : Heap) (locs : List Loc) (ls : Array Slot), i + r = sz → (∀ j, j < i → badI ow j (fo j) (fa j) (fb j) = false) → va_D (Aw 4 ad) (wW 4 ad E) → va_P D vwCl (wW 4 ad E) H → va_S (Aw 4 ad) s.heap H locs → lv_has ls 3 [(2, .int (nI i)), (0, .ref (ad 0)), (1, .int ow)] → W p l e (rmD 0) s m args below meth c H locs 0 0 (XQ below (CtQ D 4 ad (fun o E2 => o = .returned (some (.int (bi (pgBad ow sz fo fa fb)))) ∧ E2 = E)) args s 0 0 (Aw 4 ad)) (F0 m 2 ls []) := by
    intro r
    induction r with
    | zero =>
      intro i  H locs ls hi hg hD hP hS hl
      refine lv_iload_n hx hb dPG_isBad_2 rfl (lv_at hl 0 rfl) ?_
      refine lv_aload_n hx hb dPG_isBad_3 rfl (lv_at hl 1 rfl) ?_
      refine g_PG_21 X hP (by omega) (h0) rfl dPG_isBad_4 ?_
      refine lv_icmp_ge (tgt := 91) hx hb dPG_isBad_7 rfl (fun h7 => ?_) (fun h7 => absurd (nI_le (by omega) (by omega)) h7)
      refine lv_iconst (v := 0) hx hb dPG_isBad_91 (by decide) ?_
      exact q_zret X hlk hr (by decide) hP hS dPG_isBad_92 ⟨by rw [show pgBad ow sz fo fa fb = false from any_f (fun j hj => hg j (by omega))]; rfl, rfl⟩
    | succ r ih =>
      intro i  H locs ls hi hg hD hP hS hl
      refine lv_iload_n hx hb dPG_isBad_2 rfl (lv_at hl 0 rfl) ?_
      refine lv_aload_n hx hb dPG_isBad_3 rfl (lv_at hl 1 rfl) ?_
      refine g_PG_21 X hP (by omega) (h0) rfl dPG_isBad_4 ?_
      refine lv_icmp_ge (tgt := 91) hx hb dPG_isBad_7 rfl (fun h7 => absurd h7 (nI_ge (by omega) (by omega))) (fun h7 => ?_)
      refine lv_aload_n hx hb dPG_isBad_10 rfl (lv_at hl 1 rfl) ?_
      refine g_PG_9 X hP (by omega) (h0) rfl dPG_isBad_11 ?_
      refine lv_iload_n hx hb dPG_isBad_14 rfl (lv_at hl 0 rfl) ?_
      refine q_iald i X hP (by omega) (h1) (rfl) (by omega) (by decide) dPG_isBad_15 ?_
      refine lv_bipush (v := 12) hx hb dPG_isBad_16 (by decide) ?_
      refine lv_icmp_ne (tgt := 42) hx hb dPG_isBad_18 rfl (fun h18 => ?_) (fun h18 => ?_)
      · refine lv_aload_n hx hb dPG_isBad_42 rfl (lv_at hl 1 rfl) ?_
        refine g_PG_9 X hP (by omega) (h0) rfl dPG_isBad_43 ?_
        refine lv_iload_n hx hb dPG_isBad_46 rfl (lv_at hl 0 rfl) ?_
        refine q_iald i X hP (by omega) (h1) (rfl) (by omega) (by decide) dPG_isBad_47 ?_
        refine lv_bipush (v := 6) hx hb dPG_isBad_48 (by decide) ?_
        refine lv_icmp_eq (tgt := 64) hx hb dPG_isBad_50 rfl (fun h50 => ?_) (fun h50 => ?_)
        · refine lv_aload_n hx hb dPG_isBad_64 rfl (lv_at hl 1 rfl) ?_
          refine g_PG_15 X hP (by omega) (h0) rfl dPG_isBad_65 ?_
          refine lv_iload_n hx hb dPG_isBad_68 rfl (lv_at hl 0 rfl) ?_
          refine q_iald i X hP (by omega) (h2) (rfl) (by omega) (by decide) dPG_isBad_69 ?_
          refine lv_iload_n hx hb dPG_isBad_70 rfl (lv_at hl 2 rfl) ?_
          refine lv_icmp_eq (tgt := 83) hx hb dPG_isBad_71 rfl (fun h71 => ?_) (fun h71 => ?_)
          · refine lv_iconst (v := 1) hx hb dPG_isBad_83 (by decide) ?_
            exact q_zret X hlk hr (by decide) hP hS dPG_isBad_84 ⟨by rw [show pgBad ow sz fo fa fb = true from any_t (i := i) (by omega) (bad_2 (Or.inl h50) (Or.inl h71))]; rfl, rfl⟩
          · refine lv_aload_n hx hb dPG_isBad_74 rfl (lv_at hl 1 rfl) ?_
            refine g_PG_15 X hP (by omega) (h0) rfl dPG_isBad_75 ?_
            refine lv_iload_n hx hb dPG_isBad_78 rfl (lv_at hl 0 rfl) ?_
            refine q_iald i X hP (by omega) (h2) (rfl) (by omega) (by decide) dPG_isBad_79 ?_
            refine lv_if_ne (tgt := 85) hx hb dPG_isBad_80 rfl (fun h80 => ?_) (fun h80 => ?_)
            · refine lv_iinc (k := 0) (v := nI (i + 1)) hx hb dPG_isBad_85 hl rfl (nI_1 i) (by decide) rfl (fun ls hl => ?_)
              have hl : lv_has ls 3 [(2, .int (nI (i + 1))), (0, .ref (ad 0)), (1, .int ow)] := hl
              refine lv_goto (tgt := 2) hx hb dPG_isBad_88 rfl ?_
              exact ih (i + 1) _ _ _ (by omega) (fun j hj => by by_cases h : j = i; (· subst h; exact bad_n (fun h => absurd h h18) (fun _ => ⟨h71, h80⟩)); (· exact hg j (by omega))) hD hP hS hl
            · refine lv_iconst (v := 1) hx hb dPG_isBad_83 (by decide) ?_
              exact q_zret X hlk hr (by decide) hP hS dPG_isBad_84 ⟨by rw [show pgBad ow sz fo fa fb = true from any_t (i := i) (by omega) (bad_2 (Or.inl h50) (Or.inr h80))]; rfl, rfl⟩
        · refine lv_aload_n hx hb dPG_isBad_53 rfl (lv_at hl 1 rfl) ?_
          refine g_PG_9 X hP (by omega) (h0) rfl dPG_isBad_54 ?_
          refine lv_iload_n hx hb dPG_isBad_57 rfl (lv_at hl 0 rfl) ?_
          refine q_iald i X hP (by omega) (h1) (rfl) (by omega) (by decide) dPG_isBad_58 ?_
          refine lv_bipush (v := 7) hx hb dPG_isBad_59 (by decide) ?_
          refine lv_icmp_ne (tgt := 85) hx hb dPG_isBad_61 rfl (fun h61 => ?_) (fun h61 => ?_)
          · refine lv_iinc (k := 0) (v := nI (i + 1)) hx hb dPG_isBad_85 hl rfl (nI_1 i) (by decide) rfl (fun ls hl => ?_)
            have hl : lv_has ls 3 [(2, .int (nI (i + 1))), (0, .ref (ad 0)), (1, .int ow)] := hl
            refine lv_goto (tgt := 2) hx hb dPG_isBad_88 rfl ?_
            exact ih (i + 1) _ _ _ (by omega) (fun j hj => by by_cases h : j = i; (· subst h; exact bad_n (fun h => absurd h h18) (fun h => h.elim (fun q => absurd q h50) (fun q => absurd q h61))); (· exact hg j (by omega))) hD hP hS hl
          · refine lv_aload_n hx hb dPG_isBad_64 rfl (lv_at hl 1 rfl) ?_
            refine g_PG_15 X hP (by omega) (h0) rfl dPG_isBad_65 ?_
            refine lv_iload_n hx hb dPG_isBad_68 rfl (lv_at hl 0 rfl) ?_
            refine q_iald i X hP (by omega) (h2) (rfl) (by omega) (by decide) dPG_isBad_69 ?_
            refine lv_iload_n hx hb dPG_isBad_70 rfl (lv_at hl 2 rfl) ?_
            refine lv_icmp_eq (tgt := 83) hx hb dPG_isBad_71 rfl (fun h71 => ?_) (fun h71 => ?_)
            · refine lv_iconst (v := 1) hx hb dPG_isBad_83 (by decide) ?_
              exact q_zret X hlk hr (by decide) hP hS dPG_isBad_84 ⟨by rw [show pgBad ow sz fo fa fb = true from any_t (i := i) (by omega) (bad_2 (Or.inr h61) (Or.inl h71))]; rfl, rfl⟩
            · refine lv_aload_n hx hb dPG_isBad_74 rfl (lv_at hl 1 rfl) ?_
              refine g_PG_15 X hP (by omega) (h0) rfl dPG_isBad_75 ?_
              refine lv_iload_n hx hb dPG_isBad_78 rfl (lv_at hl 0 rfl) ?_
              refine q_iald i X hP (by omega) (h2) (rfl) (by omega) (by decide) dPG_isBad_79 ?_
              refine lv_if_ne (tgt := 85) hx hb dPG_isBad_80 rfl (fun h80 => ?_) (fun h80 => ?_)
              · refine lv_iinc (k := 0) (v := nI (i + 1)) hx hb dPG_isBad_85 hl rfl (nI_1 i) (by decide) rfl (fun ls hl => ?_)
                have hl : lv_has ls 3 [(2, .int (nI (i + 1))), (0, .ref (ad 0)), (1, .int ow)] := hl
                refine lv_goto (tgt := 2) hx hb dPG_isBad_88 rfl ?_
                exact ih (i + 1) _ _ _ (by omega) (fun j hj => by by_cases h : j = i; (· subst h; exact bad_n (fun h => absurd h h18) (fun _ => ⟨h71, h80⟩)); (· exact hg j (by omega))) hD hP hS hl
              · refine lv_iconst (v := 1) hx hb dPG_isBad_83 (by decide) ?_
                exact q_zret X hlk hr (by decide) hP hS dPG_isBad_84 ⟨by rw [show pgBad ow sz fo fa fb = true from any_t (i := i) (by omega) (bad_2 (Or.inr h61) (Or.inr h80))]; rfl, rfl⟩
      · refine lv_aload_n hx hb dPG_isBad_21 rfl (lv_at hl 1 rfl) ?_
        refine g_PG_18 X hP (by omega) (h0) rfl dPG_isBad_22 ?_
        refine lv_iload_n hx hb dPG_isBad_25 rfl (lv_at hl 0 rfl) ?_
        refine q_iald i X hP (by omega) (h3) (rfl) (by omega) (by decide) dPG_isBad_26 ?_
        refine lv_if_lt (tgt := 40) hx hb dPG_isBad_27 rfl (fun h27 => ?_) (fun h27 => ?_)
        · have hwi : wi (fb i) i = false := wi_f1 h27
          refine lv_iconst (v := 1) hx hb dPG_isBad_40 (by decide) ?_
          exact q_zret X hlk hr (by decide) hP hS dPG_isBad_41 ⟨by rw [show pgBad ow sz fo fa fb = true from any_t (i := i) (by omega) (bad_1 h18 hwi)]; rfl, rfl⟩
        · refine lv_aload_n hx hb dPG_isBad_30 rfl (lv_at hl 1 rfl) ?_
          refine g_PG_18 X hP (by omega) (h0) rfl dPG_isBad_31 ?_
          refine lv_iload_n hx hb dPG_isBad_34 rfl (lv_at hl 0 rfl) ?_
          refine q_iald i X hP (by omega) (h3) (rfl) (by omega) (by decide) dPG_isBad_35 ?_
          refine lv_iload_n hx hb dPG_isBad_36 rfl (lv_at hl 0 rfl) ?_
          refine lv_icmp_lt (tgt := 42) hx hb dPG_isBad_37 rfl (fun h37 => ?_) (fun h37 => ?_)
          · have hwi : wi (fb i) i = true := wi_lt (by omega) h27 h37
            refine lv_aload_n hx hb dPG_isBad_42 rfl (lv_at hl 1 rfl) ?_
            refine g_PG_9 X hP (by omega) (h0) rfl dPG_isBad_43 ?_
            refine lv_iload_n hx hb dPG_isBad_46 rfl (lv_at hl 0 rfl) ?_
            refine q_iald i X hP (by omega) (h1) (rfl) (by omega) (by decide) dPG_isBad_47 ?_
            refine lv_bipush (v := 6) hx hb dPG_isBad_48 (by decide) ?_
            refine lv_icmp_eq (tgt := 64) hx hb dPG_isBad_50 rfl (fun h50 => ?_) (fun h50 => ?_)
            · refine lv_aload_n hx hb dPG_isBad_64 rfl (lv_at hl 1 rfl) ?_
              refine g_PG_15 X hP (by omega) (h0) rfl dPG_isBad_65 ?_
              refine lv_iload_n hx hb dPG_isBad_68 rfl (lv_at hl 0 rfl) ?_
              refine q_iald i X hP (by omega) (h2) (rfl) (by omega) (by decide) dPG_isBad_69 ?_
              refine lv_iload_n hx hb dPG_isBad_70 rfl (lv_at hl 2 rfl) ?_
              refine lv_icmp_eq (tgt := 83) hx hb dPG_isBad_71 rfl (fun h71 => ?_) (fun h71 => ?_)
              · refine lv_iconst (v := 1) hx hb dPG_isBad_83 (by decide) ?_
                exact q_zret X hlk hr (by decide) hP hS dPG_isBad_84 ⟨by rw [show pgBad ow sz fo fa fb = true from any_t (i := i) (by omega) (bad_2 (Or.inl h50) (Or.inl h71))]; rfl, rfl⟩
              · refine lv_aload_n hx hb dPG_isBad_74 rfl (lv_at hl 1 rfl) ?_
                refine g_PG_15 X hP (by omega) (h0) rfl dPG_isBad_75 ?_
                refine lv_iload_n hx hb dPG_isBad_78 rfl (lv_at hl 0 rfl) ?_
                refine q_iald i X hP (by omega) (h2) (rfl) (by omega) (by decide) dPG_isBad_79 ?_
                refine lv_if_ne (tgt := 85) hx hb dPG_isBad_80 rfl (fun h80 => ?_) (fun h80 => ?_)
                · refine lv_iinc (k := 0) (v := nI (i + 1)) hx hb dPG_isBad_85 hl rfl (nI_1 i) (by decide) rfl (fun ls hl => ?_)
                  have hl : lv_has ls 3 [(2, .int (nI (i + 1))), (0, .ref (ad 0)), (1, .int ow)] := hl
                  refine lv_goto (tgt := 2) hx hb dPG_isBad_88 rfl ?_
                  exact ih (i + 1) _ _ _ (by omega) (fun j hj => by by_cases h : j = i; (· subst h; exact bad_n (fun _ => hwi) (fun _ => ⟨h71, h80⟩)); (· exact hg j (by omega))) hD hP hS hl
                · refine lv_iconst (v := 1) hx hb dPG_isBad_83 (by decide) ?_
                  exact q_zret X hlk hr (by decide) hP hS dPG_isBad_84 ⟨by rw [show pgBad ow sz fo fa fb = true from any_t (i := i) (by omega) (bad_2 (Or.inl h50) (Or.inr h80))]; rfl, rfl⟩
            · refine lv_aload_n hx hb dPG_isBad_53 rfl (lv_at hl 1 rfl) ?_
              refine g_PG_9 X hP (by omega) (h0) rfl dPG_isBad_54 ?_
              refine lv_iload_n hx hb dPG_isBad_57 rfl (lv_at hl 0 rfl) ?_
              refine q_iald i X hP (by omega) (h1) (rfl) (by omega) (by decide) dPG_isBad_58 ?_
              refine lv_bipush (v := 7) hx hb dPG_isBad_59 (by decide) ?_
              refine lv_icmp_ne (tgt := 85) hx hb dPG_isBad_61 rfl (fun h61 => ?_) (fun h61 => ?_)
              · refine lv_iinc (k := 0) (v := nI (i + 1)) hx hb dPG_isBad_85 hl rfl (nI_1 i) (by decide) rfl (fun ls hl => ?_)
                have hl : lv_has ls 3 [(2, .int (nI (i + 1))), (0, .ref (ad 0)), (1, .int ow)] := hl
                refine lv_goto (tgt := 2) hx hb dPG_isBad_88 rfl ?_
                exact ih (i + 1) _ _ _ (by omega) (fun j hj => by by_cases h : j = i; (· subst h; exact bad_n (fun _ => hwi) (fun h => h.elim (fun q => absurd q h50) (fun q => absurd q h61))); (· exact hg j (by omega))) hD hP hS hl
              · refine lv_aload_n hx hb dPG_isBad_64 rfl (lv_at hl 1 rfl) ?_
                refine g_PG_15 X hP (by omega) (h0) rfl dPG_isBad_65 ?_
                refine lv_iload_n hx hb dPG_isBad_68 rfl (lv_at hl 0 rfl) ?_
                refine q_iald i X hP (by omega) (h2) (rfl) (by omega) (by decide) dPG_isBad_69 ?_
                refine lv_iload_n hx hb dPG_isBad_70 rfl (lv_at hl 2 rfl) ?_
                refine lv_icmp_eq (tgt := 83) hx hb dPG_isBad_71 rfl (fun h71 => ?_) (fun h71 => ?_)
                · refine lv_iconst (v := 1) hx hb dPG_isBad_83 (by decide) ?_
                  exact q_zret X hlk hr (by decide) hP hS dPG_isBad_84 ⟨by rw [show pgBad ow sz fo fa fb = true from any_t (i := i) (by omega) (bad_2 (Or.inr h61) (Or.inl h71))]; rfl, rfl⟩
                · refine lv_aload_n hx hb dPG_isBad_74 rfl (lv_at hl 1 rfl) ?_
                  refine g_PG_15 X hP (by omega) (h0) rfl dPG_isBad_75 ?_
                  refine lv_iload_n hx hb dPG_isBad_78 rfl (lv_at hl 0 rfl) ?_
                  refine q_iald i X hP (by omega) (h2) (rfl) (by omega) (by decide) dPG_isBad_79 ?_
                  refine lv_if_ne (tgt := 85) hx hb dPG_isBad_80 rfl (fun h80 => ?_) (fun h80 => ?_)
                  · refine lv_iinc (k := 0) (v := nI (i + 1)) hx hb dPG_isBad_85 hl rfl (nI_1 i) (by decide) rfl (fun ls hl => ?_)
                    have hl : lv_has ls 3 [(2, .int (nI (i + 1))), (0, .ref (ad 0)), (1, .int ow)] := hl
                    refine lv_goto (tgt := 2) hx hb dPG_isBad_88 rfl ?_
                    exact ih (i + 1) _ _ _ (by omega) (fun j hj => by by_cases h : j = i; (· subst h; exact bad_n (fun _ => hwi) (fun _ => ⟨h71, h80⟩)); (· exact hg j (by omega))) hD hP hS hl
                  · refine lv_iconst (v := 1) hx hb dPG_isBad_83 (by decide) ?_
                    exact q_zret X hlk hr (by decide) hP hS dPG_isBad_84 ⟨by rw [show pgBad ow sz fo fa fb = true from any_t (i := i) (by omega) (bad_2 (Or.inr h61) (Or.inr h80))]; rfl, rfl⟩
          · have hwi : wi (fb i) i = false := wi_nlt (by omega) h37
            refine lv_iconst (v := 1) hx hb dPG_isBad_40 (by decide) ?_
            exact q_zret X hlk hr (by decide) hP hS dPG_isBad_41 ⟨by rw [show pgBad ow sz fo fa fb = true from any_t (i := i) (by omega) (bad_1 h18 hwi)]; rfl, rfl⟩
  exact loop sz 0 _ _ _ (by omega) (fun j hj => absurd hj (Nat.not_lt_zero j)) hD hP hS hl
set_option maxHeartbeats 4000000 in
set_option maxRecDepth 100000 in
theorem c_RW_areBad (l : Launch) (D : va_G) (tc : Nat → ClassId) (ad : Nat → Nat) (E : Nat → va_E) (st cs : Int32) (sz : Nat → Nat) (fo fa fb : Nat → Nat → Int32) (hR : isRW tc ad E st cs) (hp : ∀ t, t < 5 → isPG tc ad E (3 + 7 * t) (sz t) (fo t) (fa t) (fb t)) (hs : ∀ t, t < 5 → sz t ≤ 12) : Ct l D tc yRW_areBad 1 66 ad E [.ref (ad 0)] (fun o E2 => o = .returned (some (.int (bi (allBad sz fo fa fb)))) ∧ E2 = E) := by
  refine Ct.ofW (cc := cRW_areBad) (maxL := 2) (ret := (some .boolean)) (own := R_RW) (by decide) rfl w_334 (Nat.le_of_ble_eq_true rfl) ?_
  intro p e s m args below meth c ls X hlk hr hD hP hS hl
  have hx := X.1
  have hb := X.2.1
  have hl : lv_has ls 2 [(0, .ref (ad 0))] := hl
  obtain ⟨rh0, ⟨ra1, rh1, rx1⟩, ⟨ra2, rh2, rx2⟩, ⟨ra3, rh3, rx3⟩, ⟨ra4, rh4, rx4⟩⟩ := hR
  refine lv_iconst (v := 0) hx hb dRW_areBad_0 (by decide) ?_
  refine lv_istore_n hx hb dRW_areBad_1 rfl hl (by decide) rfl (fun ls hl => ?_)
  have hl : lv_has ls 2 [(1, .int 0), (0, .ref (ad 0))] := hl
  have loop : ∀ (r i : Nat)  (H : Heap) (locs : List Loc) (ls : Array Slot), i + r = 5 → (∀ j, j < i → pgBad (nI j) (sz j) (fo j) (fa j) (fb j) = false) → va_D (Aw 66 ad) (wW 66 ad E) → va_P D vwCl (wW 66 ad E) H → va_S (Aw 66 ad) s.heap H locs → lv_has ls 2 [(1, .int (nI i)), (0, .ref (ad 0))] → W p l e (rmD 1) s m args below meth c H locs 0 0 (XQ below (CtQ D 66 ad (fun o E2 => o = .returned (some (.int (bi (allBad sz fo fa fb)))) ∧ E2 = E)) args s 0 0 (Aw 66 ad)) (F0 m 2 ls []) := by
    intro r
    induction r with
    | zero =>
      intro i  H locs ls hi hg hD hP hS hl
      refine lv_iload_n hx hb dRW_areBad_2 rfl (lv_at hl 0 rfl) ?_
      refine lv_iconst (v := 5) hx hb dRW_areBad_3 (by decide) ?_
      refine lv_icmp_ge (tgt := 28) hx hb dRW_areBad_4 rfl (fun h4 => ?_) (fun h4 => absurd (nI_le (a := 5) (b := i) (by omega) (by omega)) h4)
      obtain ⟨p0, p1, p2, p3⟩ := hp 0 (by decide)
      refine lv_aload_n hx hb dRW_areBad_28 rfl (lv_at hl 1 rfl) ?_
      refine g_RW_11 X hP (by omega) (rh0) rfl dRW_areBad_29 ?_
      refine lv_iconst (v := 0) hx hb dRW_areBad_32 (by decide) ?_
      refine q_aald (t0 := 3) 0 X hP (by omega) (rh1) rfl (rfl) (by decide) (by decide) (rx1 0 (by omega)) dRW_areBad_33 ?_
      refine g_RW_196 X hP (by omega) (p0) rfl dRW_areBad_34 ?_
      refine lv_if_ne (tgt := 44) hx hb dRW_areBad_37 rfl (fun h37 => ?_) (fun h37 => ?_)
      · refine lv_iconst (v := 0) hx hb dRW_areBad_44 (by decide) ?_
        exact q_zret X hlk hr (by decide) hP hS dRW_areBad_45 ⟨by rw [show allBad sz fo fa fb = false from (by unfold allBad; rw [any_f (fun j hj => hg j (by omega))]; simp [show ¬ sz 0 = 0 from fun q => h37 (by rw [q]; rfl)])]; rfl, rfl⟩
      · refine lv_iconst (v := 1) hx hb dRW_areBad_40 (by decide) ?_
        refine lv_goto (tgt := 45) hx hb dRW_areBad_41 rfl ?_
        exact q_zret X hlk hr (by decide) hP hS dRW_areBad_45 ⟨by rw [show allBad sz fo fa fb = true from (by unfold allBad; rw [any_f (fun j hj => hg j (by omega))]; simp [show sz 0 = 0 from (nI_eq (by have := hs 0 (by decide); omega) (by decide)).mp h37])]; rfl, rfl⟩
    | succ r ih =>
      intro i  H locs ls hi hg hD hP hS hl
      refine lv_iload_n hx hb dRW_areBad_2 rfl (lv_at hl 0 rfl) ?_
      refine lv_iconst (v := 5) hx hb dRW_areBad_3 (by decide) ?_
      refine lv_icmp_ge (tgt := 28) hx hb dRW_areBad_4 rfl (fun h4 => absurd h4 (nI_ge (a := i) (b := 5) (by omega) (by omega))) (fun h4 => ?_)
      obtain ⟨p0, p1, p2, p3⟩ := hp i (by omega)
      refine lv_aload_n hx hb dRW_areBad_7 rfl (lv_at hl 1 rfl) ?_
      refine g_RW_11 X hP (by omega) (rh0) rfl dRW_areBad_8 ?_
      refine lv_iload_n hx hb dRW_areBad_11 rfl (lv_at hl 0 rfl) ?_
      refine q_aald (t0 := 3) i X hP (by omega) (rh1) rfl (rfl) (by omega) (by decide) (rx1 i (by omega)) dRW_areBad_12 ?_
      refine lv_iload_n hx hb dRW_areBad_13 rfl (lv_at hl 0 rfl) ?_
      refine x_iE (f := fun k => (3 + 7 * i) + k) (x_runVN (C := R_PG) (As := [.int (nI i)]) (rest := []) X (c_PG_isBad l D tc (fun k => ad (3 + 7 * i + k)) (fun k => E (3 + 7 * i + k)) (sz i) (fo i) (fa i) (fb i) (nI i) p0 p1 p2 p3 (hs i (by omega))) rfl rfl (by decide) (by decide) w_338 w_2 w_335 w_337 sel_PG_isBad ry_PG_isBad (x_recv X hP (by omega) (p0) rfl) (ct_pre X hP hD (fr_lt 4 66 (3 + 7 * i) (by omega)) (fr_inj 4 (3 + 7 * i))) ct_blind hl.1 (Nat.le_of_ble_eq_true rfl) dRW_areBad_14 ⟨Nat.zero_le _, Nat.zero_le _⟩) hD hP hS (fr_lt 4 66 (3 + 7 * i) (by omega)) (fr_inj 4 (3 + 7 * i)) (fun H locs hD hP hS => ?_)
      refine lv_if_eq (tgt := 22) hx hb dRW_areBad_17 rfl (fun h17 => ?_) (fun h17 => ?_)
      · refine lv_iinc (k := 0) (v := nI (i + 1)) hx hb dRW_areBad_22 hl rfl (nI_1 i) (by decide) rfl (fun ls hl => ?_)
        have hl : lv_has ls 2 [(1, .int (nI (i + 1))), (0, .ref (ad 0))] := hl
        refine lv_goto (tgt := 2) hx hb dRW_areBad_25 rfl ?_
        exact ih (i + 1) _ _ _ (by omega) (fun j hj => by by_cases h : j = i; (· subst h; exact bi_f h17); (· exact hg j (by omega))) hD hP hS hl
      · refine lv_iconst (v := 1) hx hb dRW_areBad_20 (by decide) ?_
        exact q_zret X hlk hr (by decide) hP hS dRW_areBad_21 ⟨by rw [show allBad sz fo fa fb = true from (by unfold allBad; rw [any_t (i := i) (by omega) (bi_t h17)]; rfl)]; rfl, rfl⟩
  exact loop 5 0 _ _ _ (by omega) (fun j hj => absurd hj (Nat.not_lt_zero j)) hD hP hS hl
