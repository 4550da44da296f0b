
set_option maxHeartbeats 4000000 in
set_option maxRecDepth 100000 in
theorem g_MD_isBad (l : Launch) (D : va_G) (tc : Nat → ClassId) (ad : Nat → Nat) (E : Nat → va_E) (sz : Nat → Nat) (fo fa fb : Nat → Nat → Int32) (th st ic : Int32) (cn : Nat) (A : Nat → Nat → Int32) (J : Nat → Int64) (hM : isMD tc ad E th st ic (nI cn) A J) (hc : cn ≤ 200) (q1 : ∀ t, t < 5 → A 1 t = nI (sz t)) (q2 : ∀ t, t < 5 → ∀ k, k < sz t → A 2 (12 * t + k) = fo t k ∧ A 3 (12 * t + k) = fa t k ∧ A 4 (12 * t + k) = fb t k) (hs : ∀ t, t < 5 → sz t ≤ 12) : Ct l D tc yMD_isBad 1 17 ad E [.ref (ad 0)] (fun o E2 => o = .returned (some (.int (bi (allBad sz fo fa fb)))) ∧ E2 = E) := by
  refine Ct.ofW (cc := cMD_isBad) (maxL := 7) (ret := (some .boolean)) (own := R_MD) (by decide) rfl w_567 (Nat.le_of_ble_eq_true rfl) ?_
  intro p e s m args below meth c ls X hlk hr hD hP hS hl
  have hx := X.1
  have hb := X.2.1
  have hl : lv_has ls 7 [(0, .ref (ad 0))] := hl
  have hM0 := hM
  obtain ⟨m0, m1, m2, m3, m4, m5, m6, m7, m8, m9, m10, m11, m12, m13, m14, m15, m16⟩ := hM
  have loop : ∀ (r i : Nat) (v1 : Int32) (H : Heap) (locs : List Loc) (ls : Array Slot), i + r = 5 → v1 = bi (decide (sz 0 = 0) || orT (fun t => pgBad (nI t) (sz t) (fo t) (fa t) (fb t)) i) → va_D (Aw 17 ad) (wW 17 ad E) → va_P D vwCl (wW 17 ad E) H → va_S (Aw 17 ad) s.heap H locs → lv_has ls 7 [(2, .int (nI i)), (1, .int v1), (0, .ref (ad 0))] → W p l e (rmD 1) s m args below meth c H locs 0 0 (XQ below (CtQ D 17 ad (fun o E2 => o = .returned (some (.int (bi (allBad sz fo fa fb)))) ∧ E2 = E)) args s 0 0 (Aw 17 ad)) (F0 m 17 ls []) := by
    intro r
    induction r with
    | zero =>
      intro i v1 H locs ls hi hv hD hP hS hl
      refine lv_iload_n hx hb dMD_isBad_17 rfl (lv_at hl 0 rfl) ?_
      refine lv_iconst (v := 5) hx hb dMD_isBad_18 (by decide) ?_
      refine lv_icmp_ge (tgt := 159) hx hb dMD_isBad_19 rfl (fun h19 => ?_) (fun h19 => absurd (nI_le (a := 5) (b := i) (by omega) (by omega)) h19)
      refine lv_iload_n hx hb dMD_isBad_159 rfl (lv_at hl 1 rfl) ?_
      exact q_zret X hlk hr (by rw [hv]; exact bi_n _) hP hS dMD_isBad_160 ⟨by rw [hv, show i = 5 by omega, allB], rfl⟩
    | succ r ih =>
      intro i v1 H locs ls hi hv hD hP hS hl
      refine lv_iload_n hx hb dMD_isBad_17 rfl (lv_at hl 0 rfl) ?_
      refine lv_iconst (v := 5) hx hb dMD_isBad_18 (by decide) ?_
      refine lv_icmp_ge (tgt := 159) hx hb dMD_isBad_19 rfl (fun h19 => absurd h19 (nI_ge (a := i) (b := 5) (by omega) (by omega))) (fun h19 => ?_)
      refine lv_iconst (v := 0) hx hb dMD_isBad_22 (by decide) ?_
      refine lv_istore_n hx hb dMD_isBad_23 rfl hl (by decide) rfl (fun ls hl => ?_)
      have hl : lv_has ls 7 [(3, .int 0), (2, .int (nI i)), (1, .int v1), (0, .ref (ad 0))] := hl
      have hs12 := hs i (by omega)
      have loopk : ∀ (rk k : Nat) (v1 : Int32) (H : Heap) (locs : List Loc) (ls : Array Slot), k + rk = sz i → v1 = bi ((decide (sz 0 = 0) || orT (fun t => pgBad (nI t) (sz t) (fo t) (fa t) (fb t)) i) || orT (fun n => badI (nI i) n (fo i n) (fa i n) (fb i n)) k) → va_D (Aw 17 ad) (wW 17 ad E) → va_P D vwCl (wW 17 ad E) H → va_S (Aw 17 ad) s.heap H locs → lv_has ls 7 [(3, .int (nI k)), (2, .int (nI i)), (1, .int v1), (0, .ref (ad 0))] → W p l e (rmD 1) s m args below meth c H locs 0 0 (XQ below (CtQ D 17 ad (fun o E2 => o = .returned (some (.int (bi (allBad sz fo fa fb)))) ∧ E2 = E)) args s 0 0 (Aw 17 ad)) (F0 m 24 ls []) := by
        intro rk
        induction rk with
        | zero =>
          intro k v1 H locs ls hik hv hD hP hS hl
          refine lv_iload_n hx hb dMD_isBad_24 rfl (lv_at hl 0 rfl) ?_
          refine lv_aload_n hx hb dMD_isBad_25 rfl (lv_at hl 3 rfl) ?_
          refine g_MD_7 X hP (by omega) (m0) rfl dMD_isBad_26 ?_
          refine lv_iload_n hx hb dMD_isBad_29 rfl (lv_at hl 1 rfl) ?_
          refine q_iald i X hP (by omega) (m1) (rfl) (by omega) (by decide) dMD_isBad_30 ?_
          refine lv_icmp_ge (tgt := 153) hx hb dMD_isBad_31 rfl (fun h31 => ?_) (fun h31 => absurd (by rw [q1 i (by omega)]; exact nI_le (by omega) (by omega)) h31)
          refine lv_iinc (k := 1) (v := nI (i + 1)) hx hb dMD_isBad_153 hl rfl (nI_1 i) (by decide) rfl (fun ls hl => ?_)
          have hl : lv_has ls 7 [(2, .int (nI (i + 1))), (3, .int (nI k)), (1, .int v1), (0, .ref (ad 0))] := hl
          refine lv_goto (tgt := 17) hx hb dMD_isBad_156 rfl ?_
          exact ih (i + 1) v1 _ _ _ (by omega) (hv.trans (congrArg bi (by rw [show k = sz i by omega]; exact outB))) hD hP hS (lv_sub hl [0, 2, 3] rfl)
        | succ rk ihk =>
          intro k v1 H locs ls hik hv hD hP hS hl
          refine lv_iload_n hx hb dMD_isBad_24 rfl (lv_at hl 0 rfl) ?_
          refine lv_aload_n hx hb dMD_isBad_25 rfl (lv_at hl 3 rfl) ?_
          refine g_MD_7 X hP (by omega) (m0) rfl dMD_isBad_26 ?_
          refine lv_iload_n hx hb dMD_isBad_29 rfl (lv_at hl 1 rfl) ?_
          refine q_iald i X hP (by omega) (m1) (rfl) (by omega) (by decide) dMD_isBad_30 ?_
          refine lv_icmp_ge (tgt := 153) hx hb dMD_isBad_31 rfl (fun h31 => absurd h31 (fun h => nI_ge (a := k) (b := sz i) (by omega) (by omega) (by rw [← q1 i (by omega)]; exact h))) (fun h31 => ?_)
          have hk9 : k < sz i := by omega
          obtain ⟨o2, o3, o4⟩ := q2 i (by omega) k hk9
          have J125 : ∀ (v5 v6 : Int32) (H : Heap) (locs : List Loc) (ls : Array Slot), v5 = bi (decide (fo i k = 12) && !(wi (fb i k) k)) → v6 = bi (decide (fo i k = 6 ∨ fo i k = 7) && decide (fa i k = nI i ∨ fa i k = 0)) → va_D (Aw 17 ad) (wW 17 ad E) → va_P D vwCl (wW 17 ad E) H → va_S (Aw 17 ad) s.heap H locs → lv_has ls 7 [(5, .int v5), (4, .int (nI (12 * i + k))), (3, .int (nI k)), (2, .int (nI i)), (1, .int v1), (0, .ref (ad 0))] → W p l e (rmD 1) s m args below meth c H locs 0 0 (XQ below (CtQ D 17 ad (fun o E2 => o = .returned (some (.int (bi (allBad sz fo fa fb)))) ∧ E2 = E)) args s 0 0 (Aw 17 ad)) (F0 m 125 ls [.int v6]) := by
            intro v5 v6 H locs ls e5 e6 hD hP hS hl
            refine lv_istore hx hb dMD_isBad_125 hl (by decide) rfl (fun ls hl => ?_)
            have hl : lv_has ls 7 [(6, .int v6), (5, .int v5), (4, .int (nI (12 * i + k))), (3, .int (nI k)), (2, .int (nI i)), (1, .int v1), (0, .ref (ad 0))] := hl
            refine lv_iload_n hx hb dMD_isBad_127 rfl (lv_at hl 5 rfl) ?_
            refine lv_if_ne (tgt := 141) hx hb dMD_isBad_128 rfl (fun h128 => ?_) (fun h128 => ?_)
            · refine lv_iconst (v := 1) hx hb dMD_isBad_141 (by decide) ?_
              refine lv_goto (tgt := 146) hx hb dMD_isBad_142 rfl ?_
              refine lv_istore_n hx hb dMD_isBad_146 rfl hl (by decide) rfl (fun ls hl => ?_)
              have hl : lv_has ls 7 [(1, .int 1), (6, .int v6), (5, .int v5), (4, .int (nI (12 * i + k))), (3, .int (nI k)), (2, .int (nI i)), (0, .ref (ad 0))] := hl
              refine lv_iinc (k := 4) (v := nI (k + 1)) hx hb dMD_isBad_147 hl rfl (nI_1 k) (by decide) rfl (fun ls hl => ?_)
              have hl : lv_has ls 7 [(3, .int (nI (k + 1))), (1, .int 1), (6, .int v6), (5, .int v5), (4, .int (nI (12 * i + k))), (2, .int (nI i)), (0, .ref (ad 0))] := hl
              refine lv_goto (tgt := 24) hx hb dMD_isBad_150 rfl ?_
              exact ihk (k + 1) 1 _ _ _ (by omega) (flagA hv h128) hD hP hS (lv_sub hl [0, 5, 1, 6] rfl)
            · refine lv_iload hx hb dMD_isBad_131 (lv_at hl 1 rfl) ?_
              refine lv_if_ne (tgt := 141) hx hb dMD_isBad_133 rfl (fun h133 => ?_) (fun h133 => ?_)
              · refine lv_iconst (v := 1) hx hb dMD_isBad_141 (by decide) ?_
                refine lv_goto (tgt := 146) hx hb dMD_isBad_142 rfl ?_
                refine lv_istore_n hx hb dMD_isBad_146 rfl hl (by decide) rfl (fun ls hl => ?_)
                have hl : lv_has ls 7 [(1, .int 1), (6, .int v6), (5, .int v5), (4, .int (nI (12 * i + k))), (3, .int (nI k)), (2, .int (nI i)), (0, .ref (ad 0))] := hl
                refine lv_iinc (k := 4) (v := nI (k + 1)) hx hb dMD_isBad_147 hl rfl (nI_1 k) (by decide) rfl (fun ls hl => ?_)
                have hl : lv_has ls 7 [(3, .int (nI (k + 1))), (1, .int 1), (6, .int v6), (5, .int v5), (4, .int (nI (12 * i + k))), (2, .int (nI i)), (0, .ref (ad 0))] := hl
                refine lv_goto (tgt := 24) hx hb dMD_isBad_150 rfl ?_
                exact ihk (k + 1) 1 _ _ _ (by omega) (flagB hv e5 h133) hD hP hS (lv_sub hl [0, 5, 1, 6] rfl)
              · refine lv_iload hx hb dMD_isBad_136 (lv_at hl 0 rfl) ?_
                refine lv_if_eq (tgt := 145) hx hb dMD_isBad_138 rfl (fun h138 => ?_) (fun h138 => ?_)
                · refine lv_iconst (v := 0) hx hb dMD_isBad_145 (by decide) ?_
                  refine lv_istore_n hx hb dMD_isBad_146 rfl hl (by decide) rfl (fun ls hl => ?_)
                  have hl : lv_has ls 7 [(1, .int 0), (6, .int v6), (5, .int v5), (4, .int (nI (12 * i + k))), (3, .int (nI k)), (2, .int (nI i)), (0, .ref (ad 0))] := hl
                  refine lv_iinc (k := 4) (v := nI (k + 1)) hx hb dMD_isBad_147 hl rfl (nI_1 k) (by decide) rfl (fun ls hl => ?_)
                  have hl : lv_has ls 7 [(3, .int (nI (k + 1))), (1, .int 0), (6, .int v6), (5, .int v5), (4, .int (nI (12 * i + k))), (2, .int (nI i)), (0, .ref (ad 0))] := hl
                  refine lv_goto (tgt := 24) hx hb dMD_isBad_150 rfl ?_
                  exact ihk (k + 1) 0 _ _ _ (by omega) (flagD hv e5 e6 h128 h133 h138) hD hP hS (lv_sub hl [0, 5, 1, 6] rfl)
                · refine lv_iconst (v := 1) hx hb dMD_isBad_141 (by decide) ?_
                  refine lv_goto (tgt := 146) hx hb dMD_isBad_142 rfl ?_
                  refine lv_istore_n hx hb dMD_isBad_146 rfl hl (by decide) rfl (fun ls hl => ?_)
                  have hl : lv_has ls 7 [(1, .int 1), (6, .int v6), (5, .int v5), (4, .int (nI (12 * i + k))), (3, .int (nI k)), (2, .int (nI i)), (0, .ref (ad 0))] := hl
                  refine lv_iinc (k := 4) (v := nI (k + 1)) hx hb dMD_isBad_147 hl rfl (nI_1 k) (by decide) rfl (fun ls hl => ?_)
                  have hl : lv_has ls 7 [(3, .int (nI (k + 1))), (1, .int 1), (6, .int v6), (5, .int v5), (4, .int (nI (12 * i + k))), (2, .int (nI i)), (0, .ref (ad 0))] := hl
                  refine lv_goto (tgt := 24) hx hb dMD_isBad_150 rfl ?_
                  exact ihk (k + 1) 1 _ _ _ (by omega) (flagC hv e6 h138) hD hP hS (lv_sub hl [0, 5, 1, 6] rfl)
          have J73 : ∀ (v5 : Int32) (H : Heap) (locs : List Loc) (ls : Array Slot), v5 = bi (decide (fo i k = 12) && !(wi (fb i k) k)) → va_D (Aw 17 ad) (wW 17 ad E) → va_P D vwCl (wW 17 ad E) H → va_S (Aw 17 ad) s.heap H locs → lv_has ls 7 [(4, .int (nI (12 * i + k))), (3, .int (nI k)), (2, .int (nI i)), (1, .int v1), (0, .ref (ad 0))] → W p l e (rmD 1) s m args below meth c H locs 0 0 (XQ below (CtQ D 17 ad (fun o E2 => o = .returned (some (.int (bi (allBad sz fo fa fb)))) ∧ E2 = E)) args s 0 0 (Aw 17 ad)) (F0 m 73 ls [.int v5]) := by
            intro v5 H locs ls e5 hD hP hS hl
            refine lv_istore hx hb dMD_isBad_73 hl (by decide) rfl (fun ls hl => ?_)
            have hl : lv_has ls 7 [(5, .int v5), (4, .int (nI (12 * i + k))), (3, .int (nI k)), (2, .int (nI i)), (1, .int v1), (0, .ref (ad 0))] := hl
            refine lv_aload_n hx hb dMD_isBad_75 rfl (lv_at hl 5 rfl) ?_
            refine g_MD_13 X hP (by omega) (m0) rfl dMD_isBad_76 ?_
            refine lv_iload hx hb dMD_isBad_79 (lv_at hl 1 rfl) ?_
            refine q_iald (12 * i + k) X hP (by omega) (m2) (rfl) (by omega) (by decide) dMD_isBad_81 ?_
            refine lv_bipush (v := 6) hx hb dMD_isBad_82 (by decide) ?_
            refine lv_icmp_eq (tgt := 99) hx hb dMD_isBad_84 rfl (fun h84 => ?_) (fun h84 => ?_)
            · refine lv_aload_n hx hb dMD_isBad_99 rfl (lv_at hl 5 rfl) ?_
              refine g_MD_16 X hP (by omega) (m0) rfl dMD_isBad_100 ?_
              refine lv_iload hx hb dMD_isBad_103 (lv_at hl 1 rfl) ?_
              refine q_iald (12 * i + k) X hP (by omega) (m3) (rfl) (by omega) (by decide) dMD_isBad_105 ?_
              refine lv_iload_n hx hb dMD_isBad_106 rfl (lv_at hl 3 rfl) ?_
              refine lv_icmp_eq (tgt := 120) hx hb dMD_isBad_107 rfl (fun h107 => ?_) (fun h107 => ?_)
              · refine lv_iconst (v := 1) hx hb dMD_isBad_120 (by decide) ?_
                refine lv_goto (tgt := 125) hx hb dMD_isBad_121 rfl ?_
                exact J125 v5 1 _ _ _ e5 (oddY (Or.inl (o2.symm.trans h84)) (Or.inl (o3.symm.trans h107))) hD hP hS hl
              · refine lv_aload_n hx hb dMD_isBad_110 rfl (lv_at hl 5 rfl) ?_
                refine g_MD_16 X hP (by omega) (m0) rfl dMD_isBad_111 ?_
                refine lv_iload hx hb dMD_isBad_114 (lv_at hl 1 rfl) ?_
                refine q_iald (12 * i + k) X hP (by omega) (m3) (rfl) (by omega) (by decide) dMD_isBad_116 ?_
                refine lv_if_ne (tgt := 124) hx hb dMD_isBad_117 rfl (fun h117 => ?_) (fun h117 => ?_)
                · refine lv_iconst (v := 0) hx hb dMD_isBad_124 (by decide) ?_
                  exact J125 v5 0 _ _ _ e5 (oddN2 (fun h => h.elim (fun h => h107 (o3.trans h)) (fun h => h117 (o3.trans h)))) hD hP hS hl
                · refine lv_iconst (v := 1) hx hb dMD_isBad_120 (by decide) ?_
                  refine lv_goto (tgt := 125) hx hb dMD_isBad_121 rfl ?_
                  exact J125 v5 1 _ _ _ e5 (oddY (Or.inl (o2.symm.trans h84)) (Or.inr (o3.symm.trans h117))) hD hP hS hl
            · refine lv_aload_n hx hb dMD_isBad_87 rfl (lv_at hl 5 rfl) ?_
              refine g_MD_13 X hP (by omega) (m0) rfl dMD_isBad_88 ?_
              refine lv_iload hx hb dMD_isBad_91 (lv_at hl 1 rfl) ?_
              refine q_iald (12 * i + k) X hP (by omega) (m2) (rfl) (by omega) (by decide) dMD_isBad_93 ?_
              refine lv_bipush (v := 7) hx hb dMD_isBad_94 (by decide) ?_
              refine lv_icmp_ne (tgt := 124) hx hb dMD_isBad_96 rfl (fun h96 => ?_) (fun h96 => ?_)
              · refine lv_iconst (v := 0) hx hb dMD_isBad_124 (by decide) ?_
                exact J125 v5 0 _ _ _ e5 (oddN1 (fun h => h.elim (fun h => h84 (o2.trans h)) (fun h => h96 (o2.trans h)))) hD hP hS hl
              · refine lv_aload_n hx hb dMD_isBad_99 rfl (lv_at hl 5 rfl) ?_
                refine g_MD_16 X hP (by omega) (m0) rfl dMD_isBad_100 ?_
                refine lv_iload hx hb dMD_isBad_103 (lv_at hl 1 rfl) ?_
                refine q_iald (12 * i + k) X hP (by omega) (m3) (rfl) (by omega) (by decide) dMD_isBad_105 ?_
                refine lv_iload_n hx hb dMD_isBad_106 rfl (lv_at hl 3 rfl) ?_
                refine lv_icmp_eq (tgt := 120) hx hb dMD_isBad_107 rfl (fun h107 => ?_) (fun h107 => ?_)
                · refine lv_iconst (v := 1) hx hb dMD_isBad_120 (by decide) ?_
                  refine lv_goto (tgt := 125) hx hb dMD_isBad_121 rfl ?_
                  exact J125 v5 1 _ _ _ e5 (oddY (Or.inr (o2.symm.trans h96)) (Or.inl (o3.symm.trans h107))) hD hP hS hl
                · refine lv_aload_n hx hb dMD_isBad_110 rfl (lv_at hl 5 rfl) ?_
                  refine g_MD_16 X hP (by omega) (m0) rfl dMD_isBad_111 ?_
                  refine lv_iload hx hb dMD_isBad_114 (lv_at hl 1 rfl) ?_
                  refine q_iald (12 * i + k) X hP (by omega) (m3) (rfl) (by omega) (by decide) dMD_isBad_116 ?_
                  refine lv_if_ne (tgt := 124) hx hb dMD_isBad_117 rfl (fun h117 => ?_) (fun h117 => ?_)
                  · refine lv_iconst (v := 0) hx hb dMD_isBad_124 (by decide) ?_
                    exact J125 v5 0 _ _ _ e5 (oddN2 (fun h => h.elim (fun h => h107 (o3.trans h)) (fun h => h117 (o3.trans h)))) hD hP hS hl
                  · refine lv_iconst (v := 1) hx hb dMD_isBad_120 (by decide) ?_
                    refine lv_goto (tgt := 125) hx hb dMD_isBad_121 rfl ?_
                    exact J125 v5 1 _ _ _ e5 (oddY (Or.inr (o2.symm.trans h96)) (Or.inr (o3.symm.trans h117))) hD hP hS hl
          refine lv_bipush (v := 12) hx hb dMD_isBad_34 (by decide) ?_
          refine lv_iload_n hx hb dMD_isBad_36 rfl (lv_at hl 1 rfl) ?_
          refine lv_imul hx hb dMD_isBad_37 ?_
          rw [show (12 * (nI i)) = nI (12 * i) from pk_mul 12 i]
          refine lv_iload_n hx hb dMD_isBad_38 rfl (lv_at hl 0 rfl) ?_
          refine lv_iadd hx hb dMD_isBad_39 ?_
          rw [show ((nI (12 * i)) + (nI k)) = nI (12 * i + k) from nI_add _ _]
          refine lv_istore hx hb dMD_isBad_40 hl (by decide) rfl (fun ls hl => ?_)
          have hl : lv_has ls 7 [(4, .int (nI (12 * i + k))), (3, .int (nI k)), (2, .int (nI i)), (1, .int v1), (0, .ref (ad 0))] := hl
          refine lv_aload_n hx hb dMD_isBad_42 rfl (lv_at hl 4 rfl) ?_
          refine g_MD_13 X hP (by omega) (m0) rfl dMD_isBad_43 ?_
          refine lv_iload hx hb dMD_isBad_46 (lv_at hl 0 rfl) ?_
          refine q_iald (12 * i + k) X hP (by omega) (m2) (rfl) (by omega) (by decide) dMD_isBad_48 ?_
          refine lv_bipush (v := 12) hx hb dMD_isBad_49 (by decide) ?_
          refine lv_icmp_ne (tgt := 72) hx hb dMD_isBad_51 rfl (fun h51 => ?_) (fun h51 => ?_)
          · refine lv_iconst (v := 0) hx hb dMD_isBad_72 (by decide) ?_
            exact J73 0 _ _ _ (awayN1 (fun h => h51 (o2.trans h))) hD hP hS hl
          · refine lv_aload_n hx hb dMD_isBad_54 rfl (lv_at hl 4 rfl) ?_
            refine g_MD_19 X hP (by omega) (m0) rfl dMD_isBad_55 ?_
            refine lv_iload hx hb dMD_isBad_58 (lv_at hl 0 rfl) ?_
            refine q_iald (12 * i + k) X hP (by omega) (m4) (rfl) (by omega) (by decide) dMD_isBad_60 ?_
            refine lv_iload_n hx hb dMD_isBad_61 rfl (lv_at hl 1 rfl) ?_
            refine x_iE (f := fun k => 0 + k) (x_runS (As := [.int ((A 4) (12 * i + k)), .int (nI k)]) (rest := []) X (c_MD_within l D tc (fun k => ad (0 + k)) (fun k => E (0 + k)) (A 4 (12 * i + k)) (nI k) (n := k) (nI_toInt (by omega))) rfl rfl (by decide) (by decide) w_551 w_9 w_549 w_550 ry_MD_within (ct_pre X hP hD (fr_lt 0 17 0 (by omega)) (fr_inj 0 0)) ct_blind hl.1 (Nat.le_of_ble_eq_true rfl) dMD_isBad_62 ⟨Nat.zero_le _, Nat.zero_le _⟩) hD hP hS (fr_lt 0 17 0 (by omega)) (fr_inj 0 0) (fun H locs hD hP hS => ?_)
            refine lv_if_ne (tgt := 72) hx hb dMD_isBad_65 rfl (fun h65 => ?_) (fun h65 => ?_)
            · refine lv_iconst (v := 0) hx hb dMD_isBad_72 (by decide) ?_
              exact J73 0 _ _ _ (awayN2 (by rw [← o4]; exact bi_t h65)) hD hP hS hl
            · refine lv_iconst (v := 1) hx hb dMD_isBad_68 (by decide) ?_
              refine lv_goto (tgt := 73) hx hb dMD_isBad_69 rfl ?_
              exact J73 1 _ _ _ (awayY (o2.symm.trans h51) (by rw [← o4]; exact bi_f h65)) hD hP hS hl
      exact loopk (sz i) 0 v1 _ _ _ (by omega) (hv.trans (congrArg bi (by rw [show orT _ 0 = false from rfl, Bool.or_false]))) hD hP hS hl
  refine lv_aload_n hx hb dMD_isBad_0 rfl (lv_at hl 0 rfl) ?_
  refine g_MD_7 X hP (by omega) (m0) rfl dMD_isBad_1 ?_
  refine lv_iconst (v := 0) hx hb dMD_isBad_4 (by decide) ?_
  refine q_iald 0 X hP (by omega) (m1) (rfl) (by decide) (by decide) dMD_isBad_5 ?_
  refine lv_if_ne (tgt := 13) hx hb dMD_isBad_6 rfl (fun h6 => ?_) (fun h6 => ?_)
  · refine lv_iconst (v := 0) hx hb dMD_isBad_13 (by decide) ?_
    refine lv_istore_n hx hb dMD_isBad_14 rfl hl (by decide) rfl (fun ls hl => ?_)
    have hl : lv_has ls 7 [(1, .int 0), (0, .ref (ad 0))] := hl
    refine lv_iconst (v := 0) hx hb dMD_isBad_15 (by decide) ?_
    refine lv_istore_n hx hb dMD_isBad_16 rfl hl (by decide) rfl (fun ls hl => ?_)
    have hl : lv_has ls 7 [(2, .int 0), (1, .int 0), (0, .ref (ad 0))] := hl
    exact loop 5 0 0 _ _ _ (by omega) (flag0f (fun h => h6 (by rw [q1 0 (by decide), h]; rfl))) hD hP hS hl
  · refine lv_iconst (v := 1) hx hb dMD_isBad_9 (by decide) ?_
    refine lv_goto (tgt := 14) hx hb dMD_isBad_10 rfl ?_
    refine lv_istore_n hx hb dMD_isBad_14 rfl hl (by decide) rfl (fun ls hl => ?_)
    have hl : lv_has ls 7 [(1, .int 1), (0, .ref (ad 0))] := hl
    refine lv_iconst (v := 0) hx hb dMD_isBad_15 (by decide) ?_
    refine lv_istore_n hx hb dMD_isBad_16 rfl hl (by decide) rfl (fun ls hl => ?_)
    have hl : lv_has ls 7 [(2, .int 0), (1, .int 1), (0, .ref (ad 0))] := hl
    exact loop 5 0 1 _ _ _ (by omega) (flag0t (nI_eq0 (by have := hs 0 (by decide); omega) ((q1 0 (by decide)).symm.trans h6))) hD hP hS hl
set_option maxHeartbeats 4000000 in
set_option maxRecDepth 100000 in
theorem g_MD_start (l : Launch) (D : va_G) (tc : Nat → ClassId) (ad : Nat → Nat) (E : Nat → va_E) (th st : Int32) (sz : Nat → Nat) (fo fa fb : Nat → Nat → Int32) (cb : Int32) (hI : MI tc ad E th st sz fo fa fb) (hs : ∀ t, t < 5 → sz t ≤ 12) (hcb : narrow .boolean (.int cb) = .int cb ∧ fits .boolean (.int cb) = true) : Ct l D tc yMD_start 2 17 ad E [.ref (ad 0), .int cb] (fun o E2 => ∃ r th2 : Int32, o = .returned (some (.int r)) ∧ ((¬ st = 0 ∧ th2 = 1 ∧ MI tc ad E2 th2 st sz fo fa fb) ∨ (st = 0 ∧ allBad sz fo fa fb = true ∧ th2 = 2 ∧ MI tc ad E2 th2 st sz fo fa fb) ∨ (st = 0 ∧ allBad sz fo fa fb = false ∧ th2 = 0 ∧ r = sumT sz 5 ∧ MI tc ad E2 th2 1 sz fo fa fb))) := by
  refine Ct.ofW (cc := cMD_start) (maxL := 4) (ret := (some .int)) (own := R_MD) (by decide) rfl w_559 (Nat.le_of_ble_eq_true rfl) ?_
  intro p e s m args below meth c ls X hlk hr hD hP hS hl
  have hx := X.1
  have hb := X.2.1
  have hl : lv_has ls 4 [(0, .ref (ad 0)), (1, .int cb)] := hl
  obtain ⟨ic, cn, A, J, hM, hc, q1, q2, q5⟩ := hI
  have hM0 := hM
  obtain ⟨m0, m1, m2, m3, m4, m5, m6, m7, m8, m9, m10, m11, m12, m13, m14, m15, m16⟩ := hM
  refine lv_aload_n hx hb dMD_start_0 rfl (lv_at hl 0 rfl) ?_
  refine g_MD_71 X hP (by omega) (m0) rfl dMD_start_1 ?_
  refine lv_if_eq (tgt := 13) hx hb dMD_start_4 rfl (fun h4 => ?_) (fun h4 => ?_)
  · refine lv_aload_n hx hb dMD_start_13 rfl (lv_at hl 0 rfl) ?_
    refine x_iE (f := fun k => 0 + k) (x_runV (C := R_MD) (As := []) (rest := []) X (g_MD_isBad l D tc (fun k => ad (0 + k)) (fun k => E (0 + k)) sz fo fa fb th st ic cn A J (by simpa only [Nat.zero_add] using hM0) hc q1 q2 hs) rfl rfl (by decide) (by decide) w_567 w_9 w_564 w_566 sel_MD_isBad ry_MD_isBad (x_recv X hP (by omega) (m0) rfl) (ct_pre X hP hD (fr_lt 17 17 0 (by omega)) (fr_inj 17 0)) ct_blind hl.1 (Nat.le_of_ble_eq_true rfl) dMD_start_14 ⟨Nat.zero_le _, Nat.zero_le _⟩) hD hP hS (fr_lt 17 17 0 (by omega)) (fr_inj 17 0) (fun H locs hD hP hS => ?_)
    refine lv_if_eq (tgt := 26) hx hb dMD_start_17 rfl (fun h17 => ?_) (fun h17 => ?_)
    · refine lv_aload_n hx hb dMD_start_26 rfl (lv_at hl 0 rfl) ?_
      refine lv_iconst (v := 0) hx hb dMD_start_27 (by decide) ?_
      refine p_MD_63 X hD hP hS (by omega) (m0) rfl rfl (Nat.le_of_ble_eq_true rfl) dMD_start_28 (fun H locs hD hP hS => ?_)
      have hP : va_P D vwCl (wW 17 ad (va_up E 0 (.inr (7, [.int 0, .int st, .int ic, .ref (ad 1), .ref (ad 2), .ref (ad 3), .ref (ad 4), .ref (ad 5), .ref (ad 6), .ref (ad 7), .ref (ad 8), .ref (ad 9), .int (nI cn), .ref (ad 10), .ref (ad 11), .ref (ad 12), .ref (ad 13), .ref (ad 14), .ref (ad 15), .ref (ad 16)])))) H := hP
      have hD : va_D (Aw 17 ad) (wW 17 ad (va_up E 0 (.inr (7, [.int 0, .int st, .int ic, .ref (ad 1), .ref (ad 2), .ref (ad 3), .ref (ad 4), .ref (ad 5), .ref (ad 6), .ref (ad 7), .ref (ad 8), .ref (ad 9), .int (nI cn), .ref (ad 10), .ref (ad 11), .ref (ad 12), .ref (ad 13), .ref (ad 14), .ref (ad 15), .ref (ad 16)])))) := hD
      generalize g2 : va_up E 0 (.inr (7, [.int 0, .int st, .int ic, .ref (ad 1), .ref (ad 2), .ref (ad 3), .ref (ad 4), .ref (ad 5), .ref (ad 6), .ref (ad 7), .ref (ad 8), .ref (ad 9), .int (nI cn), .ref (ad 10), .ref (ad 11), .ref (ad 12), .ref (ad 13), .ref (ad 14), .ref (ad 15), .ref (ad 16)])) = E1 at hD hP
      have f3 : E1 0 = .inr (7, [.int 0, .int st, .int ic, .ref (ad 1), .ref (ad 2), .ref (ad 3), .ref (ad 4), .ref (ad 5), .ref (ad 6), .ref (ad 7), .ref (ad 8), .ref (ad 9), .int (nI cn), .ref (ad 10), .ref (ad 11), .ref (ad 12), .ref (ad 13), .ref (ad 14), .ref (ad 15), .ref (ad 16)]) := by rw [← g2]; exact va_up_self _ _ _
      have f4 : E1 1 = .inl (tc 0, 5, .inl (A 1)) := by rw [← g2, va_up_ne _ _ (by omega)]; exact m1
      have f5 : E1 2 = .inl (tc 0, 60, .inl (A 2)) := by rw [← g2, va_up_ne _ _ (by omega)]; exact m2
      have f6 : E1 3 = .inl (tc 0, 60, .inl (A 3)) := by rw [← g2, va_up_ne _ _ (by omega)]; exact m3
      have f7 : E1 4 = .inl (tc 0, 60, .inl (A 4)) := by rw [← g2, va_up_ne _ _ (by omega)]; exact m4
      have f8 : E1 5 = .inl (tc 0, 5, .inl (A 5)) := by rw [← g2, va_up_ne _ _ (by omega)]; exact m5
      have f9 : E1 6 = .inl (tc 0, 5, .inl (A 6)) := by rw [← g2, va_up_ne _ _ (by omega)]; exact m6
      have f10 : E1 7 = .inl (tc 0, 5, .inl (A 7)) := by rw [← g2, va_up_ne _ _ (by omega)]; exact m7
      have f11 : E1 8 = .inl (tc 0, 3, .inl (A 8)) := by rw [← g2, va_up_ne _ _ (by omega)]; exact m8
      have f12 : E1 9 = .inl (tc 0, 3, .inl (A 9)) := by rw [← g2, va_up_ne _ _ (by omega)]; exact m9
      have f13 : E1 10 = .inl (tc 0, 200, .inl (A 10)) := by rw [← g2, va_up_ne _ _ (by omega)]; exact m10
      have f14 : E1 11 = .inl (tc 0, 200, .inl (A 11)) := by rw [← g2, va_up_ne _ _ (by omega)]; exact m11
      have f15 : E1 12 = .inl (tc 0, 200, .inl (A 12)) := by rw [← g2, va_up_ne _ _ (by omega)]; exact m12
      have f16 : E1 13 = .inl (tc 2, 200, .inl (A 13)) := by rw [← g2, va_up_ne _ _ (by omega)]; exact m13
      have f17 : E1 15 = .inl (tc 0, 8, .inl (A 15)) := by rw [← g2, va_up_ne _ _ (by omega)]; exact m15
      have f18 : E1 16 = .inl (tc 0, 8, .inl (A 16)) := by rw [← g2, va_up_ne _ _ (by omega)]; exact m16
      have f19 : E1 14 = .inl (tc 1, 800, .inr (.inl J)) := by rw [← g2, va_up_ne _ _ (by omega)]; exact m14
      refine lv_aload_n hx hb dMD_start_31 rfl (lv_at hl 0 rfl) ?_
      refine lv_iconst (v := 1) hx hb dMD_start_32 (by decide) ?_
      refine p_MD_71 X hD hP hS (by omega) (f3) (by decide) rfl (Nat.le_of_ble_eq_true rfl) dMD_start_33 (fun H locs hD hP hS => ?_)
      have hP : va_P D vwCl (wW 17 ad (va_up E1 0 (.inr (7, [.int 0, .int 1, .int ic, .ref (ad 1), .ref (ad 2), .ref (ad 3), .ref (ad 4), .ref (ad 5), .ref (ad 6), .ref (ad 7), .ref (ad 8), .ref (ad 9), .int (nI cn), .ref (ad 10), .ref (ad 11), .ref (ad 12), .ref (ad 13), .ref (ad 14), .ref (ad 15), .ref (ad 16)])))) H := hP
      have hD : va_D (Aw 17 ad) (wW 17 ad (va_up E1 0 (.inr (7, [.int 0, .int 1, .int ic, .ref (ad 1), .ref (ad 2), .ref (ad 3), .ref (ad 4), .ref (ad 5), .ref (ad 6), .ref (ad 7), .ref (ad 8), .ref (ad 9), .int (nI cn), .ref (ad 10), .ref (ad 11), .ref (ad 12), .ref (ad 13), .ref (ad 14), .ref (ad 15), .ref (ad 16)])))) := hD
      generalize g21 : va_up E1 0 (.inr (7, [.int 0, .int 1, .int ic, .ref (ad 1), .ref (ad 2), .ref (ad 3), .ref (ad 4), .ref (ad 5), .ref (ad 6), .ref (ad 7), .ref (ad 8), .ref (ad 9), .int (nI cn), .ref (ad 10), .ref (ad 11), .ref (ad 12), .ref (ad 13), .ref (ad 14), .ref (ad 15), .ref (ad 16)])) = E20 at hD hP
      have f22 : E20 0 = .inr (7, [.int 0, .int 1, .int ic, .ref (ad 1), .ref (ad 2), .ref (ad 3), .ref (ad 4), .ref (ad 5), .ref (ad 6), .ref (ad 7), .ref (ad 8), .ref (ad 9), .int (nI cn), .ref (ad 10), .ref (ad 11), .ref (ad 12), .ref (ad 13), .ref (ad 14), .ref (ad 15), .ref (ad 16)]) := by rw [← g21]; exact va_up_self _ _ _
      have f23 : E20 1 = .inl (tc 0, 5, .inl (A 1)) := by rw [← g21, va_up_ne _ _ (by omega)]; exact f4
      have f24 : E20 2 = .inl (tc 0, 60, .inl (A 2)) := by rw [← g21, va_up_ne _ _ (by omega)]; exact f5
      have f25 : E20 3 = .inl (tc 0, 60, .inl (A 3)) := by rw [← g21, va_up_ne _ _ (by omega)]; exact f6
      have f26 : E20 4 = .inl (tc 0, 60, .inl (A 4)) := by rw [← g21, va_up_ne _ _ (by omega)]; exact f7
      have f27 : E20 5 = .inl (tc 0, 5, .inl (A 5)) := by rw [← g21, va_up_ne _ _ (by omega)]; exact f8
      have f28 : E20 6 = .inl (tc 0, 5, .inl (A 6)) := by rw [← g21, va_up_ne _ _ (by omega)]; exact f9
      have f29 : E20 7 = .inl (tc 0, 5, .inl (A 7)) := by rw [← g21, va_up_ne _ _ (by omega)]; exact f10
      have f30 : E20 8 = .inl (tc 0, 3, .inl (A 8)) := by rw [← g21, va_up_ne _ _ (by omega)]; exact f11
      have f31 : E20 9 = .inl (tc 0, 3, .inl (A 9)) := by rw [← g21, va_up_ne _ _ (by omega)]; exact f12
      have f32 : E20 10 = .inl (tc 0, 200, .inl (A 10)) := by rw [← g21, va_up_ne _ _ (by omega)]; exact f13
      have f33 : E20 11 = .inl (tc 0, 200, .inl (A 11)) := by rw [← g21, va_up_ne _ _ (by omega)]; exact f14
      have f34 : E20 12 = .inl (tc 0, 200, .inl (A 12)) := by rw [← g21, va_up_ne _ _ (by omega)]; exact f15
      have f35 : E20 13 = .inl (tc 2, 200, .inl (A 13)) := by rw [← g21, va_up_ne _ _ (by omega)]; exact f16
      have f36 : E20 15 = .inl (tc 0, 8, .inl (A 15)) := by rw [← g21, va_up_ne _ _ (by omega)]; exact f17
      have f37 : E20 16 = .inl (tc 0, 8, .inl (A 16)) := by rw [← g21, va_up_ne _ _ (by omega)]; exact f18
      have f38 : E20 14 = .inl (tc 1, 800, .inr (.inl J)) := by rw [← g21, va_up_ne _ _ (by omega)]; exact f19
      refine lv_aload_n hx hb dMD_start_36 rfl (lv_at hl 0 rfl) ?_
      refine lv_iload_n hx hb dMD_start_37 rfl (lv_at hl 1 rfl) ?_
      refine p_MD_89 X hD hP hS (by omega) (f22) hcb.1 hcb.2 (Nat.le_of_ble_eq_true rfl) dMD_start_38 (fun H locs hD hP hS => ?_)
      have hP : va_P D vwCl (wW 17 ad (va_up E20 0 (.inr (7, [.int 0, .int 1, .int cb, .ref (ad 1), .ref (ad 2), .ref (ad 3), .ref (ad 4), .ref (ad 5), .ref (ad 6), .ref (ad 7), .ref (ad 8), .ref (ad 9), .int (nI cn), .ref (ad 10), .ref (ad 11), .ref (ad 12), .ref (ad 13), .ref (ad 14), .ref (ad 15), .ref (ad 16)])))) H := hP
      have hD : va_D (Aw 17 ad) (wW 17 ad (va_up E20 0 (.inr (7, [.int 0, .int 1, .int cb, .ref (ad 1), .ref (ad 2), .ref (ad 3), .ref (ad 4), .ref (ad 5), .ref (ad 6), .ref (ad 7), .ref (ad 8), .ref (ad 9), .int (nI cn), .ref (ad 10), .ref (ad 11), .ref (ad 12), .ref (ad 13), .ref (ad 14), .ref (ad 15), .ref (ad 16)])))) := hD
      generalize g40 : va_up E20 0 (.inr (7, [.int 0, .int 1, .int cb, .ref (ad 1), .ref (ad 2), .ref (ad 3), .ref (ad 4), .ref (ad 5), .ref (ad 6), .ref (ad 7), .ref (ad 8), .ref (ad 9), .int (nI cn), .ref (ad 10), .ref (ad 11), .ref (ad 12), .ref (ad 13), .ref (ad 14), .ref (ad 15), .ref (ad 16)])) = E39 at hD hP
      have f41 : E39 0 = .inr (7, [.int 0, .int 1, .int cb, .ref (ad 1), .ref (ad 2), .ref (ad 3), .ref (ad 4), .ref (ad 5), .ref (ad 6), .ref (ad 7), .ref (ad 8), .ref (ad 9), .int (nI cn), .ref (ad 10), .ref (ad 11), .ref (ad 12), .ref (ad 13), .ref (ad 14), .ref (ad 15), .ref (ad 16)]) := by rw [← g40]; exact va_up_self _ _ _
      have f42 : E39 1 = .inl (tc 0, 5, .inl (A 1)) := by rw [← g40, va_up_ne _ _ (by omega)]; exact f23
      have f43 : E39 2 = .inl (tc 0, 60, .inl (A 2)) := by rw [← g40, va_up_ne _ _ (by omega)]; exact f24
      have f44 : E39 3 = .inl (tc 0, 60, .inl (A 3)) := by rw [← g40, va_up_ne _ _ (by omega)]; exact f25
      have f45 : E39 4 = .inl (tc 0, 60, .inl (A 4)) := by rw [← g40, va_up_ne _ _ (by omega)]; exact f26
      have f46 : E39 5 = .inl (tc 0, 5, .inl (A 5)) := by rw [← g40, va_up_ne _ _ (by omega)]; exact f27
      have f47 : E39 6 = .inl (tc 0, 5, .inl (A 6)) := by rw [← g40, va_up_ne _ _ (by omega)]; exact f28
      have f48 : E39 7 = .inl (tc 0, 5, .inl (A 7)) := by rw [← g40, va_up_ne _ _ (by omega)]; exact f29
      have f49 : E39 8 = .inl (tc 0, 3, .inl (A 8)) := by rw [← g40, va_up_ne _ _ (by omega)]; exact f30
      have f50 : E39 9 = .inl (tc 0, 3, .inl (A 9)) := by rw [← g40, va_up_ne _ _ (by omega)]; exact f31
      have f51 : E39 10 = .inl (tc 0, 200, .inl (A 10)) := by rw [← g40, va_up_ne _ _ (by omega)]; exact f32
      have f52 : E39 11 = .inl (tc 0, 200, .inl (A 11)) := by rw [← g40, va_up_ne _ _ (by omega)]; exact f33
      have f53 : E39 12 = .inl (tc 0, 200, .inl (A 12)) := by rw [← g40, va_up_ne _ _ (by omega)]; exact f34
      have f54 : E39 13 = .inl (tc 2, 200, .inl (A 13)) := by rw [← g40, va_up_ne _ _ (by omega)]; exact f35
      have f55 : E39 15 = .inl (tc 0, 8, .inl (A 15)) := by rw [← g40, va_up_ne _ _ (by omega)]; exact f36
      have f56 : E39 16 = .inl (tc 0, 8, .inl (A 16)) := by rw [← g40, va_up_ne _ _ (by omega)]; exact f37
      have f57 : E39 14 = .inl (tc 1, 800, .inr (.inl J)) := by rw [← g40, va_up_ne _ _ (by omega)]; exact f38
      refine lv_iconst (v := 0) hx hb dMD_start_41 (by decide) ?_
      refine lv_istore_n hx hb dMD_start_42 rfl hl (by decide) rfl (fun ls hl => ?_)
      have hl : lv_has ls 4 [(2, .int 0), (0, .ref (ad 0)), (1, .int cb)] := hl
      refine lv_iconst (v := 0) hx hb dMD_start_43 (by decide) ?_
      refine lv_istore_n hx hb dMD_start_44 rfl hl (by decide) rfl (fun ls hl => ?_)
      have hl : lv_has ls 4 [(3, .int 0), (2, .int 0), (0, .ref (ad 0)), (1, .int cb)] := hl
      have loop : ∀ (r i : Nat) (B : Nat → Nat → Int32) (H : Heap) (locs : List Loc) (ls : Array Slot) (F : Nat → va_E), i + r = 5 → isMD tc ad F 0 1 cb (nI cn) B J → (∀ k, k < 5 → B k = A k) → (∀ u, u < i → B 6 u = 0) → (∀ u, u < i → B 5 u = 1 → u = 0) → va_D (Aw 17 ad) (wW 17 ad F) → va_P D vwCl (wW 17 ad F) H → va_S (Aw 17 ad) s.heap H locs → lv_has ls 4 [(3, .int (nI i)), (2, .int (sumT sz i)), (0, .ref (ad 0)), (1, .int cb)] → W p l e (rmD 2) s m args below meth c H locs 0 0 (XQ below (CtQ D 17 ad (fun o E2 => ∃ r th2 : Int32, o = .returned (some (.int r)) ∧ ((¬ st = 0 ∧ th2 = 1 ∧ MI tc ad E2 th2 st sz fo fa fb) ∨ (st = 0 ∧ allBad sz fo fa fb = true ∧ th2 = 2 ∧ MI tc ad E2 th2 st sz fo fa fb) ∨ (st = 0 ∧ allBad sz fo fa fb = false ∧ th2 = 0 ∧ r = sumT sz 5 ∧ MI tc ad E2 th2 1 sz fo fa fb)))) args s 0 0 (Aw 17 ad)) (F0 m 45 ls []) := by
        intro r
        induction r with
        | zero =>
          intro i B H locs ls F hi hM b1 b2 b3 hD hP hS hl
          have hM9 := hM
          obtain ⟨m0, m1, m2, m3, m4, m5, m6, m7, m8, m9, m10, m11, m12, m13, m14, m15, m16⟩ := hM
          refine lv_iload_n hx hb dMD_start_45 rfl (lv_at hl 0 rfl) ?_
          refine lv_iconst (v := 5) hx hb dMD_start_46 (by decide) ?_
          refine lv_icmp_ge (tgt := 94) hx hb dMD_start_47 rfl (fun h47 => ?_) (fun h47 => absurd (nI_le (a := 5) (b := i) (by omega) (by omega)) h47)
          refine lv_iload_n hx hb dMD_start_94 rfl (lv_at hl 1 rfl) ?_
          exact q_iret X hlk hr hP hS dMD_start_95 ⟨sumT sz 5, 0, by rw [show i = 5 by omega], Or.inr (Or.inr ⟨h4, bi_f h17, rfl, rfl, ⟨cb, cn, B, J, hM9, hc, fun t ht => by rw [b1 1 (by decide)]; exact q1 t ht, fun t ht k hk => by rw [b1 2 (by decide), b1 3 (by decide), b1 4 (by decide)]; exact q2 t ht k hk, fun _ t ht => ⟨fun h => ⟨0, by rw [b3 t (by omega) h]; exact allBad_0 (bi_f h17), b2 t (by omega)⟩, fun _ => b2 t (by omega)⟩⟩⟩)⟩
        | succ r ih =>
          intro i B H locs ls F hi hM b1 b2 b3 hD hP hS hl
          have hM9 := hM
          obtain ⟨m0, m1, m2, m3, m4, m5, m6, m7, m8, m9, m10, m11, m12, m13, m14, m15, m16⟩ := hM
          refine lv_iload_n hx hb dMD_start_45 rfl (lv_at hl 0 rfl) ?_
          refine lv_iconst (v := 5) hx hb dMD_start_46 (by decide) ?_
          refine lv_icmp_ge (tgt := 94) hx hb dMD_start_47 rfl (fun h47 => absurd h47 (nI_ge (a := i) (b := 5) (by omega) (by omega))) (fun h47 => ?_)
          refine lv_aload_n hx hb dMD_start_50 rfl (lv_at hl 2 rfl) ?_
          refine g_MD_22 X hP (by omega) (m0) rfl dMD_start_51 ?_
          refine lv_iload_n hx hb dMD_start_54 rfl (lv_at hl 0 rfl) ?_
          refine lv_iload_n hx hb dMD_start_55 rfl (lv_at hl 0 rfl) ?_
          refine lv_if_ne (tgt := 63) hx hb dMD_start_56 rfl (fun h56 => ?_) (fun h56 => ?_)
          · refine lv_iconst (v := 0) hx hb dMD_start_63 (by decide) ?_
            refine q_iast i X hD hP hS (by omega) (m5) (rfl) (by omega) (by decide) dMD_start_64 (fun H locs hD hP hS => ?_)
            have hP : va_P D vwCl (wW 17 ad (va_up F 5 (.inl (tc 0, 5, .inl (upd (B 5) i 0))))) H := hP
            have hD : va_D (Aw 17 ad) (wW 17 ad (va_up F 5 (.inl (tc 0, 5, .inl (upd (B 5) i 0))))) := hD
            generalize g59 : va_up F 5 (.inl (tc 0, 5, .inl (upd (B 5) i 0))) = E58 at hD hP
            have f60 : E58 0 = .inr (7, [.int 0, .int 1, .int cb, .ref (ad 1), .ref (ad 2), .ref (ad 3), .ref (ad 4), .ref (ad 5), .ref (ad 6), .ref (ad 7), .ref (ad 8), .ref (ad 9), .int (nI cn), .ref (ad 10), .ref (ad 11), .ref (ad 12), .ref (ad 13), .ref (ad 14), .ref (ad 15), .ref (ad 16)]) := by rw [← g59, va_up_ne _ _ (by omega)]; exact m0
            have f61 : E58 1 = .inl (tc 0, 5, .inl (B 1)) := by rw [← g59, va_up_ne _ _ (by omega)]; exact m1
            have f62 : E58 2 = .inl (tc 0, 60, .inl (B 2)) := by rw [← g59, va_up_ne _ _ (by omega)]; exact m2
            have f63 : E58 3 = .inl (tc 0, 60, .inl (B 3)) := by rw [← g59, va_up_ne _ _ (by omega)]; exact m3
            have f64 : E58 4 = .inl (tc 0, 60, .inl (B 4)) := by rw [← g59, va_up_ne _ _ (by omega)]; exact m4
            have f65 : E58 5 = .inl (tc 0, 5, .inl (upd (B 5) i 0)) := by rw [← g59]; exact va_up_self _ _ _
            have f66 : E58 6 = .inl (tc 0, 5, .inl (B 6)) := by rw [← g59, va_up_ne _ _ (by omega)]; exact m6
            have f67 : E58 7 = .inl (tc 0, 5, .inl (B 7)) := by rw [← g59, va_up_ne _ _ (by omega)]; exact m7
            have f68 : E58 8 = .inl (tc 0, 3, .inl (B 8)) := by rw [← g59, va_up_ne _ _ (by omega)]; exact m8
            have f69 : E58 9 = .inl (tc 0, 3, .inl (B 9)) := by rw [← g59, va_up_ne _ _ (by omega)]; exact m9
            have f70 : E58 10 = .inl (tc 0, 200, .inl (B 10)) := by rw [← g59, va_up_ne _ _ (by omega)]; exact m10
            have f71 : E58 11 = .inl (tc 0, 200, .inl (B 11)) := by rw [← g59, va_up_ne _ _ (by omega)]; exact m11
            have f72 : E58 12 = .inl (tc 0, 200, .inl (B 12)) := by rw [← g59, va_up_ne _ _ (by omega)]; exact m12
            have f73 : E58 13 = .inl (tc 2, 200, .inl (B 13)) := by rw [← g59, va_up_ne _ _ (by omega)]; exact m13
            have f74 : E58 15 = .inl (tc 0, 8, .inl (B 15)) := by rw [← g59, va_up_ne _ _ (by omega)]; exact m15
            have f75 : E58 16 = .inl (tc 0, 8, .inl (B 16)) := by rw [← g59, va_up_ne _ _ (by omega)]; exact m16
            have f76 : E58 14 = .inl (tc 1, 800, .inr (.inl J)) := by rw [← g59, va_up_ne _ _ (by omega)]; exact m14
            refine lv_aload_n hx hb dMD_start_65 rfl (lv_at hl 2 rfl) ?_
            refine g_MD_25 X hP (by omega) (f60) rfl dMD_start_66 ?_
            refine lv_iload_n hx hb dMD_start_69 rfl (lv_at hl 0 rfl) ?_
            refine lv_iconst (v := 0) hx hb dMD_start_70 (by decide) ?_
            refine q_iast i X hD hP hS (by omega) (f66) (rfl) (by omega) (by decide) dMD_start_71 (fun H locs hD hP hS => ?_)
            have hP : va_P D vwCl (wW 17 ad (va_up E58 6 (.inl (tc 0, 5, .inl (upd (B 6) i 0))))) H := hP
            have hD : va_D (Aw 17 ad) (wW 17 ad (va_up E58 6 (.inl (tc 0, 5, .inl (upd (B 6) i 0))))) := hD
            generalize g78 : va_up E58 6 (.inl (tc 0, 5, .inl (upd (B 6) i 0))) = E77 at hD hP
            have f79 : E77 0 = .inr (7, [.int 0, .int 1, .int cb, .ref (ad 1), .ref (ad 2), .ref (ad 3), .ref (ad 4), .ref (ad 5), .ref (ad 6), .ref (ad 7), .ref (ad 8), .ref (ad 9), .int (nI cn), .ref (ad 10), .ref (ad 11), .ref (ad 12), .ref (ad 13), .ref (ad 14), .ref (ad 15), .ref (ad 16)]) := by rw [← g78, va_up_ne _ _ (by omega)]; exact f60
            have f80 : E77 1 = .inl (tc 0, 5, .inl (B 1)) := by rw [← g78, va_up_ne _ _ (by omega)]; exact f61
            have f81 : E77 2 = .inl (tc 0, 60, .inl (B 2)) := by rw [← g78, va_up_ne _ _ (by omega)]; exact f62
            have f82 : E77 3 = .inl (tc 0, 60, .inl (B 3)) := by rw [← g78, va_up_ne _ _ (by omega)]; exact f63
            have f83 : E77 4 = .inl (tc 0, 60, .inl (B 4)) := by rw [← g78, va_up_ne _ _ (by omega)]; exact f64
            have f84 : E77 5 = .inl (tc 0, 5, .inl (upd (B 5) i 0)) := by rw [← g78, va_up_ne _ _ (by omega)]; exact f65
            have f85 : E77 6 = .inl (tc 0, 5, .inl (upd (B 6) i 0)) := by rw [← g78]; exact va_up_self _ _ _
            have f86 : E77 7 = .inl (tc 0, 5, .inl (B 7)) := by rw [← g78, va_up_ne _ _ (by omega)]; exact f67
            have f87 : E77 8 = .inl (tc 0, 3, .inl (B 8)) := by rw [← g78, va_up_ne _ _ (by omega)]; exact f68
            have f88 : E77 9 = .inl (tc 0, 3, .inl (B 9)) := by rw [← g78, va_up_ne _ _ (by omega)]; exact f69
            have f89 : E77 10 = .inl (tc 0, 200, .inl (B 10)) := by rw [← g78, va_up_ne _ _ (by omega)]; exact f70
            have f90 : E77 11 = .inl (tc 0, 200, .inl (B 11)) := by rw [← g78, va_up_ne _ _ (by omega)]; exact f71
            have f91 : E77 12 = .inl (tc 0, 200, .inl (B 12)) := by rw [← g78, va_up_ne _ _ (by omega)]; exact f72
            have f92 : E77 13 = .inl (tc 2, 200, .inl (B 13)) := by rw [← g78, va_up_ne _ _ (by omega)]; exact f73
            have f93 : E77 15 = .inl (tc 0, 8, .inl (B 15)) := by rw [← g78, va_up_ne _ _ (by omega)]; exact f74
            have f94 : E77 16 = .inl (tc 0, 8, .inl (B 16)) := by rw [← g78, va_up_ne _ _ (by omega)]; exact f75
            have f95 : E77 14 = .inl (tc 1, 800, .inr (.inl J)) := by rw [← g78, va_up_ne _ _ (by omega)]; exact f76
            refine lv_aload_n hx hb dMD_start_72 rfl (lv_at hl 2 rfl) ?_
            refine g_MD_28 X hP (by omega) (f79) rfl dMD_start_73 ?_
            refine lv_iload_n hx hb dMD_start_76 rfl (lv_at hl 0 rfl) ?_
            refine lv_iconst (v := 0) hx hb dMD_start_77 (by decide) ?_
            refine q_iast i X hD hP hS (by omega) (f86) (rfl) (by omega) (by decide) dMD_start_78 (fun H locs hD hP hS => ?_)
            have hP : va_P D vwCl (wW 17 ad (va_up E77 7 (.inl (tc 0, 5, .inl (upd (B 7) i 0))))) H := hP
            have hD : va_D (Aw 17 ad) (wW 17 ad (va_up E77 7 (.inl (tc 0, 5, .inl (upd (B 7) i 0))))) := hD
            generalize g97 : va_up E77 7 (.inl (tc 0, 5, .inl (upd (B 7) i 0))) = E96 at hD hP
            have f98 : E96 0 = .inr (7, [.int 0, .int 1, .int cb, .ref (ad 1), .ref (ad 2), .ref (ad 3), .ref (ad 4), .ref (ad 5), .ref (ad 6), .ref (ad 7), .ref (ad 8), .ref (ad 9), .int (nI cn), .ref (ad 10), .ref (ad 11), .ref (ad 12), .ref (ad 13), .ref (ad 14), .ref (ad 15), .ref (ad 16)]) := by rw [← g97, va_up_ne _ _ (by omega)]; exact f79
            have f99 : E96 1 = .inl (tc 0, 5, .inl (B 1)) := by rw [← g97, va_up_ne _ _ (by omega)]; exact f80
            have f100 : E96 2 = .inl (tc 0, 60, .inl (B 2)) := by rw [← g97, va_up_ne _ _ (by omega)]; exact f81
            have f101 : E96 3 = .inl (tc 0, 60, .inl (B 3)) := by rw [← g97, va_up_ne _ _ (by omega)]; exact f82
            have f102 : E96 4 = .inl (tc 0, 60, .inl (B 4)) := by rw [← g97, va_up_ne _ _ (by omega)]; exact f83
            have f103 : E96 5 = .inl (tc 0, 5, .inl (upd (B 5) i 0)) := by rw [← g97, va_up_ne _ _ (by omega)]; exact f84
            have f104 : E96 6 = .inl (tc 0, 5, .inl (upd (B 6) i 0)) := by rw [← g97, va_up_ne _ _ (by omega)]; exact f85
            have f105 : E96 7 = .inl (tc 0, 5, .inl (upd (B 7) i 0)) := by rw [← g97]; exact va_up_self _ _ _
            have f106 : E96 8 = .inl (tc 0, 3, .inl (B 8)) := by rw [← g97, va_up_ne _ _ (by omega)]; exact f87
            have f107 : E96 9 = .inl (tc 0, 3, .inl (B 9)) := by rw [← g97, va_up_ne _ _ (by omega)]; exact f88
            have f108 : E96 10 = .inl (tc 0, 200, .inl (B 10)) := by rw [← g97, va_up_ne _ _ (by omega)]; exact f89
            have f109 : E96 11 = .inl (tc 0, 200, .inl (B 11)) := by rw [← g97, va_up_ne _ _ (by omega)]; exact f90
            have f110 : E96 12 = .inl (tc 0, 200, .inl (B 12)) := by rw [← g97, va_up_ne _ _ (by omega)]; exact f91
            have f111 : E96 13 = .inl (tc 2, 200, .inl (B 13)) := by rw [← g97, va_up_ne _ _ (by omega)]; exact f92
            have f112 : E96 15 = .inl (tc 0, 8, .inl (B 15)) := by rw [← g97, va_up_ne _ _ (by omega)]; exact f93
            have f113 : E96 16 = .inl (tc 0, 8, .inl (B 16)) := by rw [← g97, va_up_ne _ _ (by omega)]; exact f94
            have f114 : E96 14 = .inl (tc 1, 800, .inr (.inl J)) := by rw [← g97, va_up_ne _ _ (by omega)]; exact f95
            refine lv_iload_n hx hb dMD_start_79 rfl (lv_at hl 1 rfl) ?_
            refine lv_aload_n hx hb dMD_start_80 rfl (lv_at hl 2 rfl) ?_
            refine g_MD_7 X hP (by omega) (f98) rfl dMD_start_81 ?_
            refine lv_iload_n hx hb dMD_start_84 rfl (lv_at hl 0 rfl) ?_
            refine q_iald i X hP (by omega) (f99) (rfl) (by omega) (by decide) dMD_start_85 ?_
            refine lv_iadd hx hb dMD_start_86 ?_
            rw [show ((sumT sz i) + ((B 1) i)) = sumT sz (i + 1) from by rw [b1 1 (by decide), q1 i (by omega)]; rfl]
            refine lv_istore_n hx hb dMD_start_87 rfl hl (by decide) rfl (fun ls hl => ?_)
            have hl : lv_has ls 4 [(2, .int (sumT sz (i + 1))), (3, .int (nI i)), (0, .ref (ad 0)), (1, .int cb)] := hl
            refine lv_iinc (k := 1) (v := nI (i + 1)) hx hb dMD_start_88 hl rfl (nI_1 i) (by decide) rfl (fun ls hl => ?_)
            have hl : lv_has ls 4 [(3, .int (nI (i + 1))), (2, .int (sumT sz (i + 1))), (0, .ref (ad 0)), (1, .int cb)] := hl
            refine lv_goto (tgt := 45) hx hb dMD_start_91 rfl ?_
            exact ih (i + 1) (va_up (va_up (va_up B 5 (upd (B 5) i 0)) 6 (upd (B 6) i 0)) 7 (upd (B 7) i 0)) _ _ _ _ (by omega) ⟨f98, f99, f100, f101, f102, f103, f104, f105, f106, f107, f108, f109, f110, f111, f114, f112, f113⟩ (fun k hk => by rw [va_up_ne _ _ (by omega), va_up_ne _ _ (by omega), va_up_ne _ _ (by omega)]; exact b1 k hk) (fun u hu => by rw [va_up_ne _ _ (by decide), va_up_self]; by_cases h : u = i; (· subst h; exact pk_us); (· rw [pk_un h]; exact b2 u (by omega))) (fun u hu => by rw [va_up_ne _ _ (by decide), va_up_ne _ _ (by decide), va_up_self]; by_cases h : u = i; (· subst h; rw [pk_us]; intro h9; exact absurd h9 (by decide)); (· rw [pk_un h]; exact b3 u (by omega))) hD hP hS hl
          · refine lv_iconst (v := 1) hx hb dMD_start_59 (by decide) ?_
            refine lv_goto (tgt := 64) hx hb dMD_start_60 rfl ?_
            refine q_iast i X hD hP hS (by omega) (m5) (rfl) (by omega) (by decide) dMD_start_64 (fun H locs hD hP hS => ?_)
            have hP : va_P D vwCl (wW 17 ad (va_up F 5 (.inl (tc 0, 5, .inl (upd (B 5) i 1))))) H := hP
            have hD : va_D (Aw 17 ad) (wW 17 ad (va_up F 5 (.inl (tc 0, 5, .inl (upd (B 5) i 1))))) := hD
            generalize g116 : va_up F 5 (.inl (tc 0, 5, .inl (upd (B 5) i 1))) = E115 at hD hP
            have f117 : E115 0 = .inr (7, [.int 0, .int 1, .int cb, .ref (ad 1), .ref (ad 2), .ref (ad 3), .ref (ad 4), .ref (ad 5), .ref (ad 6), .ref (ad 7), .ref (ad 8), .ref (ad 9), .int (nI cn), .ref (ad 10), .ref (ad 11), .ref (ad 12), .ref (ad 13), .ref (ad 14), .ref (ad 15), .ref (ad 16)]) := by rw [← g116, va_up_ne _ _ (by omega)]; exact m0
            have f118 : E115 1 = .inl (tc 0, 5, .inl (B 1)) := by rw [← g116, va_up_ne _ _ (by omega)]; exact m1
            have f119 : E115 2 = .inl (tc 0, 60, .inl (B 2)) := by rw [← g116, va_up_ne _ _ (by omega)]; exact m2
            have f120 : E115 3 = .inl (tc 0, 60, .inl (B 3)) := by rw [← g116, va_up_ne _ _ (by omega)]; exact m3
            have f121 : E115 4 = .inl (tc 0, 60, .inl (B 4)) := by rw [← g116, va_up_ne _ _ (by omega)]; exact m4
            have f122 : E115 5 = .inl (tc 0, 5, .inl (upd (B 5) i 1)) := by rw [← g116]; exact va_up_self _ _ _
            have f123 : E115 6 = .inl (tc 0, 5, .inl (B 6)) := by rw [← g116, va_up_ne _ _ (by omega)]; exact m6
            have f124 : E115 7 = .inl (tc 0, 5, .inl (B 7)) := by rw [← g116, va_up_ne _ _ (by omega)]; exact m7
            have f125 : E115 8 = .inl (tc 0, 3, .inl (B 8)) := by rw [← g116, va_up_ne _ _ (by omega)]; exact m8
            have f126 : E115 9 = .inl (tc 0, 3, .inl (B 9)) := by rw [← g116, va_up_ne _ _ (by omega)]; exact m9
            have f127 : E115 10 = .inl (tc 0, 200, .inl (B 10)) := by rw [← g116, va_up_ne _ _ (by omega)]; exact m10
            have f128 : E115 11 = .inl (tc 0, 200, .inl (B 11)) := by rw [← g116, va_up_ne _ _ (by omega)]; exact m11
            have f129 : E115 12 = .inl (tc 0, 200, .inl (B 12)) := by rw [← g116, va_up_ne _ _ (by omega)]; exact m12
            have f130 : E115 13 = .inl (tc 2, 200, .inl (B 13)) := by rw [← g116, va_up_ne _ _ (by omega)]; exact m13
            have f131 : E115 15 = .inl (tc 0, 8, .inl (B 15)) := by rw [← g116, va_up_ne _ _ (by omega)]; exact m15
            have f132 : E115 16 = .inl (tc 0, 8, .inl (B 16)) := by rw [← g116, va_up_ne _ _ (by omega)]; exact m16
            have f133 : E115 14 = .inl (tc 1, 800, .inr (.inl J)) := by rw [← g116, va_up_ne _ _ (by omega)]; exact m14
            refine lv_aload_n hx hb dMD_start_65 rfl (lv_at hl 2 rfl) ?_
            refine g_MD_25 X hP (by omega) (f117) rfl dMD_start_66 ?_
            refine lv_iload_n hx hb dMD_start_69 rfl (lv_at hl 0 rfl) ?_
            refine lv_iconst (v := 0) hx hb dMD_start_70 (by decide) ?_
            refine q_iast i X hD hP hS (by omega) (f123) (rfl) (by omega) (by decide) dMD_start_71 (fun H locs hD hP hS => ?_)
            have hP : va_P D vwCl (wW 17 ad (va_up E115 6 (.inl (tc 0, 5, .inl (upd (B 6) i 0))))) H := hP
            have hD : va_D (Aw 17 ad) (wW 17 ad (va_up E115 6 (.inl (tc 0, 5, .inl (upd (B 6) i 0))))) := hD
            generalize g135 : va_up E115 6 (.inl (tc 0, 5, .inl (upd (B 6) i 0))) = E134 at hD hP
            have f136 : E134 0 = .inr (7, [.int 0, .int 1, .int cb, .ref (ad 1), .ref (ad 2), .ref (ad 3), .ref (ad 4), .ref (ad 5), .ref (ad 6), .ref (ad 7), .ref (ad 8), .ref (ad 9), .int (nI cn), .ref (ad 10), .ref (ad 11), .ref (ad 12), .ref (ad 13), .ref (ad 14), .ref (ad 15), .ref (ad 16)]) := by rw [← g135, va_up_ne _ _ (by omega)]; exact f117
            have f137 : E134 1 = .inl (tc 0, 5, .inl (B 1)) := by rw [← g135, va_up_ne _ _ (by omega)]; exact f118
            have f138 : E134 2 = .inl (tc 0, 60, .inl (B 2)) := by rw [← g135, va_up_ne _ _ (by omega)]; exact f119
            have f139 : E134 3 = .inl (tc 0, 60, .inl (B 3)) := by rw [← g135, va_up_ne _ _ (by omega)]; exact f120
            have f140 : E134 4 = .inl (tc 0, 60, .inl (B 4)) := by rw [← g135, va_up_ne _ _ (by omega)]; exact f121
            have f141 : E134 5 = .inl (tc 0, 5, .inl (upd (B 5) i 1)) := by rw [← g135, va_up_ne _ _ (by omega)]; exact f122
            have f142 : E134 6 = .inl (tc 0, 5, .inl (upd (B 6) i 0)) := by rw [← g135]; exact va_up_self _ _ _
            have f143 : E134 7 = .inl (tc 0, 5, .inl (B 7)) := by rw [← g135, va_up_ne _ _ (by omega)]; exact f124
            have f144 : E134 8 = .inl (tc 0, 3, .inl (B 8)) := by rw [← g135, va_up_ne _ _ (by omega)]; exact f125
            have f145 : E134 9 = .inl (tc 0, 3, .inl (B 9)) := by rw [← g135, va_up_ne _ _ (by omega)]; exact f126
            have f146 : E134 10 = .inl (tc 0, 200, .inl (B 10)) := by rw [← g135, va_up_ne _ _ (by omega)]; exact f127
            have f147 : E134 11 = .inl (tc 0, 200, .inl (B 11)) := by rw [← g135, va_up_ne _ _ (by omega)]; exact f128
            have f148 : E134 12 = .inl (tc 0, 200, .inl (B 12)) := by rw [← g135, va_up_ne _ _ (by omega)]; exact f129
            have f149 : E134 13 = .inl (tc 2, 200, .inl (B 13)) := by rw [← g135, va_up_ne _ _ (by omega)]; exact f130
            have f150 : E134 15 = .inl (tc 0, 8, .inl (B 15)) := by rw [← g135, va_up_ne _ _ (by omega)]; exact f131
            have f151 : E134 16 = .inl (tc 0, 8, .inl (B 16)) := by rw [← g135, va_up_ne _ _ (by omega)]; exact f132
            have f152 : E134 14 = .inl (tc 1, 800, .inr (.inl J)) := by rw [← g135, va_up_ne _ _ (by omega)]; exact f133
            refine lv_aload_n hx hb dMD_start_72 rfl (lv_at hl 2 rfl) ?_
            refine g_MD_28 X hP (by omega) (f136) rfl dMD_start_73 ?_
            refine lv_iload_n hx hb dMD_start_76 rfl (lv_at hl 0 rfl) ?_
            refine lv_iconst (v := 0) hx hb dMD_start_77 (by decide) ?_
            refine q_iast i X hD hP hS (by omega) (f143) (rfl) (by omega) (by decide) dMD_start_78 (fun H locs hD hP hS => ?_)
            have hP : va_P D vwCl (wW 17 ad (va_up E134 7 (.inl (tc 0, 5, .inl (upd (B 7) i 0))))) H := hP
            have hD : va_D (Aw 17 ad) (wW 17 ad (va_up E134 7 (.inl (tc 0, 5, .inl (upd (B 7) i 0))))) := hD
            generalize g154 : va_up E134 7 (.inl (tc 0, 5, .inl (upd (B 7) i 0))) = E153 at hD hP
            have f155 : E153 0 = .inr (7, [.int 0, .int 1, .int cb, .ref (ad 1), .ref (ad 2), .ref (ad 3), .ref (ad 4), .ref (ad 5), .ref (ad 6), .ref (ad 7), .ref (ad 8), .ref (ad 9), .int (nI cn), .ref (ad 10), .ref (ad 11), .ref (ad 12), .ref (ad 13), .ref (ad 14), .ref (ad 15), .ref (ad 16)]) := by rw [← g154, va_up_ne _ _ (by omega)]; exact f136
            have f156 : E153 1 = .inl (tc 0, 5, .inl (B 1)) := by rw [← g154, va_up_ne _ _ (by omega)]; exact f137
            have f157 : E153 2 = .inl (tc 0, 60, .inl (B 2)) := by rw [← g154, va_up_ne _ _ (by omega)]; exact f138
            have f158 : E153 3 = .inl (tc 0, 60, .inl (B 3)) := by rw [← g154, va_up_ne _ _ (by omega)]; exact f139
            have f159 : E153 4 = .inl (tc 0, 60, .inl (B 4)) := by rw [← g154, va_up_ne _ _ (by omega)]; exact f140
            have f160 : E153 5 = .inl (tc 0, 5, .inl (upd (B 5) i 1)) := by rw [← g154, va_up_ne _ _ (by omega)]; exact f141
            have f161 : E153 6 = .inl (tc 0, 5, .inl (upd (B 6) i 0)) := by rw [← g154, va_up_ne _ _ (by omega)]; exact f142
            have f162 : E153 7 = .inl (tc 0, 5, .inl (upd (B 7) i 0)) := by rw [← g154]; exact va_up_self _ _ _
            have f163 : E153 8 = .inl (tc 0, 3, .inl (B 8)) := by rw [← g154, va_up_ne _ _ (by omega)]; exact f144
            have f164 : E153 9 = .inl (tc 0, 3, .inl (B 9)) := by rw [← g154, va_up_ne _ _ (by omega)]; exact f145
            have f165 : E153 10 = .inl (tc 0, 200, .inl (B 10)) := by rw [← g154, va_up_ne _ _ (by omega)]; exact f146
            have f166 : E153 11 = .inl (tc 0, 200, .inl (B 11)) := by rw [← g154, va_up_ne _ _ (by omega)]; exact f147
            have f167 : E153 12 = .inl (tc 0, 200, .inl (B 12)) := by rw [← g154, va_up_ne _ _ (by omega)]; exact f148
            have f168 : E153 13 = .inl (tc 2, 200, .inl (B 13)) := by rw [← g154, va_up_ne _ _ (by omega)]; exact f149
            have f169 : E153 15 = .inl (tc 0, 8, .inl (B 15)) := by rw [← g154, va_up_ne _ _ (by omega)]; exact f150
            have f170 : E153 16 = .inl (tc 0, 8, .inl (B 16)) := by rw [← g154, va_up_ne _ _ (by omega)]; exact f151
            have f171 : E153 14 = .inl (tc 1, 800, .inr (.inl J)) := by rw [← g154, va_up_ne _ _ (by omega)]; exact f152
            refine lv_iload_n hx hb dMD_start_79 rfl (lv_at hl 1 rfl) ?_
            refine lv_aload_n hx hb dMD_start_80 rfl (lv_at hl 2 rfl) ?_
            refine g_MD_7 X hP (by omega) (f155) rfl dMD_start_81 ?_
            refine lv_iload_n hx hb dMD_start_84 rfl (lv_at hl 0 rfl) ?_
            refine q_iald i X hP (by omega) (f156) (rfl) (by omega) (by decide) dMD_start_85 ?_
            refine lv_iadd hx hb dMD_start_86 ?_
            rw [show ((sumT sz i) + ((B 1) i)) = sumT sz (i + 1) from by rw [b1 1 (by decide), q1 i (by omega)]; rfl]
            refine lv_istore_n hx hb dMD_start_87 rfl hl (by decide) rfl (fun ls hl => ?_)
            have hl : lv_has ls 4 [(2, .int (sumT sz (i + 1))), (3, .int (nI i)), (0, .ref (ad 0)), (1, .int cb)] := hl
            refine lv_iinc (k := 1) (v := nI (i + 1)) hx hb dMD_start_88 hl rfl (nI_1 i) (by decide) rfl (fun ls hl => ?_)
            have hl : lv_has ls 4 [(3, .int (nI (i + 1))), (2, .int (sumT sz (i + 1))), (0, .ref (ad 0)), (1, .int cb)] := hl
            refine lv_goto (tgt := 45) hx hb dMD_start_91 rfl ?_
            exact ih (i + 1) (va_up (va_up (va_up B 5 (upd (B 5) i 1)) 6 (upd (B 6) i 0)) 7 (upd (B 7) i 0)) _ _ _ _ (by omega) ⟨f155, f156, f157, f158, f159, f160, f161, f162, f163, f164, f165, f166, f167, f168, f171, f169, f170⟩ (fun k hk => by rw [va_up_ne _ _ (by omega), va_up_ne _ _ (by omega), va_up_ne _ _ (by omega)]; exact b1 k hk) (fun u hu => by rw [va_up_ne _ _ (by decide), va_up_self]; by_cases h : u = i; (· subst h; exact pk_us); (· rw [pk_un h]; exact b2 u (by omega))) (fun u hu => by rw [va_up_ne _ _ (by decide), va_up_ne _ _ (by decide), va_up_self]; by_cases h : u = i; (· subst h; intro _; exact nI_eq0 (by omega) h56); (· rw [pk_un h]; exact b3 u (by omega))) hD hP hS hl
      exact loop 5 0 A _ _ _ _ (by omega) ⟨f41, f42, f43, f44, f45, f46, f47, f48, f49, f50, f51, f52, f53, f54, f57, f55, f56⟩ (fun _ _ => rfl) (fun u h => absurd h (Nat.not_lt_zero u)) (fun u h => absurd h (Nat.not_lt_zero u)) hD hP hS hl
    · refine lv_aload_n hx hb dMD_start_20 rfl (lv_at hl 0 rfl) ?_
      refine lv_iconst (v := 2) hx hb dMD_start_21 (by decide) ?_
      refine x_i (f := fun k => 0 + k) (x_runV (C := R_MD) (As := [.int 2]) (rest := []) X (c_MD_raise l D tc (fun k => ad (0 + k)) (fun k => E (0 + k)) th st ic (nI cn) A J 2 (by simpa only [Nat.zero_add] using hM0)) rfl rfl (by decide) (by decide) w_563 w_9 w_560 w_562 sel_MD_raise ry_MD_raise (x_recv X hP (by omega) (m0) rfl) (ct_pre X hP hD (fr_lt 17 17 0 (by omega)) (fr_inj 17 0)) ct_blind hl.1 (Nat.le_of_ble_eq_true rfl) dMD_start_22 ⟨Nat.zero_le _, Nat.zero_le _⟩) hD hP hS (fr_lt 17 17 0 (by omega)) (fr_inj 17 0) (fun o E1 h => ⟨_, h.1⟩) (fun r176 E172 H locs q175 hD hP hS => ?_)
      obtain ⟨q175a, q175m⟩ := q175
      generalize g173 : wU 17 (fun k => 0 + k) E E172 = E174 at hD hP
      exact q_iret X hlk hr hP hS dMD_start_25 ⟨_, 2, rfl, Or.inr (Or.inl ⟨h4, bi_t h17, rfl, ⟨ic, cn, A, J, by rw [← g173]; exact isMD.back q175m, hc, q1, q2, q5⟩⟩)⟩
  · refine lv_aload_n hx hb dMD_start_7 rfl (lv_at hl 0 rfl) ?_
    refine lv_iconst (v := 1) hx hb dMD_start_8 (by decide) ?_
    refine x_i (f := fun k => 0 + k) (x_runV (C := R_MD) (As := [.int 1]) (rest := []) X (c_MD_raise l D tc (fun k => ad (0 + k)) (fun k => E (0 + k)) th st ic (nI cn) A J 1 (by simpa only [Nat.zero_add] using hM0)) rfl rfl (by decide) (by decide) w_563 w_9 w_560 w_562 sel_MD_raise ry_MD_raise (x_recv X hP (by omega) (m0) rfl) (ct_pre X hP hD (fr_lt 17 17 0 (by omega)) (fr_inj 17 0)) ct_blind hl.1 (Nat.le_of_ble_eq_true rfl) dMD_start_9 ⟨Nat.zero_le _, Nat.zero_le _⟩) hD hP hS (fr_lt 17 17 0 (by omega)) (fr_inj 17 0) (fun o E1 h => ⟨_, h.1⟩) (fun r181 E177 H locs q180 hD hP hS => ?_)
    obtain ⟨q180a, q180m⟩ := q180
    generalize g178 : wU 17 (fun k => 0 + k) E E177 = E179 at hD hP
    exact q_iret X hlk hr hP hS dMD_start_12 ⟨_, 1, rfl, Or.inl ⟨h4, rfl, ⟨ic, cn, A, J, by rw [← g178]; exact isMD.back q180m, hc, q1, q2, q5⟩⟩⟩
