theorem dRW_synchronise_0 : decode cRW_synchronise 0 = .ok (.aload_n 0, 1) := by decide +kernel
theorem dRW_synchronise_1 : decode cRW_synchronise 1 = .ok (.getfield 17, 3) := by decide +kernel
theorem dRW_synchronise_4 : decode cRW_synchronise 4 = .ok (.iload_n 1, 1) := by decide +kernel
theorem dRW_synchronise_5 : decode cRW_synchronise 5 = .ok (.aaload, 1) := by decide +kernel
theorem dRW_synchronise_6 : decode cRW_synchronise 6 = .ok (.getfield 214, 3) := by decide +kernel
theorem dRW_synchronise_9 : decode cRW_synchronise 9 = .ok (.astore 4, 2) := by decide +kernel
theorem dRW_synchronise_11 : decode cRW_synchronise 11 = .ok (.iload_n 2, 1) := by decide +kernel
theorem dRW_synchronise_12 : decode cRW_synchronise 12 = .ok (.tableswitch 137 2 7 #[40, 55, 69, 83, 97, 120], 40) := by decide +kernel
theorem dRW_synchronise_52 : decode cRW_synchronise 52 = .ok (.aload_n 0, 1) := by decide +kernel
theorem dRW_synchronise_53 : decode cRW_synchronise 53 = .ok (.getfield 25, 3) := by decide +kernel
theorem dRW_synchronise_56 : decode cRW_synchronise 56 = .ok (.iload_n 3, 1) := by decide +kernel
theorem dRW_synchronise_57 : decode cRW_synchronise 57 = .ok (.aaload, 1) := by decide +kernel
theorem dRW_synchronise_58 : decode cRW_synchronise 58 = .ok (.iload_n 1, 1) := by decide +kernel
theorem dRW_synchronise_59 : decode cRW_synchronise 59 = .ok (.aload 4, 2) := by decide +kernel
theorem dRW_synchronise_61 : decode cRW_synchronise 61 = .ok (.invokevirtual 241, 3) := by decide +kernel
theorem dRW_synchronise_64 : decode cRW_synchronise 64 = .ok (.goto 85, 3) := by decide +kernel
theorem dRW_synchronise_67 : decode cRW_synchronise 67 = .ok (.aload_n 0, 1) := by decide +kernel
theorem dRW_synchronise_68 : decode cRW_synchronise 68 = .ok (.getfield 25, 3) := by decide +kernel
theorem dRW_synchronise_71 : decode cRW_synchronise 71 = .ok (.iload_n 3, 1) := by decide +kernel
theorem dRW_synchronise_72 : decode cRW_synchronise 72 = .ok (.aaload, 1) := by decide +kernel
theorem dRW_synchronise_73 : decode cRW_synchronise 73 = .ok (.aload 4, 2) := by decide +kernel
theorem dRW_synchronise_75 : decode cRW_synchronise 75 = .ok (.invokevirtual 245, 3) := by decide +kernel
theorem dRW_synchronise_78 : decode cRW_synchronise 78 = .ok (.goto 71, 3) := by decide +kernel
theorem dRW_synchronise_81 : decode cRW_synchronise 81 = .ok (.aload 4, 2) := by decide +kernel
theorem dRW_synchronise_83 : decode cRW_synchronise 83 = .ok (.aload_n 0, 1) := by decide +kernel
theorem dRW_synchronise_84 : decode cRW_synchronise 84 = .ok (.getfield 32, 3) := by decide +kernel
theorem dRW_synchronise_87 : decode cRW_synchronise 87 = .ok (.iload_n 3, 1) := by decide +kernel
theorem dRW_synchronise_88 : decode cRW_synchronise 88 = .ok (.aaload, 1) := by decide +kernel
theorem dRW_synchronise_89 : decode cRW_synchronise 89 = .ok (.invokevirtual 249, 3) := by decide +kernel
theorem dRW_synchronise_92 : decode cRW_synchronise 92 = .ok (.goto 57, 3) := by decide +kernel
theorem dRW_synchronise_95 : decode cRW_synchronise 95 = .ok (.aload_n 0, 1) := by decide +kernel
theorem dRW_synchronise_96 : decode cRW_synchronise 96 = .ok (.getfield 32, 3) := by decide +kernel
theorem dRW_synchronise_99 : decode cRW_synchronise 99 = .ok (.iload_n 3, 1) := by decide +kernel
theorem dRW_synchronise_100 : decode cRW_synchronise 100 = .ok (.aaload, 1) := by decide +kernel
theorem dRW_synchronise_101 : decode cRW_synchronise 101 = .ok (.aload 4, 2) := by decide +kernel
theorem dRW_synchronise_103 : decode cRW_synchronise 103 = .ok (.invokevirtual 249, 3) := by decide +kernel
theorem dRW_synchronise_106 : decode cRW_synchronise 106 = .ok (.goto 43, 3) := by decide +kernel
theorem dRW_synchronise_109 : decode cRW_synchronise 109 = .ok (.aload_n 0, 1) := by decide +kernel
theorem dRW_synchronise_110 : decode cRW_synchronise 110 = .ok (.getfield 17, 3) := by decide +kernel
theorem dRW_synchronise_113 : decode cRW_synchronise 113 = .ok (.iload_n 3, 1) := by decide +kernel
theorem dRW_synchronise_114 : decode cRW_synchronise 114 = .ok (.aaload, 1) := by decide +kernel
theorem dRW_synchronise_115 : decode cRW_synchronise 115 = .ok (.aload 4, 2) := by decide +kernel
theorem dRW_synchronise_117 : decode cRW_synchronise 117 = .ok (.aload_n 0, 1) := by decide +kernel
theorem dRW_synchronise_118 : decode cRW_synchronise 118 = .ok (.getfield 11, 3) := by decide +kernel
theorem dRW_synchronise_121 : decode cRW_synchronise 121 = .ok (.iload_n 3, 1) := by decide +kernel
theorem dRW_synchronise_122 : decode cRW_synchronise 122 = .ok (.aaload, 1) := by decide +kernel
theorem dRW_synchronise_123 : decode cRW_synchronise 123 = .ok (.getfield 196, 3) := by decide +kernel
theorem dRW_synchronise_126 : decode cRW_synchronise 126 = .ok (.invokevirtual 252, 3) := by decide +kernel
theorem dRW_synchronise_129 : decode cRW_synchronise 129 = .ok (.goto 20, 3) := by decide +kernel
theorem dRW_synchronise_132 : decode cRW_synchronise 132 = .ok (.aload 4, 2) := by decide +kernel
theorem dRW_synchronise_134 : decode cRW_synchronise 134 = .ok (.aload_n 0, 1) := by decide +kernel
theorem dRW_synchronise_135 : decode cRW_synchronise 135 = .ok (.getfield 17, 3) := by decide +kernel
theorem dRW_synchronise_138 : decode cRW_synchronise 138 = .ok (.iload_n 3, 1) := by decide +kernel
theorem dRW_synchronise_139 : decode cRW_synchronise 139 = .ok (.aaload, 1) := by decide +kernel
theorem dRW_synchronise_140 : decode cRW_synchronise 140 = .ok (.getfield 214, 3) := by decide +kernel
theorem dRW_synchronise_143 : decode cRW_synchronise 143 = .ok (.invokevirtual 249, 3) := by decide +kernel
theorem dRW_synchronise_146 : decode cRW_synchronise 146 = .ok (.goto 3, 3) := by decide +kernel
theorem dRW_synchronise_149 : decode cRW_synchronise 149 = .ok (.return_, 1) := by decide +kernel
set_option maxHeartbeats 4000000 in
set_option maxRecDepth 100000 in
theorem g_RW_synchronise (l : Launch) (D : va_G) (tc : Nat → ClassId) (ad : Nat → Nat) (E : Nat → va_E) (st cs : Int32) (sz : Nat → Nat) (fo fa fb : Nat → Nat → Int32) (t k : Nat) (rg : Int64) (hI : RI tc ad E st cs sz fo fa fb) (hst : ¬ st = 0) (ht : t < 5) (hk : k < sz t) (hw : isWK tc ad E (7 + 7 * t) 1 (nI k) rg) : Ct l D tc yRW_synchronise 3 66 ad E [.ref (ad 0), .int (nI t), .int (fo t k), .int (fa t k)] (fun o E2 => o = .returned none ∧ RI tc ad E2 st cs sz fo fa fb ∧ isWK tc ad E2 (7 + 7 * t) 1 (nI k) rg ∧ ∀ k, 53 ≤ k → E2 k = E k) := by
  refine Ct.ofW (cc := cRW_synchronise) (maxL := 5) (ret := none) (own := R_RW) (by decide) rfl w_436 (Nat.le_of_ble_eq_true rfl) ?_
  intro p e s m args below meth c ls X hlk hr hD hP hS hl
  have hx := X.1
  have hb := X.2.1
  have hl : lv_has ls 5 [(0, .ref (ad 0)), (1, .int (nI t)), (2, .int (fo t k)), (3, .int (fa t k))] := hl
  have hI0 := hI
  obtain ⟨hR, hpg, hwk, hlo, hck, ⟨cn, hcn, ⟨fc, fk, ⟨tt0, tt1, tt2⟩, hfc⟩, ⟨fr, fp, fw, fd, ⟨b0, b1, b2, b3, b4⟩, hfw, hfd⟩, ⟨cr, cp, cw, cd, ⟨c0, c1, c2, c3, c4⟩, hcw, hcd⟩⟩, hok, hnb⟩ := hI
  have hR0 := hR
  obtain ⟨rh0, ⟨ra1, rh1, rx1⟩, ⟨ra2, rh2, rx2⟩, ⟨ra3, rh3, rx3⟩, ⟨ra4, rh4, rx4⟩⟩ := hR
  have hw0 := hw
  obtain ⟨w0, w1, wf, w2⟩ := hw
  refine lv_aload_n hx hb dRW_synchronise_0 rfl (lv_at hl 0 rfl) ?_
  refine g_RW_17 X hP (by omega) (rh0) rfl dRW_synchronise_1 ?_
  refine lv_iload_n hx hb dRW_synchronise_4 rfl (lv_at hl 1 rfl) ?_
  refine q_aald (t0 := 4) t X hP (by omega) (rh2) rfl (rfl) (by omega) (by decide) (rx2 t (by omega)) dRW_synchronise_5 ?_
  refine g_RW_214 X hP (by omega) (w0) rfl dRW_synchronise_6 ?_
  refine lv_astore hx hb dRW_synchronise_9 hl (by decide) rfl (fun ls hl => ?_)
  have hl : lv_has ls 5 [(4, .ref (ad (7 + 7 * t + 1))), (0, .ref (ad 0)), (1, .int (nI t)), (2, .int (fo t k)), (3, .int (fa t k))] := hl
  refine lv_iload_n hx hb dRW_synchronise_11 rfl (lv_at hl 3 rfl) ?_
  obtain ⟨n9, hn9, en9⟩ := wi_of (n := 13) (by decide) ((hok t ht).2 k hk).1
  have hna := ((hok t ht).2 k hk).2
  rw [en9] at hna ⊢
  rcases (by omega : n9 = 0 ∨ n9 = 1 ∨ n9 = 2 ∨ n9 = 3 ∨ n9 = 4 ∨ n9 = 5 ∨ n9 = 6 ∨ n9 = 7 ∨ n9 = 8 ∨ n9 = 9 ∨ n9 = 10 ∨ n9 = 11 ∨ n9 = 12) with rfl | rfl | rfl | rfl | rfl | rfl | rfl | rfl | rfl | rfl | rfl | rfl | rfl
  · refine lv_tableOut (tgt := 149) hx hb dRW_synchronise_12 (by decide) rfl ?_
    exact q_vret X hlk hr hP hS dRW_synchronise_149 (⟨rfl, hI0, hw0, fun _ _ => rfl⟩)
  · refine lv_tableOut (tgt := 149) hx hb dRW_synchronise_12 (by decide) rfl ?_
    exact q_vret X hlk hr hP hS dRW_synchronise_149 (⟨rfl, hI0, hw0, fun _ _ => rfl⟩)
  · refine lv_tableIn (tgt := 52) hx hb dRW_synchronise_12 (by decide) (by decide) rfl rfl ?_
    obtain ⟨q, hq, eq⟩ := wi_of (n := 3) (by decide) hna
    rw [eq] at hl
    obtain ⟨ow, dp, lk0, lk1, lkf, lk2⟩ := hlo q hq
    refine lv_aload_n hx hb dRW_synchronise_52 rfl (lv_at hl 1 rfl) ?_
    refine g_RW_25 X hP (by omega) (rh0) rfl dRW_synchronise_53 ?_
    refine lv_iload_n hx hb dRW_synchronise_56 rfl (lv_at hl 4 rfl) ?_
    refine q_aald (t0 := 5) q X hP (by omega) (rh3) rfl (rfl) (by omega) (by decide) (rx3 q (by omega)) dRW_synchronise_57 ?_
    refine lv_iload_n hx hb dRW_synchronise_58 rfl (lv_at hl 2 rfl) ?_
    refine lv_aload hx hb dRW_synchronise_59 (lv_at hl 0 rfl) ?_
    refine x_v (f := fj 3 (39 + 3 * q) (7 + 7 * t + 1)) (x_runVN (C := R_LK) (As := [.int (nI t), .ref (ad (7 + 7 * t + 1))]) (rest := []) X (g_LK_take l D tc (fun k => ad (fj 3 (39 + 3 * q) (7 + 7 * t + 1) k)) (fun k => E (fj 3 (39 + 3 * q) (7 + 7 * t + 1) k)) ow dp (nI t) lkf wf lk0 lk1 lk2 w1 w2) rfl rfl (by decide) (by decide) w_440 w_5 w_437 w_439 sel_LK_take ry_LK_take (x_recv X hP (by omega) (lk0) rfl) (ct_pre X hP hD (fj_lt 3 2 66 (39 + 3 * q) (7 + 7 * t + 1) (by omega) (by omega)) (fj_inj 3 2 (39 + 3 * q) (7 + 7 * t + 1) (by omega))) ct_blind hl.1 (Nat.le_of_ble_eq_true rfl) dRW_synchronise_61 ⟨Nat.zero_le _, Nat.zero_le _⟩) hD hP hS (fj_lt 3 2 66 (39 + 3 * q) (7 + 7 * t + 1) (by omega) (by omega)) (fj_inj 3 2 (39 + 3 * q) (7 + 7 * t + 1) (by omega)) (fun o E1 h => h.1) (fun E1 H locs q4 hD hP hS => ?_)
    obtain ⟨-, q4o, q4d, q40, ⟨q41, q4f, q42⟩, ⟨q43, q4g, q44⟩⟩ := q4
    generalize g2 : wU 5 (fj 3 (39 + 3 * q) (7 + 7 * t + 1)) E E1 = E3 at hD hP
    have fa1 : ∀ k, k < 3 → E3 (39 + 3 * q + k) = E1 k := fun k hk => by rw [← g2]; exact wU_fj1 (a := 3) (c := 2) (b1 := 39 + 3 * q) (b2 := 7 + 7 * t + 1) (by omega) k hk
    have fb1 : ∀ k, k < 2 → E3 (7 + 7 * t + 1 + k) = E1 (3 + k) := fun k hk => by rw [← g2]; exact wU_fj2 (a := 3) (c := 2) (b1 := 39 + 3 * q) (b2 := 7 + 7 * t + 1) (by omega) k hk
    have fo1 : ∀ k, (k < 39 + 3 * q ∨ 39 + 3 * q + 3 ≤ k) → (k < 7 + 7 * t + 1 ∨ 7 + 7 * t + 1 + 2 ≤ k) → E3 k = E k := fun k h1 h2 => by rw [← g2]; exact wU_fjo (a := 3) (c := 2) (b1 := 39 + 3 * q) (b2 := 7 + 7 * t + 1) h1 h2
    refine lv_goto (tgt := 149) hx hb dRW_synchronise_64 rfl ?_
    exact q_vret X hlk hr hP hS dRW_synchronise_149 (⟨rfl, hI0.gen (fun u hu => by by_cases hh : u = t; (· rw [hh]; exact Or.inr ⟨1, nI k, rg, ⟨(fo1 (7 + 7 * t) (by omega) (by omega)).trans w0, (fb1 0 (by omega)).trans q43, _, (fb1 1 (by omega)).trans q44⟩, fun q => absurd q hst, fun _ => ⟨k, hk, rfl⟩⟩); (· exact Or.inl (fun k h1 h2 => fo1 k (by omega) (by omega)))) (fun u hu => by by_cases hh : u = q; (· subst hh; exact Or.inr ⟨_, _, (fa1 0 (by omega)).trans q40, (fa1 1 (by omega)).trans q41, _, (fa1 2 (by omega)).trans q42⟩); (· exact Or.inl (fun k h1 h2 => fo1 k (by omega) (by omega)))) (fun u hu => Or.inl (fun k h1 h2 => fo1 k (by omega) (by omega))) (fun k hk => by obtain hk | hk | hk | hk | ⟨v, hv, h1, h2⟩ := hk <;> exact fo1 k (by omega) (by omega)), ⟨(fo1 (7 + 7 * t) (by omega) (by omega)).trans w0, (fb1 0 (by omega)).trans q43, _, (fb1 1 (by omega)).trans q44⟩, fun k h => fo1 k (by omega) (by omega)⟩)
  · refine lv_tableIn (tgt := 67) hx hb dRW_synchronise_12 (by decide) (by decide) rfl rfl ?_
    obtain ⟨q, hq, eq⟩ := wi_of (n := 3) (by decide) hna
    rw [eq] at hl
    obtain ⟨ow, dp, lk0, lk1, lkf, lk2⟩ := hlo q hq
    refine lv_aload_n hx hb dRW_synchronise_67 rfl (lv_at hl 1 rfl) ?_
    refine g_RW_25 X hP (by omega) (rh0) rfl dRW_synchronise_68 ?_
    refine lv_iload_n hx hb dRW_synchronise_71 rfl (lv_at hl 4 rfl) ?_
    refine q_aald (t0 := 5) q X hP (by omega) (rh3) rfl (rfl) (by omega) (by decide) (rx3 q (by omega)) dRW_synchronise_72 ?_
    refine lv_aload hx hb dRW_synchronise_73 (lv_at hl 0 rfl) ?_
    refine x_v (f := fj 3 (39 + 3 * q) (7 + 7 * t + 1)) (x_runVN (C := R_LK) (As := [.ref (ad (7 + 7 * t + 1))]) (rest := []) X (g_LK_letGo l D tc (fun k => ad (fj 3 (39 + 3 * q) (7 + 7 * t + 1) k)) (fun k => E (fj 3 (39 + 3 * q) (7 + 7 * t + 1) k)) ow dp lkf wf lk0 lk1 lk2 w1 w2) rfl rfl (by decide) (by decide) w_451 w_5 w_448 w_450 sel_LK_letGo ry_LK_letGo (x_recv X hP (by omega) (lk0) rfl) (ct_pre X hP hD (fj_lt 3 2 66 (39 + 3 * q) (7 + 7 * t + 1) (by omega) (by omega)) (fj_inj 3 2 (39 + 3 * q) (7 + 7 * t + 1) (by omega))) ct_blind hl.1 (Nat.le_of_ble_eq_true rfl) dRW_synchronise_75 ⟨Nat.zero_le _, Nat.zero_le _⟩) hD hP hS (fj_lt 3 2 66 (39 + 3 * q) (7 + 7 * t + 1) (by omega) (by omega)) (fj_inj 3 2 (39 + 3 * q) (7 + 7 * t + 1) (by omega)) (fun o E1 h => h.1) (fun E5 H locs q8 hD hP hS => ?_)
    obtain ⟨-, q8o, q8d, q80, ⟨q81, q8f, q82⟩, ⟨q83, q8g, q84⟩⟩ := q8
    generalize g6 : wU 5 (fj 3 (39 + 3 * q) (7 + 7 * t + 1)) E E5 = E7 at hD hP
    have fa1 : ∀ k, k < 3 → E7 (39 + 3 * q + k) = E5 k := fun k hk => by rw [← g6]; exact wU_fj1 (a := 3) (c := 2) (b1 := 39 + 3 * q) (b2 := 7 + 7 * t + 1) (by omega) k hk
    have fb1 : ∀ k, k < 2 → E7 (7 + 7 * t + 1 + k) = E5 (3 + k) := fun k hk => by rw [← g6]; exact wU_fj2 (a := 3) (c := 2) (b1 := 39 + 3 * q) (b2 := 7 + 7 * t + 1) (by omega) k hk
    have fo1 : ∀ k, (k < 39 + 3 * q ∨ 39 + 3 * q + 3 ≤ k) → (k < 7 + 7 * t + 1 ∨ 7 + 7 * t + 1 + 2 ≤ k) → E7 k = E k := fun k h1 h2 => by rw [← g6]; exact wU_fjo (a := 3) (c := 2) (b1 := 39 + 3 * q) (b2 := 7 + 7 * t + 1) h1 h2
    refine lv_goto (tgt := 149) hx hb dRW_synchronise_78 rfl ?_
    exact q_vret X hlk hr hP hS dRW_synchronise_149 (⟨rfl, hI0.gen (fun u hu => by by_cases hh : u = t; (· rw [hh]; exact Or.inr ⟨1, nI k, rg, ⟨(fo1 (7 + 7 * t) (by omega) (by omega)).trans w0, (fb1 0 (by omega)).trans q83, _, (fb1 1 (by omega)).trans q84⟩, fun q => absurd q hst, fun _ => ⟨k, hk, rfl⟩⟩); (· exact Or.inl (fun k h1 h2 => fo1 k (by omega) (by omega)))) (fun u hu => by by_cases hh : u = q; (· subst hh; exact Or.inr ⟨_, _, (fa1 0 (by omega)).trans q80, (fa1 1 (by omega)).trans q81, _, (fa1 2 (by omega)).trans q82⟩); (· exact Or.inl (fun k h1 h2 => fo1 k (by omega) (by omega)))) (fun u hu => Or.inl (fun k h1 h2 => fo1 k (by omega) (by omega))) (fun k hk => by obtain hk | hk | hk | hk | ⟨v, hv, h1, h2⟩ := hk <;> exact fo1 k (by omega) (by omega)), ⟨(fo1 (7 + 7 * t) (by omega) (by omega)).trans w0, (fb1 0 (by omega)).trans q83, _, (fb1 1 (by omega)).trans q84⟩, fun k h => fo1 k (by omega) (by omega)⟩)
  · refine lv_tableIn (tgt := 81) hx hb dRW_synchronise_12 (by decide) (by decide) rfl rfl ?_
    obtain ⟨q, hq, eq⟩ := wi_of (n := 2) (by decide) hna
    rw [eq] at hl
    obtain ⟨v0, vf, v1⟩ := hck q hq
    refine lv_aload hx hb dRW_synchronise_81 (lv_at hl 0 rfl) ?_
    refine lv_aload_n hx hb dRW_synchronise_83 rfl (lv_at hl 1 rfl) ?_
    refine g_RW_32 X hP (by omega) (rh0) rfl dRW_synchronise_84 ?_
    refine lv_iload_n hx hb dRW_synchronise_87 rfl (lv_at hl 4 rfl) ?_
    refine q_aald (t0 := 6) q X hP (by omega) (rh4) rfl (rfl) (by omega) (by decide) (rx4 q (by omega)) dRW_synchronise_88 ?_
    refine x_v (f := fj 2 (7 + 7 * t + 1) (49 + 2 * q)) (x_runVN (C := R_CK) (As := [.ref (ad (49 + 2 * q))]) (rest := []) X (g_CK_learn l D tc (fun k => ad (fj 2 (7 + 7 * t + 1) (49 + 2 * q) k)) (fun k => E (fj 2 (7 + 7 * t + 1) (49 + 2 * q) k)) wf vf w1 w2 v0 v1) rfl rfl (by decide) (by decide) w_444 w_4 w_452 w_443 sel_CK_learn ry_CK_learn (x_recv X hP (by omega) (w1) rfl) (ct_pre X hP hD (fj_lt 2 2 66 (7 + 7 * t + 1) (49 + 2 * q) (by omega) (by omega)) (fj_inj 2 2 (7 + 7 * t + 1) (49 + 2 * q) (by omega))) ct_blind hl.1 (Nat.le_of_ble_eq_true rfl) dRW_synchronise_89 ⟨Nat.zero_le _, Nat.zero_le _⟩) hD hP hS (fj_lt 2 2 66 (7 + 7 * t + 1) (49 + 2 * q) (by omega) (by omega)) (fj_inj 2 2 (7 + 7 * t + 1) (49 + 2 * q) (by omega)) (fun o E1 h => h.1) (fun E9 H locs q12 hD hP hS => ?_)
    obtain ⟨-, ⟨q120, q12f, q121⟩, q122, q123⟩ := q12
    generalize g10 : wU 4 (fj 2 (7 + 7 * t + 1) (49 + 2 * q)) E E9 = E11 at hD hP
    have fa1 : ∀ k, k < 2 → E11 (7 + 7 * t + 1 + k) = E9 k := fun k hk => by rw [← g10]; exact wU_fj1 (a := 2) (c := 2) (b1 := 7 + 7 * t + 1) (b2 := 49 + 2 * q) (by omega) k hk
    have fb1 : ∀ k, k < 2 → E11 (49 + 2 * q + k) = E9 (2 + k) := fun k hk => by rw [← g10]; exact wU_fj2 (a := 2) (c := 2) (b1 := 7 + 7 * t + 1) (b2 := 49 + 2 * q) (by omega) k hk
    have fo1 : ∀ k, (k < 7 + 7 * t + 1 ∨ 7 + 7 * t + 1 + 2 ≤ k) → (k < 49 + 2 * q ∨ 49 + 2 * q + 2 ≤ k) → E11 k = E k := fun k h1 h2 => by rw [← g10]; exact wU_fjo (a := 2) (c := 2) (b1 := 7 + 7 * t + 1) (b2 := 49 + 2 * q) h1 h2
    refine lv_goto (tgt := 149) hx hb dRW_synchronise_92 rfl ?_
    exact q_vret X hlk hr hP hS dRW_synchronise_149 (⟨rfl, hI0.gen (fun u hu => by by_cases hh : u = t; (· rw [hh]; exact Or.inr ⟨1, nI k, rg, ⟨(fo1 (7 + 7 * t) (by omega) (by omega)).trans w0, (fa1 0 (by omega)).trans q120, _, (fa1 1 (by omega)).trans q121⟩, fun q => absurd q hst, fun _ => ⟨k, hk, rfl⟩⟩); (· exact Or.inl (fun k h1 h2 => fo1 k (by omega) (by omega)))) (fun u hu => Or.inl (fun k h1 h2 => fo1 k (by omega) (by omega))) (fun u hu => by by_cases hh : u = q; (· subst hh; exact Or.inr ⟨(fb1 0 (by omega)).trans (q122.trans v0), _, (fb1 1 (by omega)).trans (q123.trans v1)⟩); (· exact Or.inl (fun k h1 h2 => fo1 k (by omega) (by omega)))) (fun k hk => by obtain hk | hk | hk | hk | ⟨v, hv, h1, h2⟩ := hk <;> exact fo1 k (by omega) (by omega)), ⟨(fo1 (7 + 7 * t) (by omega) (by omega)).trans w0, (fa1 0 (by omega)).trans q120, _, (fa1 1 (by omega)).trans q121⟩, fun k h => fo1 k (by omega) (by omega)⟩)
  · refine lv_tableIn (tgt := 95) hx hb dRW_synchronise_12 (by decide) (by decide) rfl rfl ?_
    obtain ⟨q, hq, eq⟩ := wi_of (n := 2) (by decide) hna
    rw [eq] at hl
    obtain ⟨v0, vf, v1⟩ := hck q hq
    refine lv_aload_n hx hb dRW_synchronise_95 rfl (lv_at hl 1 rfl) ?_
    refine g_RW_32 X hP (by omega) (rh0) rfl dRW_synchronise_96 ?_
    refine lv_iload_n hx hb dRW_synchronise_99 rfl (lv_at hl 4 rfl) ?_
    refine q_aald (t0 := 6) q X hP (by omega) (rh4) rfl (rfl) (by omega) (by decide) (rx4 q (by omega)) dRW_synchronise_100 ?_
    refine lv_aload hx hb dRW_synchronise_101 (lv_at hl 0 rfl) ?_
    refine x_v (f := fj 2 (49 + 2 * q) (7 + 7 * t + 1)) (x_runVN (C := R_CK) (As := [.ref (ad (7 + 7 * t + 1))]) (rest := []) X (g_CK_learn l D tc (fun k => ad (fj 2 (49 + 2 * q) (7 + 7 * t + 1) k)) (fun k => E (fj 2 (49 + 2 * q) (7 + 7 * t + 1) k)) vf wf v0 v1 w1 w2) rfl rfl (by decide) (by decide) w_444 w_4 w_452 w_443 sel_CK_learn ry_CK_learn (x_recv X hP (by omega) (v0) rfl) (ct_pre X hP hD (fj_lt 2 2 66 (49 + 2 * q) (7 + 7 * t + 1) (by omega) (by omega)) (fj_inj 2 2 (49 + 2 * q) (7 + 7 * t + 1) (by omega))) ct_blind hl.1 (Nat.le_of_ble_eq_true rfl) dRW_synchronise_103 ⟨Nat.zero_le _, Nat.zero_le _⟩) hD hP hS (fj_lt 2 2 66 (49 + 2 * q) (7 + 7 * t + 1) (by omega) (by omega)) (fj_inj 2 2 (49 + 2 * q) (7 + 7 * t + 1) (by omega)) (fun o E1 h => h.1) (fun E13 H locs q16 hD hP hS => ?_)
    obtain ⟨-, ⟨q160, q16f, q161⟩, q162, q163⟩ := q16
    generalize g14 : wU 4 (fj 2 (49 + 2 * q) (7 + 7 * t + 1)) E E13 = E15 at hD hP
    have fa1 : ∀ k, k < 2 → E15 (49 + 2 * q + k) = E13 k := fun k hk => by rw [← g14]; exact wU_fj1 (a := 2) (c := 2) (b1 := 49 + 2 * q) (b2 := 7 + 7 * t + 1) (by omega) k hk
    have fb1 : ∀ k, k < 2 → E15 (7 + 7 * t + 1 + k) = E13 (2 + k) := fun k hk => by rw [← g14]; exact wU_fj2 (a := 2) (c := 2) (b1 := 49 + 2 * q) (b2 := 7 + 7 * t + 1) (by omega) k hk
    have fo1 : ∀ k, (k < 49 + 2 * q ∨ 49 + 2 * q + 2 ≤ k) → (k < 7 + 7 * t + 1 ∨ 7 + 7 * t + 1 + 2 ≤ k) → E15 k = E k := fun k h1 h2 => by rw [← g14]; exact wU_fjo (a := 2) (c := 2) (b1 := 49 + 2 * q) (b2 := 7 + 7 * t + 1) h1 h2
    refine lv_goto (tgt := 149) hx hb dRW_synchronise_106 rfl ?_
    exact q_vret X hlk hr hP hS dRW_synchronise_149 (⟨rfl, hI0.gen (fun u hu => by by_cases hh : u = t; (· rw [hh]; exact Or.inr ⟨1, nI k, rg, ⟨(fo1 (7 + 7 * t) (by omega) (by omega)).trans w0, (fb1 0 (by omega)).trans (q162.trans w1), _, (fb1 1 (by omega)).trans (q163.trans w2)⟩, fun q => absurd q hst, fun _ => ⟨k, hk, rfl⟩⟩); (· exact Or.inl (fun k h1 h2 => fo1 k (by omega) (by omega)))) (fun u hu => Or.inl (fun k h1 h2 => fo1 k (by omega) (by omega))) (fun u hu => by by_cases hh : u = q; (· subst hh; exact Or.inr ⟨(fa1 0 (by omega)).trans q160, _, (fa1 1 (by omega)).trans q161⟩); (· exact Or.inl (fun k h1 h2 => fo1 k (by omega) (by omega)))) (fun k hk => by obtain hk | hk | hk | hk | ⟨v, hv, h1, h2⟩ := hk <;> exact fo1 k (by omega) (by omega)), ⟨(fo1 (7 + 7 * t) (by omega) (by omega)).trans w0, (fb1 0 (by omega)).trans (q162.trans w1), _, (fb1 1 (by omega)).trans (q163.trans w2)⟩, fun k h => fo1 k (by omega) (by omega)⟩)
  · refine lv_tableIn (tgt := 109) hx hb dRW_synchronise_12 (by decide) (by decide) rfl rfl ?_
    obtain ⟨q, hq, eq⟩ := wi_of (n := 5) (by decide) hna
    have hqt : ¬ q = t := fun h => (nb67 (nbI (hnb hst) ht hk) (by rw [en9]; decide)).1 (by rw [eq, h])
    rw [eq] at hl
    obtain ⟨ph, nx, rq, ⟨x0, x1, xf, x2⟩, hx1, hx2⟩ := hwk q hq
    obtain ⟨p0, p1, p2, p3⟩ := hpg q hq
    refine lv_aload_n hx hb dRW_synchronise_109 rfl (lv_at hl 1 rfl) ?_
    refine g_RW_17 X hP (by omega) (rh0) rfl dRW_synchronise_110 ?_
    refine lv_iload_n hx hb dRW_synchronise_113 rfl (lv_at hl 4 rfl) ?_
    refine q_aald (t0 := 4) q X hP (by omega) (rh2) rfl (rfl) (by omega) (by decide) (rx2 q (by omega)) dRW_synchronise_114 ?_
    refine lv_aload hx hb dRW_synchronise_115 (lv_at hl 0 rfl) ?_
    refine lv_aload_n hx hb dRW_synchronise_117 rfl (lv_at hl 1 rfl) ?_
    refine g_RW_11 X hP (by omega) (rh0) rfl dRW_synchronise_118 ?_
    refine lv_iload_n hx hb dRW_synchronise_121 rfl (lv_at hl 4 rfl) ?_
    refine q_aald (t0 := 3) q X hP (by omega) (rh1) rfl (rfl) (by omega) (by decide) (rx1 q (by omega)) dRW_synchronise_122 ?_
    refine g_RW_196 X hP (by omega) (p0) rfl dRW_synchronise_123 ?_
    refine x_v (f := fj 3 (7 + 7 * q) (7 + 7 * t + 1)) (x_runVN (C := R_WK) (As := [.ref (ad (7 + 7 * t + 1)), .int (nI (sz q))]) (rest := []) X (g_WK_begin l D tc (fun k => ad (fj 3 (7 + 7 * q) (7 + 7 * t + 1) k)) (fun k => E (fj 3 (7 + 7 * q) (7 + 7 * t + 1) k)) ph nx (nI (sz q)) rq xf wf x0 x1 x2 w1 w2) rfl rfl (by decide) (by decide) w_456 w_3 w_453 w_455 sel_WK_begin ry_WK_begin (x_recv X hP (by omega) (x0) rfl) (ct_pre X hP hD (fj_lt 3 2 66 (7 + 7 * q) (7 + 7 * t + 1) (by omega) (by omega)) (fj_inj 3 2 (7 + 7 * q) (7 + 7 * t + 1) (by omega))) ct_blind hl.1 (Nat.le_of_ble_eq_true rfl) dRW_synchronise_126 ⟨Nat.zero_le _, Nat.zero_le _⟩) hD hP hS (fj_lt 3 2 66 (7 + 7 * q) (7 + 7 * t + 1) (by omega) (by omega)) (fj_inj 3 2 (7 + 7 * q) (7 + 7 * t + 1) (by omega)) (fun o E1 h => h.1) (fun E17 H locs q20 hD hP hS => ?_)
    obtain ⟨-, q200, ⟨q201, q20f, q202⟩, ⟨q203, q20g, q204⟩⟩ := q20
    generalize g18 : wU 5 (fj 3 (7 + 7 * q) (7 + 7 * t + 1)) E E17 = E19 at hD hP
    have fa1 : ∀ k, k < 3 → E19 (7 + 7 * q + k) = E17 k := fun k hk => by rw [← g18]; exact wU_fj1 (a := 3) (c := 2) (b1 := 7 + 7 * q) (b2 := 7 + 7 * t + 1) (by omega) k hk
    have fb1 : ∀ k, k < 2 → E19 (7 + 7 * t + 1 + k) = E17 (3 + k) := fun k hk => by rw [← g18]; exact wU_fj2 (a := 3) (c := 2) (b1 := 7 + 7 * q) (b2 := 7 + 7 * t + 1) (by omega) k hk
    have fo1 : ∀ k, (k < 7 + 7 * q ∨ 7 + 7 * q + 3 ≤ k) → (k < 7 + 7 * t + 1 ∨ 7 + 7 * t + 1 + 2 ≤ k) → E19 k = E k := fun k h1 h2 => by rw [← g18]; exact wU_fjo (a := 3) (c := 2) (b1 := 7 + 7 * q) (b2 := 7 + 7 * t + 1) h1 h2
    refine lv_goto (tgt := 149) hx hb dRW_synchronise_129 rfl ?_
    exact q_vret X hlk hr hP hS dRW_synchronise_149 (⟨rfl, hI0.gen (fun u hu => by by_cases hh : u = t; (· rw [hh]; exact Or.inr ⟨1, nI k, rg, ⟨(fo1 (7 + 7 * t) (by omega) (by omega)).trans w0, (fb1 0 (by omega)).trans q203, _, (fb1 1 (by omega)).trans q204⟩, fun q => absurd q hst, fun _ => ⟨k, hk, rfl⟩⟩); (· by_cases h2 : u = q; (· subst h2; exact Or.inr ⟨_, _, _, ⟨(fa1 0 (by omega)).trans q200, (fa1 1 (by omega)).trans q201, _, (fa1 2 (by omega)).trans q202⟩, fun q => absurd q hst, fun h9 => goOk (a := 0) (by omega) (by have := (hok u hu).1; omega) h9⟩); (· exact Or.inl (fun k h1 h2 => fo1 k (by omega) (by omega))))) (fun u hu => Or.inl (fun k h1 h2 => fo1 k (by omega) (by omega))) (fun u hu => Or.inl (fun k h1 h2 => fo1 k (by omega) (by omega))) (fun k hk => by obtain hk | hk | hk | hk | ⟨v, hv, h1, h2⟩ := hk <;> exact fo1 k (by omega) (by omega)), ⟨(fo1 (7 + 7 * t) (by omega) (by omega)).trans w0, (fb1 0 (by omega)).trans q203, _, (fb1 1 (by omega)).trans q204⟩, fun k h => fo1 k (by omega) (by omega)⟩)
  · refine lv_tableIn (tgt := 132) hx hb dRW_synchronise_12 (by decide) (by decide) rfl rfl ?_
    obtain ⟨q, hq, eq⟩ := wi_of (n := 5) (by decide) hna
    have hqt : ¬ q = t := fun h => (nb67 (nbI (hnb hst) ht hk) (by rw [en9]; decide)).1 (by rw [eq, h])
    rw [eq] at hl
    obtain ⟨ph, nx, rq, ⟨x0, x1, xf, x2⟩, hx1, hx2⟩ := hwk q hq
    obtain ⟨p0, p1, p2, p3⟩ := hpg q hq
    refine lv_aload hx hb dRW_synchronise_132 (lv_at hl 0 rfl) ?_
    refine lv_aload_n hx hb dRW_synchronise_134 rfl (lv_at hl 1 rfl) ?_
    refine g_RW_17 X hP (by omega) (rh0) rfl dRW_synchronise_135 ?_
    refine lv_iload_n hx hb dRW_synchronise_138 rfl (lv_at hl 4 rfl) ?_
    refine q_aald (t0 := 4) q X hP (by omega) (rh2) rfl (rfl) (by omega) (by decide) (rx2 q (by omega)) dRW_synchronise_139 ?_
    refine g_RW_214 X hP (by omega) (x0) rfl dRW_synchronise_140 ?_
    refine x_v (f := fj 2 (7 + 7 * t + 1) (7 + 7 * q + 1)) (x_runVN (C := R_CK) (As := [.ref (ad (7 + 7 * q + 1))]) (rest := []) X (g_CK_learn l D tc (fun k => ad (fj 2 (7 + 7 * t + 1) (7 + 7 * q + 1) k)) (fun k => E (fj 2 (7 + 7 * t + 1) (7 + 7 * q + 1) k)) wf xf w1 w2 x1 x2) rfl rfl (by decide) (by decide) w_444 w_4 w_452 w_443 sel_CK_learn ry_CK_learn (x_recv X hP (by omega) (w1) rfl) (ct_pre X hP hD (fj_lt 2 2 66 (7 + 7 * t + 1) (7 + 7 * q + 1) (by omega) (by omega)) (fj_inj 2 2 (7 + 7 * t + 1) (7 + 7 * q + 1) (by omega))) ct_blind hl.1 (Nat.le_of_ble_eq_true rfl) dRW_synchronise_143 ⟨Nat.zero_le _, Nat.zero_le _⟩) hD hP hS (fj_lt 2 2 66 (7 + 7 * t + 1) (7 + 7 * q + 1) (by omega) (by omega)) (fj_inj 2 2 (7 + 7 * t + 1) (7 + 7 * q + 1) (by omega)) (fun o E1 h => h.1) (fun E21 H locs q24 hD hP hS => ?_)
    obtain ⟨-, ⟨q240, q24f, q241⟩, q242, q243⟩ := q24
    generalize g22 : wU 4 (fj 2 (7 + 7 * t + 1) (7 + 7 * q + 1)) E E21 = E23 at hD hP
    have fa1 : ∀ k, k < 2 → E23 (7 + 7 * t + 1 + k) = E21 k := fun k hk => by rw [← g22]; exact wU_fj1 (a := 2) (c := 2) (b1 := 7 + 7 * t + 1) (b2 := 7 + 7 * q + 1) (by omega) k hk
    have fb1 : ∀ k, k < 2 → E23 (7 + 7 * q + 1 + k) = E21 (2 + k) := fun k hk => by rw [← g22]; exact wU_fj2 (a := 2) (c := 2) (b1 := 7 + 7 * t + 1) (b2 := 7 + 7 * q + 1) (by omega) k hk
    have fo1 : ∀ k, (k < 7 + 7 * t + 1 ∨ 7 + 7 * t + 1 + 2 ≤ k) → (k < 7 + 7 * q + 1 ∨ 7 + 7 * q + 1 + 2 ≤ k) → E23 k = E k := fun k h1 h2 => by rw [← g22]; exact wU_fjo (a := 2) (c := 2) (b1 := 7 + 7 * t + 1) (b2 := 7 + 7 * q + 1) h1 h2
    refine lv_goto (tgt := 149) hx hb dRW_synchronise_146 rfl ?_
    exact q_vret X hlk hr hP hS dRW_synchronise_149 (⟨rfl, hI0.gen (fun u hu => by by_cases hh : u = t; (· rw [hh]; exact Or.inr ⟨1, nI k, rg, ⟨(fo1 (7 + 7 * t) (by omega) (by omega)).trans w0, (fa1 0 (by omega)).trans q240, _, (fa1 1 (by omega)).trans q241⟩, fun q => absurd q hst, fun _ => ⟨k, hk, rfl⟩⟩); (· by_cases h2 : u = q; (· subst h2; exact Or.inr ⟨ph, nx, rq, ⟨(fo1 (7 + 7 * u) (by omega) (by omega)).trans x0, (fb1 0 (by omega)).trans (q242.trans x1), _, (fb1 1 (by omega)).trans (q243.trans x2)⟩, hx1, hx2⟩); (· exact Or.inl (fun k h1 h2 => fo1 k (by omega) (by omega))))) (fun u hu => Or.inl (fun k h1 h2 => fo1 k (by omega) (by omega))) (fun u hu => Or.inl (fun k h1 h2 => fo1 k (by omega) (by omega))) (fun k hk => by obtain hk | hk | hk | hk | ⟨v, hv, h1, h2⟩ := hk <;> exact fo1 k (by omega) (by omega)), ⟨(fo1 (7 + 7 * t) (by omega) (by omega)).trans w0, (fa1 0 (by omega)).trans q240, _, (fa1 1 (by omega)).trans q241⟩, fun k h => fo1 k (by omega) (by omega)⟩)
  · refine lv_tableOut (tgt := 149) hx hb dRW_synchronise_12 (by decide) rfl ?_
    exact q_vret X hlk hr hP hS dRW_synchronise_149 (⟨rfl, hI0, hw0, fun _ _ => rfl⟩)
  · refine lv_tableOut (tgt := 149) hx hb dRW_synchronise_12 (by decide) rfl ?_
    exact q_vret X hlk hr hP hS dRW_synchronise_149 (⟨rfl, hI0, hw0, fun _ _ => rfl⟩)
  · refine lv_tableOut (tgt := 149) hx hb dRW_synchronise_12 (by decide) rfl ?_
    exact q_vret X hlk hr hP hS dRW_synchronise_149 (⟨rfl, hI0, hw0, fun _ _ => rfl⟩)
  · refine lv_tableOut (tgt := 149) hx hb dRW_synchronise_12 (by decide) rfl ?_
    exact q_vret X hlk hr hP hS dRW_synchronise_149 (⟨rfl, hI0, hw0, fun _ _ => rfl⟩)
  · refine lv_tableOut (tgt := 149) hx hb dRW_synchronise_12 (by decide) rfl ?_
    exact q_vret X hlk hr hP hS dRW_synchronise_149 (⟨rfl, hI0, hw0, fun _ _ => rfl⟩)
