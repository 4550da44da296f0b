theorem K_of {args : Array Value} {s : State} (hts : ∀ w ∈ WS, w.before args s = true) : ∃ (D : va_G) (tc : Nat → ClassId), va_K D vwCl (TY tc) s := by
  obtain ⟨c0, i0, k0⟩ := u_known (ws := WS) (T := T_CK) (N := 1) hts in_CK (hts _ w_56)
  obtain ⟨c1, i1, k1⟩ := u_known (ws := WS) (T := T_LK) (N := 3) hts in_LK (hts _ w_78)
  obtain ⟨c2, i2, k2⟩ := u_known (ws := WS) (T := T_PG) (N := 4) hts in_PG (hts _ w_32)
  obtain ⟨c3, i3, k3⟩ := u_known (ws := WS) (T := T_BK) (N := 4) hts in_BK (hts _ w_111)
  obtain ⟨c4, i4, k4⟩ := u_known (ws := WS) (T := T_TR) (N := 3) hts in_TR (hts _ w_97)
  obtain ⟨c5, i5, k5⟩ := u_known (ws := WS) (T := T_WK) (N := 4) hts in_WK (hts _ w_50)
  obtain ⟨c6, i6, k6⟩ := u_known (ws := WS) (T := T_RW) (N := 9) hts in_RW (hts _ w_21)
  obtain ⟨c7, i7, k7⟩ := u_known (ws := WS) (T := T_MD) (N := 20) hts in_MD (hts _ w_490)
  obtain ⟨a0, r0⟩ := ar_P (hts _ w_49) (by intro C h; cases h)
  obtain ⟨a1, r1⟩ := ar_P (hts _ w_540) (by intro C h; cases h)
  obtain ⟨a2, r2⟩ := ar_P (hts _ w_539) (by intro C h; cases h)
  obtain ⟨a3, r3⟩ := ar_O (hts _ w_29)
  obtain ⟨a4, r4⟩ := ar_O (hts _ w_31)
  obtain ⟨a5, r5⟩ := ar_O (hts _ w_77)
  obtain ⟨a6, r6⟩ := ar_O (hts _ w_94)
  refine ⟨(fun k => [c0, c1, c2, c3, c4, c5, c6, c7].getD k 0, fun k => [i0, i1, i2, i3, i4, i5, i6, i7].getD k (fun _ => 0)), fun k => [a0, a1, a2, a3, a4, a5, a6].getD k 0, fun cx q hq => ?_, fun k q hq => ?_⟩
  · match cx, hq with
    | 0, hq => cases hq; exact k0
    | 1, hq => cases hq; exact k1
    | 2, hq => cases hq; exact k2
    | 3, hq => cases hq; exact k3
    | 4, hq => cases hq; exact k4
    | 5, hq => cases hq; exact k5
    | 6, hq => cases hq; exact k6
    | 7, hq => cases hq; exact k7
    | (cx + 8), hq => cases hq
  · match k, hq with
    | 0, hq => cases hq; exact r0
    | 1, hq => cases hq; exact r1
    | 2, hq => cases hq; exact r2
    | 3, hq => cases hq; exact r3
    | 4, hq => cases hq; exact r4
    | 5, hq => cases hq; exact r5
    | 6, hq => cases hq; exact r6
    | (k + 7), hq => cases hq
