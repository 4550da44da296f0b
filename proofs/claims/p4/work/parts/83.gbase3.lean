/-! p2 AND p4: what doEvent, start, step, the reference's own and the law's helpers stand on -/
theorem code7 {t : Nat} (ht : t < 5) (x y : Int32) : (nI t + 8 * x + 128 * y) &&& 7 = nI t := by
  rw [pk_and _ 3 (by decide)]
  congr 1
  have h8 : (8 : Int32).toBitVec.toNat = 8 := by decide
  have h128 : (128 : Int32).toBitVec.toNat = 128 := by decide
  have ht2 : (nI t).toBitVec.toNat = t % 2 ^ 32 := by
    show (Int32.ofNat t).toBitVec.toNat = _
    simp only [Int32.toBitVec_ofNat', BitVec.toNat_ofNat]
  simp only [Int32.toBitVec_add, Int32.toBitVec_mul, BitVec.toNat_add, BitVec.toNat_mul]
  rw [h8, h128, ht2]
  omega
theorem ofL (rg : Int64) : ∃ p, p < 8 ∧ 4 + (rg &&& 3).toInt32 = nI p := by
  refine ⟨4 + rg.toBitVec.toNat % 4, by omega, ?_⟩
  have e : (rg &&& 3).toInt32 = nI (rg.toBitVec.toNat % 4) := by
    apply Int32.toBitVec_inj.mp
    apply BitVec.eq_of_toNat_eq
    rw [Int64.toBitVec_toInt32, BitVec.signExtend_eq_setWidth_of_le _ (by decide), Int64.toBitVec_and, BitVec.toNat_setWidth, BitVec.toNat_and]
    have h3 : (3 : Int64).toBitVec.toNat = 2 ^ 2 - 1 := by decide
    rw [h3, Nat.and_two_pow_sub_one_eq_mod]
    show _ = (Int32.ofNat _).toBitVec.toNat
    simp only [Int32.toBitVec_ofNat', BitVec.toNat_ofNat]
  rw [e]
  exact nI_add 4 _
theorem ofI (x : Int32) : ∃ p, p < 8 ∧ 4 + (x &&& 3) = nI p := by
  obtain ⟨j, hj, e⟩ := pk_andE x (m := 3) 2 (by decide)
  exact ⟨4 + j, by omega, by rw [e]; exact nI_add 4 j⟩
theorem min4 {pl : Nat} (h : pl < 8) : ∃ p, p < 8 ∧ (if (4 : Int32) < nI pl then 4 else nI pl) = nI p := by
  by_cases h4 : (4 : Int32) < nI pl
  · exact ⟨4, by decide, if_pos h4⟩
  · exact ⟨pl, h, if_neg h4⟩
theorem ofA {o a : Int32} (h : ¬ o = 8 ∧ ¬ o = 9) (hn : nmd o a = true) (hq : o = 0 ∨ o = 8 ∨ o = 1 ∨ o = 9) : ∃ p, p < 8 ∧ a = nI p := by
  have h01 : o = 0 ∨ o = 1 := by
    rcases hq with h' | h' | h' | h'
    · exact Or.inl h'
    · exact absurd h' h.1
    · exact Or.inr h'
    · exact absurd h' h.2
  have hw : wi a 8 = true := by unfold nmd at hn; rwa [if_pos h01] at hn
  exact wi_of (by decide) hw
section RIC
variable {tc : Nat → ClassId} {ad bd : Nat → Nat} {F G : Nat → va_E} {st cs : Int32} {sz : Nat → Nat} {fo fa fb : Nat → Nat → Int32}
theorem RI.cong (h : RI tc ad F st cs sz fo fa fb) (e : ∀ k, k < 66 → G k = F k) : RI tc ad G st cs sz fo fa fb := by
  obtain ⟨h1, h2, h3, h4, h5, ⟨cn, h6⟩, h7, h8⟩ := h
  refine ⟨h1.cong (e 0 (by omega)) (e 1 (by omega)) (e 2 (by omega)) (e 38 (by omega)) (e 48 (by omega)), fun u hu => (h2 u hu).cong (fun k q1 q2 => e k (by omega)), fun u hu => ?_, fun u hu => ?_, fun u hu => (h5 u hu).cong (fun k q1 q2 => e k (by omega)), ⟨cn, h6.cong (fun k q1 q2 => e k (by omega))⟩, h7, h8⟩
  · obtain ⟨ph, nx, rg, hw1, hw2⟩ := h3 u hu
    exact ⟨ph, nx, rg, hw1.cong (fun k q1 q2 => e k (by omega)), hw2⟩
  · obtain ⟨ow, dp, hl⟩ := h4 u hu
    exact ⟨ow, dp, hl.cong (fun k q1 q2 => e k (by omega))⟩
theorem BKi.congA {b cn : Nat} (h : BKi tc ad F b cn) (e : ∀ k, b ≤ k → k < b + 5 → bd k = ad k) : BKi tc bd F b cn := by
  obtain ⟨fr, fp, fw, fd, h, r⟩ := h
  exact ⟨fr, fp, fw, fd, h.congA e, r⟩
theorem TRi.congA {cn : Nat} (h : TRi tc ad F cn) (e : ∀ k, 53 ≤ k → k < 66 → bd k = ad k) : TRi tc bd F cn := by
  obtain ⟨h0, ⟨fc, fk, h1, h2⟩, h3, h4⟩ := h
  exact ⟨h0, ⟨fc, fk, h1.congA (fun k q1 q2 => e k (by omega) (by omega)), h2⟩, h3.congA (fun k q1 q2 => e k (by omega) (by omega)), h4.congA (fun k q1 q2 => e k (by omega) (by omega))⟩
theorem RI.congA (h : RI tc ad F st cs sz fo fa fb) (e : ∀ k, k < 66 → bd k = ad k) : RI tc bd F st cs sz fo fa fb := by
  obtain ⟨h1, h2, h3, h4, h5, ⟨cn, h6⟩, h7, h8⟩ := h
  refine ⟨h1.congA e, fun u hu => (h2 u hu).congA (fun k q1 q2 => e k (by omega)), fun u hu => ?_, fun u hu => ?_, fun u hu => (h5 u hu).congA (fun k q1 q2 => e k (by omega)), ⟨cn, h6.congA (fun k q1 q2 => e k (by omega))⟩, h7, h8⟩
  · obtain ⟨ph, nx, rg, hw1, hw2⟩ := h3 u hu
    exact ⟨ph, nx, rg, hw1.congA (fun k q1 q2 => e k (by omega)), hw2⟩
  · obtain ⟨ow, dp, hl⟩ := h4 u hu
    exact ⟨ow, dp, hl.congA (fun k q1 q2 => e k (by omega))⟩
theorem w66 {E1 : Nat → va_E} {k : Nat} (hk : k < 66) : wU 66 (fun k => 0 + k) F E1 k = E1 k := by
  have h := wU_own (m := 66) (b := 0) (F := F) (E1 := E1) k hk
  rwa [Nat.zero_add] at h
theorem RI.back {E1 : Nat → va_E} (h : RI tc (fun k => ad (0 + k)) E1 st cs sz fo fa fb) : RI tc ad (wU 66 (fun k => 0 + k) F E1) st cs sz fo fa fb := by
  simp only [Nat.zero_add] at h
  exact h.cong (fun k hk => w66 hk)
theorem RI.at67 (h : RI tc ad F st cs sz fo fa fb) : RI tc (fun k => ad (f67 k)) (fun k => F (f67 k)) st cs sz fo fa fb := (h.congA (bd := fun k => ad (f67 k)) (fun k hk => by show ad (f67 k) = ad k; rw [f67_eq hk])).cong (fun k hk => by show F (f67 k) = F k; rw [f67_eq hk])
theorem w67 {E1 : Nat → va_E} {k : Nat} (hk : k < 66) : wU 67 f67 F E1 k = E1 k := by
  have h := wU_at (E := F) (E1 := E1) f67_inj (k := k) (by omega)
  rwa [f67_eq hk] at h
theorem w67o {E1 : Nat → va_E} : wU 67 f67 F E1 83 = E1 66 := by
  have h := wU_at (E := F) (E1 := E1) f67_inj (k := 66) (by omega)
  rwa [show f67 66 = 83 from rfl] at h
theorem w67m {E1 : Nat → va_E} {k : Nat} (h1 : 66 ≤ k) (h2 : k < 83) : wU 67 f67 F E1 k = F k := wU_off (fun j hj => by unfold f67; split <;> omega)
theorem RI.back67 {E1 : Nat → va_E} (h : RI tc (fun k => ad (f67 k)) E1 st cs sz fo fa fb) : RI tc ad (wU 67 f67 F E1) st cs sz fo fa fb := (h.congA (bd := ad) (fun k hk => by show ad k = ad (f67 k); rw [f67_eq hk])).cong (fun k hk => w67 hk)
def FarD (t : Nat) (F G : Nat → va_E) : Prop := ∀ q, (q < 53 ∧ (q < 7 + 7 * t ∨ 10 + 7 * t ≤ q)) → G q = F q
theorem FarD.cong {t : Nat} {G0 : Nat → va_E} (h : FarD t F G0) (e : ∀ k, (k < 53 ∧ (k < 7 + 7 * t ∨ 10 + 7 * t ≤ k)) → True → G k = G0 k) : FarD t F G := fun q hq => (e q hq trivial).trans (h q hq)
theorem RI.fin (h : RI tc ad F st cs sz fo fa fb) {t cn : Nat} (ht : t < 5) (hw : WKi tc ad G st (sz t) (7 + 7 * t)) (htr : TRi tc ad G cn) (e : FarD t F G) : RI tc ad G st cs sz fo fa fb := by
  obtain ⟨h1, h2, h3, h4, h5, -, h7, h8⟩ := h
  refine ⟨h1.cong (e 0 (by omega)) (e 1 (by omega)) (e 2 (by omega)) (e 38 (by omega)) (e 48 (by omega)), fun u hu => (h2 u hu).cong (fun k q1 q2 => e k (by omega)), fun u hu => ?_, fun u hu => ?_, fun u hu => (h5 u hu).cong (fun k q1 q2 => e k (by omega)), ⟨cn, htr⟩, h7, h8⟩
  · by_cases hh : u = t
    · rw [hh]; exact hw
    · obtain ⟨ph, nx, rg, hw1, hw2⟩ := h3 u hu
      exact ⟨ph, nx, rg, hw1.cong (fun k q1 q2 => e k (by omega)), hw2⟩
  · obtain ⟨ow, dp, hl⟩ := h4 u hu
    exact ⟨ow, dp, hl.cong (fun k q1 q2 => e k (by omega))⟩
def FarS (F G : Nat → va_E) : Prop := ∀ q, (q ≠ 0 ∧ q ≠ 7) → G q = F q
theorem FarS.cong {G0 : Nat → va_E} (h : FarS F G0) (e : ∀ k, (k ≠ 0 ∧ k ≠ 7) → True → G k = G0 k) : FarS F G := fun q hq => (e q hq trivial).trans (h q hq)
theorem allBad_0 (h : allBad sz fo fa fb = false) : 0 < sz 0 := by
  unfold allBad at h
  have h1 := (Bool.or_eq_false_iff.mp h).2
  have h2 := of_decide_eq_false h1
  omega
theorem RI.start {cb nx : Int32} {rg : Int64} (h : RI tc ad F st cs sz fo fa fb) (hb : allBad sz fo fa fb = false) (hR : isRW tc ad G 1 cb) (hw : isWK tc ad G (7 + 7 * 0) 1 nx rg) (hnx : nx = 0) (e : FarS F G) : RI tc ad G 1 cb sz fo fa fb := by
  obtain ⟨h1, h2, h3, h4, h5, ⟨cn, h6⟩, h7, h8⟩ := h
  refine ⟨hR, fun u hu => (h2 u hu).cong (fun k q1 q2 => e k (by omega)), fun u hu => ?_, fun u hu => ?_, fun u hu => (h5 u hu).cong (fun k q1 q2 => e k (by omega)), ⟨cn, h6.cong (fun k q1 q2 => e k (by omega))⟩, h7, fun _ => hb⟩
  · by_cases hh : u = 0
    · subst hh
      exact ⟨1, nx, rg, hw, fun q => absurd q (by decide), fun _ => ⟨0, allBad_0 hb, hnx⟩⟩
    · obtain ⟨ph, nx, rg, hw1, hw2, hw3⟩ := h3 u hu
      exact ⟨ph, nx, rg, hw1.cong (fun k q1 q2 => e k (by omega)), fun q => absurd q (by decide), hw3⟩
  · obtain ⟨ow, dp, hl⟩ := h4 u hu
    exact ⟨ow, dp, hl.cong (fun k q1 q2 => e k (by omega))⟩
theorem RI.x (h : RI tc ad F st cs sz fo fa fb) : RWx tc ad F st cs := by
  obtain ⟨h1, h2, h3, h4, h5, ⟨cn, h0, ⟨fc, fk, h6, -⟩, ⟨a1, a2, a3, a4, h7, -⟩, ⟨b1, b2, b3, b4, h8, -⟩⟩, -, -⟩ := h
  exact ⟨h1, fun t ht => ⟨sz t, fo t, fa t, fb t, h2 t ht⟩, fun t ht => by obtain ⟨ph, nx, rg, h, -⟩ := h3 t ht; exact ⟨ph, nx, rg, h⟩, h4, h5, ⟨cn, fc, fk, h6⟩, ⟨a1, a2, a3, a4, h7⟩, ⟨b1, b2, b3, b4, h8⟩⟩
theorem nonB.ki {b : Nat} (h : nonB tc ad F b) : BKi tc ad F b 0 := by
  obtain ⟨fr, fp, fw, fd, h, -, -, h3, h4⟩ := h
  exact ⟨fr, fp, fw, fd, h, fun j hj => Or.inl (h3 j hj), fun j hj => Or.inl (h4 j hj)⟩
theorem RWf.ri (h : RWf tc ad F) : ∃ fo fa fb : Nat → Nat → Int32, RI tc ad F 0 0 (fun _ => 0) fo fa fb := by
  obtain ⟨h1, h2, h3, h4, h5, ⟨fc, fk, h6⟩, h7, h8⟩ := h
  obtain ⟨fo, fa, fb, hp⟩ := pick3 h2
  exact ⟨fo, fa, fb, h1, hp, fun t ht => ⟨0, 0, 0, h3 t ht, fun _ => ⟨rfl, rfl⟩, fun q => absurd q (by decide)⟩, fun t ht => ⟨-1, 0, h4 t ht⟩, h5, ⟨0, Nat.zero_le _, ⟨fc, fk, h6, fun k hk => absurd hk (Nat.not_lt_zero k)⟩, h7.ki, h8.ki⟩, fun t ht => ⟨Nat.zero_le _, fun k hk => absurd hk (Nat.not_lt_zero k)⟩, fun q => absurd rfl q⟩
end RIC
/-- the reference's invariant -/
def MI (tc : Nat → ClassId) (ad : Nat → Nat) (F : Nat → va_E) (th st : Int32) (sz : Nat → Nat) (fo fa fb : Nat → Nat → Int32) : Prop := ∃ (ic : Int32) (cn : Nat) (A : Nat → Nat → Int32) (J : Nat → Int64), isMD tc ad F th st ic (nI cn) A J ∧ cn ≤ 200 ∧ (∀ t, t < 5 → A 1 t = nI (sz t)) ∧
  (∀ t, t < 5 → ∀ k, k < sz t → A 2 (12 * t + k) = fo t k ∧ A 3 (12 * t + k) = fa t k ∧ A 4 (12 * t + k) = fb t k) ∧ (¬ st = 0 → ∀ t, t < 5 → (A 5 t = 1 → ∃ k, k < sz t ∧ A 6 t = nI k) ∧ (A 5 t = 0 → A 6 t = 0))
section MIC
variable {tc : Nat → ClassId} {ad bd : Nat → Nat} {F G : Nat → va_E} {th st : Int32} {sz : Nat → Nat} {fo fa fb : Nat → Nat → Int32}
theorem MI.cong (h : MI tc ad F th st sz fo fa fb) (e : ∀ k, k < 17 → G k = F k) : MI tc ad G th st sz fo fa fb := by
  obtain ⟨ic, cn, A, J, h, r⟩ := h
  exact ⟨ic, cn, A, J, h.cong e, r⟩
theorem MI.back {E1 : Nat → va_E} (h : MI tc (fun k => ad (0 + k)) E1 th st sz fo fa fb) : MI tc ad (wU 17 (fun k => 0 + k) F E1) th st sz fo fa fb := by
  obtain ⟨ic, cn, A, J, h, r⟩ := h
  exact ⟨ic, cn, A, J, h.back, r⟩
theorem MDf.mi (h : MDf tc ad F th) : MI tc ad F th 0 (fun _ => 0) fo fa fb := by
  obtain ⟨ic, A, J, h, h1, -⟩ := h
  exact ⟨ic, 0, A, J, h, Nat.zero_le _, fun t ht => h1 t ht, fun t ht k hk => absurd hk (Nat.not_lt_zero k), fun q => absurd rfl q⟩
end MIC
/-! what add leaves -/
def aS (st : Int32) (sz : Nat → Nat) (t op a : Int32) : Nat → Nat := if addOk st sz t op a = true then va_up sz t.toNatClampNeg (sz t.toNatClampNeg + 1) else sz
def aF (st : Int32) (sz : Nat → Nat) (t op a : Int32) (f : Nat → Nat → Int32) (v : Int32) : Nat → Nat → Int32 := if addOk st sz t op a = true then va_up f t.toNatClampNeg (upd (f t.toNatClampNeg) (sz t.toNatClampNeg) v) else f
theorem addOk_t {st t op a : Int32} {sz : Nat → Nat} (h : addOk st sz t op a = true) : st = 0 ∧ sz t.toNatClampNeg < 12 ∧ wi op 13 = true ∧ nmd op a = true := by
  unfold addOk at h
  simp only [Bool.and_eq_true, decide_eq_true_eq] at h
  exact ⟨h.1, h.2.2.1, h.2.2.2.1, h.2.2.2.2⟩
section ADD
variable {tc : Nat → ClassId} {ad : Nat → Nat} {F G : Nat → va_E} {th st cs t op a b : Int32} {sz : Nat → Nat} {fo fa fb : Nat → Nat → Int32}
theorem RI.add (h : RI tc ad F st cs sz fo fa fb) (hp : addOk st sz t op a = false ∧ G = F ∨ addOk st sz t op a = true ∧ ∃ j, j < 5 ∧ t = nI j ∧ isPG tc ad G (3 + 7 * j) (sz j + 1) (upd (fo j) (sz j) op) (upd (fa j) (sz j) a) (upd (fb j) (sz j) b) ∧ ∀ k, k < 3 + 7 * j ∨ 7 + 7 * j ≤ k → G k = F k) :
    RI tc ad G st cs (aS st sz t op a) (aF st sz t op a fo op) (aF st sz t op a fa a) (aF st sz t op a fb b) := by
  rcases hp with ⟨h0, rfl⟩ | ⟨h0, j, hj, rfl, hpg, e⟩
  · have h0' : ¬ addOk st sz t op a = true := by rw [h0]; decide
    unfold aS aF
    rw [if_neg h0', if_neg h0', if_neg h0', if_neg h0']
    exact h
  · obtain ⟨q0, q1, q2, q3⟩ := addOk_t h0
    unfold aS aF
    rw [if_pos h0, if_pos h0, if_pos h0, if_pos h0]
    rw [nI_clamp (by omega)] at q1 ⊢
    obtain ⟨h1, h2, h3, h4, h5, ⟨cn, h6⟩, h7, h8⟩ := h
    refine ⟨h1.cong (e 0 (by omega)) (e 1 (by omega)) (e 2 (by omega)) (e 38 (by omega)) (e 48 (by omega)), fun u hu => ?_, fun u hu => ?_, fun u hu => ?_, fun u hu => (h5 u hu).cong (fun k q1 q2 => e k (by omega)), ⟨cn, h6.cong (fun k q1 q2 => e k (by omega))⟩, fun u hu => ?_, fun q => absurd q0 q⟩
    · by_cases hh : u = j
      · subst hh
        rw [va_up_self, va_up_self, va_up_self, va_up_self]
        exact hpg
      · rw [va_up_ne _ _ hh, va_up_ne _ _ hh, va_up_ne _ _ hh, va_up_ne _ _ hh]
        exact (h2 u hu).cong (fun k q1 q2 => e k (by omega))
    · obtain ⟨ph, nx, rg, hw1, hw2, hw3⟩ := h3 u hu
      refine ⟨ph, nx, rg, hw1.cong (fun k q1 q2 => e k (by omega)), hw2, fun q => ?_⟩
      obtain ⟨k, hk, ek⟩ := hw3 q
      refine ⟨k, ?_, ek⟩
      by_cases hh : u = j
      · subst hh; rw [va_up_self]; omega
      · rw [va_up_ne _ _ hh]; exact hk
    · obtain ⟨ow, dp, hl⟩ := h4 u hu
      exact ⟨ow, dp, hl.cong (fun k q1 q2 => e k (by omega))⟩
    · by_cases hh : u = j
      · subst hh
        rw [va_up_self, va_up_self, va_up_self]
        refine ⟨by omega, fun k hk => ?_⟩
        by_cases hk2 : k = sz u
        · subst hk2; rw [pk_us, pk_us]; exact ⟨q2, q3⟩
        · rw [pk_un hk2, pk_un hk2]; exact (h7 u hu).2 k (by omega)
      · rw [va_up_ne _ _ hh, va_up_ne _ _ hh, va_up_ne _ _ hh]
        exact h7 u hu
theorem MI.add {ic : Int32} {cn : Nat} {A : Nat → Nat → Int32} {J : Nat → Int64} (hc : cn ≤ 200) (hs : ∀ t, t < 5 → sz t ≤ 12) (h1 : ∀ t, t < 5 → A 1 t = nI (sz t)) (h2 : ∀ t, t < 5 → ∀ k, k < sz t → A 2 (12 * t + k) = fo t k ∧ A 3 (12 * t + k) = fa t k ∧ A 4 (12 * t + k) = fb t k) (h3 : ¬ st = 0 → ∀ t, t < 5 → (A 5 t = 1 → ∃ k, k < sz t ∧ A 6 t = nI k) ∧ (A 5 t = 0 → A 6 t = 0))
    (hp : addOk st sz t op a = false ∧ isMD tc ad G 0 st ic (nI cn) A J ∨ addOk st sz t op a = true ∧ ∃ j, j < 5 ∧ t = nI j ∧ isMD tc ad G 0 st ic (nI cn) (va_up (va_up (va_up (va_up A 2 (upd (A 2) (12 * j + sz j) op)) 3 (upd (A 3) (12 * j + sz j) a)) 4 (upd (A 4) (12 * j + sz j) b)) 1 (upd (A 1) j (nI (sz j + 1)))) J) :
    MI tc ad G 0 st (aS st sz t op a) (aF st sz t op a fo op) (aF st sz t op a fa a) (aF st sz t op a fb b) := by
  rcases hp with ⟨h0, hM⟩ | ⟨h0, j, hj, rfl, hM⟩
  · have h0' : ¬ addOk st sz t op a = true := by rw [h0]; decide
    unfold aS aF
    rw [if_neg h0', if_neg h0', if_neg h0', if_neg h0']
    exact ⟨ic, cn, A, J, hM, hc, h1, h2, h3⟩
  · obtain ⟨q0, q1, q2, q3⟩ := addOk_t h0
    unfold aS aF
    rw [if_pos h0, if_pos h0, if_pos h0, if_pos h0]
    rw [nI_clamp (by omega)] at q1 ⊢
    refine ⟨ic, cn, _, J, hM, hc, fun u hu => ?_, fun u hu k hk => ?_, fun q => absurd q0 q⟩
    · rw [va_up_self]
      by_cases hh : u = j
      · subst hh; rw [pk_us, va_up_self]
      · rw [pk_un hh, va_up_ne _ _ hh]; exact h1 u hu
    · show upd (A 2) (12 * j + sz j) op (12 * u + k) = va_up fo j (upd (fo j) (sz j) op) u k ∧ upd (A 3) (12 * j + sz j) a (12 * u + k) = va_up fa j (upd (fa j) (sz j) a) u k ∧ upd (A 4) (12 * j + sz j) b (12 * u + k) = va_up fb j (upd (fb j) (sz j) b) u k
      by_cases hh : u = j
      · subst hh
        rw [va_up_self] at hk
        rw [va_up_self, va_up_self, va_up_self]
        by_cases hk2 : k = sz u
        · subst hk2; rw [pk_us, pk_us, pk_us, pk_us, pk_us, pk_us]; exact ⟨rfl, rfl, rfl⟩
        · rw [pk_un (by omega), pk_un (by omega), pk_un (by omega), pk_un (by omega), pk_un (by omega), pk_un (by omega)]
          exact h2 u hu k (by omega)
      · rw [va_up_ne _ _ hh] at hk
        rw [va_up_ne _ _ hh, va_up_ne _ _ hh, va_up_ne _ _ hh]
        have := hs u hu
        have := hs j hj
        rw [pk_un (by omega), pk_un (by omega), pk_un (by omega)]
        exact h2 u hu k hk
end ADD
def orT (P : Nat → Bool) : Nat → Bool
  | 0 => false
  | n + 1 => orT P n || P n
theorem orT_any (P : Nat → Bool) (n : Nat) : orT P n = (List.range n).any P := by
  induction n with
  | zero => rfl
  | succ n ih => rw [List.range_succ, List.any_append, ← ih]; simp [orT]
theorem own_UOE : ∀ a ∈ Bundle.ownAtoms0 R_RW 128 "java/lang/UnsupportedOperationException" nmsRT, (a ∈ tables_1 ∧ stW a = true) ∨ a ∈ thw := by
  set_option maxRecDepth 20000 in decide +kernel
section QI
variable {p : Program} {l : Launch} {e : Env} {R : Room} {s : State} {m : MethodId} {args : Array Value} {below : List Frame} {meth : Method} {c : Code} {H : Heap} {locs : List Loc}
variable {cc : ByteArray} {nL pc n : Nat} {own : String} {D : va_G} {tc : Nat → ClassId} {ad : Nat → Nat} {E : Nat → va_E} {ls : Array Slot} {post : Outcome → (Nat → va_E) → State → Prop} {sz : Nat}
theorem q_iretT {v : Int32} (X : Cx p s m args c cc nL own D tc) (hlk : meth.locks = false) (hr : meth.sig.returnType = some .int) (hP : va_P D vwCl (wW n ad E) H) (hS : va_S (fun q => Aw n ad q ∨ sz ≤ q) s.heap H locs) (hdg : decode cc pc = .ok (.ireturn, 1)) (hp : ∀ t, post (.returned (some (.int v))) E t) :
    W p l e R s m args below meth c H locs 1 6 (XQ below (CtTQ D n ad sz post) args s 1 6 (fun q => Aw n ad q ∨ sz ≤ q)) (F0 m pc ls [.int v]) :=
  W.mono (fun _ h => XQ.ofM h) (W.iret X.1 X.2.1 hr (fun t ht _ => ⟨⟨E, hp t, by rw [ht]; exact hP⟩, hS.F ht⟩) hS.2.2 hdg hlk)
/-- behind no new cell -/
theorem q_iretU {v : Int32} (X : Cx p s m args c cc nL own D tc) (hlk : meth.locks = false) (hr : meth.sig.returnType = some .int) (hP : va_P D vwCl (wW n ad E) H) (hS : va_S (Aw n ad) s.heap H locs) (hdg : decode cc pc = .ok (.ireturn, 1)) (hp : ∀ t, post (.returned (some (.int v))) E t) :
    W p l e R s m args below meth c H locs 0 0 (XQ below (CtTQ D n ad sz post) args s 1 6 (fun q => Aw n ad q ∨ sz ≤ q)) (F0 m pc ls [.int v]) :=
  W.widen (Nat.zero_le 1) (Nat.zero_le 6) (q_iretT X hlk hr hP ⟨hS.1, fun q h1 h2 => hS.2.1 q h1 (fun z => h2 (Or.inl z)), fun q hq => Or.inl (hS.2.2 q hq)⟩ hdg hp)
end QI
section XTRY
variable {p : Program} {l : Launch} {e : Env} {R : Room} {s : State} {m : MethodId} {args : Array Value} {below : List Frame} {meth : Method} {c : Code} {H : Heap} {locs : List Loc} {cells slots : Nat} {Q : State → Prop}
variable {cc : ByteArray} {nL pc n : Nat} {own : String} {D : va_G} {tc : Nat → ClassId} {ad : Nat → Nat} {E : Nat → va_E} {A : Nat → Prop} {H0 : Heap} {ls : Array Slot} {rest st0 As : List Value} {post : Outcome → (Nat → va_E) → State → Prop} {sz : Nat}
/-- behind a call that may return or throw what is caught here -/
theorem x_try {m2 : Nat} {f : Nat → Nat} {a : Array Value} (hr : XRun p l e R s m args below meth c H locs cells slots 1 6 pc ls st0 rest (CtTQ D m2 (fun k => ad (f k)) sz post a) (fun q => Aw m2 (fun k => ad (f k)) q ∨ sz ≤ q)) (hsz : H.size = sz) (hA : ∀ q, H0.size ≤ q → A q) (hD : va_D A (wW n ad E)) (hP : va_P D vwCl (wW n ad E) H) (hS : va_S A H0 H locs) (hf : ∀ k, k < m2 → f k < n) (hi : ∀ i j, i < m2 → j < m2 → f i = f j → i = j)
    (kx : ∀ (x : Nat) (E1 : Nat → va_E) (t : State), post (.threw x) E1 t → ∃ (C : String) (hpc : Nat), E1 = (fun k => E (f k)) ∧ isThr C x sz t ∧
      (∀ (T : State) (locs1 : List Loc) (cell : Cell), Stand p l e R s m args below meth c T locs1 (cells + 1) (slots + 6) → T.heap[x]? = some cell → cell.vm = .none → s.vm.findClass C = some cell.cls → ∃ vm1 : Vm, s.WarmedH vm1 ∧ FindsC e ((T.setTop (F0 m pc ls rest)).pushFrame (.throwing x)) (F0 m pc ls rest) x (.found hpc) (((T.setTop (F0 m pc ls rest)).pushFrame (.throwing x)).setVm vm1)) ∧
      ∀ (H1 : Heap) (locs1 : List Loc), va_D A (wW n ad E) → va_P D vwCl (wW n ad E) H1 → va_S A H0 H1 locs1 → W p l e R s m args below meth c H1 locs1 (cells + 1) (slots + 6) Q (F0 m hpc ls [.ref x]))
    (kr : ∀ (v : Option Value) (E1 : Nat → va_E) (t : State) (locs1 : List Loc), post (.returned v) E1 t → va_D A (wW n ad (wU m2 f E E1)) → va_P D vwCl (wW n ad (wU m2 f E E1)) t.heap → va_S A H0 t.heap locs1 → W p l e R s m args below meth c t.heap locs1 (cells + 1) (slots + 6) Q (F0 m (pc + 3) ls (v.toList ++ rest))) :
    W p l e R s m args below meth c H locs cells slots Q (F0 m pc ls st0) := by
  refine x_tgo hr hsz hA hD hP hS hf hi (fun o E1 t locs1 hp h1 h2 h3 T' hT hvm X' => ?_)
  cases o with
  | returned v =>
    obtain ⟨t2, a1, b1⟩ := kr v E1 t locs1 hp h1 h2 h3 T' hT X'
    exact ⟨_, fun v hv => (by cases hv; rfl), fun x hx => (by cases hx), t2, a1, b1⟩
  | threw x =>
    obtain ⟨C, hpc, he, ⟨cell, hc, hv, hfc, -⟩, hfind, kk⟩ := kx x E1 t hp
    rw [wU_same he] at h1 h2
    obtain ⟨vm1, hW1, hF⟩ := hfind T' locs1 cell X' (by rw [hT]; exact hc) hv (by rw [← X'.warmed.alike.findClass, hvm]; exact hfc)
    obtain ⟨t2, a1, b1⟩ := kk t.heap locs1 h1 h2 h3 (T'.setVm vm1) hT (X'.noted hW1)
    exact ⟨_, fun v hv => (by cases hv), fun x hx => (by cases hx; rfl), t2, Steps.caughtC (g := F0 m pc ls rest) X'.here hF a1, b1⟩
/-- a helper of the law: it returns, with at most one new cell -/
theorem x_iTX {m2 : Nat} {f : Nat → Nat} {a : Array Value} {pr : Int32 → (Nat → va_E) → Prop} (hr : XRun p l e R s m args below meth c H locs cells slots 1 6 pc ls st0 rest (CtTQ D m2 (fun k => ad (f k)) sz (fun o E' _ => ∃ r : Int32, o = .returned (some (.int r)) ∧ pr r E') a) (fun q => Aw m2 (fun k => ad (f k)) q ∨ sz ≤ q)) (hsz : H.size = sz) (hA : ∀ q, H0.size ≤ q → A q) (hD : va_D A (wW n ad E)) (hP : va_P D vwCl (wW n ad E) H) (hS : va_S A H0 H locs) (hf : ∀ k, k < m2 → f k < n) (hi : ∀ i j, i < m2 → j < m2 → f i = f j → i = j)
    (kk : ∀ (r : Int32) (E1 : Nat → va_E) (H1 : Heap) (locs1 : List Loc), pr r E1 → va_D A (wW n ad (wU m2 f E E1)) → va_P D vwCl (wW n ad (wU m2 f E E1)) H1 → va_S A H0 H1 locs1 → W p l e R s m args below meth c H1 locs1 (cells + 1) (slots + 6) Q (F0 m (pc + 3) ls (.int r :: rest))) :
    W p l e R s m args below meth c H locs cells slots Q (F0 m pc ls st0) := by
  refine x_tgo hr hsz hA hD hP hS hf hi (fun o E1 t locs1 hp h1 h2 h3 T' hT hvm X' => ?_)
  obtain ⟨r, rfl, hpr⟩ := hp
  obtain ⟨t2, a1, b1⟩ := kk r E1 t.heap locs1 hpr h1 h2 h3 T' hT X'
  exact ⟨_, fun v hv => (by cases hv; rfl), fun x hx => (by cases hx), t2, a1, b1⟩
/-- the third handler's class is the thrown one's -/
theorem fd3 {T : State} {locs1 : List Loc} {k1 k2 x : Nat} {cell : Cell} {C N1 N2 : String} {a1 b1 p1 c1 a2 b2 p2 c2 a3 b3 p3 c3 : Nat} {tl : List (Nat × Nat × Nat × Nat)} {g : JFrame} (hg : g.method = m) (XX : Stand p l e R s m args below meth c T locs1 k1 k2) (X : Cx p s m args c cc nL own D tc) (htab : c.exceptionTable.toList.map (fun h => (h.startPc, h.endPc, h.handlerPc, h.catchType)) = (a1, b1, p1, c1) :: (a2, b2, p2, c2) :: (a3, b3, p3, c3) :: tl)
    (hpc : a1 ≤ g.pc ∧ g.pc < b1) (hpc2 : a2 ≤ g.pc ∧ g.pc < b2) (hpc3 : a3 ≤ g.pc ∧ g.pc < b3) (h0 : c1 ≠ 0) (h02 : c2 ≠ 0) (h03 : c3 ≠ 0) (hl : Cond.classLink own c1 N1 ∈ WS) (hn : va_Nc C N1 s) (hl2 : Cond.classLink own c2 N2 ∈ WS) (hn2 : va_Nc C N2 s) (hl3 : Cond.classLink own c3 C ∈ WS) (hca : Cond.castable C C ∈ WS) (hc : T.heap[x]? = some cell) (hv : cell.vm = .none) (hC : s.vm.findClass C = some cell.cls) :
    ∃ vm1 : Vm, s.WarmedH vm1 ∧ FindsC e ((T.setTop g).pushFrame (.throwing x)) g x (.found p3) (((T.setTop g).pushFrame (.throwing x)).setVm vm1) := by
  have hpl : e.platform.magicAccessors = ({} : Platform).magicAccessors := by rw [XX.admits.platform]
  have hvmS : ((T.setTop g).pushFrame (.throwing x)).vm = T.vm := Stand.throwing_vm T g x
  have hhS : ((T.setTop g).pushFrame (.throwing x)).heap = T.heap := Stand.throwing_heap T g x
  obtain ⟨x1, es, hes, hx1, hes2⟩ := List.map_eq_cons_iff.mp htab
  obtain ⟨x2, es2, hes3, hx2, hes4⟩ := List.map_eq_cons_iff.mp hes2
  obtain ⟨x3, es3, hes5, hx3, -⟩ := List.map_eq_cons_iff.mp hes4
  simp only [Prod.mk.injEq] at hx1 hx2 hx3
  obtain ⟨e1, e2, e3, e4⟩ := hx1
  obtain ⟨f1, f2, f3, f4⟩ := hx2
  obtain ⟨g1, g2, g3, g4⟩ := hx3
  subst hes5
  subst hes3
  obtain ⟨vm1, cN, hW1, hfN, hgo⟩ := go_one (e := e) (s := s) (U := (T.setTop g).pushFrame (.throwing x)) (f := g) (a := x) (args := args) (own := own) (nm := N1) (C := C) (ct := c1) (x := x1) (t := x2 :: x3 :: es3) (by rw [hvmS]; exact XX.warmed) hpl (by rw [hg]; exact X.2.2.2.1) (X.2.2.2.2.1 _ hl) (by rw [hhS]; exact hc) hv hC (by simp [covers, e1, e2, hpc.1, hpc.2]) e4 h0
  obtain ⟨vm2, cM, hW2, hfM, hgo2⟩ := go_one (e := e) (s := s) (U := ((T.setTop g).pushFrame (.throwing x)).setVm vm1) (f := g) (a := x) (args := args) (own := own) (nm := N2) (C := C) (ct := c2) (x := x2) (t := x3 :: es3) hW1 hpl (by rw [hg]; exact X.2.2.2.1) (X.2.2.2.2.1 _ hl2) (by show ((T.setTop g).pushFrame (.throwing x)).heap[x]? = _; rw [hhS]; exact hc) hv hC (by simp [covers, f1, f2, hpc2.1, hpc2.2]) f4 h02
  obtain ⟨vm3, cO, hW3, hfO, hgo3⟩ := go_one (e := e) (s := s) (U := (((T.setTop g).pushFrame (.throwing x)).setVm vm1).setVm vm2) (f := g) (a := x) (args := args) (own := own) (nm := C) (C := C) (ct := c3) (x := x3) (t := es3) hW2 hpl (by rw [hg]; exact X.2.2.2.1) (X.2.2.2.2.1 _ hl3) (by show ((T.setTop g).pushFrame (.throwing x)).heap[x]? = _; rw [hhS]; exact hc) hv hC (by simp [covers, g1, g2, hpc3.1, hpc3.2]) g4 h03
  obtain ⟨cA, cB, q1, q2, q3⟩ := Cond.castable_spec (X.2.2.2.2.1 _ hca)
  cases hC.symm.trans q1
  cases hfO.symm.trans q2
  obtain ⟨cA', cB', r1, r2, r3⟩ := hn
  cases hC.symm.trans r1
  cases hfN.symm.trans r2
  obtain ⟨cA2, cB2, s1, s2, s3⟩ := hn2
  cases hC.symm.trans s1
  cases hfM.symm.trans s2
  refine ⟨vm3, hW3, fun Q E d acts => ?_⟩
  rw [W.findHandler_eq (meth := meth) (code := c) (by rw [hvmS, hg]; exact XX.method') XX.code, hes, hgo, if_neg (by rw [r3]; decide), hgo2, if_neg (by rw [s3]; decide), hgo3, if_pos q3, g3]
  rfl
end XTRY
