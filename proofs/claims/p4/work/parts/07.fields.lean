theorem in_CK : ∀ w ∈ u_ws R_CK T_CK 1, w ∈ WS := by
  intro w h
  obtain ⟨k, hk, rfl⟩ := List.mem_map.mp h
  have hk := List.mem_range.mp hk
  match k, hk with
  | 0, _ => exact w_63
  | (k + 1), h => exact absurd h (by omega)
theorem in_LK : ∀ w ∈ u_ws R_LK T_LK 3, w ∈ WS := by
  intro w h
  obtain ⟨k, hk, rfl⟩ := List.mem_map.mp h
  have hk := List.mem_range.mp hk
  match k, hk with
  | 0, _ => exact w_90
  | 1, _ => exact w_91
  | 2, _ => exact w_92
  | (k + 3), h => exact absurd h (by omega)
theorem in_PG : ∀ w ∈ u_ws R_PG T_PG 4, w ∈ WS := by
  intro w h
  obtain ⟨k, hk, rfl⟩ := List.mem_map.mp h
  have hk := List.mem_range.mp hk
  match k, hk with
  | 0, _ => exact w_45
  | 1, _ => exact w_46
  | 2, _ => exact w_47
  | 3, _ => exact w_48
  | (k + 4), h => exact absurd h (by omega)
theorem in_BK : ∀ w ∈ u_ws R_BK T_BK 4, w ∈ WS := by
  intro w h
  obtain ⟨k, hk, rfl⟩ := List.mem_map.mp h
  have hk := List.mem_range.mp hk
  match k, hk with
  | 0, _ => exact w_129
  | 1, _ => exact w_130
  | 2, _ => exact w_131
  | 3, _ => exact w_132
  | (k + 4), h => exact absurd h (by omega)
theorem in_TR : ∀ w ∈ u_ws R_TR T_TR 3, w ∈ WS := by
  intro w h
  obtain ⟨k, hk, rfl⟩ := List.mem_map.mp h
  have hk := List.mem_range.mp hk
  match k, hk with
  | 0, _ => exact w_107
  | 1, _ => exact w_108
  | 2, _ => exact w_109
  | (k + 3), h => exact absurd h (by omega)
theorem in_WK : ∀ w ∈ u_ws R_WK T_WK 4, w ∈ WS := by
  intro w h
  obtain ⟨k, hk, rfl⟩ := List.mem_map.mp h
  have hk := List.mem_range.mp hk
  match k, hk with
  | 0, _ => exact w_72
  | 1, _ => exact w_73
  | 2, _ => exact w_74
  | 3, _ => exact w_75
  | (k + 4), h => exact absurd h (by omega)
theorem in_RW : ∀ w ∈ u_ws R_RW T_RW 9, w ∈ WS := by
  intro w h
  obtain ⟨k, hk, rfl⟩ := List.mem_map.mp h
  have hk := List.mem_range.mp hk
  match k, hk with
  | 0, _ => exact w_142
  | 1, _ => exact w_143
  | 2, _ => exact w_144
  | 3, _ => exact w_145
  | 4, _ => exact w_146
  | 5, _ => exact w_147
  | 6, _ => exact w_148
  | 7, _ => exact w_149
  | 8, _ => exact w_150
  | (k + 9), h => exact absurd h (by omega)
theorem in_MD : ∀ w ∈ u_ws R_MD T_MD 20, w ∈ WS := by
  intro w h
  obtain ⟨k, hk, rfl⟩ := List.mem_map.mp h
  have hk := List.mem_range.mp hk
  match k, hk with
  | 0, _ => exact w_519
  | 1, _ => exact w_520
  | 2, _ => exact w_521
  | 3, _ => exact w_522
  | 4, _ => exact w_523
  | 5, _ => exact w_524
  | 6, _ => exact w_525
  | 7, _ => exact w_526
  | 8, _ => exact w_527
  | 9, _ => exact w_528
  | 10, _ => exact w_529
  | 11, _ => exact w_530
  | 12, _ => exact w_531
  | 13, _ => exact w_532
  | 14, _ => exact w_533
  | 15, _ => exact w_534
  | 16, _ => exact w_535
  | 17, _ => exact w_536
  | 18, _ => exact w_537
  | 19, _ => exact w_538
  | (k + 20), h => exact absurd h (by omega)
section FR
variable {p : Program} {l : Launch} {e : Env} {R : Room} {s : State} {m : MethodId} {args : Array Value} {below : List Frame} {meth : Method} {c : Code} {H : Heap} {locs : List Loc} {cells slots : Nat} {Q : State → Prop}
variable {cc : ByteArray} {nL pc n : Nat} {D : va_G} {tc : Nat → ClassId} {ad : Nat → Nat} {E : Nat → va_E} {A : Nat → Prop} {H0 : Heap} {ls : Array Slot} {rest : List Value} {k : Nat} {fs : List Value} {v : Value}
theorem g_PG_9 (X : Cx p s m args c cc nL R_PG D tc) (hP : va_P D vwCl (wW n ad E) H) (hk : k < n) (hE : E k = .inr (2, fs)) (hv : fs[0]? = some v) (hdg : decode cc pc = .ok (.getfield 9, 3)) (kk : W p l e R s m args below meth c H locs cells slots Q (F0 m (pc + 3) ls (v :: rest))) : W p l e R s m args below meth c H locs cells slots Q (F0 m pc ls (.ref (ad k) :: rest)) :=
  q_get (T := T_PG) X hP hk hE rfl in_PG 0 (by decide) w_37 rfl hv hdg kk
theorem p_PG_9 (X : Cx p s m args c cc nL R_PG D tc) (hin : meth.name = "<init>") (hD : va_D A (wW n ad E)) (hP : va_P D vwCl (wW n ad E) H) (hS : va_S A H0 H locs) (hk : k < n) (hE : E k = .inr (2, fs)) (hn : narrow (.array .int) v = v) (hfit : fits (.array .int) v = true) (hl : 0 < fs.length) (hdg : decode cc pc = .ok (.putfield 9, 3))
    (kk : ∀ (H1 : Heap) (locs1 : List Loc), va_D A (wW n ad (va_up E k (.inr (2, fs.set 0 v)))) → va_P D vwCl (wW n ad (va_up E k (.inr (2, fs.set 0 v)))) H1 → va_S A H0 H1 locs1 → W p l e R s m args below meth c H1 locs1 cells slots Q (F0 m (pc + 3) ls rest)) : W p l e R s m args below meth c H locs cells slots Q (F0 m pc ls (v :: .ref (ad k) :: rest)) :=
  q_putF (T := T_PG) ty_PG X hD hP hS hk hE rfl in_PG tok_PG nm_PG 0 (by decide) w_37 rfl rfl hin rfl (by decide +kernel) hn hfit hl hdg kk
theorem g_RW_105 (X : Cx p s m args c cc nL R_RW D tc) (hP : va_P D vwCl (wW n ad E) H) (hk : k < n) (hE : E k = .inr (2, fs)) (hv : fs[0]? = some v) (hdg : decode cc pc = .ok (.getfield 105, 3)) (kk : W p l e R s m args below meth c H locs cells slots Q (F0 m (pc + 3) ls (v :: rest))) : W p l e R s m args below meth c H locs cells slots Q (F0 m pc ls (.ref (ad k) :: rest)) :=
  q_getN (T := T_PG) X hP hk hE rfl in_PG 0 (by decide) w_38 rfl hv hdg kk
theorem g_PG_15 (X : Cx p s m args c cc nL R_PG D tc) (hP : va_P D vwCl (wW n ad E) H) (hk : k < n) (hE : E k = .inr (2, fs)) (hv : fs[1]? = some v) (hdg : decode cc pc = .ok (.getfield 15, 3)) (kk : W p l e R s m args below meth c H locs cells slots Q (F0 m (pc + 3) ls (v :: rest))) : W p l e R s m args below meth c H locs cells slots Q (F0 m pc ls (.ref (ad k) :: rest)) :=
  q_get (T := T_PG) X hP hk hE rfl in_PG 1 (by decide) w_39 rfl hv hdg kk
theorem p_PG_15 (X : Cx p s m args c cc nL R_PG D tc) (hin : meth.name = "<init>") (hD : va_D A (wW n ad E)) (hP : va_P D vwCl (wW n ad E) H) (hS : va_S A H0 H locs) (hk : k < n) (hE : E k = .inr (2, fs)) (hn : narrow (.array .int) v = v) (hfit : fits (.array .int) v = true) (hl : 1 < fs.length) (hdg : decode cc pc = .ok (.putfield 15, 3))
    (kk : ∀ (H1 : Heap) (locs1 : List Loc), va_D A (wW n ad (va_up E k (.inr (2, fs.set 1 v)))) → va_P D vwCl (wW n ad (va_up E k (.inr (2, fs.set 1 v)))) H1 → va_S A H0 H1 locs1 → W p l e R s m args below meth c H1 locs1 cells slots Q (F0 m (pc + 3) ls rest)) : W p l e R s m args below meth c H locs cells slots Q (F0 m pc ls (v :: .ref (ad k) :: rest)) :=
  q_putF (T := T_PG) ty_PG X hD hP hS hk hE rfl in_PG tok_PG nm_PG 1 (by decide) w_39 rfl rfl hin rfl (by decide +kernel) hn hfit hl hdg kk
theorem g_RW_112 (X : Cx p s m args c cc nL R_RW D tc) (hP : va_P D vwCl (wW n ad E) H) (hk : k < n) (hE : E k = .inr (2, fs)) (hv : fs[1]? = some v) (hdg : decode cc pc = .ok (.getfield 112, 3)) (kk : W p l e R s m args below meth c H locs cells slots Q (F0 m (pc + 3) ls (v :: rest))) : W p l e R s m args below meth c H locs cells slots Q (F0 m pc ls (.ref (ad k) :: rest)) :=
  q_getN (T := T_PG) X hP hk hE rfl in_PG 1 (by decide) w_40 rfl hv hdg kk
theorem g_PG_18 (X : Cx p s m args c cc nL R_PG D tc) (hP : va_P D vwCl (wW n ad E) H) (hk : k < n) (hE : E k = .inr (2, fs)) (hv : fs[2]? = some v) (hdg : decode cc pc = .ok (.getfield 18, 3)) (kk : W p l e R s m args below meth c H locs cells slots Q (F0 m (pc + 3) ls (v :: rest))) : W p l e R s m args below meth c H locs cells slots Q (F0 m pc ls (.ref (ad k) :: rest)) :=
  q_get (T := T_PG) X hP hk hE rfl in_PG 2 (by decide) w_41 rfl hv hdg kk
theorem p_PG_18 (X : Cx p s m args c cc nL R_PG D tc) (hin : meth.name = "<init>") (hD : va_D A (wW n ad E)) (hP : va_P D vwCl (wW n ad E) H) (hS : va_S A H0 H locs) (hk : k < n) (hE : E k = .inr (2, fs)) (hn : narrow (.array .int) v = v) (hfit : fits (.array .int) v = true) (hl : 2 < fs.length) (hdg : decode cc pc = .ok (.putfield 18, 3))
    (kk : ∀ (H1 : Heap) (locs1 : List Loc), va_D A (wW n ad (va_up E k (.inr (2, fs.set 2 v)))) → va_P D vwCl (wW n ad (va_up E k (.inr (2, fs.set 2 v)))) H1 → va_S A H0 H1 locs1 → W p l e R s m args below meth c H1 locs1 cells slots Q (F0 m (pc + 3) ls rest)) : W p l e R s m args below meth c H locs cells slots Q (F0 m pc ls (v :: .ref (ad k) :: rest)) :=
  q_putF (T := T_PG) ty_PG X hD hP hS hk hE rfl in_PG tok_PG nm_PG 2 (by decide) w_41 rfl rfl hin rfl (by decide +kernel) hn hfit hl hdg kk
theorem g_RW_202 (X : Cx p s m args c cc nL R_RW D tc) (hP : va_P D vwCl (wW n ad E) H) (hk : k < n) (hE : E k = .inr (2, fs)) (hv : fs[2]? = some v) (hdg : decode cc pc = .ok (.getfield 202, 3)) (kk : W p l e R s m args below meth c H locs cells slots Q (F0 m (pc + 3) ls (v :: rest))) : W p l e R s m args below meth c H locs cells slots Q (F0 m pc ls (.ref (ad k) :: rest)) :=
  q_getN (T := T_PG) X hP hk hE rfl in_PG 2 (by decide) w_42 rfl hv hdg kk
theorem g_PG_21 (X : Cx p s m args c cc nL R_PG D tc) (hP : va_P D vwCl (wW n ad E) H) (hk : k < n) (hE : E k = .inr (2, fs)) (hv : fs[3]? = some v) (hdg : decode cc pc = .ok (.getfield 21, 3)) (kk : W p l e R s m args below meth c H locs cells slots Q (F0 m (pc + 3) ls (v :: rest))) : W p l e R s m args below meth c H locs cells slots Q (F0 m pc ls (.ref (ad k) :: rest)) :=
  q_get (T := T_PG) X hP hk hE rfl in_PG 3 (by decide) w_43 rfl hv hdg kk
theorem p_PG_21 (X : Cx p s m args c cc nL R_PG D tc) (hD : va_D A (wW n ad E)) (hP : va_P D vwCl (wW n ad E) H) (hS : va_S A H0 H locs) (hk : k < n) (hE : E k = .inr (2, fs)) (hn : narrow (.int) v = v) (hfit : fits (.int) v = true) (hl : 3 < fs.length) (hdg : decode cc pc = .ok (.putfield 21, 3))
    (kk : ∀ (H1 : Heap) (locs1 : List Loc), va_D A (wW n ad (va_up E k (.inr (2, fs.set 3 v)))) → va_P D vwCl (wW n ad (va_up E k (.inr (2, fs.set 3 v)))) H1 → va_S A H0 H1 locs1 → W p l e R s m args below meth c H1 locs1 cells slots Q (F0 m (pc + 3) ls rest)) : W p l e R s m args below meth c H locs cells slots Q (F0 m pc ls (v :: .ref (ad k) :: rest)) :=
  q_put (T := T_PG) ty_PG X hD hP hS hk hE rfl in_PG tok_PG nm_PG 3 (by decide) w_43 rfl rfl (by decide +kernel) hn hfit hl hdg kk
theorem g_RW_196 (X : Cx p s m args c cc nL R_RW D tc) (hP : va_P D vwCl (wW n ad E) H) (hk : k < n) (hE : E k = .inr (2, fs)) (hv : fs[3]? = some v) (hdg : decode cc pc = .ok (.getfield 196, 3)) (kk : W p l e R s m args below meth c H locs cells slots Q (F0 m (pc + 3) ls (v :: rest))) : W p l e R s m args below meth c H locs cells slots Q (F0 m pc ls (.ref (ad k) :: rest)) :=
  q_getN (T := T_PG) X hP hk hE rfl in_PG 3 (by decide) w_44 rfl hv hdg kk
theorem p_RW_196 (X : Cx p s m args c cc nL R_RW D tc) (hD : va_D A (wW n ad E)) (hP : va_P D vwCl (wW n ad E) H) (hS : va_S A H0 H locs) (hk : k < n) (hE : E k = .inr (2, fs)) (hn : narrow (.int) v = v) (hfit : fits (.int) v = true) (hl : 3 < fs.length) (hdg : decode cc pc = .ok (.putfield 196, 3))
    (kk : ∀ (H1 : Heap) (locs1 : List Loc), va_D A (wW n ad (va_up E k (.inr (2, fs.set 3 v)))) → va_P D vwCl (wW n ad (va_up E k (.inr (2, fs.set 3 v)))) H1 → va_S A H0 H1 locs1 → W p l e R s m args below meth c H1 locs1 cells slots Q (F0 m (pc + 3) ls rest)) : W p l e R s m args below meth c H locs cells slots Q (F0 m pc ls (v :: .ref (ad k) :: rest)) :=
  q_putN (T := T_PG) ty_PG X hD hP hS hk hE rfl in_PG tok_PG nm_PG 3 (by decide) w_44 rfl rfl (by decide +kernel) hn hfit hl hdg kk
theorem g_CK_9 (X : Cx p s m args c cc nL R_CK D tc) (hP : va_P D vwCl (wW n ad E) H) (hk : k < n) (hE : E k = .inr (0, fs)) (hv : fs[0]? = some v) (hdg : decode cc pc = .ok (.getfield 9, 3)) (kk : W p l e R s m args below meth c H locs cells slots Q (F0 m (pc + 3) ls (v :: rest))) : W p l e R s m args below meth c H locs cells slots Q (F0 m pc ls (.ref (ad k) :: rest)) :=
  q_get (T := T_CK) X hP hk hE rfl in_CK 0 (by decide) w_61 rfl hv hdg kk
theorem p_CK_9 (X : Cx p s m args c cc nL R_CK D tc) (hin : meth.name = "<init>") (hD : va_D A (wW n ad E)) (hP : va_P D vwCl (wW n ad E) H) (hS : va_S A H0 H locs) (hk : k < n) (hE : E k = .inr (0, fs)) (hn : narrow (.array .int) v = v) (hfit : fits (.array .int) v = true) (hl : 0 < fs.length) (hdg : decode cc pc = .ok (.putfield 9, 3))
    (kk : ∀ (H1 : Heap) (locs1 : List Loc), va_D A (wW n ad (va_up E k (.inr (0, fs.set 0 v)))) → va_P D vwCl (wW n ad (va_up E k (.inr (0, fs.set 0 v)))) H1 → va_S A H0 H1 locs1 → W p l e R s m args below meth c H1 locs1 cells slots Q (F0 m (pc + 3) ls rest)) : W p l e R s m args below meth c H locs cells slots Q (F0 m pc ls (v :: .ref (ad k) :: rest)) :=
  q_putF (T := T_CK) ty_CK X hD hP hS hk hE rfl in_CK tok_CK nm_CK 0 (by decide) w_61 rfl rfl hin rfl (by decide +kernel) hn hfit hl hdg kk
theorem g_TR_22 (X : Cx p s m args c cc nL R_TR D tc) (hP : va_P D vwCl (wW n ad E) H) (hk : k < n) (hE : E k = .inr (0, fs)) (hv : fs[0]? = some v) (hdg : decode cc pc = .ok (.getfield 22, 3)) (kk : W p l e R s m args below meth c H locs cells slots Q (F0 m (pc + 3) ls (v :: rest))) : W p l e R s m args below meth c H locs cells slots Q (F0 m pc ls (.ref (ad k) :: rest)) :=
  q_getN (T := T_CK) X hP hk hE rfl in_CK 0 (by decide) w_62 rfl hv hdg kk
theorem g_WK_12 (X : Cx p s m args c cc nL R_WK D tc) (hP : va_P D vwCl (wW n ad E) H) (hk : k < n) (hE : E k = .inr (5, fs)) (hv : fs[0]? = some v) (hdg : decode cc pc = .ok (.getfield 12, 3)) (kk : W p l e R s m args below meth c H locs cells slots Q (F0 m (pc + 3) ls (v :: rest))) : W p l e R s m args below meth c H locs cells slots Q (F0 m pc ls (.ref (ad k) :: rest)) :=
  q_get (T := T_WK) X hP hk hE rfl in_WK 0 (by decide) w_64 rfl hv hdg kk
theorem p_WK_12 (X : Cx p s m args c cc nL R_WK D tc) (hin : meth.name = "<init>") (hD : va_D A (wW n ad E)) (hP : va_P D vwCl (wW n ad E) H) (hS : va_S A H0 H locs) (hk : k < n) (hE : E k = .inr (5, fs)) (hn : narrow (.object "RaceWatch$Clock") v = v) (hfit : fits (.object "RaceWatch$Clock") v = true) (hl : 0 < fs.length) (hdg : decode cc pc = .ok (.putfield 12, 3))
    (kk : ∀ (H1 : Heap) (locs1 : List Loc), va_D A (wW n ad (va_up E k (.inr (5, fs.set 0 v)))) → va_P D vwCl (wW n ad (va_up E k (.inr (5, fs.set 0 v)))) H1 → va_S A H0 H1 locs1 → W p l e R s m args below meth c H1 locs1 cells slots Q (F0 m (pc + 3) ls rest)) : W p l e R s m args below meth c H locs cells slots Q (F0 m pc ls (v :: .ref (ad k) :: rest)) :=
  q_putF (T := T_WK) ty_WK X hD hP hS hk hE rfl in_WK tok_WK nm_WK 0 (by decide) w_64 rfl rfl hin rfl (by decide +kernel) hn hfit hl hdg kk
theorem g_RW_214 (X : Cx p s m args c cc nL R_RW D tc) (hP : va_P D vwCl (wW n ad E) H) (hk : k < n) (hE : E k = .inr (5, fs)) (hv : fs[0]? = some v) (hdg : decode cc pc = .ok (.getfield 214, 3)) (kk : W p l e R s m args below meth c H locs cells slots Q (F0 m (pc + 3) ls (v :: rest))) : W p l e R s m args below meth c H locs cells slots Q (F0 m pc ls (.ref (ad k) :: rest)) :=
  q_getN (T := T_WK) X hP hk hE rfl in_WK 0 (by decide) w_65 rfl hv hdg kk
theorem g_WK_18 (X : Cx p s m args c cc nL R_WK D tc) (hP : va_P D vwCl (wW n ad E) H) (hk : k < n) (hE : E k = .inr (5, fs)) (hv : fs[1]? = some v) (hdg : decode cc pc = .ok (.getfield 18, 3)) (kk : W p l e R s m args below meth c H locs cells slots Q (F0 m (pc + 3) ls (v :: rest))) : W p l e R s m args below meth c H locs cells slots Q (F0 m pc ls (.ref (ad k) :: rest)) :=
  q_get (T := T_WK) X hP hk hE rfl in_WK 1 (by decide) w_66 rfl hv hdg kk
theorem p_WK_18 (X : Cx p s m args c cc nL R_WK D tc) (hD : va_D A (wW n ad E)) (hP : va_P D vwCl (wW n ad E) H) (hS : va_S A H0 H locs) (hk : k < n) (hE : E k = .inr (5, fs)) (hn : narrow (.int) v = v) (hfit : fits (.int) v = true) (hl : 1 < fs.length) (hdg : decode cc pc = .ok (.putfield 18, 3))
    (kk : ∀ (H1 : Heap) (locs1 : List Loc), va_D A (wW n ad (va_up E k (.inr (5, fs.set 1 v)))) → va_P D vwCl (wW n ad (va_up E k (.inr (5, fs.set 1 v)))) H1 → va_S A H0 H1 locs1 → W p l e R s m args below meth c H1 locs1 cells slots Q (F0 m (pc + 3) ls rest)) : W p l e R s m args below meth c H locs cells slots Q (F0 m pc ls (v :: .ref (ad k) :: rest)) :=
  q_put (T := T_WK) ty_WK X hD hP hS hk hE rfl in_WK tok_WK nm_WK 1 (by decide) w_66 rfl rfl (by decide +kernel) hn hfit hl hdg kk
theorem g_RW_94 (X : Cx p s m args c cc nL R_RW D tc) (hP : va_P D vwCl (wW n ad E) H) (hk : k < n) (hE : E k = .inr (5, fs)) (hv : fs[1]? = some v) (hdg : decode cc pc = .ok (.getfield 94, 3)) (kk : W p l e R s m args below meth c H locs cells slots Q (F0 m (pc + 3) ls (v :: rest))) : W p l e R s m args below meth c H locs cells slots Q (F0 m pc ls (.ref (ad k) :: rest)) :=
  q_getN (T := T_WK) X hP hk hE rfl in_WK 1 (by decide) w_67 rfl hv hdg kk
theorem p_RW_94 (X : Cx p s m args c cc nL R_RW D tc) (hD : va_D A (wW n ad E)) (hP : va_P D vwCl (wW n ad E) H) (hS : va_S A H0 H locs) (hk : k < n) (hE : E k = .inr (5, fs)) (hn : narrow (.int) v = v) (hfit : fits (.int) v = true) (hl : 1 < fs.length) (hdg : decode cc pc = .ok (.putfield 94, 3))
    (kk : ∀ (H1 : Heap) (locs1 : List Loc), va_D A (wW n ad (va_up E k (.inr (5, fs.set 1 v)))) → va_P D vwCl (wW n ad (va_up E k (.inr (5, fs.set 1 v)))) H1 → va_S A H0 H1 locs1 → W p l e R s m args below meth c H1 locs1 cells slots Q (F0 m (pc + 3) ls rest)) : W p l e R s m args below meth c H locs cells slots Q (F0 m pc ls (v :: .ref (ad k) :: rest)) :=
  q_putN (T := T_WK) ty_WK X hD hP hS hk hE rfl in_WK tok_WK nm_WK 1 (by decide) w_67 rfl rfl (by decide +kernel) hn hfit hl hdg kk
theorem g_WK_22 (X : Cx p s m args c cc nL R_WK D tc) (hP : va_P D vwCl (wW n ad E) H) (hk : k < n) (hE : E k = .inr (5, fs)) (hv : fs[2]? = some v) (hdg : decode cc pc = .ok (.getfield 22, 3)) (kk : W p l e R s m args below meth c H locs cells slots Q (F0 m (pc + 3) ls (v :: rest))) : W p l e R s m args below meth c H locs cells slots Q (F0 m pc ls (.ref (ad k) :: rest)) :=
  q_get (T := T_WK) X hP hk hE rfl in_WK 2 (by decide) w_68 rfl hv hdg kk
theorem p_WK_22 (X : Cx p s m args c cc nL R_WK D tc) (hD : va_D A (wW n ad E)) (hP : va_P D vwCl (wW n ad E) H) (hS : va_S A H0 H locs) (hk : k < n) (hE : E k = .inr (5, fs)) (hn : narrow (.int) v = v) (hfit : fits (.int) v = true) (hl : 2 < fs.length) (hdg : decode cc pc = .ok (.putfield 22, 3))
    (kk : ∀ (H1 : Heap) (locs1 : List Loc), va_D A (wW n ad (va_up E k (.inr (5, fs.set 2 v)))) → va_P D vwCl (wW n ad (va_up E k (.inr (5, fs.set 2 v)))) H1 → va_S A H0 H1 locs1 → W p l e R s m args below meth c H1 locs1 cells slots Q (F0 m (pc + 3) ls rest)) : W p l e R s m args below meth c H locs cells slots Q (F0 m pc ls (v :: .ref (ad k) :: rest)) :=
  q_put (T := T_WK) ty_WK X hD hP hS hk hE rfl in_WK tok_WK nm_WK 2 (by decide) w_68 rfl rfl (by decide +kernel) hn hfit hl hdg kk
theorem g_RW_109 (X : Cx p s m args c cc nL R_RW D tc) (hP : va_P D vwCl (wW n ad E) H) (hk : k < n) (hE : E k = .inr (5, fs)) (hv : fs[2]? = some v) (hdg : decode cc pc = .ok (.getfield 109, 3)) (kk : W p l e R s m args below meth c H locs cells slots Q (F0 m (pc + 3) ls (v :: rest))) : W p l e R s m args below meth c H locs cells slots Q (F0 m pc ls (.ref (ad k) :: rest)) :=
  q_getN (T := T_WK) X hP hk hE rfl in_WK 2 (by decide) w_69 rfl hv hdg kk
theorem p_RW_109 (X : Cx p s m args c cc nL R_RW D tc) (hD : va_D A (wW n ad E)) (hP : va_P D vwCl (wW n ad E) H) (hS : va_S A H0 H locs) (hk : k < n) (hE : E k = .inr (5, fs)) (hn : narrow (.int) v = v) (hfit : fits (.int) v = true) (hl : 2 < fs.length) (hdg : decode cc pc = .ok (.putfield 109, 3))
    (kk : ∀ (H1 : Heap) (locs1 : List Loc), va_D A (wW n ad (va_up E k (.inr (5, fs.set 2 v)))) → va_P D vwCl (wW n ad (va_up E k (.inr (5, fs.set 2 v)))) H1 → va_S A H0 H1 locs1 → W p l e R s m args below meth c H1 locs1 cells slots Q (F0 m (pc + 3) ls rest)) : W p l e R s m args below meth c H locs cells slots Q (F0 m pc ls (v :: .ref (ad k) :: rest)) :=
  q_putN (T := T_WK) ty_WK X hD hP hS hk hE rfl in_WK tok_WK nm_WK 2 (by decide) w_69 rfl rfl (by decide +kernel) hn hfit hl hdg kk
theorem g_WK_25 (X : Cx p s m args c cc nL R_WK D tc) (hP : va_P D vwCl (wW n ad E) H) (hk : k < n) (hE : E k = .inr (5, fs)) (hv : fs[3]? = some v) (hdg : decode cc pc = .ok (.getfield 25, 3)) (kk : W p l e R s m args below meth c H locs cells slots Q (F0 m (pc + 3) ls (v :: rest))) : W p l e R s m args below meth c H locs cells slots Q (F0 m pc ls (.ref (ad k) :: rest)) :=
  q_get (T := T_WK) X hP hk hE rfl in_WK 3 (by decide) w_70 rfl hv hdg kk
theorem p_WK_25 (X : Cx p s m args c cc nL R_WK D tc) (hD : va_D A (wW n ad E)) (hP : va_P D vwCl (wW n ad E) H) (hS : va_S A H0 H locs) (hk : k < n) (hE : E k = .inr (5, fs)) (hn : narrow (.long) v = v) (hfit : fits (.long) v = true) (hl : 3 < fs.length) (hdg : decode cc pc = .ok (.putfield 25, 3))
    (kk : ∀ (H1 : Heap) (locs1 : List Loc), va_D A (wW n ad (va_up E k (.inr (5, fs.set 3 v)))) → va_P D vwCl (wW n ad (va_up E k (.inr (5, fs.set 3 v)))) H1 → va_S A H0 H1 locs1 → W p l e R s m args below meth c H1 locs1 cells slots Q (F0 m (pc + 3) ls rest)) : W p l e R s m args below meth c H locs cells slots Q (F0 m pc ls (v :: .ref (ad k) :: rest)) :=
  q_put (T := T_WK) ty_WK X hD hP hS hk hE rfl in_WK tok_WK nm_WK 3 (by decide) w_70 rfl rfl (by decide +kernel) hn hfit hl hdg kk
theorem g_RW_142 (X : Cx p s m args c cc nL R_RW D tc) (hP : va_P D vwCl (wW n ad E) H) (hk : k < n) (hE : E k = .inr (5, fs)) (hv : fs[3]? = some v) (hdg : decode cc pc = .ok (.getfield 142, 3)) (kk : W p l e R s m args below meth c H locs cells slots Q (F0 m (pc + 3) ls (v :: rest))) : W p l e R s m args below meth c H locs cells slots Q (F0 m pc ls (.ref (ad k) :: rest)) :=
  q_getN (T := T_WK) X hP hk hE rfl in_WK 3 (by decide) w_71 rfl hv hdg kk
theorem p_RW_142 (X : Cx p s m args c cc nL R_RW D tc) (hD : va_D A (wW n ad E)) (hP : va_P D vwCl (wW n ad E) H) (hS : va_S A H0 H locs) (hk : k < n) (hE : E k = .inr (5, fs)) (hn : narrow (.long) v = v) (hfit : fits (.long) v = true) (hl : 3 < fs.length) (hdg : decode cc pc = .ok (.putfield 142, 3))
    (kk : ∀ (H1 : Heap) (locs1 : List Loc), va_D A (wW n ad (va_up E k (.inr (5, fs.set 3 v)))) → va_P D vwCl (wW n ad (va_up E k (.inr (5, fs.set 3 v)))) H1 → va_S A H0 H1 locs1 → W p l e R s m args below meth c H1 locs1 cells slots Q (F0 m (pc + 3) ls rest)) : W p l e R s m args below meth c H locs cells slots Q (F0 m pc ls (v :: .ref (ad k) :: rest)) :=
  q_putN (T := T_WK) ty_WK X hD hP hS hk hE rfl in_WK tok_WK nm_WK 3 (by decide) w_71 rfl rfl (by decide +kernel) hn hfit hl hdg kk
theorem g_LK_12 (X : Cx p s m args c cc nL R_LK D tc) (hP : va_P D vwCl (wW n ad E) H) (hk : k < n) (hE : E k = .inr (1, fs)) (hv : fs[0]? = some v) (hdg : decode cc pc = .ok (.getfield 12, 3)) (kk : W p l e R s m args below meth c H locs cells slots Q (F0 m (pc + 3) ls (v :: rest))) : W p l e R s m args below meth c H locs cells slots Q (F0 m pc ls (.ref (ad k) :: rest)) :=
  q_get (T := T_LK) X hP hk hE rfl in_LK 0 (by decide) w_85 rfl hv hdg kk
theorem p_LK_12 (X : Cx p s m args c cc nL R_LK D tc) (hin : meth.name = "<init>") (hD : va_D A (wW n ad E)) (hP : va_P D vwCl (wW n ad E) H) (hS : va_S A H0 H locs) (hk : k < n) (hE : E k = .inr (1, fs)) (hn : narrow (.object "RaceWatch$Clock") v = v) (hfit : fits (.object "RaceWatch$Clock") v = true) (hl : 0 < fs.length) (hdg : decode cc pc = .ok (.putfield 12, 3))
    (kk : ∀ (H1 : Heap) (locs1 : List Loc), va_D A (wW n ad (va_up E k (.inr (1, fs.set 0 v)))) → va_P D vwCl (wW n ad (va_up E k (.inr (1, fs.set 0 v)))) H1 → va_S A H0 H1 locs1 → W p l e R s m args below meth c H1 locs1 cells slots Q (F0 m (pc + 3) ls rest)) : W p l e R s m args below meth c H locs cells slots Q (F0 m pc ls (v :: .ref (ad k) :: rest)) :=
  q_putF (T := T_LK) ty_LK X hD hP hS hk hE rfl in_LK tok_LK nm_LK 0 (by decide) w_85 rfl rfl hin rfl (by decide +kernel) hn hfit hl hdg kk
theorem g_LK_18 (X : Cx p s m args c cc nL R_LK D tc) (hP : va_P D vwCl (wW n ad E) H) (hk : k < n) (hE : E k = .inr (1, fs)) (hv : fs[1]? = some v) (hdg : decode cc pc = .ok (.getfield 18, 3)) (kk : W p l e R s m args below meth c H locs cells slots Q (F0 m (pc + 3) ls (v :: rest))) : W p l e R s m args below meth c H locs cells slots Q (F0 m pc ls (.ref (ad k) :: rest)) :=
  q_get (T := T_LK) X hP hk hE rfl in_LK 1 (by decide) w_86 rfl hv hdg kk
theorem p_LK_18 (X : Cx p s m args c cc nL R_LK D tc) (hD : va_D A (wW n ad E)) (hP : va_P D vwCl (wW n ad E) H) (hS : va_S A H0 H locs) (hk : k < n) (hE : E k = .inr (1, fs)) (hn : narrow (.int) v = v) (hfit : fits (.int) v = true) (hl : 1 < fs.length) (hdg : decode cc pc = .ok (.putfield 18, 3))
    (kk : ∀ (H1 : Heap) (locs1 : List Loc), va_D A (wW n ad (va_up E k (.inr (1, fs.set 1 v)))) → va_P D vwCl (wW n ad (va_up E k (.inr (1, fs.set 1 v)))) H1 → va_S A H0 H1 locs1 → W p l e R s m args below meth c H1 locs1 cells slots Q (F0 m (pc + 3) ls rest)) : W p l e R s m args below meth c H locs cells slots Q (F0 m pc ls (v :: .ref (ad k) :: rest)) :=
  q_put (T := T_LK) ty_LK X hD hP hS hk hE rfl in_LK tok_LK nm_LK 1 (by decide) w_86 rfl rfl (by decide +kernel) hn hfit hl hdg kk
theorem g_RW_149 (X : Cx p s m args c cc nL R_RW D tc) (hP : va_P D vwCl (wW n ad E) H) (hk : k < n) (hE : E k = .inr (1, fs)) (hv : fs[1]? = some v) (hdg : decode cc pc = .ok (.getfield 149, 3)) (kk : W p l e R s m args below meth c H locs cells slots Q (F0 m (pc + 3) ls (v :: rest))) : W p l e R s m args below meth c H locs cells slots Q (F0 m pc ls (.ref (ad k) :: rest)) :=
  q_getN (T := T_LK) X hP hk hE rfl in_LK 1 (by decide) w_87 rfl hv hdg kk
theorem p_RW_149 (X : Cx p s m args c cc nL R_RW D tc) (hD : va_D A (wW n ad E)) (hP : va_P D vwCl (wW n ad E) H) (hS : va_S A H0 H locs) (hk : k < n) (hE : E k = .inr (1, fs)) (hn : narrow (.int) v = v) (hfit : fits (.int) v = true) (hl : 1 < fs.length) (hdg : decode cc pc = .ok (.putfield 149, 3))
    (kk : ∀ (H1 : Heap) (locs1 : List Loc), va_D A (wW n ad (va_up E k (.inr (1, fs.set 1 v)))) → va_P D vwCl (wW n ad (va_up E k (.inr (1, fs.set 1 v)))) H1 → va_S A H0 H1 locs1 → W p l e R s m args below meth c H1 locs1 cells slots Q (F0 m (pc + 3) ls rest)) : W p l e R s m args below meth c H locs cells slots Q (F0 m pc ls (v :: .ref (ad k) :: rest)) :=
  q_putN (T := T_LK) ty_LK X hD hP hS hk hE rfl in_LK tok_LK nm_LK 1 (by decide) w_87 rfl rfl (by decide +kernel) hn hfit hl hdg kk
theorem g_LK_22 (X : Cx p s m args c cc nL R_LK D tc) (hP : va_P D vwCl (wW n ad E) H) (hk : k < n) (hE : E k = .inr (1, fs)) (hv : fs[2]? = some v) (hdg : decode cc pc = .ok (.getfield 22, 3)) (kk : W p l e R s m args below meth c H locs cells slots Q (F0 m (pc + 3) ls (v :: rest))) : W p l e R s m args below meth c H locs cells slots Q (F0 m pc ls (.ref (ad k) :: rest)) :=
  q_get (T := T_LK) X hP hk hE rfl in_LK 2 (by decide) w_88 rfl hv hdg kk
theorem p_LK_22 (X : Cx p s m args c cc nL R_LK D tc) (hD : va_D A (wW n ad E)) (hP : va_P D vwCl (wW n ad E) H) (hS : va_S A H0 H locs) (hk : k < n) (hE : E k = .inr (1, fs)) (hn : narrow (.int) v = v) (hfit : fits (.int) v = true) (hl : 2 < fs.length) (hdg : decode cc pc = .ok (.putfield 22, 3))
    (kk : ∀ (H1 : Heap) (locs1 : List Loc), va_D A (wW n ad (va_up E k (.inr (1, fs.set 2 v)))) → va_P D vwCl (wW n ad (va_up E k (.inr (1, fs.set 2 v)))) H1 → va_S A H0 H1 locs1 → W p l e R s m args below meth c H1 locs1 cells slots Q (F0 m (pc + 3) ls rest)) : W p l e R s m args below meth c H locs cells slots Q (F0 m pc ls (v :: .ref (ad k) :: rest)) :=
  q_put (T := T_LK) ty_LK X hD hP hS hk hE rfl in_LK tok_LK nm_LK 2 (by decide) w_88 rfl rfl (by decide +kernel) hn hfit hl hdg kk
theorem g_RW_146 (X : Cx p s m args c cc nL R_RW D tc) (hP : va_P D vwCl (wW n ad E) H) (hk : k < n) (hE : E k = .inr (1, fs)) (hv : fs[2]? = some v) (hdg : decode cc pc = .ok (.getfield 146, 3)) (kk : W p l e R s m args below meth c H locs cells slots Q (F0 m (pc + 3) ls (v :: rest))) : W p l e R s m args below meth c H locs cells slots Q (F0 m pc ls (.ref (ad k) :: rest)) :=
  q_getN (T := T_LK) X hP hk hE rfl in_LK 2 (by decide) w_89 rfl hv hdg kk
theorem p_RW_146 (X : Cx p s m args c cc nL R_RW D tc) (hD : va_D A (wW n ad E)) (hP : va_P D vwCl (wW n ad E) H) (hS : va_S A H0 H locs) (hk : k < n) (hE : E k = .inr (1, fs)) (hn : narrow (.int) v = v) (hfit : fits (.int) v = true) (hl : 2 < fs.length) (hdg : decode cc pc = .ok (.putfield 146, 3))
    (kk : ∀ (H1 : Heap) (locs1 : List Loc), va_D A (wW n ad (va_up E k (.inr (1, fs.set 2 v)))) → va_P D vwCl (wW n ad (va_up E k (.inr (1, fs.set 2 v)))) H1 → va_S A H0 H1 locs1 → W p l e R s m args below meth c H1 locs1 cells slots Q (F0 m (pc + 3) ls rest)) : W p l e R s m args below meth c H locs cells slots Q (F0 m pc ls (v :: .ref (ad k) :: rest)) :=
  q_putN (T := T_LK) ty_LK X hD hP hS hk hE rfl in_LK tok_LK nm_LK 2 (by decide) w_89 rfl rfl (by decide +kernel) hn hfit hl hdg kk
theorem g_TR_9 (X : Cx p s m args c cc nL R_TR D tc) (hP : va_P D vwCl (wW n ad E) H) (hk : k < n) (hE : E k = .inr (4, fs)) (hv : fs[0]? = some v) (hdg : decode cc pc = .ok (.getfield 9, 3)) (kk : W p l e R s m args below meth c H locs cells slots Q (F0 m (pc + 3) ls (v :: rest))) : W p l e R s m args below meth c H locs cells slots Q (F0 m pc ls (.ref (ad k) :: rest)) :=
  q_get (T := T_TR) X hP hk hE rfl in_TR 0 (by decide) w_102 rfl hv hdg kk
theorem p_TR_9 (X : Cx p s m args c cc nL R_TR D tc) (hin : meth.name = "<init>") (hD : va_D A (wW n ad E)) (hP : va_P D vwCl (wW n ad E) H) (hS : va_S A H0 H locs) (hk : k < n) (hE : E k = .inr (4, fs)) (hn : narrow (.array .int) v = v) (hfit : fits (.array .int) v = true) (hl : 0 < fs.length) (hdg : decode cc pc = .ok (.putfield 9, 3))
    (kk : ∀ (H1 : Heap) (locs1 : List Loc), va_D A (wW n ad (va_up E k (.inr (4, fs.set 0 v)))) → va_P D vwCl (wW n ad (va_up E k (.inr (4, fs.set 0 v)))) H1 → va_S A H0 H1 locs1 → W p l e R s m args below meth c H1 locs1 cells slots Q (F0 m (pc + 3) ls rest)) : W p l e R s m args below meth c H locs cells slots Q (F0 m pc ls (v :: .ref (ad k) :: rest)) :=
  q_putF (T := T_TR) ty_TR X hD hP hS hk hE rfl in_TR tok_TR nm_TR 0 (by decide) w_102 rfl rfl hin rfl (by decide +kernel) hn hfit hl hdg kk
theorem g_RW_158 (X : Cx p s m args c cc nL R_RW D tc) (hP : va_P D vwCl (wW n ad E) H) (hk : k < n) (hE : E k = .inr (4, fs)) (hv : fs[0]? = some v) (hdg : decode cc pc = .ok (.getfield 158, 3)) (kk : W p l e R s m args below meth c H locs cells slots Q (F0 m (pc + 3) ls (v :: rest))) : W p l e R s m args below meth c H locs cells slots Q (F0 m pc ls (.ref (ad k) :: rest)) :=
  q_getN (T := T_TR) X hP hk hE rfl in_TR 0 (by decide) w_103 rfl hv hdg kk
theorem g_TR_15 (X : Cx p s m args c cc nL R_TR D tc) (hP : va_P D vwCl (wW n ad E) H) (hk : k < n) (hE : E k = .inr (4, fs)) (hv : fs[1]? = some v) (hdg : decode cc pc = .ok (.getfield 15, 3)) (kk : W p l e R s m args below meth c H locs cells slots Q (F0 m (pc + 3) ls (v :: rest))) : W p l e R s m args below meth c H locs cells slots Q (F0 m pc ls (.ref (ad k) :: rest)) :=
  q_get (T := T_TR) X hP hk hE rfl in_TR 1 (by decide) w_104 rfl hv hdg kk
theorem p_TR_15 (X : Cx p s m args c cc nL R_TR D tc) (hin : meth.name = "<init>") (hD : va_D A (wW n ad E)) (hP : va_P D vwCl (wW n ad E) H) (hS : va_S A H0 H locs) (hk : k < n) (hE : E k = .inr (4, fs)) (hn : narrow (.array .int) v = v) (hfit : fits (.array .int) v = true) (hl : 1 < fs.length) (hdg : decode cc pc = .ok (.putfield 15, 3))
    (kk : ∀ (H1 : Heap) (locs1 : List Loc), va_D A (wW n ad (va_up E k (.inr (4, fs.set 1 v)))) → va_P D vwCl (wW n ad (va_up E k (.inr (4, fs.set 1 v)))) H1 → va_S A H0 H1 locs1 → W p l e R s m args below meth c H1 locs1 cells slots Q (F0 m (pc + 3) ls rest)) : W p l e R s m args below meth c H locs cells slots Q (F0 m pc ls (v :: .ref (ad k) :: rest)) :=
  q_putF (T := T_TR) ty_TR X hD hP hS hk hE rfl in_TR tok_TR nm_TR 1 (by decide) w_104 rfl rfl hin rfl (by decide +kernel) hn hfit hl hdg kk
theorem g_TR_18 (X : Cx p s m args c cc nL R_TR D tc) (hP : va_P D vwCl (wW n ad E) H) (hk : k < n) (hE : E k = .inr (4, fs)) (hv : fs[2]? = some v) (hdg : decode cc pc = .ok (.getfield 18, 3)) (kk : W p l e R s m args below meth c H locs cells slots Q (F0 m (pc + 3) ls (v :: rest))) : W p l e R s m args below meth c H locs cells slots Q (F0 m pc ls (.ref (ad k) :: rest)) :=
  q_get (T := T_TR) X hP hk hE rfl in_TR 2 (by decide) w_105 rfl hv hdg kk
theorem p_TR_18 (X : Cx p s m args c cc nL R_TR D tc) (hD : va_D A (wW n ad E)) (hP : va_P D vwCl (wW n ad E) H) (hS : va_S A H0 H locs) (hk : k < n) (hE : E k = .inr (4, fs)) (hn : narrow (.int) v = v) (hfit : fits (.int) v = true) (hl : 2 < fs.length) (hdg : decode cc pc = .ok (.putfield 18, 3))
    (kk : ∀ (H1 : Heap) (locs1 : List Loc), va_D A (wW n ad (va_up E k (.inr (4, fs.set 2 v)))) → va_P D vwCl (wW n ad (va_up E k (.inr (4, fs.set 2 v)))) H1 → va_S A H0 H1 locs1 → W p l e R s m args below meth c H1 locs1 cells slots Q (F0 m (pc + 3) ls rest)) : W p l e R s m args below meth c H locs cells slots Q (F0 m pc ls (v :: .ref (ad k) :: rest)) :=
  q_put (T := T_TR) ty_TR X hD hP hS hk hE rfl in_TR tok_TR nm_TR 2 (by decide) w_105 rfl rfl (by decide +kernel) hn hfit hl hdg kk
theorem g_RW_152 (X : Cx p s m args c cc nL R_RW D tc) (hP : va_P D vwCl (wW n ad E) H) (hk : k < n) (hE : E k = .inr (4, fs)) (hv : fs[2]? = some v) (hdg : decode cc pc = .ok (.getfield 152, 3)) (kk : W p l e R s m args below meth c H locs cells slots Q (F0 m (pc + 3) ls (v :: rest))) : W p l e R s m args below meth c H locs cells slots Q (F0 m pc ls (.ref (ad k) :: rest)) :=
  q_getN (T := T_TR) X hP hk hE rfl in_TR 2 (by decide) w_106 rfl hv hdg kk
theorem p_RW_152 (X : Cx p s m args c cc nL R_RW D tc) (hD : va_D A (wW n ad E)) (hP : va_P D vwCl (wW n ad E) H) (hS : va_S A H0 H locs) (hk : k < n) (hE : E k = .inr (4, fs)) (hn : narrow (.int) v = v) (hfit : fits (.int) v = true) (hl : 2 < fs.length) (hdg : decode cc pc = .ok (.putfield 152, 3))
    (kk : ∀ (H1 : Heap) (locs1 : List Loc), va_D A (wW n ad (va_up E k (.inr (4, fs.set 2 v)))) → va_P D vwCl (wW n ad (va_up E k (.inr (4, fs.set 2 v)))) H1 → va_S A H0 H1 locs1 → W p l e R s m args below meth c H1 locs1 cells slots Q (F0 m (pc + 3) ls rest)) : W p l e R s m args below meth c H locs cells slots Q (F0 m pc ls (v :: .ref (ad k) :: rest)) :=
  q_putN (T := T_TR) ty_TR X hD hP hS hk hE rfl in_TR tok_TR nm_TR 2 (by decide) w_106 rfl rfl (by decide +kernel) hn hfit hl hdg kk
theorem g_BK_9 (X : Cx p s m args c cc nL R_BK D tc) (hP : va_P D vwCl (wW n ad E) H) (hk : k < n) (hE : E k = .inr (3, fs)) (hv : fs[0]? = some v) (hdg : decode cc pc = .ok (.getfield 9, 3)) (kk : W p l e R s m args below meth c H locs cells slots Q (F0 m (pc + 3) ls (v :: rest))) : W p l e R s m args below meth c H locs cells slots Q (F0 m pc ls (.ref (ad k) :: rest)) :=
  q_get (T := T_BK) X hP hk hE rfl in_BK 0 (by decide) w_123 rfl hv hdg kk
theorem p_BK_9 (X : Cx p s m args c cc nL R_BK D tc) (hin : meth.name = "<init>") (hD : va_D A (wW n ad E)) (hP : va_P D vwCl (wW n ad E) H) (hS : va_S A H0 H locs) (hk : k < n) (hE : E k = .inr (3, fs)) (hn : narrow (.array .int) v = v) (hfit : fits (.array .int) v = true) (hl : 0 < fs.length) (hdg : decode cc pc = .ok (.putfield 9, 3))
    (kk : ∀ (H1 : Heap) (locs1 : List Loc), va_D A (wW n ad (va_up E k (.inr (3, fs.set 0 v)))) → va_P D vwCl (wW n ad (va_up E k (.inr (3, fs.set 0 v)))) H1 → va_S A H0 H1 locs1 → W p l e R s m args below meth c H1 locs1 cells slots Q (F0 m (pc + 3) ls rest)) : W p l e R s m args below meth c H locs cells slots Q (F0 m pc ls (v :: .ref (ad k) :: rest)) :=
  q_putF (T := T_BK) ty_BK X hD hP hS hk hE rfl in_BK tok_BK nm_BK 0 (by decide) w_123 rfl rfl hin rfl (by decide +kernel) hn hfit hl hdg kk
theorem g_RW_171 (X : Cx p s m args c cc nL R_RW D tc) (hP : va_P D vwCl (wW n ad E) H) (hk : k < n) (hE : E k = .inr (3, fs)) (hv : fs[0]? = some v) (hdg : decode cc pc = .ok (.getfield 171, 3)) (kk : W p l e R s m args below meth c H locs cells slots Q (F0 m (pc + 3) ls (v :: rest))) : W p l e R s m args below meth c H locs cells slots Q (F0 m pc ls (.ref (ad k) :: rest)) :=
  q_getN (T := T_BK) X hP hk hE rfl in_BK 0 (by decide) w_124 rfl hv hdg kk
theorem g_BK_15 (X : Cx p s m args c cc nL R_BK D tc) (hP : va_P D vwCl (wW n ad E) H) (hk : k < n) (hE : E k = .inr (3, fs)) (hv : fs[1]? = some v) (hdg : decode cc pc = .ok (.getfield 15, 3)) (kk : W p l e R s m args below meth c H locs cells slots Q (F0 m (pc + 3) ls (v :: rest))) : W p l e R s m args below meth c H locs cells slots Q (F0 m pc ls (.ref (ad k) :: rest)) :=
  q_get (T := T_BK) X hP hk hE rfl in_BK 1 (by decide) w_125 rfl hv hdg kk
theorem p_BK_15 (X : Cx p s m args c cc nL R_BK D tc) (hin : meth.name = "<init>") (hD : va_D A (wW n ad E)) (hP : va_P D vwCl (wW n ad E) H) (hS : va_S A H0 H locs) (hk : k < n) (hE : E k = .inr (3, fs)) (hn : narrow (.array .int) v = v) (hfit : fits (.array .int) v = true) (hl : 1 < fs.length) (hdg : decode cc pc = .ok (.putfield 15, 3))
    (kk : ∀ (H1 : Heap) (locs1 : List Loc), va_D A (wW n ad (va_up E k (.inr (3, fs.set 1 v)))) → va_P D vwCl (wW n ad (va_up E k (.inr (3, fs.set 1 v)))) H1 → va_S A H0 H1 locs1 → W p l e R s m args below meth c H1 locs1 cells slots Q (F0 m (pc + 3) ls rest)) : W p l e R s m args below meth c H locs cells slots Q (F0 m pc ls (v :: .ref (ad k) :: rest)) :=
  q_putF (T := T_BK) ty_BK X hD hP hS hk hE rfl in_BK tok_BK nm_BK 1 (by decide) w_125 rfl rfl hin rfl (by decide +kernel) hn hfit hl hdg kk
theorem g_RW_174 (X : Cx p s m args c cc nL R_RW D tc) (hP : va_P D vwCl (wW n ad E) H) (hk : k < n) (hE : E k = .inr (3, fs)) (hv : fs[1]? = some v) (hdg : decode cc pc = .ok (.getfield 174, 3)) (kk : W p l e R s m args below meth c H locs cells slots Q (F0 m (pc + 3) ls (v :: rest))) : W p l e R s m args below meth c H locs cells slots Q (F0 m pc ls (.ref (ad k) :: rest)) :=
  q_getN (T := T_BK) X hP hk hE rfl in_BK 1 (by decide) w_126 rfl hv hdg kk
theorem g_BK_18 (X : Cx p s m args c cc nL R_BK D tc) (hP : va_P D vwCl (wW n ad E) H) (hk : k < n) (hE : E k = .inr (3, fs)) (hv : fs[2]? = some v) (hdg : decode cc pc = .ok (.getfield 18, 3)) (kk : W p l e R s m args below meth c H locs cells slots Q (F0 m (pc + 3) ls (v :: rest))) : W p l e R s m args below meth c H locs cells slots Q (F0 m pc ls (.ref (ad k) :: rest)) :=
  q_get (T := T_BK) X hP hk hE rfl in_BK 2 (by decide) w_127 rfl hv hdg kk
theorem p_BK_18 (X : Cx p s m args c cc nL R_BK D tc) (hin : meth.name = "<init>") (hD : va_D A (wW n ad E)) (hP : va_P D vwCl (wW n ad E) H) (hS : va_S A H0 H locs) (hk : k < n) (hE : E k = .inr (3, fs)) (hn : narrow (.array .int) v = v) (hfit : fits (.array .int) v = true) (hl : 2 < fs.length) (hdg : decode cc pc = .ok (.putfield 18, 3))
    (kk : ∀ (H1 : Heap) (locs1 : List Loc), va_D A (wW n ad (va_up E k (.inr (3, fs.set 2 v)))) → va_P D vwCl (wW n ad (va_up E k (.inr (3, fs.set 2 v)))) H1 → va_S A H0 H1 locs1 → W p l e R s m args below meth c H1 locs1 cells slots Q (F0 m (pc + 3) ls rest)) : W p l e R s m args below meth c H locs cells slots Q (F0 m pc ls (v :: .ref (ad k) :: rest)) :=
  q_putF (T := T_BK) ty_BK X hD hP hS hk hE rfl in_BK tok_BK nm_BK 2 (by decide) w_127 rfl rfl hin rfl (by decide +kernel) hn hfit hl hdg kk
theorem g_BK_21 (X : Cx p s m args c cc nL R_BK D tc) (hP : va_P D vwCl (wW n ad E) H) (hk : k < n) (hE : E k = .inr (3, fs)) (hv : fs[3]? = some v) (hdg : decode cc pc = .ok (.getfield 21, 3)) (kk : W p l e R s m args below meth c H locs cells slots Q (F0 m (pc + 3) ls (v :: rest))) : W p l e R s m args below meth c H locs cells slots Q (F0 m pc ls (.ref (ad k) :: rest)) :=
  q_get (T := T_BK) X hP hk hE rfl in_BK 3 (by decide) w_128 rfl hv hdg kk
theorem p_BK_21 (X : Cx p s m args c cc nL R_BK D tc) (hin : meth.name = "<init>") (hD : va_D A (wW n ad E)) (hP : va_P D vwCl (wW n ad E) H) (hS : va_S A H0 H locs) (hk : k < n) (hE : E k = .inr (3, fs)) (hn : narrow (.array .int) v = v) (hfit : fits (.array .int) v = true) (hl : 3 < fs.length) (hdg : decode cc pc = .ok (.putfield 21, 3))
    (kk : ∀ (H1 : Heap) (locs1 : List Loc), va_D A (wW n ad (va_up E k (.inr (3, fs.set 3 v)))) → va_P D vwCl (wW n ad (va_up E k (.inr (3, fs.set 3 v)))) H1 → va_S A H0 H1 locs1 → W p l e R s m args below meth c H1 locs1 cells slots Q (F0 m (pc + 3) ls rest)) : W p l e R s m args below meth c H locs cells slots Q (F0 m pc ls (v :: .ref (ad k) :: rest)) :=
  q_putF (T := T_BK) ty_BK X hD hP hS hk hE rfl in_BK tok_BK nm_BK 3 (by decide) w_128 rfl rfl hin rfl (by decide +kernel) hn hfit hl hdg kk
theorem g_RW_11 (X : Cx p s m args c cc nL R_RW D tc) (hP : va_P D vwCl (wW n ad E) H) (hk : k < n) (hE : E k = .inr (6, fs)) (hv : fs[0]? = some v) (hdg : decode cc pc = .ok (.getfield 11, 3)) (kk : W p l e R s m args below meth c H locs cells slots Q (F0 m (pc + 3) ls (v :: rest))) : W p l e R s m args below meth c H locs cells slots Q (F0 m pc ls (.ref (ad k) :: rest)) :=
  q_get (T := T_RW) X hP hk hE rfl in_RW 0 (by decide) w_133 rfl hv hdg kk
theorem p_RW_11 (X : Cx p s m args c cc nL R_RW D tc) (hin : meth.name = "<init>") (hD : va_D A (wW n ad E)) (hP : va_P D vwCl (wW n ad E) H) (hS : va_S A H0 H locs) (hk : k < n) (hE : E k = .inr (6, fs)) (hn : narrow (.array (.object "RaceWatch$Program")) v = v) (hfit : fits (.array (.object "RaceWatch$Program")) v = true) (hl : 0 < fs.length) (hdg : decode cc pc = .ok (.putfield 11, 3))
    (kk : ∀ (H1 : Heap) (locs1 : List Loc), va_D A (wW n ad (va_up E k (.inr (6, fs.set 0 v)))) → va_P D vwCl (wW n ad (va_up E k (.inr (6, fs.set 0 v)))) H1 → va_S A H0 H1 locs1 → W p l e R s m args below meth c H1 locs1 cells slots Q (F0 m (pc + 3) ls rest)) : W p l e R s m args below meth c H locs cells slots Q (F0 m pc ls (v :: .ref (ad k) :: rest)) :=
  q_putF (T := T_RW) ty_RW X hD hP hS hk hE rfl in_RW tok_RW nm_RW 0 (by decide) w_133 rfl rfl hin rfl (by decide +kernel) hn hfit hl hdg kk
theorem g_RW_17 (X : Cx p s m args c cc nL R_RW D tc) (hP : va_P D vwCl (wW n ad E) H) (hk : k < n) (hE : E k = .inr (6, fs)) (hv : fs[1]? = some v) (hdg : decode cc pc = .ok (.getfield 17, 3)) (kk : W p l e R s m args below meth c H locs cells slots Q (F0 m (pc + 3) ls (v :: rest))) : W p l e R s m args below meth c H locs cells slots Q (F0 m pc ls (.ref (ad k) :: rest)) :=
  q_get (T := T_RW) X hP hk hE rfl in_RW 1 (by decide) w_134 rfl hv hdg kk
theorem p_RW_17 (X : Cx p s m args c cc nL R_RW D tc) (hin : meth.name = "<init>") (hD : va_D A (wW n ad E)) (hP : va_P D vwCl (wW n ad E) H) (hS : va_S A H0 H locs) (hk : k < n) (hE : E k = .inr (6, fs)) (hn : narrow (.array (.object "RaceWatch$Worker")) v = v) (hfit : fits (.array (.object "RaceWatch$Worker")) v = true) (hl : 1 < fs.length) (hdg : decode cc pc = .ok (.putfield 17, 3))
    (kk : ∀ (H1 : Heap) (locs1 : List Loc), va_D A (wW n ad (va_up E k (.inr (6, fs.set 1 v)))) → va_P D vwCl (wW n ad (va_up E k (.inr (6, fs.set 1 v)))) H1 → va_S A H0 H1 locs1 → W p l e R s m args below meth c H1 locs1 cells slots Q (F0 m (pc + 3) ls rest)) : W p l e R s m args below meth c H locs cells slots Q (F0 m pc ls (v :: .ref (ad k) :: rest)) :=
  q_putF (T := T_RW) ty_RW X hD hP hS hk hE rfl in_RW tok_RW nm_RW 1 (by decide) w_134 rfl rfl hin rfl (by decide +kernel) hn hfit hl hdg kk
theorem g_RW_25 (X : Cx p s m args c cc nL R_RW D tc) (hP : va_P D vwCl (wW n ad E) H) (hk : k < n) (hE : E k = .inr (6, fs)) (hv : fs[2]? = some v) (hdg : decode cc pc = .ok (.getfield 25, 3)) (kk : W p l e R s m args below meth c H locs cells slots Q (F0 m (pc + 3) ls (v :: rest))) : W p l e R s m args below meth c H locs cells slots Q (F0 m pc ls (.ref (ad k) :: rest)) :=
  q_get (T := T_RW) X hP hk hE rfl in_RW 2 (by decide) w_135 rfl hv hdg kk
theorem p_RW_25 (X : Cx p s m args c cc nL R_RW D tc) (hin : meth.name = "<init>") (hD : va_D A (wW n ad E)) (hP : va_P D vwCl (wW n ad E) H) (hS : va_S A H0 H locs) (hk : k < n) (hE : E k = .inr (6, fs)) (hn : narrow (.array (.object "RaceWatch$Lock")) v = v) (hfit : fits (.array (.object "RaceWatch$Lock")) v = true) (hl : 2 < fs.length) (hdg : decode cc pc = .ok (.putfield 25, 3))
    (kk : ∀ (H1 : Heap) (locs1 : List Loc), va_D A (wW n ad (va_up E k (.inr (6, fs.set 2 v)))) → va_P D vwCl (wW n ad (va_up E k (.inr (6, fs.set 2 v)))) H1 → va_S A H0 H1 locs1 → W p l e R s m args below meth c H1 locs1 cells slots Q (F0 m (pc + 3) ls rest)) : W p l e R s m args below meth c H locs cells slots Q (F0 m pc ls (v :: .ref (ad k) :: rest)) :=
  q_putF (T := T_RW) ty_RW X hD hP hS hk hE rfl in_RW tok_RW nm_RW 2 (by decide) w_135 rfl rfl hin rfl (by decide +kernel) hn hfit hl hdg kk
theorem g_RW_32 (X : Cx p s m args c cc nL R_RW D tc) (hP : va_P D vwCl (wW n ad E) H) (hk : k < n) (hE : E k = .inr (6, fs)) (hv : fs[3]? = some v) (hdg : decode cc pc = .ok (.getfield 32, 3)) (kk : W p l e R s m args below meth c H locs cells slots Q (F0 m (pc + 3) ls (v :: rest))) : W p l e R s m args below meth c H locs cells slots Q (F0 m pc ls (.ref (ad k) :: rest)) :=
  q_get (T := T_RW) X hP hk hE rfl in_RW 3 (by decide) w_136 rfl hv hdg kk
theorem p_RW_32 (X : Cx p s m args c cc nL R_RW D tc) (hin : meth.name = "<init>") (hD : va_D A (wW n ad E)) (hP : va_P D vwCl (wW n ad E) H) (hS : va_S A H0 H locs) (hk : k < n) (hE : E k = .inr (6, fs)) (hn : narrow (.array (.object "RaceWatch$Clock")) v = v) (hfit : fits (.array (.object "RaceWatch$Clock")) v = true) (hl : 3 < fs.length) (hdg : decode cc pc = .ok (.putfield 32, 3))
    (kk : ∀ (H1 : Heap) (locs1 : List Loc), va_D A (wW n ad (va_up E k (.inr (6, fs.set 3 v)))) → va_P D vwCl (wW n ad (va_up E k (.inr (6, fs.set 3 v)))) H1 → va_S A H0 H1 locs1 → W p l e R s m args below meth c H1 locs1 cells slots Q (F0 m (pc + 3) ls rest)) : W p l e R s m args below meth c H locs cells slots Q (F0 m pc ls (v :: .ref (ad k) :: rest)) :=
  q_putF (T := T_RW) ty_RW X hD hP hS hk hE rfl in_RW tok_RW nm_RW 3 (by decide) w_136 rfl rfl hin rfl (by decide +kernel) hn hfit hl hdg kk
theorem g_RW_40 (X : Cx p s m args c cc nL R_RW D tc) (hP : va_P D vwCl (wW n ad E) H) (hk : k < n) (hE : E k = .inr (6, fs)) (hv : fs[4]? = some v) (hdg : decode cc pc = .ok (.getfield 40, 3)) (kk : W p l e R s m args below meth c H locs cells slots Q (F0 m (pc + 3) ls (v :: rest))) : W p l e R s m args below meth c H locs cells slots Q (F0 m pc ls (.ref (ad k) :: rest)) :=
  q_get (T := T_RW) X hP hk hE rfl in_RW 4 (by decide) w_137 rfl hv hdg kk
theorem p_RW_40 (X : Cx p s m args c cc nL R_RW D tc) (hin : meth.name = "<init>") (hD : va_D A (wW n ad E)) (hP : va_P D vwCl (wW n ad E) H) (hS : va_S A H0 H locs) (hk : k < n) (hE : E k = .inr (6, fs)) (hn : narrow (.object "RaceWatch$Trace") v = v) (hfit : fits (.object "RaceWatch$Trace") v = true) (hl : 4 < fs.length) (hdg : decode cc pc = .ok (.putfield 40, 3))
    (kk : ∀ (H1 : Heap) (locs1 : List Loc), va_D A (wW n ad (va_up E k (.inr (6, fs.set 4 v)))) → va_P D vwCl (wW n ad (va_up E k (.inr (6, fs.set 4 v)))) H1 → va_S A H0 H1 locs1 → W p l e R s m args below meth c H1 locs1 cells slots Q (F0 m (pc + 3) ls rest)) : W p l e R s m args below meth c H locs cells slots Q (F0 m pc ls (v :: .ref (ad k) :: rest)) :=
  q_putF (T := T_RW) ty_RW X hD hP hS hk hE rfl in_RW tok_RW nm_RW 4 (by decide) w_137 rfl rfl hin rfl (by decide +kernel) hn hfit hl hdg kk
theorem g_RW_47 (X : Cx p s m args c cc nL R_RW D tc) (hP : va_P D vwCl (wW n ad E) H) (hk : k < n) (hE : E k = .inr (6, fs)) (hv : fs[5]? = some v) (hdg : decode cc pc = .ok (.getfield 47, 3)) (kk : W p l e R s m args below meth c H locs cells slots Q (F0 m (pc + 3) ls (v :: rest))) : W p l e R s m args below meth c H locs cells slots Q (F0 m pc ls (.ref (ad k) :: rest)) :=
  q_get (T := T_RW) X hP hk hE rfl in_RW 5 (by decide) w_138 rfl hv hdg kk
theorem p_RW_47 (X : Cx p s m args c cc nL R_RW D tc) (hin : meth.name = "<init>") (hD : va_D A (wW n ad E)) (hP : va_P D vwCl (wW n ad E) H) (hS : va_S A H0 H locs) (hk : k < n) (hE : E k = .inr (6, fs)) (hn : narrow (.object "RaceWatch$RaceBook") v = v) (hfit : fits (.object "RaceWatch$RaceBook") v = true) (hl : 5 < fs.length) (hdg : decode cc pc = .ok (.putfield 47, 3))
    (kk : ∀ (H1 : Heap) (locs1 : List Loc), va_D A (wW n ad (va_up E k (.inr (6, fs.set 5 v)))) → va_P D vwCl (wW n ad (va_up E k (.inr (6, fs.set 5 v)))) H1 → va_S A H0 H1 locs1 → W p l e R s m args below meth c H1 locs1 cells slots Q (F0 m (pc + 3) ls rest)) : W p l e R s m args below meth c H locs cells slots Q (F0 m pc ls (v :: .ref (ad k) :: rest)) :=
  q_putF (T := T_RW) ty_RW X hD hP hS hk hE rfl in_RW tok_RW nm_RW 5 (by decide) w_138 rfl rfl hin rfl (by decide +kernel) hn hfit hl hdg kk
theorem g_RW_51 (X : Cx p s m args c cc nL R_RW D tc) (hP : va_P D vwCl (wW n ad E) H) (hk : k < n) (hE : E k = .inr (6, fs)) (hv : fs[6]? = some v) (hdg : decode cc pc = .ok (.getfield 51, 3)) (kk : W p l e R s m args below meth c H locs cells slots Q (F0 m (pc + 3) ls (v :: rest))) : W p l e R s m args below meth c H locs cells slots Q (F0 m pc ls (.ref (ad k) :: rest)) :=
  q_get (T := T_RW) X hP hk hE rfl in_RW 6 (by decide) w_139 rfl hv hdg kk
theorem p_RW_51 (X : Cx p s m args c cc nL R_RW D tc) (hin : meth.name = "<init>") (hD : va_D A (wW n ad E)) (hP : va_P D vwCl (wW n ad E) H) (hS : va_S A H0 H locs) (hk : k < n) (hE : E k = .inr (6, fs)) (hn : narrow (.object "RaceWatch$RaceBook") v = v) (hfit : fits (.object "RaceWatch$RaceBook") v = true) (hl : 6 < fs.length) (hdg : decode cc pc = .ok (.putfield 51, 3))
    (kk : ∀ (H1 : Heap) (locs1 : List Loc), va_D A (wW n ad (va_up E k (.inr (6, fs.set 6 v)))) → va_P D vwCl (wW n ad (va_up E k (.inr (6, fs.set 6 v)))) H1 → va_S A H0 H1 locs1 → W p l e R s m args below meth c H1 locs1 cells slots Q (F0 m (pc + 3) ls rest)) : W p l e R s m args below meth c H locs cells slots Q (F0 m pc ls (v :: .ref (ad k) :: rest)) :=
  q_putF (T := T_RW) ty_RW X hD hP hS hk hE rfl in_RW tok_RW nm_RW 6 (by decide) w_139 rfl rfl hin rfl (by decide +kernel) hn hfit hl hdg kk
theorem g_RW_54 (X : Cx p s m args c cc nL R_RW D tc) (hP : va_P D vwCl (wW n ad E) H) (hk : k < n) (hE : E k = .inr (6, fs)) (hv : fs[7]? = some v) (hdg : decode cc pc = .ok (.getfield 54, 3)) (kk : W p l e R s m args below meth c H locs cells slots Q (F0 m (pc + 3) ls (v :: rest))) : W p l e R s m args below meth c H locs cells slots Q (F0 m pc ls (.ref (ad k) :: rest)) :=
  q_get (T := T_RW) X hP hk hE rfl in_RW 7 (by decide) w_140 rfl hv hdg kk
theorem p_RW_54 (X : Cx p s m args c cc nL R_RW D tc) (hD : va_D A (wW n ad E)) (hP : va_P D vwCl (wW n ad E) H) (hS : va_S A H0 H locs) (hk : k < n) (hE : E k = .inr (6, fs)) (hn : narrow (.boolean) v = v) (hfit : fits (.boolean) v = true) (hl : 7 < fs.length) (hdg : decode cc pc = .ok (.putfield 54, 3))
    (kk : ∀ (H1 : Heap) (locs1 : List Loc), va_D A (wW n ad (va_up E k (.inr (6, fs.set 7 v)))) → va_P D vwCl (wW n ad (va_up E k (.inr (6, fs.set 7 v)))) H1 → va_S A H0 H1 locs1 → W p l e R s m args below meth c H1 locs1 cells slots Q (F0 m (pc + 3) ls rest)) : W p l e R s m args below meth c H locs cells slots Q (F0 m pc ls (v :: .ref (ad k) :: rest)) :=
  q_put (T := T_RW) ty_RW X hD hP hS hk hE rfl in_RW tok_RW nm_RW 7 (by decide) w_140 rfl rfl (by decide +kernel) hn hfit hl hdg kk
theorem g_RW_58 (X : Cx p s m args c cc nL R_RW D tc) (hP : va_P D vwCl (wW n ad E) H) (hk : k < n) (hE : E k = .inr (6, fs)) (hv : fs[8]? = some v) (hdg : decode cc pc = .ok (.getfield 58, 3)) (kk : W p l e R s m args below meth c H locs cells slots Q (F0 m (pc + 3) ls (v :: rest))) : W p l e R s m args below meth c H locs cells slots Q (F0 m pc ls (.ref (ad k) :: rest)) :=
  q_get (T := T_RW) X hP hk hE rfl in_RW 8 (by decide) w_141 rfl hv hdg kk
theorem p_RW_58 (X : Cx p s m args c cc nL R_RW D tc) (hD : va_D A (wW n ad E)) (hP : va_P D vwCl (wW n ad E) H) (hS : va_S A H0 H locs) (hk : k < n) (hE : E k = .inr (6, fs)) (hn : narrow (.boolean) v = v) (hfit : fits (.boolean) v = true) (hl : 8 < fs.length) (hdg : decode cc pc = .ok (.putfield 58, 3))
    (kk : ∀ (H1 : Heap) (locs1 : List Loc), va_D A (wW n ad (va_up E k (.inr (6, fs.set 8 v)))) → va_P D vwCl (wW n ad (va_up E k (.inr (6, fs.set 8 v)))) H1 → va_S A H0 H1 locs1 → W p l e R s m args below meth c H1 locs1 cells slots Q (F0 m (pc + 3) ls rest)) : W p l e R s m args below meth c H locs cells slots Q (F0 m pc ls (v :: .ref (ad k) :: rest)) :=
  q_put (T := T_RW) ty_RW X hD hP hS hk hE rfl in_RW tok_RW nm_RW 8 (by decide) w_141 rfl rfl (by decide +kernel) hn hfit hl hdg kk
theorem g_MD_63 (X : Cx p s m args c cc nL R_MD D tc) (hP : va_P D vwCl (wW n ad E) H) (hk : k < n) (hE : E k = .inr (7, fs)) (hv : fs[0]? = some v) (hdg : decode cc pc = .ok (.getfield 63, 3)) (kk : W p l e R s m args below meth c H locs cells slots Q (F0 m (pc + 3) ls (v :: rest))) : W p l e R s m args below meth c H locs cells slots Q (F0 m pc ls (.ref (ad k) :: rest)) :=
  q_get (T := T_MD) X hP hk hE rfl in_MD 0 (by decide) w_499 rfl hv hdg kk
theorem p_MD_63 (X : Cx p s m args c cc nL R_MD D tc) (hD : va_D A (wW n ad E)) (hP : va_P D vwCl (wW n ad E) H) (hS : va_S A H0 H locs) (hk : k < n) (hE : E k = .inr (7, fs)) (hn : narrow (.int) v = v) (hfit : fits (.int) v = true) (hl : 0 < fs.length) (hdg : decode cc pc = .ok (.putfield 63, 3))
    (kk : ∀ (H1 : Heap) (locs1 : List Loc), va_D A (wW n ad (va_up E k (.inr (7, fs.set 0 v)))) → va_P D vwCl (wW n ad (va_up E k (.inr (7, fs.set 0 v)))) H1 → va_S A H0 H1 locs1 → W p l e R s m args below meth c H1 locs1 cells slots Q (F0 m (pc + 3) ls rest)) : W p l e R s m args below meth c H locs cells slots Q (F0 m pc ls (v :: .ref (ad k) :: rest)) :=
  q_put (T := T_MD) ty_MD X hD hP hS hk hE rfl in_MD tok_MD nm_MD 0 (by decide) w_499 rfl rfl (by decide +kernel) hn hfit hl hdg kk
theorem g_MD_71 (X : Cx p s m args c cc nL R_MD D tc) (hP : va_P D vwCl (wW n ad E) H) (hk : k < n) (hE : E k = .inr (7, fs)) (hv : fs[1]? = some v) (hdg : decode cc pc = .ok (.getfield 71, 3)) (kk : W p l e R s m args below meth c H locs cells slots Q (F0 m (pc + 3) ls (v :: rest))) : W p l e R s m args below meth c H locs cells slots Q (F0 m pc ls (.ref (ad k) :: rest)) :=
  q_get (T := T_MD) X hP hk hE rfl in_MD 1 (by decide) w_500 rfl hv hdg kk
theorem p_MD_71 (X : Cx p s m args c cc nL R_MD D tc) (hD : va_D A (wW n ad E)) (hP : va_P D vwCl (wW n ad E) H) (hS : va_S A H0 H locs) (hk : k < n) (hE : E k = .inr (7, fs)) (hn : narrow (.boolean) v = v) (hfit : fits (.boolean) v = true) (hl : 1 < fs.length) (hdg : decode cc pc = .ok (.putfield 71, 3))
    (kk : ∀ (H1 : Heap) (locs1 : List Loc), va_D A (wW n ad (va_up E k (.inr (7, fs.set 1 v)))) → va_P D vwCl (wW n ad (va_up E k (.inr (7, fs.set 1 v)))) H1 → va_S A H0 H1 locs1 → W p l e R s m args below meth c H1 locs1 cells slots Q (F0 m (pc + 3) ls rest)) : W p l e R s m args below meth c H locs cells slots Q (F0 m pc ls (v :: .ref (ad k) :: rest)) :=
  q_put (T := T_MD) ty_MD X hD hP hS hk hE rfl in_MD tok_MD nm_MD 1 (by decide) w_500 rfl rfl (by decide +kernel) hn hfit hl hdg kk
theorem g_MD_89 (X : Cx p s m args c cc nL R_MD D tc) (hP : va_P D vwCl (wW n ad E) H) (hk : k < n) (hE : E k = .inr (7, fs)) (hv : fs[2]? = some v) (hdg : decode cc pc = .ok (.getfield 89, 3)) (kk : W p l e R s m args below meth c H locs cells slots Q (F0 m (pc + 3) ls (v :: rest))) : W p l e R s m args below meth c H locs cells slots Q (F0 m pc ls (.ref (ad k) :: rest)) :=
  q_get (T := T_MD) X hP hk hE rfl in_MD 2 (by decide) w_501 rfl hv hdg kk
theorem p_MD_89 (X : Cx p s m args c cc nL R_MD D tc) (hD : va_D A (wW n ad E)) (hP : va_P D vwCl (wW n ad E) H) (hS : va_S A H0 H locs) (hk : k < n) (hE : E k = .inr (7, fs)) (hn : narrow (.boolean) v = v) (hfit : fits (.boolean) v = true) (hl : 2 < fs.length) (hdg : decode cc pc = .ok (.putfield 89, 3))
    (kk : ∀ (H1 : Heap) (locs1 : List Loc), va_D A (wW n ad (va_up E k (.inr (7, fs.set 2 v)))) → va_P D vwCl (wW n ad (va_up E k (.inr (7, fs.set 2 v)))) H1 → va_S A H0 H1 locs1 → W p l e R s m args below meth c H1 locs1 cells slots Q (F0 m (pc + 3) ls rest)) : W p l e R s m args below meth c H locs cells slots Q (F0 m pc ls (v :: .ref (ad k) :: rest)) :=
  q_put (T := T_MD) ty_MD X hD hP hS hk hE rfl in_MD tok_MD nm_MD 2 (by decide) w_501 rfl rfl (by decide +kernel) hn hfit hl hdg kk
theorem g_MD_7 (X : Cx p s m args c cc nL R_MD D tc) (hP : va_P D vwCl (wW n ad E) H) (hk : k < n) (hE : E k = .inr (7, fs)) (hv : fs[3]? = some v) (hdg : decode cc pc = .ok (.getfield 7, 3)) (kk : W p l e R s m args below meth c H locs cells slots Q (F0 m (pc + 3) ls (v :: rest))) : W p l e R s m args below meth c H locs cells slots Q (F0 m pc ls (.ref (ad k) :: rest)) :=
  q_get (T := T_MD) X hP hk hE rfl in_MD 3 (by decide) w_502 rfl hv hdg kk
theorem p_MD_7 (X : Cx p s m args c cc nL R_MD D tc) (hin : meth.name = "<init>") (hD : va_D A (wW n ad E)) (hP : va_P D vwCl (wW n ad E) H) (hS : va_S A H0 H locs) (hk : k < n) (hE : E k = .inr (7, fs)) (hn : narrow (.array .int) v = v) (hfit : fits (.array .int) v = true) (hl : 3 < fs.length) (hdg : decode cc pc = .ok (.putfield 7, 3))
    (kk : ∀ (H1 : Heap) (locs1 : List Loc), va_D A (wW n ad (va_up E k (.inr (7, fs.set 3 v)))) → va_P D vwCl (wW n ad (va_up E k (.inr (7, fs.set 3 v)))) H1 → va_S A H0 H1 locs1 → W p l e R s m args below meth c H1 locs1 cells slots Q (F0 m (pc + 3) ls rest)) : W p l e R s m args below meth c H locs cells slots Q (F0 m pc ls (v :: .ref (ad k) :: rest)) :=
  q_putF (T := T_MD) ty_MD X hD hP hS hk hE rfl in_MD tok_MD nm_MD 3 (by decide) w_502 rfl rfl hin rfl (by decide +kernel) hn hfit hl hdg kk
theorem g_MD_13 (X : Cx p s m args c cc nL R_MD D tc) (hP : va_P D vwCl (wW n ad E) H) (hk : k < n) (hE : E k = .inr (7, fs)) (hv : fs[4]? = some v) (hdg : decode cc pc = .ok (.getfield 13, 3)) (kk : W p l e R s m args below meth c H locs cells slots Q (F0 m (pc + 3) ls (v :: rest))) : W p l e R s m args below meth c H locs cells slots Q (F0 m pc ls (.ref (ad k) :: rest)) :=
  q_get (T := T_MD) X hP hk hE rfl in_MD 4 (by decide) w_503 rfl hv hdg kk
theorem p_MD_13 (X : Cx p s m args c cc nL R_MD D tc) (hin : meth.name = "<init>") (hD : va_D A (wW n ad E)) (hP : va_P D vwCl (wW n ad E) H) (hS : va_S A H0 H locs) (hk : k < n) (hE : E k = .inr (7, fs)) (hn : narrow (.array .int) v = v) (hfit : fits (.array .int) v = true) (hl : 4 < fs.length) (hdg : decode cc pc = .ok (.putfield 13, 3))
    (kk : ∀ (H1 : Heap) (locs1 : List Loc), va_D A (wW n ad (va_up E k (.inr (7, fs.set 4 v)))) → va_P D vwCl (wW n ad (va_up E k (.inr (7, fs.set 4 v)))) H1 → va_S A H0 H1 locs1 → W p l e R s m args below meth c H1 locs1 cells slots Q (F0 m (pc + 3) ls rest)) : W p l e R s m args below meth c H locs cells slots Q (F0 m pc ls (v :: .ref (ad k) :: rest)) :=
  q_putF (T := T_MD) ty_MD X hD hP hS hk hE rfl in_MD tok_MD nm_MD 4 (by decide) w_503 rfl rfl hin rfl (by decide +kernel) hn hfit hl hdg kk
theorem g_MD_16 (X : Cx p s m args c cc nL R_MD D tc) (hP : va_P D vwCl (wW n ad E) H) (hk : k < n) (hE : E k = .inr (7, fs)) (hv : fs[5]? = some v) (hdg : decode cc pc = .ok (.getfield 16, 3)) (kk : W p l e R s m args below meth c H locs cells slots Q (F0 m (pc + 3) ls (v :: rest))) : W p l e R s m args below meth c H locs cells slots Q (F0 m pc ls (.ref (ad k) :: rest)) :=
  q_get (T := T_MD) X hP hk hE rfl in_MD 5 (by decide) w_504 rfl hv hdg kk
theorem p_MD_16 (X : Cx p s m args c cc nL R_MD D tc) (hin : meth.name = "<init>") (hD : va_D A (wW n ad E)) (hP : va_P D vwCl (wW n ad E) H) (hS : va_S A H0 H locs) (hk : k < n) (hE : E k = .inr (7, fs)) (hn : narrow (.array .int) v = v) (hfit : fits (.array .int) v = true) (hl : 5 < fs.length) (hdg : decode cc pc = .ok (.putfield 16, 3))
    (kk : ∀ (H1 : Heap) (locs1 : List Loc), va_D A (wW n ad (va_up E k (.inr (7, fs.set 5 v)))) → va_P D vwCl (wW n ad (va_up E k (.inr (7, fs.set 5 v)))) H1 → va_S A H0 H1 locs1 → W p l e R s m args below meth c H1 locs1 cells slots Q (F0 m (pc + 3) ls rest)) : W p l e R s m args below meth c H locs cells slots Q (F0 m pc ls (v :: .ref (ad k) :: rest)) :=
  q_putF (T := T_MD) ty_MD X hD hP hS hk hE rfl in_MD tok_MD nm_MD 5 (by decide) w_504 rfl rfl hin rfl (by decide +kernel) hn hfit hl hdg kk
theorem g_MD_19 (X : Cx p s m args c cc nL R_MD D tc) (hP : va_P D vwCl (wW n ad E) H) (hk : k < n) (hE : E k = .inr (7, fs)) (hv : fs[6]? = some v) (hdg : decode cc pc = .ok (.getfield 19, 3)) (kk : W p l e R s m args below meth c H locs cells slots Q (F0 m (pc + 3) ls (v :: rest))) : W p l e R s m args below meth c H locs cells slots Q (F0 m pc ls (.ref (ad k) :: rest)) :=
  q_get (T := T_MD) X hP hk hE rfl in_MD 6 (by decide) w_505 rfl hv hdg kk
theorem p_MD_19 (X : Cx p s m args c cc nL R_MD D tc) (hin : meth.name = "<init>") (hD : va_D A (wW n ad E)) (hP : va_P D vwCl (wW n ad E) H) (hS : va_S A H0 H locs) (hk : k < n) (hE : E k = .inr (7, fs)) (hn : narrow (.array .int) v = v) (hfit : fits (.array .int) v = true) (hl : 6 < fs.length) (hdg : decode cc pc = .ok (.putfield 19, 3))
    (kk : ∀ (H1 : Heap) (locs1 : List Loc), va_D A (wW n ad (va_up E k (.inr (7, fs.set 6 v)))) → va_P D vwCl (wW n ad (va_up E k (.inr (7, fs.set 6 v)))) H1 → va_S A H0 H1 locs1 → W p l e R s m args below meth c H1 locs1 cells slots Q (F0 m (pc + 3) ls rest)) : W p l e R s m args below meth c H locs cells slots Q (F0 m pc ls (v :: .ref (ad k) :: rest)) :=
  q_putF (T := T_MD) ty_MD X hD hP hS hk hE rfl in_MD tok_MD nm_MD 6 (by decide) w_505 rfl rfl hin rfl (by decide +kernel) hn hfit hl hdg kk
theorem g_MD_22 (X : Cx p s m args c cc nL R_MD D tc) (hP : va_P D vwCl (wW n ad E) H) (hk : k < n) (hE : E k = .inr (7, fs)) (hv : fs[7]? = some v) (hdg : decode cc pc = .ok (.getfield 22, 3)) (kk : W p l e R s m args below meth c H locs cells slots Q (F0 m (pc + 3) ls (v :: rest))) : W p l e R s m args below meth c H locs cells slots Q (F0 m pc ls (.ref (ad k) :: rest)) :=
  q_get (T := T_MD) X hP hk hE rfl in_MD 7 (by decide) w_506 rfl hv hdg kk
theorem p_MD_22 (X : Cx p s m args c cc nL R_MD D tc) (hin : meth.name = "<init>") (hD : va_D A (wW n ad E)) (hP : va_P D vwCl (wW n ad E) H) (hS : va_S A H0 H locs) (hk : k < n) (hE : E k = .inr (7, fs)) (hn : narrow (.array .int) v = v) (hfit : fits (.array .int) v = true) (hl : 7 < fs.length) (hdg : decode cc pc = .ok (.putfield 22, 3))
    (kk : ∀ (H1 : Heap) (locs1 : List Loc), va_D A (wW n ad (va_up E k (.inr (7, fs.set 7 v)))) → va_P D vwCl (wW n ad (va_up E k (.inr (7, fs.set 7 v)))) H1 → va_S A H0 H1 locs1 → W p l e R s m args below meth c H1 locs1 cells slots Q (F0 m (pc + 3) ls rest)) : W p l e R s m args below meth c H locs cells slots Q (F0 m pc ls (v :: .ref (ad k) :: rest)) :=
  q_putF (T := T_MD) ty_MD X hD hP hS hk hE rfl in_MD tok_MD nm_MD 7 (by decide) w_506 rfl rfl hin rfl (by decide +kernel) hn hfit hl hdg kk
theorem g_MD_25 (X : Cx p s m args c cc nL R_MD D tc) (hP : va_P D vwCl (wW n ad E) H) (hk : k < n) (hE : E k = .inr (7, fs)) (hv : fs[8]? = some v) (hdg : decode cc pc = .ok (.getfield 25, 3)) (kk : W p l e R s m args below meth c H locs cells slots Q (F0 m (pc + 3) ls (v :: rest))) : W p l e R s m args below meth c H locs cells slots Q (F0 m pc ls (.ref (ad k) :: rest)) :=
  q_get (T := T_MD) X hP hk hE rfl in_MD 8 (by decide) w_507 rfl hv hdg kk
theorem p_MD_25 (X : Cx p s m args c cc nL R_MD D tc) (hin : meth.name = "<init>") (hD : va_D A (wW n ad E)) (hP : va_P D vwCl (wW n ad E) H) (hS : va_S A H0 H locs) (hk : k < n) (hE : E k = .inr (7, fs)) (hn : narrow (.array .int) v = v) (hfit : fits (.array .int) v = true) (hl : 8 < fs.length) (hdg : decode cc pc = .ok (.putfield 25, 3))
    (kk : ∀ (H1 : Heap) (locs1 : List Loc), va_D A (wW n ad (va_up E k (.inr (7, fs.set 8 v)))) → va_P D vwCl (wW n ad (va_up E k (.inr (7, fs.set 8 v)))) H1 → va_S A H0 H1 locs1 → W p l e R s m args below meth c H1 locs1 cells slots Q (F0 m (pc + 3) ls rest)) : W p l e R s m args below meth c H locs cells slots Q (F0 m pc ls (v :: .ref (ad k) :: rest)) :=
  q_putF (T := T_MD) ty_MD X hD hP hS hk hE rfl in_MD tok_MD nm_MD 8 (by decide) w_507 rfl rfl hin rfl (by decide +kernel) hn hfit hl hdg kk
theorem g_MD_28 (X : Cx p s m args c cc nL R_MD D tc) (hP : va_P D vwCl (wW n ad E) H) (hk : k < n) (hE : E k = .inr (7, fs)) (hv : fs[9]? = some v) (hdg : decode cc pc = .ok (.getfield 28, 3)) (kk : W p l e R s m args below meth c H locs cells slots Q (F0 m (pc + 3) ls (v :: rest))) : W p l e R s m args below meth c H locs cells slots Q (F0 m pc ls (.ref (ad k) :: rest)) :=
  q_get (T := T_MD) X hP hk hE rfl in_MD 9 (by decide) w_508 rfl hv hdg kk
theorem p_MD_28 (X : Cx p s m args c cc nL R_MD D tc) (hin : meth.name = "<init>") (hD : va_D A (wW n ad E)) (hP : va_P D vwCl (wW n ad E) H) (hS : va_S A H0 H locs) (hk : k < n) (hE : E k = .inr (7, fs)) (hn : narrow (.array .int) v = v) (hfit : fits (.array .int) v = true) (hl : 9 < fs.length) (hdg : decode cc pc = .ok (.putfield 28, 3))
    (kk : ∀ (H1 : Heap) (locs1 : List Loc), va_D A (wW n ad (va_up E k (.inr (7, fs.set 9 v)))) → va_P D vwCl (wW n ad (va_up E k (.inr (7, fs.set 9 v)))) H1 → va_S A H0 H1 locs1 → W p l e R s m args below meth c H1 locs1 cells slots Q (F0 m (pc + 3) ls rest)) : W p l e R s m args below meth c H locs cells slots Q (F0 m pc ls (v :: .ref (ad k) :: rest)) :=
  q_putF (T := T_MD) ty_MD X hD hP hS hk hE rfl in_MD tok_MD nm_MD 9 (by decide) w_508 rfl rfl hin rfl (by decide +kernel) hn hfit hl hdg kk
theorem g_MD_31 (X : Cx p s m args c cc nL R_MD D tc) (hP : va_P D vwCl (wW n ad E) H) (hk : k < n) (hE : E k = .inr (7, fs)) (hv : fs[10]? = some v) (hdg : decode cc pc = .ok (.getfield 31, 3)) (kk : W p l e R s m args below meth c H locs cells slots Q (F0 m (pc + 3) ls (v :: rest))) : W p l e R s m args below meth c H locs cells slots Q (F0 m pc ls (.ref (ad k) :: rest)) :=
  q_get (T := T_MD) X hP hk hE rfl in_MD 10 (by decide) w_509 rfl hv hdg kk
theorem p_MD_31 (X : Cx p s m args c cc nL R_MD D tc) (hin : meth.name = "<init>") (hD : va_D A (wW n ad E)) (hP : va_P D vwCl (wW n ad E) H) (hS : va_S A H0 H locs) (hk : k < n) (hE : E k = .inr (7, fs)) (hn : narrow (.array .int) v = v) (hfit : fits (.array .int) v = true) (hl : 10 < fs.length) (hdg : decode cc pc = .ok (.putfield 31, 3))
    (kk : ∀ (H1 : Heap) (locs1 : List Loc), va_D A (wW n ad (va_up E k (.inr (7, fs.set 10 v)))) → va_P D vwCl (wW n ad (va_up E k (.inr (7, fs.set 10 v)))) H1 → va_S A H0 H1 locs1 → W p l e R s m args below meth c H1 locs1 cells slots Q (F0 m (pc + 3) ls rest)) : W p l e R s m args below meth c H locs cells slots Q (F0 m pc ls (v :: .ref (ad k) :: rest)) :=
  q_putF (T := T_MD) ty_MD X hD hP hS hk hE rfl in_MD tok_MD nm_MD 10 (by decide) w_509 rfl rfl hin rfl (by decide +kernel) hn hfit hl hdg kk
theorem g_MD_34 (X : Cx p s m args c cc nL R_MD D tc) (hP : va_P D vwCl (wW n ad E) H) (hk : k < n) (hE : E k = .inr (7, fs)) (hv : fs[11]? = some v) (hdg : decode cc pc = .ok (.getfield 34, 3)) (kk : W p l e R s m args below meth c H locs cells slots Q (F0 m (pc + 3) ls (v :: rest))) : W p l e R s m args below meth c H locs cells slots Q (F0 m pc ls (.ref (ad k) :: rest)) :=
  q_get (T := T_MD) X hP hk hE rfl in_MD 11 (by decide) w_510 rfl hv hdg kk
theorem p_MD_34 (X : Cx p s m args c cc nL R_MD D tc) (hin : meth.name = "<init>") (hD : va_D A (wW n ad E)) (hP : va_P D vwCl (wW n ad E) H) (hS : va_S A H0 H locs) (hk : k < n) (hE : E k = .inr (7, fs)) (hn : narrow (.array .int) v = v) (hfit : fits (.array .int) v = true) (hl : 11 < fs.length) (hdg : decode cc pc = .ok (.putfield 34, 3))
    (kk : ∀ (H1 : Heap) (locs1 : List Loc), va_D A (wW n ad (va_up E k (.inr (7, fs.set 11 v)))) → va_P D vwCl (wW n ad (va_up E k (.inr (7, fs.set 11 v)))) H1 → va_S A H0 H1 locs1 → W p l e R s m args below meth c H1 locs1 cells slots Q (F0 m (pc + 3) ls rest)) : W p l e R s m args below meth c H locs cells slots Q (F0 m pc ls (v :: .ref (ad k) :: rest)) :=
  q_putF (T := T_MD) ty_MD X hD hP hS hk hE rfl in_MD tok_MD nm_MD 11 (by decide) w_510 rfl rfl hin rfl (by decide +kernel) hn hfit hl hdg kk
theorem g_MD_78 (X : Cx p s m args c cc nL R_MD D tc) (hP : va_P D vwCl (wW n ad E) H) (hk : k < n) (hE : E k = .inr (7, fs)) (hv : fs[12]? = some v) (hdg : decode cc pc = .ok (.getfield 78, 3)) (kk : W p l e R s m args below meth c H locs cells slots Q (F0 m (pc + 3) ls (v :: rest))) : W p l e R s m args below meth c H locs cells slots Q (F0 m pc ls (.ref (ad k) :: rest)) :=
  q_get (T := T_MD) X hP hk hE rfl in_MD 12 (by decide) w_511 rfl hv hdg kk
theorem p_MD_78 (X : Cx p s m args c cc nL R_MD D tc) (hD : va_D A (wW n ad E)) (hP : va_P D vwCl (wW n ad E) H) (hS : va_S A H0 H locs) (hk : k < n) (hE : E k = .inr (7, fs)) (hn : narrow (.int) v = v) (hfit : fits (.int) v = true) (hl : 12 < fs.length) (hdg : decode cc pc = .ok (.putfield 78, 3))
    (kk : ∀ (H1 : Heap) (locs1 : List Loc), va_D A (wW n ad (va_up E k (.inr (7, fs.set 12 v)))) → va_P D vwCl (wW n ad (va_up E k (.inr (7, fs.set 12 v)))) H1 → va_S A H0 H1 locs1 → W p l e R s m args below meth c H1 locs1 cells slots Q (F0 m (pc + 3) ls rest)) : W p l e R s m args below meth c H locs cells slots Q (F0 m pc ls (v :: .ref (ad k) :: rest)) :=
  q_put (T := T_MD) ty_MD X hD hP hS hk hE rfl in_MD tok_MD nm_MD 12 (by decide) w_511 rfl rfl (by decide +kernel) hn hfit hl hdg kk
theorem g_MD_37 (X : Cx p s m args c cc nL R_MD D tc) (hP : va_P D vwCl (wW n ad E) H) (hk : k < n) (hE : E k = .inr (7, fs)) (hv : fs[13]? = some v) (hdg : decode cc pc = .ok (.getfield 37, 3)) (kk : W p l e R s m args below meth c H locs cells slots Q (F0 m (pc + 3) ls (v :: rest))) : W p l e R s m args below meth c H locs cells slots Q (F0 m pc ls (.ref (ad k) :: rest)) :=
  q_get (T := T_MD) X hP hk hE rfl in_MD 13 (by decide) w_512 rfl hv hdg kk
theorem p_MD_37 (X : Cx p s m args c cc nL R_MD D tc) (hin : meth.name = "<init>") (hD : va_D A (wW n ad E)) (hP : va_P D vwCl (wW n ad E) H) (hS : va_S A H0 H locs) (hk : k < n) (hE : E k = .inr (7, fs)) (hn : narrow (.array .int) v = v) (hfit : fits (.array .int) v = true) (hl : 13 < fs.length) (hdg : decode cc pc = .ok (.putfield 37, 3))
    (kk : ∀ (H1 : Heap) (locs1 : List Loc), va_D A (wW n ad (va_up E k (.inr (7, fs.set 13 v)))) → va_P D vwCl (wW n ad (va_up E k (.inr (7, fs.set 13 v)))) H1 → va_S A H0 H1 locs1 → W p l e R s m args below meth c H1 locs1 cells slots Q (F0 m (pc + 3) ls rest)) : W p l e R s m args below meth c H locs cells slots Q (F0 m pc ls (v :: .ref (ad k) :: rest)) :=
  q_putF (T := T_MD) ty_MD X hD hP hS hk hE rfl in_MD tok_MD nm_MD 13 (by decide) w_512 rfl rfl hin rfl (by decide +kernel) hn hfit hl hdg kk
theorem g_MD_40 (X : Cx p s m args c cc nL R_MD D tc) (hP : va_P D vwCl (wW n ad E) H) (hk : k < n) (hE : E k = .inr (7, fs)) (hv : fs[14]? = some v) (hdg : decode cc pc = .ok (.getfield 40, 3)) (kk : W p l e R s m args below meth c H locs cells slots Q (F0 m (pc + 3) ls (v :: rest))) : W p l e R s m args below meth c H locs cells slots Q (F0 m pc ls (.ref (ad k) :: rest)) :=
  q_get (T := T_MD) X hP hk hE rfl in_MD 14 (by decide) w_513 rfl hv hdg kk
theorem p_MD_40 (X : Cx p s m args c cc nL R_MD D tc) (hin : meth.name = "<init>") (hD : va_D A (wW n ad E)) (hP : va_P D vwCl (wW n ad E) H) (hS : va_S A H0 H locs) (hk : k < n) (hE : E k = .inr (7, fs)) (hn : narrow (.array .int) v = v) (hfit : fits (.array .int) v = true) (hl : 14 < fs.length) (hdg : decode cc pc = .ok (.putfield 40, 3))
    (kk : ∀ (H1 : Heap) (locs1 : List Loc), va_D A (wW n ad (va_up E k (.inr (7, fs.set 14 v)))) → va_P D vwCl (wW n ad (va_up E k (.inr (7, fs.set 14 v)))) H1 → va_S A H0 H1 locs1 → W p l e R s m args below meth c H1 locs1 cells slots Q (F0 m (pc + 3) ls rest)) : W p l e R s m args below meth c H locs cells slots Q (F0 m pc ls (v :: .ref (ad k) :: rest)) :=
  q_putF (T := T_MD) ty_MD X hD hP hS hk hE rfl in_MD tok_MD nm_MD 14 (by decide) w_513 rfl rfl hin rfl (by decide +kernel) hn hfit hl hdg kk
theorem g_MD_43 (X : Cx p s m args c cc nL R_MD D tc) (hP : va_P D vwCl (wW n ad E) H) (hk : k < n) (hE : E k = .inr (7, fs)) (hv : fs[15]? = some v) (hdg : decode cc pc = .ok (.getfield 43, 3)) (kk : W p l e R s m args below meth c H locs cells slots Q (F0 m (pc + 3) ls (v :: rest))) : W p l e R s m args below meth c H locs cells slots Q (F0 m pc ls (.ref (ad k) :: rest)) :=
  q_get (T := T_MD) X hP hk hE rfl in_MD 15 (by decide) w_514 rfl hv hdg kk
theorem p_MD_43 (X : Cx p s m args c cc nL R_MD D tc) (hin : meth.name = "<init>") (hD : va_D A (wW n ad E)) (hP : va_P D vwCl (wW n ad E) H) (hS : va_S A H0 H locs) (hk : k < n) (hE : E k = .inr (7, fs)) (hn : narrow (.array .int) v = v) (hfit : fits (.array .int) v = true) (hl : 15 < fs.length) (hdg : decode cc pc = .ok (.putfield 43, 3))
    (kk : ∀ (H1 : Heap) (locs1 : List Loc), va_D A (wW n ad (va_up E k (.inr (7, fs.set 15 v)))) → va_P D vwCl (wW n ad (va_up E k (.inr (7, fs.set 15 v)))) H1 → va_S A H0 H1 locs1 → W p l e R s m args below meth c H1 locs1 cells slots Q (F0 m (pc + 3) ls rest)) : W p l e R s m args below meth c H locs cells slots Q (F0 m pc ls (v :: .ref (ad k) :: rest)) :=
  q_putF (T := T_MD) ty_MD X hD hP hS hk hE rfl in_MD tok_MD nm_MD 15 (by decide) w_514 rfl rfl hin rfl (by decide +kernel) hn hfit hl hdg kk
theorem g_MD_46 (X : Cx p s m args c cc nL R_MD D tc) (hP : va_P D vwCl (wW n ad E) H) (hk : k < n) (hE : E k = .inr (7, fs)) (hv : fs[16]? = some v) (hdg : decode cc pc = .ok (.getfield 46, 3)) (kk : W p l e R s m args below meth c H locs cells slots Q (F0 m (pc + 3) ls (v :: rest))) : W p l e R s m args below meth c H locs cells slots Q (F0 m pc ls (.ref (ad k) :: rest)) :=
  q_get (T := T_MD) X hP hk hE rfl in_MD 16 (by decide) w_515 rfl hv hdg kk
theorem p_MD_46 (X : Cx p s m args c cc nL R_MD D tc) (hin : meth.name = "<init>") (hD : va_D A (wW n ad E)) (hP : va_P D vwCl (wW n ad E) H) (hS : va_S A H0 H locs) (hk : k < n) (hE : E k = .inr (7, fs)) (hn : narrow (.array .boolean) v = v) (hfit : fits (.array .boolean) v = true) (hl : 16 < fs.length) (hdg : decode cc pc = .ok (.putfield 46, 3))
    (kk : ∀ (H1 : Heap) (locs1 : List Loc), va_D A (wW n ad (va_up E k (.inr (7, fs.set 16 v)))) → va_P D vwCl (wW n ad (va_up E k (.inr (7, fs.set 16 v)))) H1 → va_S A H0 H1 locs1 → W p l e R s m args below meth c H1 locs1 cells slots Q (F0 m (pc + 3) ls rest)) : W p l e R s m args below meth c H locs cells slots Q (F0 m pc ls (v :: .ref (ad k) :: rest)) :=
  q_putF (T := T_MD) ty_MD X hD hP hS hk hE rfl in_MD tok_MD nm_MD 16 (by decide) w_515 rfl rfl hin rfl (by decide +kernel) hn hfit hl hdg kk
theorem g_MD_50 (X : Cx p s m args c cc nL R_MD D tc) (hP : va_P D vwCl (wW n ad E) H) (hk : k < n) (hE : E k = .inr (7, fs)) (hv : fs[17]? = some v) (hdg : decode cc pc = .ok (.getfield 50, 3)) (kk : W p l e R s m args below meth c H locs cells slots Q (F0 m (pc + 3) ls (v :: rest))) : W p l e R s m args below meth c H locs cells slots Q (F0 m pc ls (.ref (ad k) :: rest)) :=
  q_get (T := T_MD) X hP hk hE rfl in_MD 17 (by decide) w_516 rfl hv hdg kk
theorem p_MD_50 (X : Cx p s m args c cc nL R_MD D tc) (hin : meth.name = "<init>") (hD : va_D A (wW n ad E)) (hP : va_P D vwCl (wW n ad E) H) (hS : va_S A H0 H locs) (hk : k < n) (hE : E k = .inr (7, fs)) (hn : narrow (.array .long) v = v) (hfit : fits (.array .long) v = true) (hl : 17 < fs.length) (hdg : decode cc pc = .ok (.putfield 50, 3))
    (kk : ∀ (H1 : Heap) (locs1 : List Loc), va_D A (wW n ad (va_up E k (.inr (7, fs.set 17 v)))) → va_P D vwCl (wW n ad (va_up E k (.inr (7, fs.set 17 v)))) H1 → va_S A H0 H1 locs1 → W p l e R s m args below meth c H1 locs1 cells slots Q (F0 m (pc + 3) ls rest)) : W p l e R s m args below meth c H locs cells slots Q (F0 m pc ls (v :: .ref (ad k) :: rest)) :=
  q_putF (T := T_MD) ty_MD X hD hP hS hk hE rfl in_MD tok_MD nm_MD 17 (by decide) w_516 rfl rfl hin rfl (by decide +kernel) hn hfit hl hdg kk
theorem g_MD_54 (X : Cx p s m args c cc nL R_MD D tc) (hP : va_P D vwCl (wW n ad E) H) (hk : k < n) (hE : E k = .inr (7, fs)) (hv : fs[18]? = some v) (hdg : decode cc pc = .ok (.getfield 54, 3)) (kk : W p l e R s m args below meth c H locs cells slots Q (F0 m (pc + 3) ls (v :: rest))) : W p l e R s m args below meth c H locs cells slots Q (F0 m pc ls (.ref (ad k) :: rest)) :=
  q_get (T := T_MD) X hP hk hE rfl in_MD 18 (by decide) w_517 rfl hv hdg kk
theorem p_MD_54 (X : Cx p s m args c cc nL R_MD D tc) (hin : meth.name = "<init>") (hD : va_D A (wW n ad E)) (hP : va_P D vwCl (wW n ad E) H) (hS : va_S A H0 H locs) (hk : k < n) (hE : E k = .inr (7, fs)) (hn : narrow (.array .int) v = v) (hfit : fits (.array .int) v = true) (hl : 18 < fs.length) (hdg : decode cc pc = .ok (.putfield 54, 3))
    (kk : ∀ (H1 : Heap) (locs1 : List Loc), va_D A (wW n ad (va_up E k (.inr (7, fs.set 18 v)))) → va_P D vwCl (wW n ad (va_up E k (.inr (7, fs.set 18 v)))) H1 → va_S A H0 H1 locs1 → W p l e R s m args below meth c H1 locs1 cells slots Q (F0 m (pc + 3) ls rest)) : W p l e R s m args below meth c H locs cells slots Q (F0 m pc ls (v :: .ref (ad k) :: rest)) :=
  q_putF (T := T_MD) ty_MD X hD hP hS hk hE rfl in_MD tok_MD nm_MD 18 (by decide) w_517 rfl rfl hin rfl (by decide +kernel) hn hfit hl hdg kk
theorem g_MD_57 (X : Cx p s m args c cc nL R_MD D tc) (hP : va_P D vwCl (wW n ad E) H) (hk : k < n) (hE : E k = .inr (7, fs)) (hv : fs[19]? = some v) (hdg : decode cc pc = .ok (.getfield 57, 3)) (kk : W p l e R s m args below meth c H locs cells slots Q (F0 m (pc + 3) ls (v :: rest))) : W p l e R s m args below meth c H locs cells slots Q (F0 m pc ls (.ref (ad k) :: rest)) :=
  q_get (T := T_MD) X hP hk hE rfl in_MD 19 (by decide) w_518 rfl hv hdg kk
theorem p_MD_57 (X : Cx p s m args c cc nL R_MD D tc) (hin : meth.name = "<init>") (hD : va_D A (wW n ad E)) (hP : va_P D vwCl (wW n ad E) H) (hS : va_S A H0 H locs) (hk : k < n) (hE : E k = .inr (7, fs)) (hn : narrow (.array .int) v = v) (hfit : fits (.array .int) v = true) (hl : 19 < fs.length) (hdg : decode cc pc = .ok (.putfield 57, 3))
    (kk : ∀ (H1 : Heap) (locs1 : List Loc), va_D A (wW n ad (va_up E k (.inr (7, fs.set 19 v)))) → va_P D vwCl (wW n ad (va_up E k (.inr (7, fs.set 19 v)))) H1 → va_S A H0 H1 locs1 → W p l e R s m args below meth c H1 locs1 cells slots Q (F0 m (pc + 3) ls rest)) : W p l e R s m args below meth c H locs cells slots Q (F0 m pc ls (v :: .ref (ad k) :: rest)) :=
  q_putF (T := T_MD) ty_MD X hD hP hS hk hE rfl in_MD tok_MD nm_MD 19 (by decide) w_518 rfl rfl hin rfl (by decide +kernel) hn hfit hl hdg kk
end FR
