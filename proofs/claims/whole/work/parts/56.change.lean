/-! the reference: the changes -/
def sF (a : qP) : Nat → Nat := fun i => if i < 25 then a.1 i else if i = 25 then a.2.1 else if i = 26 then a.2.2.1 else if i = 27 then a.2.2.2.1 else if i = 28 then a.2.2.2.2 else 0
theorem sF_ag (a : qP) : Ag (sF a) a.1 := fun i hi => by unfold sF; rw [if_pos hi]
theorem sF_lo {a : qP} {i : Nat} (h : i < 25) : sF a i = a.1 i := by unfold sF; rw [if_pos h]
theorem sF_25 (a : qP) : sF a 25 = a.2.1 := rfl
theorem sF_26 (a : qP) : sF a 26 = a.2.2.1 := rfl
theorem sF_27 (a : qP) : sF a 27 = a.2.2.2.1 := rfl
theorem sF_28 (a : qP) : sF a 28 = a.2.2.2.2 := rfl
theorem sF_hi {a : qP} {i : Nat} (h : 29 ≤ i) : sF a i = 0 := by
  unfold sF
  rw [if_neg (by omega), if_neg (by omega), if_neg (by omega), if_neg (by omega), if_neg (by omega)]
theorem sF_up {a : qP} {i : Nat} (v : Nat) (hi : i < 25) : up (sF a) i v = sF (up a.1 i v, a.2) := by
  funext k
  unfold up sF
  by_cases e : k = i
  · subst e; rw [if_pos rfl, if_pos hi]; simp only [if_pos]
  · rw [if_neg e]; simp only [if_neg e]
theorem sF_u25 {a : qP} (v : Nat) : up (sF a) 25 v = sF (a.1, v, a.2.2) := by
  funext k
  unfold up sF
  by_cases e : k = 25
  · subst e; rfl
  · rw [if_neg e]; simp only [if_neg e]
theorem sF_u26 {a : qP} (v : Nat) : up (sF a) 26 v = sF (a.1, a.2.1, v, a.2.2.2) := by
  funext k
  unfold up sF
  by_cases e : k = 26
  · subst e; rfl
  · rw [if_neg e]; simp only [if_neg e]
theorem sF_u27 {a : qP} (v : Nat) : up (sF a) 27 v = sF (a.1, a.2.1, a.2.2.1, v, a.2.2.2.2) := by
  funext k
  unfold up sF
  by_cases e : k = 27
  · subst e; rfl
  · rw [if_neg e]; simp only [if_neg e]
theorem sF_u28 {a : qP} (v : Nat) : up (sF a) 28 v = sF (a.1, a.2.1, a.2.2.1, a.2.2.2.1, v) := by
  funext k
  unfold up sF
  by_cases e : k = 28
  · subst e; rfl
  · rw [if_neg e]; simp only [if_neg e]
theorem cp_back {a : qP} {bf s : Nat → Nat} (h : ∀ i, 29 ≤ i → s i = 0) : cpB (cpB (sF a) bf 0 0 29) s 0 0 29 = sF a := by
  funext k
  unfold cpB
  by_cases e : k < 29
  · rw [if_pos ⟨Nat.zero_le _, by omega⟩, if_pos ⟨Nat.zero_le _, by omega⟩]
    congr 1
    omega
  · rw [if_neg (by omega), h k (by omega), sF_hi (by omega)]
def pkS (past : Nat → Nat) (pm : Nat) : Nat → Nat := if pm = 8 then cpB past past 29 0 203 else past
def pkM (pm : Nat) : Nat := if pm = 8 then 7 else pm
def pkP (past bf : Nat → Nat) (pm : Nat) : Nat → Nat := cpB bf (pkS past pm) 0 (29 * pkM pm) 29
def refR (mr : qmr) (o : Option (Int32 × Int32)) : qmr := match o with
  | none => mr
  | some q => (q.1, q.2, -4, mr.2.2.2)
theorem HS_bf {P : qPs} {Hs : qHs} {T : qTs} {L : qLs} {S : qSs} {V : qVs} {s bf sv past b2 : Nat → Nat} {isv : Bool} {pm : Nat} {mr : qmr} {mm : qmm} {ml : qml} {mt : qmt} : (HH P Hs T L S V (s, bf, sv, past, isv, pm) mr mm ml mt).set 42 (qB0 29 b2) = HH P Hs T L S V (s, b2, sv, past, isv, pm) mr mm ml mt := rfl
theorem HS_sv {P : qPs} {Hs : qHs} {T : qTs} {L : qLs} {S : qSs} {V : qVs} {s bf sv past b2 : Nat → Nat} {isv : Bool} {pm : Nat} {mr : qmr} {mm : qmm} {ml : qml} {mt : qmt} : (HH P Hs T L S V (s, bf, sv, past, isv, pm) mr mm ml mt).set 43 (qB0 29 b2) = HH P Hs T L S V (s, bf, b2, past, isv, pm) mr mm ml mt := rfl
theorem HS_past {P : qPs} {Hs : qHs} {T : qTs} {L : qLs} {S : qSs} {V : qVs} {s bf sv past b2 : Nat → Nat} {isv : Bool} {pm : Nat} {mr : qmr} {mm : qmm} {ml : qml} {mt : qmt} : (HH P Hs T L S V (s, bf, sv, past, isv, pm) mr mm ml mt).set 44 (qB0 232 b2) = HH P Hs T L S V (s, bf, sv, b2, isv, pm) mr mm ml mt := rfl
theorem HS_tn {P : qPs} {Hs : qHs} {T : qTs} {L : qLs} {S : qSs} {V : qVs} {ms : qms} {mr : qmr} {mv ks tn k2 : Nat → Nat} {mn : Nat} {ml : qml} {mt : qmt} : (HH P Hs T L S V ms mr (mv, mn, ks, tn) ml mt).set 47 (qB0 25 k2) = HH P Hs T L S V ms mr (mv, mn, ks, k2) ml mt := rfl
set_option maxHeartbeats 4000000 in
set_option maxRecDepth 100000 in
theorem okX6_keep {P : qPs} {Hs : qHs} {T : qTs} {L : qLs} {S : qSs} {V : qVs} {mr : qmr} {mm : qmm} {ml : qml} {mt : qmt} {s bf sv past : Nat → Nat} {isv : Bool} {pm : Nat}  : Ok MX6_keep [.ref 40] (HH P Hs T L S V (s, bf, sv, past, isv, pm) mr mm ml mt) (none) (HH P Hs T L S V (s, cpB s bf 0 0 29, sv, past, isv, pm) mr mm ml mt) := by
  refine ok_of (by decide +kernel) (Nat.zero_le _) (Nat.le_of_ble_eq_true rfl) ?_
  intro X C E
  show Ex X MX6_keep 0 [(0, .ref 40)] [] (HH P Hs T L S V (s, bf, sv, past, isv, pm) mr mm ml mt)
  refine x_aload_n C dX6_keep_0 rfl ?_
  refine x_getfield C qk6 0 (by decide) lfX6_9 dX6_keep_1 rfl rfl ?_
  refine x_iconst C (v := nI 0) dX6_keep_4 (by decide +kernel) ?_
  refine x_aload_n C dX6_keep_5 rfl ?_
  refine x_getfield C qk6 1 (by decide) lfX6_13 dX6_keep_6 rfl rfl ?_
  refine x_iconst C (v := nI 0) dX6_keep_9 (by decide +kernel) ?_
  refine x_bipush C (v := nI 29) dX6_keep_10 (by decide +kernel) ?_
  refine x_copy C lkX6_45 ⟨Nat.le_of_ble_eq_true rfl, Nat.le_of_ble_eq_true rfl⟩ (Nat.le_of_ble_eq_true rfl) HM_s HM_bf (by omega) (by omega) (by decide) (by decide) dX6_keep_12 ?_
  refine x_heap HS_bf ?_
  exact x_vret E dX6_keep_15 rfl rfl rfl
set_option maxHeartbeats 4000000 in
set_option maxRecDepth 100000 in
theorem okX6_ends_n {P : qPs} {Hs : qHs} {T : qTs} {L : qLs} {S : qSs} {V : qVs} {mr : qmr} {mm : qmm} {ml : qml} {mt : qmt} {s bf sv past : Nat → Nat} {isv : Bool} {pm : Nat} {x : Int32} (hx : x < 0) : Ok MX6_ends [.ref 40, .int x] (HH P Hs T L S V (s, bf, sv, past, isv, pm) mr mm ml mt) (some (.int x)) (HH P Hs T L S V (cpB bf s 0 0 29, bf, sv, past, isv, pm) mr mm ml mt) := by
  refine ok_of (by decide +kernel) (Nat.zero_le _) (Nat.le_of_ble_eq_true rfl) ?_
  intro X C E
  show Ex X MX6_ends 0 [(0, .ref 40), (1, .int x)] [] (HH P Hs T L S V (s, bf, sv, past, isv, pm) mr mm ml mt)
  refine x_iload_n C dX6_ends_0 rfl ?_
  refine x_if_ge C 21 dX6_ends_1 (by decide) (fun c1 => ?_) (fun c1 => ?_)
  · exact absurd hx (Int32.not_lt.mpr c1)
  · refine x_aload_n C dX6_ends_4 rfl ?_
    refine x_getfield C qk6 1 (by decide) lfX6_13 dX6_ends_5 rfl rfl ?_
    refine x_iconst C (v := nI 0) dX6_ends_8 (by decide +kernel) ?_
    refine x_aload_n C dX6_ends_9 rfl ?_
    refine x_getfield C qk6 0 (by decide) lfX6_9 dX6_ends_10 rfl rfl ?_
    refine x_iconst C (v := nI 0) dX6_ends_13 (by decide +kernel) ?_
    refine x_bipush C (v := nI 29) dX6_ends_14 (by decide +kernel) ?_
    refine x_copy C lkX6_45 ⟨Nat.le_of_ble_eq_true rfl, Nat.le_of_ble_eq_true rfl⟩ (Nat.le_of_ble_eq_true rfl) HM_bf HM_s (by omega) (by omega) (by decide) (by decide) dX6_ends_16 ?_
    refine x_heap HS_s ?_
    refine x_iload_n C dX6_ends_19 rfl ?_
    exact x_iret E .int dX6_ends_20 rfl rfl rfl rfl
set_option maxHeartbeats 4000000 in
set_option maxRecDepth 100000 in
theorem okX6_ends_p0 {P : qPs} {Hs : qHs} {T : qTs} {L : qLs} {S : qSs} {V : qVs} {mr : qmr} {mm : qmm} {ml : qml} {mt : qmt} {s bf sv past : Nat → Nat} {isv : Bool} {pm : Nat} (hp : pm < 8) {n : Nat} (hn : n < 2147483648) : Ok MX6_ends [.ref 40, .int (nI n)] (HH P Hs T L S V (s, bf, sv, past, isv, pm) mr mm ml mt) (some (.int (nI n))) (HH P Hs T L S V (s, bf, sv, pkP past bf pm, isv, pm + 1) mr mm ml mt) := by
  refine ok_of (by decide +kernel) (Nat.zero_le _) (Nat.le_of_ble_eq_true rfl) ?_
  intro X C E
  show Ex X MX6_ends 0 [(0, .ref 40), (1, .int (nI n))] [] (HH P Hs T L S V (s, bf, sv, past, isv, pm) mr mm ml mt)
  have e1 : pkP past bf pm = cpB bf past 0 (29 * pm) 29 := by unfold pkP pkS pkM; rw [if_neg (by omega), if_neg (by omega)]
  rw [e1] at E
  refine x_iload_n C dX6_ends_0 rfl ?_
  refine x_if_geN C 21 dX6_ends_1 (by decide) (by omega) ?_
  refine x_aload_n C dX6_ends_21 rfl ?_
  refine x_getfield C qk6 5 (by decide) lfX6_51 dX6_ends_22 rfl rfl ?_
  refine x_top (v := nI pm) (by rfl) ?_
  refine x_bipush C (v := nI 8) dX6_ends_25 (by decide +kernel) ?_
  refine x_icmp_neN C 57 dX6_ends_27 (by decide) (by omega) (by omega) (fun c27 => ?_) (fun c27 => ?_)
  · refine x_aload_n C dX6_ends_57 rfl ?_
    refine x_getfield C qk6 1 (by decide) lfX6_13 dX6_ends_58 rfl rfl ?_
    refine x_iconst C (v := nI 0) dX6_ends_61 (by decide +kernel) ?_
    refine x_aload_n C dX6_ends_62 rfl ?_
    refine x_getfield C qk6 4 (by decide) lfX6_19 dX6_ends_63 rfl rfl ?_
    refine x_bipush C (v := nI 29) dX6_ends_66 (by decide +kernel) ?_
    refine x_aload_n C dX6_ends_68 rfl ?_
    refine x_getfield C qk6 5 (by decide) lfX6_51 dX6_ends_69 rfl rfl ?_
    refine x_top (v := nI pm) (by rfl) ?_
    refine x_imulN C dX6_ends_72 ?_
    refine x_bipush C (v := nI 29) dX6_ends_73 (by decide +kernel) ?_
    refine x_copy C lkX6_45 ⟨Nat.le_of_ble_eq_true rfl, Nat.le_of_ble_eq_true rfl⟩ (Nat.le_of_ble_eq_true rfl) HM_bf HM_past (by omega) (by omega) (by decide) (by decide) dX6_ends_75 ?_
    refine x_heap HS_past ?_
    refine x_aload_n C dX6_ends_78 rfl ?_
    refine x_dup C rfl dX6_ends_79 ?_
    refine x_getfield C qk6 5 (by decide) lfX6_51 dX6_ends_80 rfl rfl ?_
    refine x_top (v := nI pm) (by rfl) ?_
    refine x_iconst C (v := nI 1) dX6_ends_83 (by decide +kernel) ?_
    refine x_iaddN C dX6_ends_84 ?_
    refine x_putfield C qk6 5 (by decide) lfX6_51 rfl (ty0 := .int) (by decide +kernel) rfl rfl dX6_ends_85 rfl (Nat.le_of_ble_eq_true rfl) ?_
    refine x_heap (h2 := HH P Hs T L S V (s, bf, sv, cpB bf past 0 (29 * pm) 29, isv, pm + 1) mr mm ml mt) (by rfl) ?_
    refine x_iload_n C dX6_ends_88 rfl ?_
    exact x_iret E .int dX6_ends_89 rfl rfl rfl rfl
  · omega
set_option maxHeartbeats 4000000 in
set_option maxRecDepth 100000 in
theorem okX6_ends_p1 {P : qPs} {Hs : qHs} {T : qTs} {L : qLs} {S : qSs} {V : qVs} {mr : qmr} {mm : qmm} {ml : qml} {mt : qmt} {s bf sv past : Nat → Nat} {isv : Bool} {pm : Nat} (hp : pm = 8) {n : Nat} (hn : n < 2147483648) : Ok MX6_ends [.ref 40, .int (nI n)] (HH P Hs T L S V (s, bf, sv, past, isv, pm) mr mm ml mt) (some (.int (nI n))) (HH P Hs T L S V (s, bf, sv, pkP past bf pm, isv, 8) mr mm ml mt) := by
  refine ok_of (by decide +kernel) (Nat.zero_le _) (Nat.le_of_ble_eq_true rfl) ?_
  intro X C E
  show Ex X MX6_ends 0 [(0, .ref 40), (1, .int (nI n))] [] (HH P Hs T L S V (s, bf, sv, past, isv, pm) mr mm ml mt)
  have e1 : pkP past bf pm = cpB bf (cpB past past 29 0 203) 0 (29 * 7) 29 := by unfold pkP pkS pkM; rw [if_pos hp, if_pos hp]
  rw [e1] at E
  subst hp
  refine x_iload_n C dX6_ends_0 rfl ?_
  refine x_if_geN C 21 dX6_ends_1 (by decide) (by omega) ?_
  refine x_aload_n C dX6_ends_21 rfl ?_
  refine x_getfield C qk6 5 (by decide) lfX6_51 dX6_ends_22 rfl rfl ?_
  refine x_top (v := nI 8) (by rfl) ?_
  refine x_bipush C (v := nI 8) dX6_ends_25 (by decide +kernel) ?_
  refine x_icmp_neN C 57 dX6_ends_27 (by decide) (by omega) (by omega) (fun c27 => ?_) (fun c27 => ?_)
  · exact absurd rfl c27
  · refine x_aload_n C dX6_ends_30 rfl ?_
    refine x_getfield C qk6 4 (by decide) lfX6_19 dX6_ends_31 rfl rfl ?_
    refine x_bipush C (v := nI 29) dX6_ends_34 (by decide +kernel) ?_
    refine x_aload_n C dX6_ends_36 rfl ?_
    refine x_getfield C qk6 4 (by decide) lfX6_19 dX6_ends_37 rfl rfl ?_
    refine x_iconst C (v := nI 0) dX6_ends_40 (by decide +kernel) ?_
    refine x_sipush C (v := nI 203) dX6_ends_41 (by decide +kernel) ?_
    refine x_copy C lkX6_45 ⟨Nat.le_of_ble_eq_true rfl, Nat.le_of_ble_eq_true rfl⟩ (Nat.le_of_ble_eq_true rfl) HM_past HM_past (by omega) (by omega) (by decide) (by decide) dX6_ends_44 ?_
    refine x_heap HS_past ?_
    refine x_aload_n C dX6_ends_47 rfl ?_
    refine x_dup C rfl dX6_ends_48 ?_
    refine x_getfield C qk6 5 (by decide) lfX6_51 dX6_ends_49 rfl rfl ?_
    refine x_top (v := nI 8) (by rfl) ?_
    refine x_iconst C (v := nI 1) dX6_ends_52 (by decide +kernel) ?_
    refine x_isubN C dX6_ends_53 (by omega) ?_
    refine x_putfield C qk6 5 (by decide) lfX6_51 rfl (ty0 := .int) (by decide +kernel) rfl rfl dX6_ends_54 rfl (Nat.le_of_ble_eq_true rfl) ?_
    refine x_heap (h2 := HH P Hs T L S V (s, bf, sv, cpB past past 29 0 203, isv, 7) mr mm ml mt) (by rfl) ?_
    refine x_aload_n C dX6_ends_57 rfl ?_
    refine x_getfield C qk6 1 (by decide) lfX6_13 dX6_ends_58 rfl rfl ?_
    refine x_iconst C (v := nI 0) dX6_ends_61 (by decide +kernel) ?_
    refine x_aload_n C dX6_ends_62 rfl ?_
    refine x_getfield C qk6 4 (by decide) lfX6_19 dX6_ends_63 rfl rfl ?_
    refine x_bipush C (v := nI 29) dX6_ends_66 (by decide +kernel) ?_
    refine x_aload_n C dX6_ends_68 rfl ?_
    refine x_getfield C qk6 5 (by decide) lfX6_51 dX6_ends_69 rfl rfl ?_
    refine x_top (v := nI 7) (by rfl) ?_
    refine x_imulN C dX6_ends_72 ?_
    refine x_bipush C (v := nI 29) dX6_ends_73 (by decide +kernel) ?_
    refine x_copy C lkX6_45 ⟨Nat.le_of_ble_eq_true rfl, Nat.le_of_ble_eq_true rfl⟩ (Nat.le_of_ble_eq_true rfl) HM_bf HM_past (by omega) (by omega) (by decide) (by decide) dX6_ends_75 ?_
    refine x_heap HS_past ?_
    refine x_aload_n C dX6_ends_78 rfl ?_
    refine x_dup C rfl dX6_ends_79 ?_
    refine x_getfield C qk6 5 (by decide) lfX6_51 dX6_ends_80 rfl rfl ?_
    refine x_top (v := nI 7) (by rfl) ?_
    refine x_iconst C (v := nI 1) dX6_ends_83 (by decide +kernel) ?_
    refine x_iaddN C dX6_ends_84 ?_
    refine x_putfield C qk6 5 (by decide) lfX6_51 rfl (ty0 := .int) (by decide +kernel) rfl rfl dX6_ends_85 rfl (Nat.le_of_ble_eq_true rfl) ?_
    refine x_heap (h2 := HH P Hs T L S V (s, bf, sv, cpB bf (cpB past past 29 0 203) 0 (29 * 7) 29, isv, 8) mr mm ml mt) (by rfl) ?_
    refine x_iload_n C dX6_ends_88 rfl ?_
    exact x_iret E .int dX6_ends_89 rfl rfl rfl rfl
def paO (past bf : Nat → Nat) (pm : Nat) (x : Int32) : Nat → Nat := if x < 0 then past else pkP past bf pm
def pmO (pm : Nat) (x : Int32) : Nat := if x < 0 then pm else pkM pm + 1
theorem okX6_endsF {P : qPs} {Hs : qHs} {T : qTs} {L : qLs} {S : qSs} {V : qVs} {mr : qmr} {mm : qmm} {ml : qml} {mt : qmt} {s bf sv past : Nat → Nat} {isv : Bool} {pm : Nat} (hp : pm ≤ 8) (x : Int32) : Ok MX6_ends [.ref 40, .int x] (HH P Hs T L S V (s, bf, sv, past, isv, pm) mr mm ml mt) (some (.int x)) (HH P Hs T L S V (if x < 0 then cpB bf s 0 0 29 else s, bf, sv, paO past bf pm x, isv, pmO pm x) mr mm ml mt) := by
  unfold paO pmO
  by_cases hx : x < 0
  · rw [if_pos hx, if_pos hx, if_pos hx]
    exact okX6_ends_n hx
  · rw [if_neg hx, if_neg hx, if_neg hx]
    obtain ⟨n, hn, rfl⟩ := nI_of hx
    by_cases h8 : pm = 8
    · have h := okX6_ends_p1 (P := P) (Hs := Hs) (T := T) (L := L) (S := S) (V := V) (mr := mr) (mm := mm) (ml := ml) (mt := mt) (s := s) (bf := bf) (sv := sv) (past := past) (isv := isv) h8 hn
      rw [show pkM pm + 1 = 8 by unfold pkM; rw [if_pos h8]]
      exact h
    · rw [show pkM pm + 1 = pm + 1 by unfold pkM; rw [if_neg h8]]
      exact okX6_ends_p0 (by omega) hn
set_option maxHeartbeats 4000000 in
set_option maxRecDepth 100000 in
theorem okX6_doPut_p0 {P : qPs} {Hs : qHs} {T : qTs} {L : qLs} {S : qSs} {V : qVs} {ml : qml} {mt : qmt} {bf sv past : Nat → Nat} {isv : Bool} {pm : Nat} {mm : qmm} {a : qP} (x y : Int32) (hy : isSq y = false) {mr : qmr} : Ok MX6_doPut [.ref 40, .int x, .int y] (HH P Hs T L S V (sF a, bf, sv, past, isv, pm) mr mm ml mt) (some (.int (-1))) (HH P Hs T L S V (sF a, bf, sv, past, isv, pm) mr mm ml mt) := by
  refine ok_of (by decide +kernel) (Nat.zero_le _) (Nat.le_of_ble_eq_true rfl) ?_
  intro X C E
  show Ex X MX6_doPut 0 [(0, .ref 40), (1, .int x), (2, .int y)] [] (HH P Hs T L S V (sF a, bf, sv, past, isv, pm) mr mm ml mt)
  refine x_iload_n C dX6_doPut_0 rfl ?_
  refine x_callS1i C (okX6_isSquare _ _) lkX6_64 miX6_isSquare mtX6_isSquare maX6_isSquare ⟨Nat.le_of_ble_eq_true rfl, Nat.le_of_ble_eq_true rfl⟩ (Nat.le_of_ble_eq_true rfl) dX6_doPut_1 ?_
  rw [hy]
  refine x_if_neB C 9 dX6_doPut_4 (by decide) (fun c4 => ?_) (fun c4 => ?_)
  · cases c4
  · refine x_iconst C (v := (-1)) dX6_doPut_7 (by decide +kernel) ?_
    exact x_iret E .int dX6_doPut_8 rfl rfl rfl rfl
set_option maxHeartbeats 4000000 in
set_option maxRecDepth 100000 in
theorem okX6_doPut_p1 {P : qPs} {Hs : qHs} {T : qTs} {L : qLs} {S : qSs} {V : qVs} {ml : qml} {mt : qmt} {bf sv past : Nat → Nat} {isv : Bool} {pm : Nat} {mm : qmm} {a : qP} {x : Int32} (hx : inB x (nI 1) (nI 7) = false) {i : Nat} (hi : i < 25) {mr : qmr} : Ok MX6_doPut [.ref 40, .int x, .int (nI i)] (HH P Hs T L S V (sF a, bf, sv, past, isv, pm) mr mm ml mt) (some (.int (-2))) (HH P Hs T L S V (sF a, bf, sv, past, isv, pm) mr mm ml mt) := by
  refine ok_of (by decide +kernel) (Nat.zero_le _) (Nat.le_of_ble_eq_true rfl) ?_
  intro X C E
  show Ex X MX6_doPut 0 [(0, .ref 40), (1, .int x), (2, .int (nI i))] [] (HH P Hs T L S V (sF a, bf, sv, past, isv, pm) mr mm ml mt)
  refine x_iload_n C dX6_doPut_0 rfl ?_
  refine x_callS1i C (okX6_isSquare _ _) lkX6_64 miX6_isSquare mtX6_isSquare maX6_isSquare ⟨Nat.le_of_ble_eq_true rfl, Nat.le_of_ble_eq_true rfl⟩ (Nat.le_of_ble_eq_true rfl) dX6_doPut_1 ?_
  rw [isSq_nI (by omega), decide_eq_true hi]
  refine x_if_neB C 9 dX6_doPut_4 (by decide) (fun c4 => ?_) (fun c4 => ?_)
  · refine x_iload_n C dX6_doPut_9 rfl ?_
    refine x_iconst C (v := nI 1) dX6_doPut_10 (by decide +kernel) ?_
    refine x_bipush C (v := nI 7) dX6_doPut_11 (by decide +kernel) ?_
    refine x_callS3i C (okX6_in _ _ _ _) lkX6_60 miX6_in mtX6_in maX6_in ⟨Nat.le_of_ble_eq_true rfl, Nat.le_of_ble_eq_true rfl⟩ (Nat.le_of_ble_eq_true rfl) dX6_doPut_13 ?_
    rw [hx]
    refine x_if_neB C 22 dX6_doPut_16 (by decide) (fun c16 => ?_) (fun c16 => ?_)
    · cases c16
    · refine x_bipush C (v := (-2)) dX6_doPut_19 (by decide +kernel) ?_
      exact x_iret E .int dX6_doPut_21 rfl rfl rfl rfl
  · cases c4
set_option maxHeartbeats 4000000 in
set_option maxRecDepth 100000 in
theorem okX6_doPut_p2 {P : qPs} {Hs : qHs} {T : qTs} {L : qLs} {S : qSs} {V : qVs} {ml : qml} {mt : qmt} {bf sv past : Nat → Nat} {isv : Bool} {pm : Nat} {mm : qmm} {r1 d1 it lo : Int32} {a : qP} (ha : ∀ i, a.1 i < 8) (hu : ∀ v, v = 1 ∨ v = 7 → Uq a.1 v) (hm : menN a.1 ≤ 12) {v i : Nat} (hv1 : 1 ≤ v) (hv7 : v ≤ 7) (hi : i < 25) : Ok MX6_doPut [.ref 40, .int (nI v), .int (nI i)] (HH P Hs T L S V (sF a, bf, sv, past, isv, pm) (r1, d1, it, lo) mm ml mt) (some (.int (putC a v i).1)) (HH P Hs T L S V (sF (putC a v i).2.2, bf, sv, past, isv, pm) (refR (r1, d1, it, lo) (putC a v i).2.1) mm ml mt) := by
  refine ok_of (by decide +kernel) (Nat.zero_le _) (Nat.le_of_ble_eq_true rfl) ?_
  intro X C E
  show Ex X MX6_doPut 0 [(0, .ref 40), (1, .int (nI v)), (2, .int (nI i))] [] (HH P Hs T L S V (sF a, bf, sv, past, isv, pm) (r1, d1, it, lo) mm ml mt)
  have hai := ha i
  have hs := (sF_ag a).lt ha
  refine x_iload_n C dX6_doPut_0 rfl ?_
  refine x_callS1i C (okX6_isSquare _ _) lkX6_64 miX6_isSquare mtX6_isSquare maX6_isSquare ⟨Nat.le_of_ble_eq_true rfl, Nat.le_of_ble_eq_true rfl⟩ (Nat.le_of_ble_eq_true rfl) dX6_doPut_1 ?_
  rw [isSq_nI (by omega), decide_eq_true hi]
  refine x_if_neB C 9 dX6_doPut_4 (by decide) (fun c4 => ?_) (fun c4 => ?_)
  · refine x_iload_n C dX6_doPut_9 rfl ?_
    refine x_iconst C (v := nI 1) dX6_doPut_10 (by decide +kernel) ?_
    refine x_bipush C (v := nI 7) dX6_doPut_11 (by decide +kernel) ?_
    refine x_callS3i C (okX6_in _ _ _ _) lkX6_60 miX6_in mtX6_in maX6_in ⟨Nat.le_of_ble_eq_true rfl, Nat.le_of_ble_eq_true rfl⟩ (Nat.le_of_ble_eq_true rfl) dX6_doPut_13 ?_
    rw [inB_nI (by omega) (by decide) (by decide), decide_eq_true (by omega)]
    refine x_if_neB C 22 dX6_doPut_16 (by decide) (fun c16 => ?_) (fun c16 => ?_)
    · refine x_aload_n C dX6_doPut_22 rfl ?_
      refine x_getfield C qk6 0 (by decide) lfX6_9 dX6_doPut_23 rfl rfl ?_
      refine x_iload_n C dX6_doPut_26 rfl ?_
      refine x_iald C dX6_doPut_27 HM_s (by omega) (by decide) ?_
      refine x_top (congrArg nI (sF_lo hi)) ?_
      refine x_if_leN C 43 dX6_doPut_28 (by decide) (by omega) (fun c28 => ?_) (fun c28 => ?_)
      · refine x_iload_n C dX6_doPut_43 rfl ?_
        refine x_iconst C (v := nI 1) dX6_doPut_44 (by decide +kernel) ?_
        refine x_icmp_eqN C 54 dX6_doPut_45 (by decide) (by omega) (by omega) (fun c45 => ?_) (fun c45 => ?_)
        · refine x_aload_n C dX6_doPut_54 rfl ?_
          refine x_iload_n C dX6_doPut_55 rfl ?_
          refine x_callV1i C (okX6_where hs v (by omega)) lkX6_72 miX6_where msX6_where maX6_where ⟨Nat.le_of_ble_eq_true rfl, Nat.le_of_ble_eq_true rfl⟩ (Nat.le_of_ble_eq_true rfl) rfl rfl dX6_doPut_56 ?_
          rw [whS (sF_ag a) (hu v (by omega))]
          refine x_if_lt C 73 dX6_doPut_59 (by decide) (fun c59 => ?_) (fun c59 => ?_)
          · have c59n := sqI_neg7.mp c59
            have hnk : ¬ (isK v = true ∧ loc7 a.1 v ≠ none) := by
              intro q
              first
                | exact q.2 c59n
                | (have q1 := q.1; unfold isK at q1; rw [Bool.or_eq_true, decide_eq_true_eq, decide_eq_true_eq] at q1; omega)
            refine x_aload_n C dX6_doPut_73 rfl ?_
            refine x_callV0i C (okX6_men hs) lkX6_76 miX6_men msX6_men maX6_men ⟨Nat.le_of_ble_eq_true rfl, Nat.le_of_ble_eq_true rfl⟩ (Nat.le_of_ble_eq_true rfl) rfl rfl dX6_doPut_74 ?_
            rw [menS (sF_ag a) ha]
            refine x_bipush C (v := nI 12) dX6_doPut_77 (by decide +kernel) ?_
            refine x_icmp_neN C 90 dX6_doPut_79 (by decide) (by omega) (by omega) (fun c79 => ?_) (fun c79 => ?_)
            · have e1 : putC a v i = (nI (menN (up a.1 i v)), none, (up a.1 i v, a.2)) := by unfold putC; rw [if_neg (by omega), if_neg hnk, if_neg (by omega)]
              refine x_aload_n C dX6_doPut_90 rfl ?_
              refine x_getfield C qk6 0 (by decide) lfX6_9 dX6_doPut_91 rfl rfl ?_
              refine x_iload_n C dX6_doPut_94 rfl ?_
              refine x_iload_n C dX6_doPut_95 rfl ?_
              refine x_istb C dX6_doPut_96 HM_s (by omega) (by decide) ?_
              refine x_heap HS_s ?_
              rw [sF_up v hi]
              refine x_aload_n C dX6_doPut_97 rfl ?_
              refine x_callV0i C (okX6_men ((sF_ag (up a.1 i v, a.2)).lt (up_lt ha (by omega)))) lkX6_76 miX6_men msX6_men maX6_men ⟨Nat.le_of_ble_eq_true rfl, Nat.le_of_ble_eq_true rfl⟩ (Nat.le_of_ble_eq_true rfl) rfl rfl dX6_doPut_98 ?_
              rw [menS (sF_ag (up a.1 i v, a.2)) (up_lt ha (by omega))]
              exact x_iret E .int dX6_doPut_101 rfl rfl (by rw [e1]) (by rw [e1]; rfl)
            · have e1 : putC a v i = (-3, some (nI 3, nI 12), a) := by unfold putC; rw [if_neg (by omega), if_neg hnk, if_pos (by omega)]
              refine x_aload_n C dX6_doPut_82 rfl ?_
              refine x_iconst C (v := nI 3) dX6_doPut_83 (by decide +kernel) ?_
              refine x_bipush C (v := nI 12) dX6_doPut_84 (by decide +kernel) ?_
              refine x_callV2i C (okX6_refuse _ _) lkX6_68 miX6_refuse msX6_refuse maX6_refuse ⟨Nat.le_of_ble_eq_true rfl, Nat.le_of_ble_eq_true rfl⟩ (Nat.le_of_ble_eq_true rfl) rfl rfl dX6_doPut_86 ?_
              exact x_iret E .int dX6_doPut_89 rfl rfl (by rw [e1]) (by rw [e1]; rfl)
          · have c59s : loc7 a.1 v ≠ none := fun z => c59 (sqI_neg7.mpr z)
            have e1 : putC a v i = (-3, some (nI 2, sqI (loc7 a.1 v)), a) := by unfold putC; rw [if_neg (by omega), if_pos ⟨by unfold isK; rw [Bool.or_eq_true, decide_eq_true_eq, decide_eq_true_eq]; omega, c59s⟩]
            refine x_aload_n C dX6_doPut_62 rfl ?_
            refine x_iconst C (v := nI 2) dX6_doPut_63 (by decide +kernel) ?_
            refine x_aload_n C dX6_doPut_64 rfl ?_
            refine x_iload_n C dX6_doPut_65 rfl ?_
            refine x_callV1i C (okX6_where hs v (by omega)) lkX6_72 miX6_where msX6_where maX6_where ⟨Nat.le_of_ble_eq_true rfl, Nat.le_of_ble_eq_true rfl⟩ (Nat.le_of_ble_eq_true rfl) rfl rfl dX6_doPut_66 ?_
            rw [whS (sF_ag a) (hu v (by omega))]
            refine x_callV2i C (okX6_refuse _ _) lkX6_68 miX6_refuse msX6_refuse maX6_refuse ⟨Nat.le_of_ble_eq_true rfl, Nat.le_of_ble_eq_true rfl⟩ (Nat.le_of_ble_eq_true rfl) rfl rfl dX6_doPut_69 ?_
            exact x_iret E .int dX6_doPut_72 rfl rfl (by rw [e1]) (by rw [e1]; rfl)
        · refine x_iload_n C dX6_doPut_48 rfl ?_
          refine x_bipush C (v := nI 7) dX6_doPut_49 (by decide +kernel) ?_
          refine x_icmp_neN C 73 dX6_doPut_51 (by decide) (by omega) (by omega) (fun c51 => ?_) (fun c51 => ?_)
          · have hnk : ¬ (isK v = true ∧ loc7 a.1 v ≠ none) := by
              intro q
              first
                | exact q.2 c59n
                | (have q1 := q.1; unfold isK at q1; rw [Bool.or_eq_true, decide_eq_true_eq, decide_eq_true_eq] at q1; omega)
            refine x_aload_n C dX6_doPut_73 rfl ?_
            refine x_callV0i C (okX6_men hs) lkX6_76 miX6_men msX6_men maX6_men ⟨Nat.le_of_ble_eq_true rfl, Nat.le_of_ble_eq_true rfl⟩ (Nat.le_of_ble_eq_true rfl) rfl rfl dX6_doPut_74 ?_
            rw [menS (sF_ag a) ha]
            refine x_bipush C (v := nI 12) dX6_doPut_77 (by decide +kernel) ?_
            refine x_icmp_neN C 90 dX6_doPut_79 (by decide) (by omega) (by omega) (fun c79 => ?_) (fun c79 => ?_)
            · have e1 : putC a v i = (nI (menN (up a.1 i v)), none, (up a.1 i v, a.2)) := by unfold putC; rw [if_neg (by omega), if_neg hnk, if_neg (by omega)]
              refine x_aload_n C dX6_doPut_90 rfl ?_
              refine x_getfield C qk6 0 (by decide) lfX6_9 dX6_doPut_91 rfl rfl ?_
              refine x_iload_n C dX6_doPut_94 rfl ?_
              refine x_iload_n C dX6_doPut_95 rfl ?_
              refine x_istb C dX6_doPut_96 HM_s (by omega) (by decide) ?_
              refine x_heap HS_s ?_
              rw [sF_up v hi]
              refine x_aload_n C dX6_doPut_97 rfl ?_
              refine x_callV0i C (okX6_men ((sF_ag (up a.1 i v, a.2)).lt (up_lt ha (by omega)))) lkX6_76 miX6_men msX6_men maX6_men ⟨Nat.le_of_ble_eq_true rfl, Nat.le_of_ble_eq_true rfl⟩ (Nat.le_of_ble_eq_true rfl) rfl rfl dX6_doPut_98 ?_
              rw [menS (sF_ag (up a.1 i v, a.2)) (up_lt ha (by omega))]
              exact x_iret E .int dX6_doPut_101 rfl rfl (by rw [e1]) (by rw [e1]; rfl)
            · have e1 : putC a v i = (-3, some (nI 3, nI 12), a) := by unfold putC; rw [if_neg (by omega), if_neg hnk, if_pos (by omega)]
              refine x_aload_n C dX6_doPut_82 rfl ?_
              refine x_iconst C (v := nI 3) dX6_doPut_83 (by decide +kernel) ?_
              refine x_bipush C (v := nI 12) dX6_doPut_84 (by decide +kernel) ?_
              refine x_callV2i C (okX6_refuse _ _) lkX6_68 miX6_refuse msX6_refuse maX6_refuse ⟨Nat.le_of_ble_eq_true rfl, Nat.le_of_ble_eq_true rfl⟩ (Nat.le_of_ble_eq_true rfl) rfl rfl dX6_doPut_86 ?_
              exact x_iret E .int dX6_doPut_89 rfl rfl (by rw [e1]) (by rw [e1]; rfl)
          · refine x_aload_n C dX6_doPut_54 rfl ?_
            refine x_iload_n C dX6_doPut_55 rfl ?_
            refine x_callV1i C (okX6_where hs v (by omega)) lkX6_72 miX6_where msX6_where maX6_where ⟨Nat.le_of_ble_eq_true rfl, Nat.le_of_ble_eq_true rfl⟩ (Nat.le_of_ble_eq_true rfl) rfl rfl dX6_doPut_56 ?_
            rw [whS (sF_ag a) (hu v (by omega))]
            refine x_if_lt C 73 dX6_doPut_59 (by decide) (fun c59 => ?_) (fun c59 => ?_)
            · have c59n := sqI_neg7.mp c59
              have hnk : ¬ (isK v = true ∧ loc7 a.1 v ≠ none) := by
                intro q
                first
                  | exact q.2 c59n
                  | (have q1 := q.1; unfold isK at q1; rw [Bool.or_eq_true, decide_eq_true_eq, decide_eq_true_eq] at q1; omega)
              refine x_aload_n C dX6_doPut_73 rfl ?_
              refine x_callV0i C (okX6_men hs) lkX6_76 miX6_men msX6_men maX6_men ⟨Nat.le_of_ble_eq_true rfl, Nat.le_of_ble_eq_true rfl⟩ (Nat.le_of_ble_eq_true rfl) rfl rfl dX6_doPut_74 ?_
              rw [menS (sF_ag a) ha]
              refine x_bipush C (v := nI 12) dX6_doPut_77 (by decide +kernel) ?_
              refine x_icmp_neN C 90 dX6_doPut_79 (by decide) (by omega) (by omega) (fun c79 => ?_) (fun c79 => ?_)
              · have e1 : putC a v i = (nI (menN (up a.1 i v)), none, (up a.1 i v, a.2)) := by unfold putC; rw [if_neg (by omega), if_neg hnk, if_neg (by omega)]
                refine x_aload_n C dX6_doPut_90 rfl ?_
                refine x_getfield C qk6 0 (by decide) lfX6_9 dX6_doPut_91 rfl rfl ?_
                refine x_iload_n C dX6_doPut_94 rfl ?_
                refine x_iload_n C dX6_doPut_95 rfl ?_
                refine x_istb C dX6_doPut_96 HM_s (by omega) (by decide) ?_
                refine x_heap HS_s ?_
                rw [sF_up v hi]
                refine x_aload_n C dX6_doPut_97 rfl ?_
                refine x_callV0i C (okX6_men ((sF_ag (up a.1 i v, a.2)).lt (up_lt ha (by omega)))) lkX6_76 miX6_men msX6_men maX6_men ⟨Nat.le_of_ble_eq_true rfl, Nat.le_of_ble_eq_true rfl⟩ (Nat.le_of_ble_eq_true rfl) rfl rfl dX6_doPut_98 ?_
                rw [menS (sF_ag (up a.1 i v, a.2)) (up_lt ha (by omega))]
                exact x_iret E .int dX6_doPut_101 rfl rfl (by rw [e1]) (by rw [e1]; rfl)
              · have e1 : putC a v i = (-3, some (nI 3, nI 12), a) := by unfold putC; rw [if_neg (by omega), if_neg hnk, if_pos (by omega)]
                refine x_aload_n C dX6_doPut_82 rfl ?_
                refine x_iconst C (v := nI 3) dX6_doPut_83 (by decide +kernel) ?_
                refine x_bipush C (v := nI 12) dX6_doPut_84 (by decide +kernel) ?_
                refine x_callV2i C (okX6_refuse _ _) lkX6_68 miX6_refuse msX6_refuse maX6_refuse ⟨Nat.le_of_ble_eq_true rfl, Nat.le_of_ble_eq_true rfl⟩ (Nat.le_of_ble_eq_true rfl) rfl rfl dX6_doPut_86 ?_
                exact x_iret E .int dX6_doPut_89 rfl rfl (by rw [e1]) (by rw [e1]; rfl)
            · have c59s : loc7 a.1 v ≠ none := fun z => c59 (sqI_neg7.mpr z)
              have e1 : putC a v i = (-3, some (nI 2, sqI (loc7 a.1 v)), a) := by unfold putC; rw [if_neg (by omega), if_pos ⟨by unfold isK; rw [Bool.or_eq_true, decide_eq_true_eq, decide_eq_true_eq]; omega, c59s⟩]
              refine x_aload_n C dX6_doPut_62 rfl ?_
              refine x_iconst C (v := nI 2) dX6_doPut_63 (by decide +kernel) ?_
              refine x_aload_n C dX6_doPut_64 rfl ?_
              refine x_iload_n C dX6_doPut_65 rfl ?_
              refine x_callV1i C (okX6_where hs v (by omega)) lkX6_72 miX6_where msX6_where maX6_where ⟨Nat.le_of_ble_eq_true rfl, Nat.le_of_ble_eq_true rfl⟩ (Nat.le_of_ble_eq_true rfl) rfl rfl dX6_doPut_66 ?_
              rw [whS (sF_ag a) (hu v (by omega))]
              refine x_callV2i C (okX6_refuse _ _) lkX6_68 miX6_refuse msX6_refuse maX6_refuse ⟨Nat.le_of_ble_eq_true rfl, Nat.le_of_ble_eq_true rfl⟩ (Nat.le_of_ble_eq_true rfl) rfl rfl dX6_doPut_69 ?_
              exact x_iret E .int dX6_doPut_72 rfl rfl (by rw [e1]) (by rw [e1]; rfl)
      · have e1 : putC a v i = (-3, some (nI 1, nI (a.1 i)), a) := by unfold putC; rw [if_pos (by omega)]
        refine x_aload_n C dX6_doPut_31 rfl ?_
        refine x_iconst C (v := nI 1) dX6_doPut_32 (by decide +kernel) ?_
        refine x_aload_n C dX6_doPut_33 rfl ?_
        refine x_getfield C qk6 0 (by decide) lfX6_9 dX6_doPut_34 rfl rfl ?_
        refine x_iload_n C dX6_doPut_37 rfl ?_
        refine x_iald C dX6_doPut_38 HM_s (by omega) (by decide) ?_
        refine x_top (congrArg nI (sF_lo hi)) ?_
        refine x_callV2i C (okX6_refuse _ _) lkX6_68 miX6_refuse msX6_refuse maX6_refuse ⟨Nat.le_of_ble_eq_true rfl, Nat.le_of_ble_eq_true rfl⟩ (Nat.le_of_ble_eq_true rfl) rfl rfl dX6_doPut_39 ?_
        exact x_iret E .int dX6_doPut_42 rfl rfl (by rw [e1]) (by rw [e1]; rfl)
    · cases c16
  · cases c4
set_option maxHeartbeats 4000000 in
set_option maxRecDepth 100000 in
theorem okX6_doLift_p0 {P : qPs} {Hs : qHs} {T : qTs} {L : qLs} {S : qSs} {V : qVs} {ml : qml} {mt : qmt} {bf sv past : Nat → Nat} {isv : Bool} {pm : Nat} {mm : qmm} {a : qP} (y : Int32) (hy : isSq y = false) {mr : qmr} : Ok MX6_doLift [.ref 40, .int y] (HH P Hs T L S V (sF a, bf, sv, past, isv, pm) mr mm ml mt) (some (.int (-1))) (HH P Hs T L S V (sF a, bf, sv, past, isv, pm) mr mm ml mt) := by
  refine ok_of (by decide +kernel) (Nat.zero_le _) (Nat.le_of_ble_eq_true rfl) ?_
  intro X C E
  show Ex X MX6_doLift 0 [(0, .ref 40), (1, .int y)] [] (HH P Hs T L S V (sF a, bf, sv, past, isv, pm) mr mm ml mt)
  refine x_iload_n C dX6_doLift_0 rfl ?_
  refine x_callS1i C (okX6_isSquare _ _) lkX6_64 miX6_isSquare mtX6_isSquare maX6_isSquare ⟨Nat.le_of_ble_eq_true rfl, Nat.le_of_ble_eq_true rfl⟩ (Nat.le_of_ble_eq_true rfl) dX6_doLift_1 ?_
  rw [hy]
  refine x_if_neB C 9 dX6_doLift_4 (by decide) (fun c4 => ?_) (fun c4 => ?_)
  · cases c4
  · refine x_iconst C (v := (-1)) dX6_doLift_7 (by decide +kernel) ?_
    exact x_iret E .int dX6_doLift_8 rfl rfl rfl rfl
set_option maxHeartbeats 4000000 in
set_option maxRecDepth 100000 in
theorem okX6_doLift_p1 {P : qPs} {Hs : qHs} {T : qTs} {L : qLs} {S : qSs} {V : qVs} {ml : qml} {mt : qmt} {bf sv past : Nat → Nat} {isv : Bool} {pm : Nat} {mm : qmm} {r1 d1 it lo : Int32} {a : qP} (ha : ∀ i, a.1 i < 8) {i : Nat} (hi : i < 25) : Ok MX6_doLift [.ref 40, .int (nI i)] (HH P Hs T L S V (sF a, bf, sv, past, isv, pm) (r1, d1, it, lo) mm ml mt) (some (.int (liftC a i).1)) (HH P Hs T L S V (sF (liftC a i).2.2, bf, sv, past, isv, pm) (refR (r1, d1, it, lo) (liftC a i).2.1) mm ml mt) := by
  refine ok_of (by decide +kernel) (Nat.zero_le _) (Nat.le_of_ble_eq_true rfl) ?_
  intro X C E
  show Ex X MX6_doLift 0 [(0, .ref 40), (1, .int (nI i))] [] (HH P Hs T L S V (sF a, bf, sv, past, isv, pm) (r1, d1, it, lo) mm ml mt)
  have hai := ha i
  refine x_iload_n C dX6_doLift_0 rfl ?_
  refine x_callS1i C (okX6_isSquare _ _) lkX6_64 miX6_isSquare mtX6_isSquare maX6_isSquare ⟨Nat.le_of_ble_eq_true rfl, Nat.le_of_ble_eq_true rfl⟩ (Nat.le_of_ble_eq_true rfl) dX6_doLift_1 ?_
  rw [isSq_nI (by omega), decide_eq_true hi]
  refine x_if_neB C 9 dX6_doLift_4 (by decide) (fun c4 => ?_) (fun c4 => ?_)
  · refine x_aload_n C dX6_doLift_9 rfl ?_
    refine x_getfield C qk6 0 (by decide) lfX6_9 dX6_doLift_10 rfl rfl ?_
    refine x_iload_n C dX6_doLift_13 rfl ?_
    refine x_iald C dX6_doLift_14 HM_s (by omega) (by decide) ?_
    refine x_top (congrArg nI (sF_lo hi)) ?_
    refine x_istore_n C dX6_doLift_15 (by decide) [(2, _), (0, _), (1, _)] rfl ?_
    refine x_iload_n C dX6_doLift_16 rfl ?_
    refine x_if_neN C 27 dX6_doLift_17 (by decide) (by omega) (fun c17 => ?_) (fun c17 => ?_)
    · have e1 : liftC a i = (nI (a.1 i), none, (up a.1 i 0, a.2)) := by unfold liftC; rw [if_neg c17]
      refine x_aload_n C dX6_doLift_27 rfl ?_
      refine x_getfield C qk6 0 (by decide) lfX6_9 dX6_doLift_28 rfl rfl ?_
      refine x_iload_n C dX6_doLift_31 rfl ?_
      refine x_iconst C (v := nI 0) dX6_doLift_32 (by decide +kernel) ?_
      refine x_istb C dX6_doLift_33 HM_s (by omega) (by decide) ?_
      refine x_heap HS_s ?_
      rw [sF_up 0 hi]
      refine x_iload_n C dX6_doLift_34 rfl ?_
      exact x_iret E .int dX6_doLift_35 rfl rfl (by rw [e1]) (by rw [e1]; rfl)
    · have e1 : liftC a i = (-3, some (nI 4, nI i), a) := by unfold liftC; rw [if_pos c17]
      refine x_aload_n C dX6_doLift_20 rfl ?_
      refine x_iconst C (v := nI 4) dX6_doLift_21 (by decide +kernel) ?_
      refine x_iload_n C dX6_doLift_22 rfl ?_
      refine x_callV2i C (okX6_refuse _ _) lkX6_68 miX6_refuse msX6_refuse maX6_refuse ⟨Nat.le_of_ble_eq_true rfl, Nat.le_of_ble_eq_true rfl⟩ (Nat.le_of_ble_eq_true rfl) rfl rfl dX6_doLift_23 ?_
      exact x_iret E .int dX6_doLift_26 rfl rfl (by rw [e1]) (by rw [e1]; rfl)
  · cases c4
set_option maxHeartbeats 4000000 in
set_option maxRecDepth 100000 in
theorem okX6_doPlay_p0 {P : qPs} {Hs : qHs} {T : qTs} {L : qLs} {S : qSs} {V : qVs} {ml : qml} {mt : qmt} {bf sv past : Nat → Nat} {isv : Bool} {pm : Nat} {mm : qmm} {a : qP} {x y : Int32} (hx : isSq x = false ∨ isSq y = false) {mr : qmr} : Ok MX6_doPlay [.ref 40, .int x, .int y] (HH P Hs T L S V (sF a, bf, sv, past, isv, pm) mr mm ml mt) (some (.int (-1))) (HH P Hs T L S V (sF a, bf, sv, past, isv, pm) mr mm ml mt) := by
  refine ok_of (by decide +kernel) (Nat.zero_le _) (Nat.le_of_ble_eq_true rfl) ?_
  intro X C E
  show Ex X MX6_doPlay 0 [(0, .ref 40), (1, .int x), (2, .int y)] [] (HH P Hs T L S V (sF a, bf, sv, past, isv, pm) mr mm ml mt)
  refine x_aload_n C dX6_doPlay_0 rfl ?_
  refine x_iload_n C dX6_doPlay_1 rfl ?_
  refine x_iload_n C dX6_doPlay_2 rfl ?_
  refine x_callV2i C (okX6_areSquares_out hx _) lkX6_149 miX6_areSquares msX6_areSquares maX6_areSquares ⟨Nat.le_of_ble_eq_true rfl, Nat.le_of_ble_eq_true rfl⟩ (Nat.le_of_ble_eq_true rfl) rfl rfl dX6_doPlay_3 ?_
  refine x_if_neN C 11 dX6_doPlay_6 (by decide) (by omega) (fun c6 => ?_) (fun c6 => ?_)
  · exact absurd rfl c6
  · refine x_iconst C (v := (-1)) dX6_doPlay_9 (by decide +kernel) ?_
    exact x_iret E .int dX6_doPlay_10 rfl rfl rfl rfl
theorem mov_self {b : Nat → Nat} (hb : ∀ i, b i < 8) {j : Nat} (hj : j < 25) : movP b j j = false := by
  cases e : movP b j j
  · rfl
  · obtain ⟨h1, -, h3, -⟩ := (movP_iff hb hj).mp e
    unfold isW at h1
    rw [Bool.and_eq_true, decide_eq_true_eq, decide_eq_true_eq] at h1
    omega
set_option maxHeartbeats 4000000 in
set_option maxRecDepth 100000 in
theorem okX6_doPlay_p1 {P : qPs} {Hs : qHs} {T : qTs} {L : qLs} {S : qSs} {V : qVs} {ml : qml} {mt : qmt} {bf sv past : Nat → Nat} {isv : Bool} {pm : Nat} {mm : qmm} {r1 d1 it lo : Int32} {a : qP} (ha : ∀ i, a.1 i < 8) (hu : Uq a.1 7) {i j : Nat} (hi : i < 25) (hj : j < 25) : Ok MX6_doPlay [.ref 40, .int (nI i), .int (nI j)] (HH P Hs T L S V (sF a, bf, sv, past, isv, pm) (r1, d1, it, lo) mm ml mt) (some (.int (playC a i j).1)) (HH P Hs T L S V (sF (playC a i j).2.2, bf, sv, past, isv, pm) (refR (r1, d1, it, lo) (playC a i j).2.1) mm ml mt) := by
  refine ok_of (by decide +kernel) (Nat.zero_le _) (Nat.le_of_ble_eq_true rfl) ?_
  intro X C E
  show Ex X MX6_doPlay 0 [(0, .ref 40), (1, .int (nI i)), (2, .int (nI j))] [] (HH P Hs T L S V (sF a, bf, sv, past, isv, pm) (r1, d1, it, lo) mm ml mt)
  have hai := ha i
  have haj := ha j
  refine x_aload_n C dX6_doPlay_0 rfl ?_
  refine x_iload_n C dX6_doPlay_1 rfl ?_
  refine x_iload_n C dX6_doPlay_2 rfl ?_
  refine x_callV2i C (okX6_areSquares_in hi hj _) lkX6_149 miX6_areSquares msX6_areSquares maX6_areSquares ⟨Nat.le_of_ble_eq_true rfl, Nat.le_of_ble_eq_true rfl⟩ (Nat.le_of_ble_eq_true rfl) rfl rfl dX6_doPlay_3 ?_
  refine x_if_neN C 11 dX6_doPlay_6 (by decide) (by omega) (fun c6 => ?_) (fun c6 => ?_)
  · refine x_aload_n C dX6_doPlay_11 rfl ?_
    refine x_getfield C qk6 0 (by decide) lfX6_9 dX6_doPlay_12 rfl rfl ?_
    refine x_iload_n C dX6_doPlay_15 rfl ?_
    refine x_iald C dX6_doPlay_16 HM_s (by omega) (by decide) ?_
    refine x_top (congrArg nI (sF_lo hi)) ?_
    refine x_if_neN C 27 dX6_doPlay_17 (by decide) (by omega) (fun c17 => ?_) (fun c17 => ?_)
    · refine x_aload_n C dX6_doPlay_27 rfl ?_
      refine x_iload_n C dX6_doPlay_28 rfl ?_
      refine x_iload_n C dX6_doPlay_29 rfl ?_
      refine x_callV2i C (okX6_isMove ha (sF_ag a) hu hi hj) lkX6_117 miX6_isMove msX6_isMove maX6_isMove ⟨Nat.le_of_ble_eq_true rfl, Nat.le_of_ble_eq_true rfl⟩ (Nat.le_of_ble_eq_true rfl) rfl rfl dX6_doPlay_30 ?_
      refine x_if_neB C 48 dX6_doPlay_33 (by decide) (fun c33 => ?_) (fun c33 => ?_)
      · have e1 : playC a i j = (nI (a.1 j), none, (aft a.1 i j, a.2.1 + 1, a.2.2.1 + (if a.1 j = 6 then 1 else 0), a.2.2.2)) := by unfold playC; rw [if_neg c17, if_neg (by rw [c33]; decide)]
        have hij : i ≠ j := fun e => by rw [e] at c33; exact absurd c33 (by rw [mov_self ha hj]; decide)
        have haf : up (up a.1 j (a.1 i)) i 0 = aft a.1 i j := up_comm a.1 _ _ (Ne.symm hij)
        refine x_aload_n C dX6_doPlay_48 rfl ?_
        refine x_getfield C qk6 0 (by decide) lfX6_9 dX6_doPlay_49 rfl rfl ?_
        refine x_iload_n C dX6_doPlay_52 rfl ?_
        refine x_iald C dX6_doPlay_53 HM_s (by omega) (by decide) ?_
        refine x_top (congrArg nI (sF_lo hj)) ?_
        refine x_istore_n C dX6_doPlay_54 (by decide) [(3, _), (0, _), (1, _), (2, _)] rfl ?_
        refine x_aload_n C dX6_doPlay_55 rfl ?_
        refine x_getfield C qk6 0 (by decide) lfX6_9 dX6_doPlay_56 rfl rfl ?_
        refine x_iload_n C dX6_doPlay_59 rfl ?_
        refine x_aload_n C dX6_doPlay_60 rfl ?_
        refine x_getfield C qk6 0 (by decide) lfX6_9 dX6_doPlay_61 rfl rfl ?_
        refine x_iload_n C dX6_doPlay_64 rfl ?_
        refine x_iald C dX6_doPlay_65 HM_s (by omega) (by decide) ?_
        refine x_top (congrArg nI (sF_lo hi)) ?_
        refine x_istb C dX6_doPlay_66 HM_s (by omega) (by decide) ?_
        refine x_heap HS_s ?_
        rw [sF_up _ hj]
        refine x_aload_n C dX6_doPlay_67 rfl ?_
        refine x_getfield C qk6 0 (by decide) lfX6_9 dX6_doPlay_68 rfl rfl ?_
        refine x_iload_n C dX6_doPlay_71 rfl ?_
        refine x_iconst C (v := nI 0) dX6_doPlay_72 (by decide +kernel) ?_
        refine x_istb C dX6_doPlay_73 HM_s (by omega) (by decide) ?_
        refine x_heap HS_s ?_
        rw [sF_up 0 hi, show (up (up a.1 j (a.1 i)) i 0, a.2) = (aft a.1 i j, a.2) by rw [haf]]
        refine x_aload_n C dX6_doPlay_74 rfl ?_
        refine x_getfield C qk6 0 (by decide) lfX6_9 dX6_doPlay_75 rfl rfl ?_
        refine x_bipush C (v := nI 25) dX6_doPlay_78 (by decide +kernel) ?_
        refine x_dup2 C rfl rfl dX6_doPlay_80 ?_
        refine x_iald C dX6_doPlay_81 HM_s (by decide) (by decide) ?_
        refine x_top (show nb (sF (aft a.1 i j, a.2)) 25 = nI a.2.1 from rfl) ?_
        refine x_iconst C (v := nI 1) dX6_doPlay_82 (by decide +kernel) ?_
        refine x_iaddN C dX6_doPlay_83 ?_
        refine x_istb C dX6_doPlay_84 HM_s (by decide) (by decide) ?_
        refine x_heap HS_s ?_
        rw [sF_u25]
        show Ex X MX6_doPlay _ _ _ (HH P Hs T L S V (sF (aft a.1 i j, a.2.1 + 1, a.2.2), bf, sv, past, isv, pm) _ _ _ _)
        refine x_aload_n C dX6_doPlay_85 rfl ?_
        refine x_getfield C qk6 0 (by decide) lfX6_9 dX6_doPlay_86 rfl rfl ?_
        refine x_bipush C (v := nI 26) dX6_doPlay_89 (by decide +kernel) ?_
        refine x_dup2 C rfl rfl dX6_doPlay_91 ?_
        refine x_iald C dX6_doPlay_92 HM_s (by decide) (by decide) ?_
        refine x_top (show nb (sF (aft a.1 i j, a.2.1 + 1, a.2.2)) 26 = nI a.2.2.1 from rfl) ?_
        refine x_iload_n C dX6_doPlay_93 rfl ?_
        refine x_bipush C (v := nI 6) dX6_doPlay_94 (by decide +kernel) ?_
        refine x_icmp_neN C 103 dX6_doPlay_96 (by decide) (by omega) (by omega) (fun c96 => ?_) (fun c96 => ?_)
        · refine x_iconst C (v := nI 0) dX6_doPlay_103 (by decide +kernel) ?_
          refine x_iaddN C dX6_doPlay_104 ?_
          refine x_istb C dX6_doPlay_105 HM_s (by decide) (by decide) ?_
          refine x_heap HS_s ?_
          rw [sF_u26]
          refine x_iload_n C dX6_doPlay_106 rfl ?_
          exact x_iret E .int dX6_doPlay_107 rfl rfl (by rw [e1]) (by rw [e1, if_neg c96]; rfl)
        · refine x_iconst C (v := nI 1) dX6_doPlay_99 (by decide +kernel) ?_
          refine x_goto C 104 dX6_doPlay_100 (by decide) ?_
          refine x_iaddN C dX6_doPlay_104 ?_
          refine x_istb C dX6_doPlay_105 HM_s (by decide) (by decide) ?_
          refine x_heap HS_s ?_
          rw [sF_u26]
          refine x_iload_n C dX6_doPlay_106 rfl ?_
          exact x_iret E .int dX6_doPlay_107 rfl rfl (by rw [e1]) (by rw [e1, if_pos c96]; rfl)
      · have e1 : playC a i j = (-3, some (nI 5, nI (a.1 i)), a) := by unfold playC; rw [if_neg c17, if_pos c33]
        refine x_aload_n C dX6_doPlay_36 rfl ?_
        refine x_iconst C (v := nI 5) dX6_doPlay_37 (by decide +kernel) ?_
        refine x_aload_n C dX6_doPlay_38 rfl ?_
        refine x_getfield C qk6 0 (by decide) lfX6_9 dX6_doPlay_39 rfl rfl ?_
        refine x_iload_n C dX6_doPlay_42 rfl ?_
        refine x_iald C dX6_doPlay_43 HM_s (by omega) (by decide) ?_
        refine x_top (congrArg nI (sF_lo hi)) ?_
        refine x_callV2i C (okX6_refuse _ _) lkX6_68 miX6_refuse msX6_refuse maX6_refuse ⟨Nat.le_of_ble_eq_true rfl, Nat.le_of_ble_eq_true rfl⟩ (Nat.le_of_ble_eq_true rfl) rfl rfl dX6_doPlay_44 ?_
        exact x_iret E .int dX6_doPlay_47 rfl rfl (by rw [e1]) (by rw [e1]; rfl)
    · have e1 : playC a i j = (-3, some (nI 4, nI i), a) := by unfold playC; rw [if_pos c17]
      refine x_aload_n C dX6_doPlay_20 rfl ?_
      refine x_iconst C (v := nI 4) dX6_doPlay_21 (by decide +kernel) ?_
      refine x_iload_n C dX6_doPlay_22 rfl ?_
      refine x_callV2i C (okX6_refuse _ _) lkX6_68 miX6_refuse msX6_refuse maX6_refuse ⟨Nat.le_of_ble_eq_true rfl, Nat.le_of_ble_eq_true rfl⟩ (Nat.le_of_ble_eq_true rfl) rfl rfl dX6_doPlay_23 ?_
      exact x_iret E .int dX6_doPlay_26 rfl rfl (by rw [e1]) (by rw [e1]; rfl)
  · exact absurd c6 (by decide)
