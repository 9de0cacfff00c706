/-! the changes, further: turn, mirror, what can be spared, thrift; all moves, flights, the order -/

def trR (dst : Nat → Nat) (b0 b : Nat → Nat) : Nat → (Nat → Nat)
  | 0 => b0
  | n + 1 => up (trR dst b0 b n) (dst n) (b n)
def dstT (i : Nat) : Nat := (4 - i % 5) * 5 + i / 5
def dstM (i : Nat) : Nat := i / 5 * 5 + 5 - 1 - i % 5
theorem dstT_lt {i : Nat} (h : i < 25) : dstT i < 25 := by unfold dstT; omega
theorem dstM_lt {i : Nat} (h : i < 25) : dstM i < 25 := by unfold dstM; omega
theorem trR_Bd {dst : Nat → Nat} (hd : ∀ i, i < 25 → dst i < 25) {b0 b : Nat → Nat} (h0 : Bd b0) (h : Bd b) : ∀ n, n ≤ 25 → Bd (trR dst b0 b n)
  | 0, _ => h0
  | n + 1, hn => (trR_Bd hd h0 h n (by omega)).up (hd n (by omega)) (h.1 n)
def turnF (dst : Nat → Nat) (a : qP) : qOut := (nI (menN (trR dst a.1 a.1 25)), none, (trR dst a.1 a.1 25, a.2.1, a.2.2.1, a.2.2.2.1, a.2.2.2.2 + 1))
theorem PosF_now {a b c d : qP} {Hs : qHs} {T : qTs} {L : qLs} {S : qSs} {V : qVs} {ms : qms} {mr : qmr} {mm : qmm} {ml : qml} {mt : qmt} : PosF (HH (a, b, c, d) Hs T L S V ms mr mm ml mt) 1 a := ⟨rfl, rfl⟩
theorem PosF_before {a b c d : qP} {Hs : qHs} {T : qTs} {L : qLs} {S : qSs} {V : qVs} {ms : qms} {mr : qmr} {mm : qmm} {ml : qml} {mt : qmt} : PosF (HH (a, b, c, d) Hs T L S V ms mr mm ml mt) 3 b := ⟨rfl, rfl⟩
theorem PosF_trial {a b c d : qP} {Hs : qHs} {T : qTs} {L : qLs} {S : qSs} {V : qVs} {ms : qms} {mr : qmr} {mm : qmm} {ml : qml} {mt : qmt} : PosF (HH (a, b, c, d) Hs T L S V ms mr mm ml mt) 5 c := ⟨rfl, rfl⟩
theorem PosF_saved {a b c d : qP} {Hs : qHs} {T : qTs} {L : qLs} {S : qSs} {V : qVs} {ms : qms} {mr : qmr} {mm : qmm} {ml : qml} {mt : qmt} : PosF (HH (a, b, c, d) Hs T L S V ms mr mm ml mt) 7 d := ⟨rfl, rfl⟩
theorem TabA_m {P : qPs} {Hs : qHs} {T : qTs} {L : qLs} {S : qSs} {V : qVs} {ms : qms} {mr : qmr} {mm : qmm} {ml : qml} {mt : qmt} : TabA (HH P Hs T L S V ms mr mm ml mt) 27 T.1 := ⟨rfl, rfl⟩
theorem TabA_k {P : qPs} {Hs : qHs} {T : qTs} {L : qLs} {S : qSs} {V : qVs} {ms : qms} {mr : qmr} {mm : qmm} {ml : qml} {mt : qmt} : TabA (HH P Hs T L S V ms mr mm ml mt) 29 T.2.1 := ⟨rfl, rfl⟩
set_option maxHeartbeats 4000000 in
set_option maxRecDepth 100000 in
theorem okX5_turnNow {a b c d : qP} {Hs : qHs} {T : qTs} {L : qLs} {S : qSs} {V : qVs} {ms : qms} {mr : qmr} {mm : qmm} {ml : qml} {mt : qmt} (hab : Bd a.1) (hc : Bd c.1 ∧ Bd a.1) : Ok MX5_turnNow [.ref 0] (HH (a, b, c, d) Hs T L S V ms mr mm ml mt) (some (.int (turnF dstT a).1)) (HH ((turnF dstT a).2.2, b, a, d) Hs T L S V ms mr mm ml mt) := by
  refine ok_of (by decide +kernel) (Nat.zero_le _) (Nat.le_of_ble_eq_true rfl) ?_
  intro X C E
  show Ex X MX5_turnNow 0 [(0, .ref 0)] [] (HH (a, b, c, d) Hs T L S V ms mr mm ml mt)
  have LP : ∀ n i : Nat, i + n = 25 → Ex X MX5_turnNow 13 [(0, .ref 0), (1, .int (nI i))] [] (HH ((trR dstT a.1 a.1 i, a.2), b, a, d) Hs T L S V ms mr mm ml mt) := by
    intro n
    induction n with
    | zero =>
      intro i hi
      have e : i = 25 := by omega
      subst e
      refine x_iload_n C dX5_turnNow_13 rfl ?_
      refine x_bipush C (v := nI 25) dX5_turnNow_14 (by decide +kernel) ?_
      refine x_icmp_geN C 55 dX5_turnNow_16 (by decide) (by omega) (by omega) (fun c16 => ?_) (fun c16 => ?_)
      · refine x_aload_n C dX5_turnNow_55 rfl ?_
        refine x_getfield C qk5 0 (by decide) lfX5_12 dX5_turnNow_56 rfl rfl ?_
        refine x_dup C rfl dX5_turnNow_59 ?_
        refine x_getfield C qk3 4 (by decide) lfX5_246 dX5_turnNow_60 rfl rfl ?_
        refine x_iconst C (v := nI 1) dX5_turnNow_63 (by decide +kernel) ?_
        refine x_iaddN C dX5_turnNow_64 ?_
        refine x_putfield C qk3 4 (by decide) lfX5_246 rfl (ty0 := .int) (by decide +kernel) rfl rfl dX5_turnNow_65 rfl (Nat.le_of_ble_eq_true rfl) ?_
        refine x_heap (h2 := HH ((trR dstT a.1 a.1 25, (a.2.1, a.2.2.1, a.2.2.2.1, a.2.2.2.2 + 1)), b, a, d) Hs T L S V ms mr mm ml mt) (by rfl) ?_
        refine x_aload_n C dX5_turnNow_68 rfl ?_
        refine x_getfield C qk5 0 (by decide) lfX5_12 dX5_turnNow_69 rfl rfl ?_
        refine x_callV0i C (okX3_countAll (b := trR dstT a.1 a.1 25) PosA_now (trR_Bd (fun _ h => dstT_lt h) hab hab 25 (Nat.le_refl _)).1) lkX5_228 miX3_countAll msX3_countAll maX3_countAll ⟨Nat.le_of_ble_eq_true rfl, Nat.le_of_ble_eq_true rfl⟩ (Nat.le_of_ble_eq_true rfl) rfl rfl dX5_turnNow_72 ?_
        exact x_iret E .int dX5_turnNow_75 rfl rfl (by unfold turnF menN; rfl) (by unfold turnF; rfl)
      · exact absurd c16 (by omega)
    | succ n ih =>
      intro i hi
      have hil : i < 25 := by omega
      refine x_iload_n C dX5_turnNow_13 rfl ?_
      refine x_bipush C (v := nI 25) dX5_turnNow_14 (by decide +kernel) ?_
      refine x_icmp_geN C 55 dX5_turnNow_16 (by decide) (by omega) (by omega) (fun c16 => ?_) (fun c16 => ?_)
      · exact absurd c16 (by omega)
      · refine x_iload_n C dX5_turnNow_19 rfl ?_
        refine x_iconst C (v := nI 5) dX5_turnNow_20 (by decide +kernel) ?_
        refine x_iremN C dX5_turnNow_21 (by omega) (by decide) (by decide) ?_
        refine x_istore_n C dX5_turnNow_22 (by decide) [(2, _), (0, _), (1, _)] rfl ?_
        refine x_iload_n C dX5_turnNow_23 rfl ?_
        refine x_iconst C (v := nI 5) dX5_turnNow_24 (by decide +kernel) ?_
        refine x_idivN C dX5_turnNow_25 (by omega) (by decide) (by decide) ?_
        refine x_istore_n C dX5_turnNow_26 (by decide) [(3, _), (2, _), (0, _), (1, _)] rfl ?_
        refine x_aload_n C dX5_turnNow_27 rfl ?_
        refine x_getfield C qk5 0 (by decide) lfX5_12 dX5_turnNow_28 rfl rfl ?_
        refine x_iconst C (v := nI 4) dX5_turnNow_31 (by decide +kernel) ?_
        refine x_iload_n C dX5_turnNow_32 rfl ?_
        refine x_isubN C dX5_turnNow_33 (by omega) ?_
        refine x_iconst C (v := nI 5) dX5_turnNow_34 (by decide +kernel) ?_
        refine x_imulN C dX5_turnNow_35 ?_
        refine x_iload_n C dX5_turnNow_36 rfl ?_
        refine x_iaddN C dX5_turnNow_37 ?_
        refine x_aload_n C dX5_turnNow_38 rfl ?_
        refine x_getfield C qk5 2 (by decide) lfX5_19 dX5_turnNow_39 rfl rfl ?_
        refine x_iload_n C dX5_turnNow_42 rfl ?_
        refine x_callV1i C (okX3_manOn PosA_trial hil) lkX5_99 miX3_manOn msX3_manOn maX3_manOn ⟨Nat.le_of_ble_eq_true rfl, Nat.le_of_ble_eq_true rfl⟩ (Nat.le_of_ble_eq_true rfl) rfl rfl dX5_turnNow_43 ?_
        refine x_callV2v C (okX3_setMan PosA_now (show dstT i < 25 from dstT_lt hil) (a.1 i)) lkX5_167 miX3_setMan msX3_setMan maX3_setMan ⟨Nat.le_of_ble_eq_true rfl, Nat.le_of_ble_eq_true rfl⟩ (Nat.le_of_ble_eq_true rfl) rfl rfl dX5_turnNow_46 ?_
        refine x_heap (h2 := HH ((trR dstT a.1 a.1 (i + 1), a.2), b, a, d) Hs T L S V ms mr mm ml mt) (by rfl) ?_
        refine x_iinc C _ dX5_turnNow_49 rfl (q_inc _) (by decide) [(1, _), (3, _), (2, _), (0, _)] rfl ?_
        refine x_goto C 13 dX5_turnNow_52 (by decide) ?_
        exact x_sub [3, 0] (ih (i + 1) (by omega)) rfl
  refine x_aload_n C dX5_turnNow_0 rfl ?_
  refine x_getfield C qk5 2 (by decide) lfX5_19 dX5_turnNow_1 rfl rfl ?_
  refine x_aload_n C dX5_turnNow_4 rfl ?_
  refine x_getfield C qk5 0 (by decide) lfX5_12 dX5_turnNow_5 rfl rfl ?_
  refine x_callV1v C (okX3_copyFrom PosF_trial PosF_now hc.1 hc.2 (by decide) (by decide) (by decide)) lkX5_67 miX3_copyFrom msX3_copyFrom maX3_copyFrom ⟨Nat.le_of_ble_eq_true rfl, Nat.le_of_ble_eq_true rfl⟩ (Nat.le_of_ble_eq_true rfl) rfl rfl dX5_turnNow_8 ?_
  refine x_heap (h2 := HH ((a.1, a.2), b, a, d) Hs T L S V ms mr mm ml mt) (by rfl) ?_
  refine x_iconst C (v := nI 0) dX5_turnNow_11 (by decide +kernel) ?_
  refine x_istore_n C dX5_turnNow_12 (by decide) [(1, _), (0, _)] rfl ?_
  exact x_sub [1, 0] (LP 25 0 (by omega)) rfl
set_option maxHeartbeats 4000000 in
set_option maxRecDepth 100000 in
theorem okX5_mirrorNow {a b c d : qP} {Hs : qHs} {T : qTs} {L : qLs} {S : qSs} {V : qVs} {ms : qms} {mr : qmr} {mm : qmm} {ml : qml} {mt : qmt} (hab : Bd a.1) (hc : Bd c.1 ∧ Bd a.1) : Ok MX5_mirrorNow [.ref 0] (HH (a, b, c, d) Hs T L S V ms mr mm ml mt) (some (.int (turnF dstM a).1)) (HH ((turnF dstM a).2.2, b, a, d) Hs T L S V ms mr mm ml mt) := by
  refine ok_of (by decide +kernel) (Nat.zero_le _) (Nat.le_of_ble_eq_true rfl) ?_
  intro X C E
  show Ex X MX5_mirrorNow 0 [(0, .ref 0)] [] (HH (a, b, c, d) Hs T L S V ms mr mm ml mt)
  have LP : ∀ n i : Nat, i + n = 25 → Ex X MX5_mirrorNow 13 [(0, .ref 0), (1, .int (nI i))] [] (HH ((trR dstM a.1 a.1 i, a.2), b, a, d) Hs T L S V ms mr mm ml mt) := by
    intro n
    induction n with
    | zero =>
      intro i hi
      have e : i = 25 := by omega
      subst e
      refine x_iload_n C dX5_mirrorNow_13 rfl ?_
      refine x_bipush C (v := nI 25) dX5_mirrorNow_14 (by decide +kernel) ?_
      refine x_icmp_geN C 57 dX5_mirrorNow_16 (by decide) (by omega) (by omega) (fun c16 => ?_) (fun c16 => ?_)
      · refine x_aload_n C dX5_mirrorNow_57 rfl ?_
        refine x_getfield C qk5 0 (by decide) lfX5_12 dX5_mirrorNow_58 rfl rfl ?_
        refine x_dup C rfl dX5_mirrorNow_61 ?_
        refine x_getfield C qk3 4 (by decide) lfX5_246 dX5_mirrorNow_62 rfl rfl ?_
        refine x_iconst C (v := nI 1) dX5_mirrorNow_65 (by decide +kernel) ?_
        refine x_iaddN C dX5_mirrorNow_66 ?_
        refine x_putfield C qk3 4 (by decide) lfX5_246 rfl (ty0 := .int) (by decide +kernel) rfl rfl dX5_mirrorNow_67 rfl (Nat.le_of_ble_eq_true rfl) ?_
        refine x_heap (h2 := HH ((trR dstM a.1 a.1 25, (a.2.1, a.2.2.1, a.2.2.2.1, a.2.2.2.2 + 1)), b, a, d) Hs T L S V ms mr mm ml mt) (by rfl) ?_
        refine x_aload_n C dX5_mirrorNow_70 rfl ?_
        refine x_getfield C qk5 0 (by decide) lfX5_12 dX5_mirrorNow_71 rfl rfl ?_
        refine x_callV0i C (okX3_countAll (b := trR dstM a.1 a.1 25) PosA_now (trR_Bd (fun _ h => dstM_lt h) hab hab 25 (Nat.le_refl _)).1) lkX5_228 miX3_countAll msX3_countAll maX3_countAll ⟨Nat.le_of_ble_eq_true rfl, Nat.le_of_ble_eq_true rfl⟩ (Nat.le_of_ble_eq_true rfl) rfl rfl dX5_mirrorNow_74 ?_
        exact x_iret E .int dX5_mirrorNow_77 rfl rfl (by unfold turnF menN; rfl) (by unfold turnF; rfl)
      · exact absurd c16 (by omega)
    | succ n ih =>
      intro i hi
      have hil : i < 25 := by omega
      refine x_iload_n C dX5_mirrorNow_13 rfl ?_
      refine x_bipush C (v := nI 25) dX5_mirrorNow_14 (by decide +kernel) ?_
      refine x_icmp_geN C 57 dX5_mirrorNow_16 (by decide) (by omega) (by omega) (fun c16 => ?_) (fun c16 => ?_)
      · exact absurd c16 (by omega)
      · refine x_iload_n C dX5_mirrorNow_19 rfl ?_
        refine x_iconst C (v := nI 5) dX5_mirrorNow_20 (by decide +kernel) ?_
        refine x_iremN C dX5_mirrorNow_21 (by omega) (by decide) (by decide) ?_
        refine x_istore_n C dX5_mirrorNow_22 (by decide) [(2, _), (0, _), (1, _)] rfl ?_
        refine x_iload_n C dX5_mirrorNow_23 rfl ?_
        refine x_iconst C (v := nI 5) dX5_mirrorNow_24 (by decide +kernel) ?_
        refine x_idivN C dX5_mirrorNow_25 (by omega) (by decide) (by decide) ?_
        refine x_istore_n C dX5_mirrorNow_26 (by decide) [(3, _), (2, _), (0, _), (1, _)] rfl ?_
        refine x_aload_n C dX5_mirrorNow_27 rfl ?_
        refine x_getfield C qk5 0 (by decide) lfX5_12 dX5_mirrorNow_28 rfl rfl ?_
        refine x_iload_n C dX5_mirrorNow_31 rfl ?_
        refine x_iconst C (v := nI 5) dX5_mirrorNow_32 (by decide +kernel) ?_
        refine x_imulN C dX5_mirrorNow_33 ?_
        refine x_iconst C (v := nI 5) dX5_mirrorNow_34 (by decide +kernel) ?_
        refine x_iaddN C dX5_mirrorNow_35 ?_
        refine x_iconst C (v := nI 1) dX5_mirrorNow_36 (by decide +kernel) ?_
        refine x_isubN C dX5_mirrorNow_37 (by omega) ?_
        refine x_iload_n C dX5_mirrorNow_38 rfl ?_
        refine x_isubN C dX5_mirrorNow_39 (by omega) ?_
        refine x_aload_n C dX5_mirrorNow_40 rfl ?_
        refine x_getfield C qk5 2 (by decide) lfX5_19 dX5_mirrorNow_41 rfl rfl ?_
        refine x_iload_n C dX5_mirrorNow_44 rfl ?_
        refine x_callV1i C (okX3_manOn PosA_trial hil) lkX5_99 miX3_manOn msX3_manOn maX3_manOn ⟨Nat.le_of_ble_eq_true rfl, Nat.le_of_ble_eq_true rfl⟩ (Nat.le_of_ble_eq_true rfl) rfl rfl dX5_mirrorNow_45 ?_
        refine x_callV2v C (okX3_setMan PosA_now (show dstM i < 25 from dstM_lt hil) (a.1 i)) lkX5_167 miX3_setMan msX3_setMan maX3_setMan ⟨Nat.le_of_ble_eq_true rfl, Nat.le_of_ble_eq_true rfl⟩ (Nat.le_of_ble_eq_true rfl) rfl rfl dX5_mirrorNow_48 ?_
        refine x_heap (h2 := HH ((trR dstM a.1 a.1 (i + 1), a.2), b, a, d) Hs T L S V ms mr mm ml mt) (by rfl) ?_
        refine x_iinc C _ dX5_mirrorNow_51 rfl (q_inc _) (by decide) [(1, _), (3, _), (2, _), (0, _)] rfl ?_
        refine x_goto C 13 dX5_mirrorNow_54 (by decide) ?_
        exact x_sub [3, 0] (ih (i + 1) (by omega)) rfl
  refine x_aload_n C dX5_mirrorNow_0 rfl ?_
  refine x_getfield C qk5 2 (by decide) lfX5_19 dX5_mirrorNow_1 rfl rfl ?_
  refine x_aload_n C dX5_mirrorNow_4 rfl ?_
  refine x_getfield C qk5 0 (by decide) lfX5_12 dX5_mirrorNow_5 rfl rfl ?_
  refine x_callV1v C (okX3_copyFrom PosF_trial PosF_now hc.1 hc.2 (by decide) (by decide) (by decide)) lkX5_67 miX3_copyFrom msX3_copyFrom maX3_copyFrom ⟨Nat.le_of_ble_eq_true rfl, Nat.le_of_ble_eq_true rfl⟩ (Nat.le_of_ble_eq_true rfl) rfl rfl dX5_mirrorNow_8 ?_
  refine x_heap (h2 := HH ((a.1, a.2), b, a, d) Hs T L S V ms mr mm ml mt) (by rfl) ?_
  refine x_iconst C (v := nI 0) dX5_mirrorNow_11 (by decide +kernel) ?_
  refine x_istore_n C dX5_mirrorNow_12 (by decide) [(1, _), (0, _)] rfl ?_
  exact x_sub [1, 0] (LP 25 0 (by omega)) rfl
def allB (p : Nat → Bool) : Nat → Bool
  | 0 => true
  | n + 1 => allB p n && p n
def csQ (b : Nat → Nat) (S : Nat → Nat → Bool) (i : Nat) : Bool := decide (b i ≠ 0) && !isK (b i) && decide (sumc S 25 ≠ 0)
def csE (b : Nat → Nat) (Tk : Nat → Int32) (i : Nat) : Bool := allB (fun f => decide (mask (keyP (up b i 0) f) = Tk f)) 25
def csP (b : Nat → Nat) (S : Nat → Nat → Bool) (Tk : Nat → Int32) (i : Nat) : Bool := csQ b S i && fitsB (up b i 0) && csE b Tk i
def csT (a c : qP) (S : Nat → Nat → Bool) (i : Nat) : qP := if csQ a.1 S i = true then (up a.1 i 0, a.2) else c
theorem allB_false {p : Nat → Bool} : ∀ {n i : Nat}, i < n → p i = false → allB p n = false
  | 0, i, h, _ => absurd h (by omega)
  | n + 1, i, h, hp => by
    simp only [allB]
    by_cases hi : i = n
    · subst hi; simp [hp]
    · rw [allB_false (by omega) hp]; rfl
theorem sumc_le (S : Nat → Nat → Bool) : ∀ n, sumc S n ≤ 25 * n
  | 0 => Nat.le_refl 0
  | n + 1 => by
    have h1 := sumc_le S n
    have h2 := cnt_le (S n) 25
    simp only [sumc]
    omega
set_option maxHeartbeats 4000000 in
set_option maxRecDepth 100000 in
theorem okX5_canSpare {a b c d : qP} {Hs : qHs} {L : qLs} {S : qSs} {V : qVs} {ms : qms} {mr : qmr} {mm : qmm} {ml : qml} {mt : qmt} {Tm Tk : Nat → Int32} {ta mc : Nat → Nat} (ha : Bd a.1) (hc : Bd c.1) (Sk : Nat → Nat → Bool) (hS : ∀ j, j < 25 → Tk j = mask (Sk j)) {i : Nat} (hi : i < 25) : Ok MX5_canSpare [.ref 0, .int (nI i)] (HH (a, b, c, d) Hs (Tm, Tk, ta, mc) L S V ms mr mm ml mt) (some (.int (qb (csP a.1 Sk Tk i)))) (HH (a, b, csT a c Sk i, d) Hs (Tm, Tk, ta, mc) L S V ms mr mm ml mt) := by
  refine ok_of (by decide +kernel) (Nat.zero_le _) (Nat.le_of_ble_eq_true rfl) ?_
  intro X C E
  show Ex X MX5_canSpare 0 [(0, .ref 0), (1, .int (nI i))] [] (HH (a, b, c, d) Hs (Tm, Tk, ta, mc) L S V ms mr mm ml mt)
  have hai := ha.1 i
  have hb1 := up_lt ha.1 (k := i) (v := 0) (by decide)
  have LP : csQ a.1 Sk i = true → fitsB (up a.1 i 0) = true → ∀ n f : Nat, f + n = 25 → allB (fun f => decide (mask (keyP (up a.1 i 0) f) = Tk f)) f = true → Ex X MX5_canSpare 66 [(0, .ref 0), (1, .int (nI i)), (2, .int (nI (a.1 i))), (3, .int (nI f))] [] (HH (a, b, (up a.1 i 0, a.2), d) Hs (Tm, Tk, ta, mc) L S V ms mr mm ml mt) := by
    intro hQ hF n
    induction n with
    | zero =>
      intro f hf he
      have e : f = 25 := by omega
      subst e
      refine x_iload_n C dX5_canSpare_66 rfl ?_
      refine x_bipush C (v := nI 25) dX5_canSpare_67 (by decide +kernel) ?_
      refine x_icmp_geN C 100 dX5_canSpare_69 (by decide) (by omega) (by omega) (fun c69 => ?_) (fun c69 => ?_)
      · refine x_iconst C (v := nI 1) dX5_canSpare_100 (by decide +kernel) ?_
        exact x_iret E .boolean dX5_canSpare_101 rfl rfl (by unfold csP csE; rw [hQ, hF, he]; rfl) (by unfold csT; rw [if_pos hQ])
      · exact absurd c69 (by omega)
    | succ n ih =>
      intro f hf he
      have hfl : f < 25 := by omega
      refine x_iload_n C dX5_canSpare_66 rfl ?_
      refine x_bipush C (v := nI 25) dX5_canSpare_67 (by decide +kernel) ?_
      refine x_icmp_geN C 100 dX5_canSpare_69 (by decide) (by omega) (by omega) (fun c69 => ?_) (fun c69 => ?_)
      · exact absurd c69 (by omega)
      · refine x_aload_n C dX5_canSpare_72 rfl ?_
        refine x_getfield C qk5 2 (by decide) lfX5_19 dX5_canSpare_73 rfl rfl ?_
        refine x_iload_n C dX5_canSpare_76 rfl ?_
        refine x_callV1i C (okX3_keysFrom (b := up a.1 i 0) PosA_trial hb1 hfl) lkX5_121 miX3_keysFrom msX3_keysFrom maX3_keysFrom ⟨Nat.le_of_ble_eq_true rfl, Nat.le_of_ble_eq_true rfl⟩ (Nat.le_of_ble_eq_true rfl) rfl rfl dX5_canSpare_77 ?_
        refine x_aload_n C dX5_canSpare_80 rfl ?_
        refine x_getfield C qk5 7 (by decide) lfX5_39 dX5_canSpare_81 rfl rfl ?_
        refine x_getfield C qk2 0 (by decide) lfX5_275 dX5_canSpare_84 rfl rfl ?_
        refine x_iload_n C dX5_canSpare_87 rfl ?_
        refine x_iald C dX5_canSpare_88 rfl (by omega) (by decide) ?_
        refine x_icmp_eq C 94 dX5_canSpare_89 (by decide) (fun c89 => ?_) (fun c89 => ?_)
        · refine x_iinc C _ dX5_canSpare_94 rfl (q_inc _) (by decide) [(3, _), (0, _), (1, _), (2, _)] rfl ?_
          refine x_goto C 66 dX5_canSpare_97 (by decide) ?_
          exact x_sub [1, 2, 3, 0] (ih (f + 1) (by omega) (by rw [allB, he, decide_eq_true c89]; rfl)) rfl
        · refine x_iconst C (v := nI 0) dX5_canSpare_92 (by decide +kernel) ?_
          exact x_iret E .boolean dX5_canSpare_93 rfl rfl (by unfold csP csE; rw [hQ, hF, allB_false hfl (decide_eq_false c89)]; rfl) (by unfold csT; rw [if_pos hQ])
  refine x_aload_n C dX5_canSpare_0 rfl ?_
  refine x_getfield C qk5 0 (by decide) lfX5_12 dX5_canSpare_1 rfl rfl ?_
  refine x_iload_n C dX5_canSpare_4 rfl ?_
  refine x_callV1i C (okX3_manOn PosA_now hi) lkX5_99 miX3_manOn msX3_manOn maX3_manOn ⟨Nat.le_of_ble_eq_true rfl, Nat.le_of_ble_eq_true rfl⟩ (Nat.le_of_ble_eq_true rfl) rfl rfl dX5_canSpare_5 ?_
  refine x_istore_n C dX5_canSpare_8 (by decide) [(2, _), (0, _), (1, _)] rfl ?_
  refine x_iload_n C dX5_canSpare_9 rfl ?_
  refine x_if_eqN C 30 dX5_canSpare_10 (by decide) (by omega) (fun c10 => ?_) (fun c10 => ?_)
  · have hQ : csQ a.1 Sk i = false := by unfold csQ; rw [c10]; rfl
    refine x_iconst C (v := nI 0) dX5_canSpare_30 (by decide +kernel) ?_
    exact x_iret E .boolean dX5_canSpare_31 rfl rfl (by unfold csP; rw [hQ]; rfl) (by unfold csT; rw [if_neg (by rw [hQ]; decide)])
  · refine x_iload_n C dX5_canSpare_13 rfl ?_
    refine x_callS1i C (okX5_isKing _ (by omega) _) lkX5_164 miX5_isKing mtX5_isKing maX5_isKing ⟨Nat.le_of_ble_eq_true rfl, Nat.le_of_ble_eq_true rfl⟩ (Nat.le_of_ble_eq_true rfl) dX5_canSpare_14 ?_
    refine x_if_neB C 30 dX5_canSpare_17 (by decide) (fun c17 => ?_) (fun c17 => ?_)
    · have hQ : csQ a.1 Sk i = false := by unfold csQ; rw [c17, Bool.not_true, Bool.and_false, Bool.false_and]
      refine x_iconst C (v := nI 0) dX5_canSpare_30 (by decide +kernel) ?_
      exact x_iret E .boolean dX5_canSpare_31 rfl rfl (by unfold csP; rw [hQ]; rfl) (by unfold csT; rw [if_neg (by rw [hQ]; decide)])
    · refine x_aload_n C dX5_canSpare_20 rfl ?_
      refine x_getfield C qk5 7 (by decide) lfX5_39 dX5_canSpare_21 rfl rfl ?_
      refine x_callV0i C (okX2_count TabA_k Sk hS) lkX5_161 miX2_count msX2_count maX2_count ⟨Nat.le_of_ble_eq_true rfl, Nat.le_of_ble_eq_true rfl⟩ (Nat.le_of_ble_eq_true rfl) rfl rfl dX5_canSpare_24 ?_
      refine x_if_neN C 32 dX5_canSpare_27 (by decide) (Nat.lt_of_le_of_lt (sumc_le Sk 25) (by decide)) (fun c27 => ?_) (fun c27 => ?_)
      · have hQ : csQ a.1 Sk i = true := by unfold csQ; rw [decide_eq_true (show a.1 i ≠ 0 from c10), c17, decide_eq_true (show sumc Sk 25 ≠ 0 from c27)]; rfl
        refine x_aload_n C dX5_canSpare_32 rfl ?_
        refine x_getfield C qk5 2 (by decide) lfX5_19 dX5_canSpare_33 rfl rfl ?_
        refine x_aload_n C dX5_canSpare_36 rfl ?_
        refine x_getfield C qk5 0 (by decide) lfX5_12 dX5_canSpare_37 rfl rfl ?_
        refine x_callV1v C (okX3_copyFrom PosF_trial PosF_now hc ha (by decide) (by decide) (by decide)) lkX5_67 miX3_copyFrom msX3_copyFrom maX3_copyFrom ⟨Nat.le_of_ble_eq_true rfl, Nat.le_of_ble_eq_true rfl⟩ (Nat.le_of_ble_eq_true rfl) rfl rfl dX5_canSpare_40 ?_
        refine x_heap (h2 := HH (a, b, a, d) Hs (Tm, Tk, ta, mc) L S V ms mr mm ml mt) (by rfl) ?_
        refine x_aload_n C dX5_canSpare_43 rfl ?_
        refine x_getfield C qk5 2 (by decide) lfX5_19 dX5_canSpare_44 rfl rfl ?_
        refine x_iload_n C dX5_canSpare_47 rfl ?_
        refine x_iconst C (v := nI 0) dX5_canSpare_48 (by decide +kernel) ?_
        refine x_callV2v C (okX3_setMan PosA_trial hi 0) lkX5_167 miX3_setMan msX3_setMan maX3_setMan ⟨Nat.le_of_ble_eq_true rfl, Nat.le_of_ble_eq_true rfl⟩ (Nat.le_of_ble_eq_true rfl) rfl rfl dX5_canSpare_49 ?_
        refine x_heap (h2 := HH (a, b, (up a.1 i 0, a.2), d) Hs (Tm, Tk, ta, mc) L S V ms mr mm ml mt) (by rfl) ?_
        refine x_aload_n C dX5_canSpare_52 rfl ?_
        refine x_getfield C qk5 2 (by decide) lfX5_19 dX5_canSpare_53 rfl rfl ?_
        refine x_callV0i C (okX3_fits (b := up a.1 i 0) PosA_trial hb1) lkX5_117 miX3_fits msX3_fits maX3_fits ⟨Nat.le_of_ble_eq_true rfl, Nat.le_of_ble_eq_true rfl⟩ (Nat.le_of_ble_eq_true rfl) rfl rfl dX5_canSpare_56 ?_
        refine x_if_neB C 64 dX5_canSpare_59 (by decide) (fun c59 => ?_) (fun c59 => ?_)
        · refine x_iconst C (v := nI 0) dX5_canSpare_64 (by decide +kernel) ?_
          refine x_istore_n C dX5_canSpare_65 (by decide) [(3, _), (2, _), (0, _), (1, _)] rfl ?_
          exact x_sub [2, 3, 1, 0] (LP hQ c59 25 0 (by omega) rfl) rfl
        · refine x_iconst C (v := nI 0) dX5_canSpare_62 (by decide +kernel) ?_
          exact x_iret E .boolean dX5_canSpare_63 rfl rfl (by unfold csP; rw [hQ, c59]; rfl) (by unfold csT; rw [if_pos hQ])
      · have hQ : csQ a.1 Sk i = false := by unfold csQ; rw [decide_eq_false (show ¬ (sumc Sk 25 ≠ 0) from fun q => q c27), Bool.and_false]
        refine x_iconst C (v := nI 0) dX5_canSpare_30 (by decide +kernel) ?_
        exact x_iret E .boolean dX5_canSpare_31 rfl rfl (by unfold csP; rw [hQ]; rfl) (by unfold csT; rw [if_neg (by rw [hQ]; decide)])
