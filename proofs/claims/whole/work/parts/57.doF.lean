/-! the reference: turn, thrift as the class has them; the calls that change -/
theorem trR_free {dst : Nat → Nat} {b b2 t t2 : Nat → Nat} (hb : ∀ k, k < 25 → b k = b2 k) : ∀ n, n ≤ 25 → ∀ j, (∃ k, k < n ∧ dst k = j) → trR dst t b n j = trR dst t2 b2 n j
  | 0, _, j, h => by obtain ⟨k, hk, _⟩ := h; omega
  | n + 1, hn, j, h => by
    rw [trR, trR]
    by_cases e : j = dst n
    · subst e; rw [up_at, up_at, hb n (by omega)]
    · rw [up_ne _ e, up_ne _ e]
      refine trR_free hb n (by omega) j ?_
      obtain ⟨k, hk, h2⟩ := h
      by_cases z : k = n
      · subst z; exact absurd h2.symm e
      · exact ⟨k, by omega, h2⟩
theorem dstT_on : ∀ j, j < 25 → ∃ k, k < 25 ∧ dstT k = j := fun j hj => ⟨5 * (j % 5) + 4 - j / 5, by omega, by unfold dstT; omega⟩
theorem dstM_on : ∀ j, j < 25 → ∃ k, k < 25 ∧ dstM k = j := fun j hj => ⟨5 * (j / 5) + 4 - j % 5, by omega, by unfold dstM; omega⟩
theorem turn_s {dst : Nat → Nat} (hd : ∀ j, j < 25 → ∃ k, k < 25 ∧ dst k = j) (a : qP) (tn : Nat → Nat) : up (cpB (trR dst tn (sF a) 25) (sF a) 0 0 25) 28 (a.2.2.2.2 + 1) = sF (turnF dst a).2.2 := by
  funext k
  unfold turnF
  by_cases e : k < 25
  · rw [up_ne _ (by omega), cpB_at e, sF_lo e]
    exact trR_free (fun k hk => sF_lo hk) 25 (Nat.le_refl _) k (hd k e)
  · by_cases e2 : k = 28
    · subst e2; rw [up_at, sF_28]
    · rw [up_ne _ e2]
      unfold cpB sF
      rw [if_neg (by omega), if_neg e, if_neg e]
      simp only [if_neg e2]
theorem HS_sT {dst : Nat → Nat} {tn s : Nat → Nat} {i : Nat} : up (trR dst tn s i) (dst i) (s i) = trR dst tn s (i + 1) := rfl
set_option maxHeartbeats 4000000 in
set_option maxRecDepth 100000 in
theorem okX6_doTurn_a {P : qPs} {Hs : qHs} {T : qTs} {L : qLs} {S : qSs} {V : qVs} {ml : qml} {mt : qmt} {bf sv past : Nat → Nat} {isv : Bool} {pm : Nat} {mv ks tn : Nat → Nat} {mn : Nat} {mr : qmr} {a : qP} (ha : Bd a.1) : Ok MX6_doTurn [.ref 40, .int (nI 0)] (HH P Hs T L S V (sF a, bf, sv, past, isv, pm) mr (mv, mn, ks, tn) ml mt) (some (.int (turnF dstT a).1)) (HH P Hs T L S V (sF (turnF dstT a).2.2, bf, sv, past, isv, pm) mr (mv, mn, ks, trR dstT tn (sF a) 25) ml mt) := by
  refine ok_of (by decide +kernel) (Nat.zero_le _) (Nat.le_of_ble_eq_true rfl) ?_
  intro X C E
  show Ex X MX6_doTurn 0 [(0, .ref 40), (1, .int (nI 0))] [] (HH P Hs T L S V (sF a, bf, sv, past, isv, pm) mr (mv, mn, ks, tn) ml mt)
  have hb3 : ∀ i, (turnF dstT a).2.2.1 i < 8 := (trR_Bd (fun _ h => dstT_lt h) ha ha 25 (Nat.le_refl _)).1
  have LP : ∀ n i : Nat, i + n = 25 → Ex X MX6_doTurn 2 [(0, .ref 40), (1, .int (nI 0)), (2, .int (nI i))] [] (HH P Hs T L S V (sF a, bf, sv, past, isv, pm) mr (mv, mn, ks, trR dstT tn (sF a) i) ml mt) := by
    intro n
    induction n with
    | zero =>
      intro i hi
      have e : i = 25 := by omega
      subst e
      refine x_iload_n C dX6_doTurn_2 rfl ?_
      refine x_bipush C (v := nI 25) dX6_doTurn_3 (by decide +kernel) ?_
      refine x_icmp_geN C 59 dX6_doTurn_5 (by decide) (by omega) (by omega) (fun c5 => ?_) (fun c5 => ?_)
      · refine x_aload_n C dX6_doTurn_59 rfl ?_
        refine x_getfield C qk6 13 (by decide) lfX6_32 dX6_doTurn_60 rfl rfl ?_
        refine x_iconst C (v := nI 0) dX6_doTurn_63 (by decide +kernel) ?_
        refine x_aload_n C dX6_doTurn_64 rfl ?_
        refine x_getfield C qk6 0 (by decide) lfX6_9 dX6_doTurn_65 rfl rfl ?_
        refine x_iconst C (v := nI 0) dX6_doTurn_68 (by decide +kernel) ?_
        refine x_bipush C (v := nI 25) dX6_doTurn_69 (by decide +kernel) ?_
        refine x_copy C lkX6_45 ⟨Nat.le_of_ble_eq_true rfl, Nat.le_of_ble_eq_true rfl⟩ (Nat.le_of_ble_eq_true rfl) HM_tn HM_s (by omega) (by omega) (by decide) (by decide) dX6_doTurn_71 ?_
        refine x_heap HS_s ?_
        refine x_aload_n C dX6_doTurn_74 rfl ?_
        refine x_getfield C qk6 0 (by decide) lfX6_9 dX6_doTurn_75 rfl rfl ?_
        refine x_bipush C (v := nI 28) dX6_doTurn_78 (by decide +kernel) ?_
        refine x_dup2 C rfl rfl dX6_doTurn_80 ?_
        refine x_iald C dX6_doTurn_81 HM_s (by decide) (by decide) ?_
        refine x_top (show nb (cpB (trR dstT tn (sF a) 25) (sF a) 0 0 25) 28 = nI a.2.2.2.2 from rfl) ?_
        refine x_iconst C (v := nI 1) dX6_doTurn_82 (by decide +kernel) ?_
        refine x_iaddN C dX6_doTurn_83 ?_
        refine x_istb C dX6_doTurn_84 HM_s (by decide) (by decide) ?_
        refine x_heap HS_s ?_
        rw [turn_s dstT_on]
        refine x_aload_n C dX6_doTurn_85 rfl ?_
        refine x_callV0i C (okX6_men ((sF_ag (turnF dstT a).2.2).lt hb3)) lkX6_76 miX6_men msX6_men maX6_men ⟨Nat.le_of_ble_eq_true rfl, Nat.le_of_ble_eq_true rfl⟩ (Nat.le_of_ble_eq_true rfl) rfl rfl dX6_doTurn_86 ?_
        rw [menS (b := trR dstT a.1 a.1 25) (sF_ag (turnF dstT a).2.2) hb3]
        exact x_iret E .int dX6_doTurn_89 rfl rfl rfl rfl
      · exact absurd c5 (by omega)
    | succ n ih =>
      intro i hi
      have hlt : i < 25 := by omega
      refine x_iload_n C dX6_doTurn_2 rfl ?_
      refine x_bipush C (v := nI 25) dX6_doTurn_3 (by decide +kernel) ?_
      refine x_icmp_geN C 59 dX6_doTurn_5 (by decide) (by omega) (by omega) (fun c5 => ?_) (fun c5 => ?_)
      · exact absurd c5 (by omega)
      · refine x_iload_n C dX6_doTurn_8 rfl ?_
        refine x_iconst C (v := nI 5) dX6_doTurn_9 (by decide +kernel) ?_
        refine x_iremN C dX6_doTurn_10 (by omega) (by decide) (by decide) ?_
        refine x_istore_n C dX6_doTurn_11 (by decide) [(3, _), (0, _), (1, _), (2, _)] rfl ?_
        refine x_iload_n C dX6_doTurn_12 rfl ?_
        refine x_iconst C (v := nI 5) dX6_doTurn_13 (by decide +kernel) ?_
        refine x_idivN C dX6_doTurn_14 (by omega) (by decide) (by decide) ?_
        refine x_istore C dX6_doTurn_15 (by decide) [(4, _), (3, _), (0, _), (1, _), (2, _)] rfl ?_
        refine x_aload_n C dX6_doTurn_17 rfl ?_
        refine x_getfield C qk6 13 (by decide) lfX6_32 dX6_doTurn_18 rfl rfl ?_
        refine x_iload_n C dX6_doTurn_21 rfl ?_
        refine x_if_eqN C 38 dX6_doTurn_22 (by decide) (by omega) (fun c22 => ?_) (fun c22 => ?_)
        · refine x_iconst C (v := nI 5) dX6_doTurn_38 (by decide +kernel) ?_
          refine x_iconst C (v := nI 4) dX6_doTurn_39 (by decide +kernel) ?_
          refine x_iload_n C dX6_doTurn_40 rfl ?_
          refine x_isubN C dX6_doTurn_41 (by omega) ?_
          refine x_imulN C dX6_doTurn_42 ?_
          refine x_iload C dX6_doTurn_43 rfl ?_
          refine x_iaddN C dX6_doTurn_45 ?_
          refine x_top (show nI (5 * (4 - i % 5) + i / 5) = nI (dstT i) from congrArg nI (by unfold dstT; omega)) ?_
          refine x_aload_n C dX6_doTurn_46 rfl ?_
          refine x_getfield C qk6 0 (by decide) lfX6_9 dX6_doTurn_47 rfl rfl ?_
          refine x_iload_n C dX6_doTurn_50 rfl ?_
          refine x_iald C dX6_doTurn_51 HM_s (by omega) (by decide) ?_
          refine x_top (show nb (sF a) i = nI (sF a i) from rfl) ?_
          refine x_istb C dX6_doTurn_52 HM_tn (dstT_lt hlt) (by decide) ?_
          refine x_heap HS_tn ?_
          rw [HS_sT]
          refine x_iinc C _ dX6_doTurn_53 rfl (q_inc _) (by decide) [(2, _), (4, _), (3, _), (0, _), (1, _)] rfl ?_
          refine x_goto C 2 dX6_doTurn_56 (by decide) ?_
          exact x_sub [3, 4, 0] (ih (i + 1) (by omega)) rfl
        · exact absurd rfl c22
  refine x_iconst C (v := nI 0) dX6_doTurn_0 (by decide +kernel) ?_
  refine x_istore_n C dX6_doTurn_1 (by decide) [(2, _), (0, _), (1, _)] rfl ?_
  exact x_sub [1, 2, 0] (LP 25 0 (by omega)) rfl
set_option maxHeartbeats 4000000 in
set_option maxRecDepth 100000 in
theorem okX6_doTurn_b {P : qPs} {Hs : qHs} {T : qTs} {L : qLs} {S : qSs} {V : qVs} {ml : qml} {mt : qmt} {bf sv past : Nat → Nat} {isv : Bool} {pm : Nat} {mv ks tn : Nat → Nat} {mn : Nat} {mr : qmr} {a : qP} (ha : Bd a.1) : Ok MX6_doTurn [.ref 40, .int (nI 1)] (HH P Hs T L S V (sF a, bf, sv, past, isv, pm) mr (mv, mn, ks, tn) ml mt) (some (.int (turnF dstM a).1)) (HH P Hs T L S V (sF (turnF dstM a).2.2, bf, sv, past, isv, pm) mr (mv, mn, ks, trR dstM tn (sF a) 25) ml mt) := by
  refine ok_of (by decide +kernel) (Nat.zero_le _) (Nat.le_of_ble_eq_true rfl) ?_
  intro X C E
  show Ex X MX6_doTurn 0 [(0, .ref 40), (1, .int (nI 1))] [] (HH P Hs T L S V (sF a, bf, sv, past, isv, pm) mr (mv, mn, ks, tn) ml mt)
  have hb3 : ∀ i, (turnF dstM a).2.2.1 i < 8 := (trR_Bd (fun _ h => dstM_lt h) ha ha 25 (Nat.le_refl _)).1
  have LP : ∀ n i : Nat, i + n = 25 → Ex X MX6_doTurn 2 [(0, .ref 40), (1, .int (nI 1)), (2, .int (nI i))] [] (HH P Hs T L S V (sF a, bf, sv, past, isv, pm) mr (mv, mn, ks, trR dstM tn (sF a) i) ml mt) := by
    intro n
    induction n with
    | zero =>
      intro i hi
      have e : i = 25 := by omega
      subst e
      refine x_iload_n C dX6_doTurn_2 rfl ?_
      refine x_bipush C (v := nI 25) dX6_doTurn_3 (by decide +kernel) ?_
      refine x_icmp_geN C 59 dX6_doTurn_5 (by decide) (by omega) (by omega) (fun c5 => ?_) (fun c5 => ?_)
      · refine x_aload_n C dX6_doTurn_59 rfl ?_
        refine x_getfield C qk6 13 (by decide) lfX6_32 dX6_doTurn_60 rfl rfl ?_
        refine x_iconst C (v := nI 0) dX6_doTurn_63 (by decide +kernel) ?_
        refine x_aload_n C dX6_doTurn_64 rfl ?_
        refine x_getfield C qk6 0 (by decide) lfX6_9 dX6_doTurn_65 rfl rfl ?_
        refine x_iconst C (v := nI 0) dX6_doTurn_68 (by decide +kernel) ?_
        refine x_bipush C (v := nI 25) dX6_doTurn_69 (by decide +kernel) ?_
        refine x_copy C lkX6_45 ⟨Nat.le_of_ble_eq_true rfl, Nat.le_of_ble_eq_true rfl⟩ (Nat.le_of_ble_eq_true rfl) HM_tn HM_s (by omega) (by omega) (by decide) (by decide) dX6_doTurn_71 ?_
        refine x_heap HS_s ?_
        refine x_aload_n C dX6_doTurn_74 rfl ?_
        refine x_getfield C qk6 0 (by decide) lfX6_9 dX6_doTurn_75 rfl rfl ?_
        refine x_bipush C (v := nI 28) dX6_doTurn_78 (by decide +kernel) ?_
        refine x_dup2 C rfl rfl dX6_doTurn_80 ?_
        refine x_iald C dX6_doTurn_81 HM_s (by decide) (by decide) ?_
        refine x_top (show nb (cpB (trR dstM tn (sF a) 25) (sF a) 0 0 25) 28 = nI a.2.2.2.2 from rfl) ?_
        refine x_iconst C (v := nI 1) dX6_doTurn_82 (by decide +kernel) ?_
        refine x_iaddN C dX6_doTurn_83 ?_
        refine x_istb C dX6_doTurn_84 HM_s (by decide) (by decide) ?_
        refine x_heap HS_s ?_
        rw [turn_s dstM_on]
        refine x_aload_n C dX6_doTurn_85 rfl ?_
        refine x_callV0i C (okX6_men ((sF_ag (turnF dstM a).2.2).lt hb3)) lkX6_76 miX6_men msX6_men maX6_men ⟨Nat.le_of_ble_eq_true rfl, Nat.le_of_ble_eq_true rfl⟩ (Nat.le_of_ble_eq_true rfl) rfl rfl dX6_doTurn_86 ?_
        rw [menS (b := trR dstM a.1 a.1 25) (sF_ag (turnF dstM a).2.2) hb3]
        exact x_iret E .int dX6_doTurn_89 rfl rfl rfl rfl
      · exact absurd c5 (by omega)
    | succ n ih =>
      intro i hi
      have hlt : i < 25 := by omega
      refine x_iload_n C dX6_doTurn_2 rfl ?_
      refine x_bipush C (v := nI 25) dX6_doTurn_3 (by decide +kernel) ?_
      refine x_icmp_geN C 59 dX6_doTurn_5 (by decide) (by omega) (by omega) (fun c5 => ?_) (fun c5 => ?_)
      · exact absurd c5 (by omega)
      · refine x_iload_n C dX6_doTurn_8 rfl ?_
        refine x_iconst C (v := nI 5) dX6_doTurn_9 (by decide +kernel) ?_
        refine x_iremN C dX6_doTurn_10 (by omega) (by decide) (by decide) ?_
        refine x_istore_n C dX6_doTurn_11 (by decide) [(3, _), (0, _), (1, _), (2, _)] rfl ?_
        refine x_iload_n C dX6_doTurn_12 rfl ?_
        refine x_iconst C (v := nI 5) dX6_doTurn_13 (by decide +kernel) ?_
        refine x_idivN C dX6_doTurn_14 (by omega) (by decide) (by decide) ?_
        refine x_istore C dX6_doTurn_15 (by decide) [(4, _), (3, _), (0, _), (1, _), (2, _)] rfl ?_
        refine x_aload_n C dX6_doTurn_17 rfl ?_
        refine x_getfield C qk6 13 (by decide) lfX6_32 dX6_doTurn_18 rfl rfl ?_
        refine x_iload_n C dX6_doTurn_21 rfl ?_
        refine x_if_eqN C 38 dX6_doTurn_22 (by decide) (by omega) (fun c22 => ?_) (fun c22 => ?_)
        · exact absurd c22 (by decide)
        · refine x_iconst C (v := nI 5) dX6_doTurn_25 (by decide +kernel) ?_
          refine x_iload C dX6_doTurn_26 rfl ?_
          refine x_imulN C dX6_doTurn_28 ?_
          refine x_iconst C (v := nI 5) dX6_doTurn_29 (by decide +kernel) ?_
          refine x_iaddN C dX6_doTurn_30 ?_
          refine x_iconst C (v := nI 1) dX6_doTurn_31 (by decide +kernel) ?_
          refine x_isubN C dX6_doTurn_32 (by omega) ?_
          refine x_iload_n C dX6_doTurn_33 rfl ?_
          refine x_isubN C dX6_doTurn_34 (by omega) ?_
          refine x_goto C 46 dX6_doTurn_35 (by decide) ?_
          refine x_top (show nI (5 * (i / 5) + 5 - 1 - i % 5) = nI (dstM i) from congrArg nI (by unfold dstM; omega)) ?_
          refine x_aload_n C dX6_doTurn_46 rfl ?_
          refine x_getfield C qk6 0 (by decide) lfX6_9 dX6_doTurn_47 rfl rfl ?_
          refine x_iload_n C dX6_doTurn_50 rfl ?_
          refine x_iald C dX6_doTurn_51 HM_s (by omega) (by decide) ?_
          refine x_top (show nb (sF a) i = nI (sF a i) from rfl) ?_
          refine x_istb C dX6_doTurn_52 HM_tn (dstM_lt hlt) (by decide) ?_
          refine x_heap HS_tn ?_
          rw [HS_sT]
          refine x_iinc C _ dX6_doTurn_53 rfl (q_inc _) (by decide) [(2, _), (4, _), (3, _), (0, _), (1, _)] rfl ?_
          refine x_goto C 2 dX6_doTurn_56 (by decide) ?_
          exact x_sub [3, 4, 0] (ih (i + 1) (by omega)) rfl
  refine x_iconst C (v := nI 0) dX6_doTurn_0 (by decide +kernel) ?_
  refine x_istore_n C dX6_doTurn_1 (by decide) [(2, _), (0, _), (1, _)] rfl ?_
  exact x_sub [1, 2, 0] (LP 25 0 (by omega)) rfl
theorem scan_rel {a c : qP} {S : Nat → Nat → Bool} {Tk : Nat → Int32} (hc : ∀ i, csP a.1 S Tk i = spR a.1 i) : ∀ n (c : qP) (w : qW), (scanF a S Tk n c).1 = (scW a.1 n w).1
  | 0, c, w => rfl
  | n + 1, c, w => by
    rw [scanF, scW, hc n]
    by_cases e : spR a.1 n = true
    · rw [if_pos e, if_pos e]
    · rw [if_neg e, if_neg e]
      exact scan_rel (c := c) hc n _ _
theorem men_king {b : Nat → Nat} (h : fitsB b = true) : 0 < menN b := by
  obtain ⟨k, hl⟩ := fits_loc h
  obtain ⟨hk, h7⟩ := loc7_some hl
  have h2 : cnt (fun _ => false) 25 < cnt (ckS b 1 7) 25 := cnt_ltq (i := k) 25 (fun _ _ z => by cases z) hk rfl (by unfold ckS; rw [h7]; rfl)
  exact Nat.lt_of_le_of_lt (Nat.zero_le _) h2
theorem thr_rel {S : Nat → Nat → Bool} {Tk : Nat → Int32} : ∀ m (off : Nat) (a c : qP) (w : qW) (m2 : Nat), ThG (sF a) a.1 → (∀ f, f < 25 → Tk f = mask (keyP a.1 f)) → sumc S 25 = sumc (keyP a.1) 25 → menN a.1 ≤ m → menN a.1 ≤ m2 →
    (thR S Tk m off a c).1 = (thW m2 off a.1 (sF a) w).1 ∧ (thR S Tk m off a c).2.1.1 = (thW m2 off a.1 (sF a) w).2.1 ∧ sF (thR S Tk m off a c).2.1 = (thW m2 off a.1 (sF a) w).2.2.1 ∧ (thR S Tk m off a c).2.1.2 = a.2 := by
  intro m
  induction m with
  | zero =>
    intro off a c w m2 hg hT hS hm hm2
    have := men_king hg.2.2.2.2
    omega
  | succ m ih =>
    intro off a c w m2 hg hT hS hm hm2
    cases m2 with
    | zero =>
      have := men_king hg.2.2.2.2
      omega
    | succ m2 =>
      have hr := scan_rel (a := a) (c := c) (S := S) (Tk := Tk) (fun i => spR_eq hg.1 hT hS i) 25 c w
      cases e : (scW a.1 25 w).1 with
      | none =>
        rw [e] at hr
        have e1 : thR S Tk (m + 1) off a c = (off, a, (scanF a S Tk 25 c).2) := by rw [thR, hr]
        have e2 : thW (m2 + 1) off a.1 (sF a) w = (off, a.1, sF a, (scW a.1 25 w).2) := by rw [thW, e]
        rw [e1, e2]
        exact ⟨rfl, rfl, rfl, rfl⟩
      | some i =>
        rw [e] at hr
        obtain ⟨hi, hR⟩ := scW_some 25 w i e
        have e1 : thR S Tk (m + 1) off a c = thR S Tk m (off + 1) (up a.1 i 0, a.2) (scanF a S Tk 25 c).2 := by rw [thR, hr]
        have e2 : thW (m2 + 1) off a.1 (sF a) w = thW m2 (off + 1) (up a.1 i 0) (sF (up a.1 i 0, a.2)) (scW a.1 25 w).2 := by rw [thW, e, ← sF_up 0 hi]
        have hg2 := hg.up hR
        rw [sF_up 0 hi] at hg2
        have hq := spR_q hR
        have hmn := menN_up0 hg.1 hi (by omega)
        have hk : keyL (up a.1 i 0) = keyL a.1 := by
          unfold spR at hR
          simp only [Bool.and_eq_true, decide_eq_true_eq] at hR
          exact list_iff.mp ⟨hR.2.2.1, hR.2.2.2⟩
        rw [e1, e2]
        exact ih (off + 1) (up a.1 i 0, a.2) _ _ m2 hg2 (fun f hf => (hT f hf).trans (keyL_iff.mp hk f hf).symm) (by rw [hS, ← keyL_len, ← hk, keyL_len]) (show menN (up a.1 i 0) ≤ m by omega) (show menN (up a.1 i 0) ≤ m2 by omega)
theorem thR_ge {S : Nat → Nat → Bool} {Tk : Nat → Int32} : ∀ m off (a c : qP), off ≤ (thR S Tk m off a c).1
  | 0, off, a, c => Nat.le_refl _
  | m + 1, off, a, c => by
    rw [thR]
    cases (scanF a S Tk 25 c).1 with
    | none => exact Nat.le_refl _
    | some i => exact Nat.le_trans (Nat.le_succ _) (thR_ge m (off + 1) _ _)
theorem thR_0 {S : Nat → Nat → Bool} {Tk : Nat → Int32} {m off : Nat} {a c : qP} (h : (thR S Tk m off a c).1 = off) : (thR S Tk m off a c).2.1 = a := by
  cases m with
  | zero => rfl
  | succ m =>
    rw [thR] at h ⊢
    cases e : (scanF a S Tk 25 c).1 with
    | none => rfl
    | some i =>
      rw [e] at h
      have := thR_ge (S := S) (Tk := Tk) m (off + 1) (up a.1 i 0, a.2) (scanF a S Tk 25 c).2
      simp only [] at h
      omega
theorem thr_eq {a c : qP} {Tk : Nat → Int32} (hg : ThG (sF a) a.1) (hm : menN a.1 ≤ 12) (w : qW) : (thr a c Tk).1 = (thZ a.1 (sF a) w).1 ∧ (thr a c Tk).2.1.1 = (thZ a.1 (sF a) w).2.1 ∧ sF (thr a c Tk).2.1 = (thZ a.1 (sF a) w).2.2.1 ∧ (thr a c Tk).2.1.2 = a.2 :=
  thr_rel 12 0 a c w 26 hg (tkF_at a.1 Tk) rfl hm (by omega)
theorem neg3 {n : Nat} (hn : n < 2147483648) : ¬ nI n < 0 := nI_pos hn
theorem putF_neg {a : qP} {x y : Int32} (h : (putF a x y).1 < 0) : (putF a x y).2.2 = a := by
  unfold putF at h ⊢
  by_cases h1 : isSq y = false
  · rw [if_pos h1]
  · rw [if_neg h1] at h ⊢
    by_cases h2 : x < nI 1 ∨ nI 7 < x
    · rw [if_pos h2]
    · rw [if_neg h2] at h ⊢
      unfold putC at h ⊢
      split at h
      · rename_i z; rw [if_pos z]
      · rename_i z
        rw [if_neg z]
        split at h
        · rename_i z2; rw [if_pos z2]
        · rename_i z2
          rw [if_neg z2]
          split at h
          · rename_i z3; rw [if_pos z3]
          · exact absurd h (nI_pos (Nat.lt_of_le_of_lt (menN_le _) (by decide)))
theorem liftF_neg {a : qP} {y : Int32} (ha : ∀ i, a.1 i < 8) (h : (liftF a y).1 < 0) : (liftF a y).2.2 = a := by
  unfold liftF at h ⊢
  by_cases h1 : isSq y = false
  · rw [if_pos h1]
  · rw [if_neg h1] at h ⊢
    unfold liftC at h ⊢
    split at h
    · rename_i z; rw [if_pos z]
    · exact absurd h (nI_pos (Nat.lt_trans (ha _) (by decide)))
theorem playF_neg {a : qP} {x y : Int32} (ha : ∀ i, a.1 i < 8) (h : (playF a x y).1 < 0) : (playF a x y).2.2 = a := by
  unfold playF at h ⊢
  by_cases h1 : isSq x = false ∨ isSq y = false
  · rw [if_pos h1]
  · rw [if_neg h1] at h ⊢
    unfold playC at h ⊢
    split at h
    · rename_i z; rw [if_pos z]
    · rename_i z
      rw [if_neg z]
      split at h
      · rename_i z2; rw [if_pos z2]
      · exact absurd h (nI_pos (Nat.lt_trans (ha _) (by decide)))
theorem thriftF_neg {a c : qP} {Tk : Nat → Int32} (hl : (thr a c Tk).1 < 2147483648) (h : (thriftF a c Tk).1 < 0) : (thriftF a c Tk).2.2 = a := by
  unfold thriftF at h ⊢
  split at h
  · rename_i z; rw [if_pos z]
  · rename_i z
    rw [if_neg z]
    split at h
    · rename_i z2; rw [if_pos z2]; exact thR_0 z2
    · exact absurd h (nI_pos hl)
theorem turnF_neg {dst : Nat → Nat} {a : qP} (h : (turnF dst a).1 < 0) : (turnF dst a).2.2 = a := by
  unfold turnF at h
  exact absurd h (nI_pos (Nat.lt_of_le_of_lt (menN_le _) (by decide)))
theorem endS {a : qP} {o : qOut} {bf : Nat → Nat} (h : o.1 < 0 → o.2.2 = a) : (if o.1 < 0 then cpB (cpB (sF a) bf 0 0 29) (sF o.2.2) 0 0 29 else sF o.2.2) = sF o.2.2 := by
  by_cases e : o.1 < 0
  · rw [if_pos e, h e]
    exact cp_back (fun i hi => sF_hi hi)
  · rw [if_neg e]
theorem inB17 {x : Int32} : inB x (nI 1) (nI 7) = false ↔ x < nI 1 ∨ nI 7 < x := by
  unfold inB
  by_cases h1 : x < nI 1 <;> by_cases h2 : nI 7 < x <;> simp [h1, h2]
/-- what holds of every position of a run -/
def PG (a : qP) : Prop := Bd a.1 ∧ Uq a.1 1 ∧ Uq a.1 7 ∧ menN a.1 ≤ 12
theorem PG.u {a : qP} (h : PG a) : ∀ v, v = 1 ∨ v = 7 → Uq a.1 v := fun v hv => hv.elim (fun e => e ▸ h.2.1) (fun e => e ▸ h.2.2.1)
theorem wNo_men {b : Nat → Nat} : wNo b ≤ menN b := cnt_leq 25 fun k _ h => by
  unfold isW at h
  unfold ckS
  rw [Bool.and_eq_true, decide_eq_true_eq, decide_eq_true_eq] at h
  exact decide_eq_true ⟨h.1, by omega⟩
theorem PG.w {a : qP} (h : PG a) : wNo a.1 ≤ 12 := Nat.le_trans wNo_men h.2.2.2
theorem okX6_doPutF {P : qPs} {Hs : qHs} {T : qTs} {L : qLs} {S : qSs} {V : qVs} {ml : qml} {mt : qmt} {bf sv past : Nat → Nat} {isv : Bool} {pm : Nat} {mm : qmm} {mr : qmr} {a : qP} (hg : PG a) (x y : Int32) : Ok MX6_doPut [.ref 40, .int x, .int y] (HH P Hs T L S V (sF a, bf, sv, past, isv, pm) mr mm ml mt) (some (.int (putF a x y).1)) (HH P Hs T L S V (sF (putF a x y).2.2, bf, sv, past, isv, pm) (refR mr (putF a x y).2.1) mm ml mt) := by
  obtain ⟨r1, d1, it, lo⟩ := mr
  unfold putF
  rcases isSq_cases y with hy | ⟨i, hi, rfl⟩
  · rw [if_pos hy]
    exact okX6_doPut_p0 x y hy
  · rw [if_neg (isSq_in hi)]
    by_cases hx : x < nI 1 ∨ nI 7 < x
    · rw [if_pos hx]
      exact okX6_doPut_p1 (inB17.mpr hx) hi
    · rw [if_neg hx]
      have h0 : ¬ x < 0 := fun q => hx (Or.inl (Int32.lt_trans q (by decide)))
      obtain ⟨v, hv, rfl⟩ := nI_of h0
      have hv1 : 1 ≤ v := by
        rcases Nat.lt_or_ge v 1 with q | q
        · exact absurd (Or.inl ((nI_ltI hv (by decide)).mpr q)) hx
        · exact q
      have hv7 : v ≤ 7 := by
        rcases Nat.lt_or_ge 7 v with q | q
        · exact absurd (Or.inr ((nI_ltI (by decide) hv).mpr q)) hx
        · exact q
      rw [nI_clamp hv, nI_clamp (by omega)]
      exact okX6_doPut_p2 hg.1.1 hg.u hg.2.2.2 hv1 hv7 hi
theorem okX6_doLiftF {P : qPs} {Hs : qHs} {T : qTs} {L : qLs} {S : qSs} {V : qVs} {ml : qml} {mt : qmt} {bf sv past : Nat → Nat} {isv : Bool} {pm : Nat} {mm : qmm} {mr : qmr} {a : qP} (hg : PG a) (y : Int32) : Ok MX6_doLift [.ref 40, .int y] (HH P Hs T L S V (sF a, bf, sv, past, isv, pm) mr mm ml mt) (some (.int (liftF a y).1)) (HH P Hs T L S V (sF (liftF a y).2.2, bf, sv, past, isv, pm) (refR mr (liftF a y).2.1) mm ml mt) := by
  obtain ⟨r1, d1, it, lo⟩ := mr
  unfold liftF
  rcases isSq_cases y with hy | ⟨i, hi, rfl⟩
  · rw [if_pos hy]
    exact okX6_doLift_p0 y hy
  · rw [if_neg (isSq_in hi), nI_clamp (by omega)]
    exact okX6_doLift_p1 hg.1.1 hi
theorem okX6_doPlayF {P : qPs} {Hs : qHs} {T : qTs} {L : qLs} {S : qSs} {V : qVs} {ml : qml} {mt : qmt} {bf sv past : Nat → Nat} {isv : Bool} {pm : Nat} {mm : qmm} {mr : qmr} {a : qP} (hg : PG a) (x y : Int32) : Ok MX6_doPlay [.ref 40, .int x, .int y] (HH P Hs T L S V (sF a, bf, sv, past, isv, pm) mr mm ml mt) (some (.int (playF a x y).1)) (HH P Hs T L S V (sF (playF a x y).2.2, bf, sv, past, isv, pm) (refR mr (playF a x y).2.1) mm ml mt) := by
  obtain ⟨r1, d1, it, lo⟩ := mr
  unfold playF
  rcases isSq_cases x with hx | ⟨i, hi, rfl⟩
  · rw [if_pos (Or.inl hx)]
    exact okX6_doPlay_p0 (Or.inl hx)
  · rcases isSq_cases y with hy | ⟨j, hj, rfl⟩
    · rw [if_pos (Or.inr hy)]
      exact okX6_doPlay_p0 (Or.inr hy)
    · rw [if_neg (fun q => q.elim (isSq_in hi) (isSq_in hj)), nI_clamp (by omega), nI_clamp (by omega)]
      exact okX6_doPlay_p1 hg.1.1 hg.2.2.1 hi hj
theorem okX6_doThriftF {P : qPs} {Hs : qHs} {T : qTs} {L : qLs} {S : qSs} {V : qVs} {ml : qml} {mt : qmt} {bf sv past : Nat → Nat} {isv : Bool} {pm : Nat} {r1 d1 it : Int32} {tn : Nat → Nat} {w : qW} {a c : qP} {Tk : Nat → Int32} (hg : PG a) : ∃ w2 : qW, Ok MX6_doThrift [.ref 40] (HH P Hs T L S V (sF a, bf, sv, past, isv, pm) (r1, d1, it, w.1) (w.2.1, w.2.2.1, w.2.2.2, tn) ml mt) (some (.int (thriftF a c Tk).1)) (HH P Hs T L S V (sF (thriftF a c Tk).2.2, bf, sv, past, isv, pm) (refR (r1, d1, it, w2.1) (thriftF a c Tk).2.1) (w2.2.1, w2.2.2.1, w2.2.2.2, tn) ml mt) := by
  have hb := hg.1.1
  by_cases hf : fitsB a.1 = false
  · refine ⟨w, ?_⟩
    have h := okX6_doThrift_p0 (P := P) (Hs := Hs) (T := T) (L := L) (S := S) (V := V) (ml := ml) (mt := mt) (bf := bf) (sv := sv) (past := past) (isv := isv) (pm := pm) (r1 := r1) (d1 := d1) (it := it) (lo := w.1) (mm := (w.2.1, w.2.2.1, w.2.2.2, tn)) hb (sF_ag a) hg.2.2.1 hf
    unfold thriftF
    rw [if_pos hf]
    cases e : loc7 a.1 7 with
    | none => rw [e] at h; exact h
    | some j =>
      rw [e] at h
      simp only [line_eq (loc7_some e).1] at h
      exact h
  · have hf2 : fitsB a.1 = true := by cases e : fitsB a.1; exact absurd e hf; rfl
    have ht : ThG (sF a) a.1 := ⟨hb, sF_ag a, hg.2.2.1, hg.w, hf2⟩
    obtain ⟨q1, q2, q3, q4⟩ := thr_eq (c := c) (Tk := Tk) ht hg.2.2.2 w
    refine ⟨(thZ a.1 (sF a) w).2.2.2, ?_⟩
    by_cases h0 : (thZ a.1 (sF a) w).1 = 0
    · have h := okX6_doThrift_p1 (P := P) (Hs := Hs) (T := T) (L := L) (S := S) (V := V) (ml := ml) (mt := mt) (bf := bf) (sv := sv) (past := past) (isv := isv) (pm := pm) (r1 := r1) (d1 := d1) (it := it) (tn := tn) (w := w) hb (sF_ag a) hg.2.2.1 hg.w hf2 h0
      have e1 : thriftF a c Tk = (-3, some (nI 6, nI (menN (thr a c Tk).2.1.1)), (thr a c Tk).2.1) := by unfold thriftF; rw [if_neg hf, if_pos (q1.trans h0)]
      rw [e1]
      generalize thr a c Tk = z at q1 q2 q3 q4 ⊢
      generalize thZ a.1 (sF a) w = y at q1 q2 q3 h h0 ⊢
      obtain ⟨z1, ⟨z2, z3, z4, z5, z6⟩, z7⟩ := z
      simp only [] at q1 q2 q3 q4 h ⊢
      rw [← q3, ← q2, h0, sF_u27] at h
      exact h
    · have h := okX6_doThrift_p2 (P := P) (Hs := Hs) (T := T) (L := L) (S := S) (V := V) (ml := ml) (mt := mt) (bf := bf) (sv := sv) (past := past) (isv := isv) (pm := pm) (r1 := r1) (d1 := d1) (it := it) (tn := tn) (w := w) hb (sF_ag a) hg.2.2.1 hg.w hf2 h0
      have e1 : thriftF a c Tk = (nI (thr a c Tk).1, none, ((thr a c Tk).2.1.1, (thr a c Tk).2.1.2.1, (thr a c Tk).2.1.2.2.1, (thr a c Tk).2.1.2.2.2.1 + (thr a c Tk).1, (thr a c Tk).2.1.2.2.2.2)) := by unfold thriftF; rw [if_neg hf, if_neg (fun z => h0 (q1.symm.trans z))]
      rw [e1]
      generalize thr a c Tk = z at q1 q2 q3 q4 ⊢
      generalize thZ a.1 (sF a) w = y at q1 q2 q3 h h0 ⊢
      obtain ⟨z1, ⟨z2, z3, z4, z5, z6⟩, z7⟩ := z
      simp only [] at q1 q2 q3 q4 h ⊢
      rw [← q3, ← q1, sF_u27] at h
      exact h
