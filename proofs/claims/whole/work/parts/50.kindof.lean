/-! the reference: what a move is, lists of moves -/
theorem kind_back {s : Nat → Nat} (i j : Nat) : up (up (aft s i j) i (s i)) j (s j) = s := by
  funext x
  unfold aft up
  by_cases e : x = j
  · subst e; rw [if_pos rfl]
  · rw [if_neg e]
    by_cases e2 : x = i
    · subst e2; rw [if_pos rfl]
    · rw [if_neg e2, if_neg e, if_neg e2]
theorem aft_lt {b : Nat → Nat} (hb : ∀ i, b i < 8) (i j : Nat) : ∀ x, aft b i j x < 8 := up_lt (up_lt hb (by decide)) (hb i)
theorem aft_ne {b : Nat → Nat} {i j x : Nat} (hi : x ≠ i) (hj : x ≠ j) : aft b i j x = b x := by unfold aft; rw [up_ne _ hj, up_ne _ hi]
theorem aft_j (b : Nat → Nat) (i j : Nat) : aft b i j j = b i := by unfold aft; rw [up_at]
theorem aft_i {b : Nat → Nat} {i j : Nat} (h : i ≠ j) : aft b i j i = 0 := by unfold aft; rw [up_ne _ h, up_at]
theorem aft_king {b : Nat → Nat} (hb : ∀ i, b i < 8) {i j k : Nat} (hi : i < 25) (hj : j < 25) (hl : loc7 b 7 = some k) (hu : Uq b 7) (hm : movP b i j = true) : loc7 (aft b i j) 7 = some k ∧ Uq (aft b i j) 7 := by
  obtain ⟨h1, h2, h3, h4⟩ := (movP_iff hb hj).mp hm
  obtain ⟨hk, hk7⟩ := loc7_some hl
  have hw : b i ≤ 5 := by unfold isW at h1; rw [Bool.and_eq_true, decide_eq_true_eq, decide_eq_true_eq] at h1; exact h1.2
  have hki : k ≠ i := by intro e; rw [← e] at hw; omega
  have hkj : k ≠ j := by intro e; rw [← e] at h3; omega
  have hq : ∀ x, x < 25 → aft b i j x = 7 → x = k := by
    intro x hx h
    by_cases e : x = j
    · subst e; rw [aft_j] at h; omega
    · by_cases e2 : x = i
      · subst e2; rw [aft_i e] at h; omega
      · rw [aft_ne e2 e] at h
        exact hu x k hx hk h hk7
  have huq : Uq (aft b i j) 7 := fun x y hx hy h1 h2 => (hq x hx h1).trans (hq y hy h2).symm
  exact ⟨loc7_uq huq hk (by rw [aft_ne hki hkj]; exact hk7), huq⟩
theorem low_step (p : Nat → Bool) (m : Nat) (hm : m < 25) : low p (25 - m) m = if p m = true then nI m else low p (25 - (m + 1)) (m + 1) := by
  rw [show 25 - m = (25 - (m + 1)) + 1 by omega, low]
set_option maxHeartbeats 4000000 in
set_option maxRecDepth 100000 in
theorem okX6_kindOf {P : qPs} {Hs : qHs} {T : qTs} {L : qLs} {S : qSs} {V : qVs} {mm : qmm} {ml : qml} {mt : qmt} {s bf sv past : Nat → Nat} {isv : Bool} {pm : Nat} {r1 d1 it lo : Int32} {b : Nat → Nat} (hb : ∀ i, b i < 8) (hsb : Ag s b) {i j k : Nat} (hi : i < 25) (hj : j < 25) (hl : loc7 (aft b i j) 7 = some k) (hu2 : Uq (aft b i j) 7) : Ok MX6_kindOf [.ref 40, .int (nI i), .int (nI j)] (HH P Hs T L S V (s, bf, sv, past, isv, pm) (r1, d1, it, lo) mm ml mt) (some (.int (nI (kindB (aft b i j))))) (HH P Hs T L S V (s, bf, sv, past, isv, pm) (r1, d1, it, low (escP (aft b i j)) 25 0) mm ml mt) := by
  refine ok_of (by decide +kernel) (Nat.zero_le _) (Nat.le_of_ble_eq_true rfl) ?_
  intro X C E
  show Ex X MX6_kindOf 0 [(0, .ref 40), (1, .int (nI i)), (2, .int (nI j))] [] (HH P Hs T L S V (s, bf, sv, past, isv, pm) (r1, d1, it, lo) mm ml mt)
  have hb2 := aft_lt hb i j
  have hsb2 := hsb.af hi j
  have hsi : s i = b i := hsb i hi
  generalize hb2e : aft b i j = b2 at *
  have hs2 := hsb2.lt hb2
  have hk := (loc7_some hl).1
  have hln := lineN_le b2 k
  have hbi := hb i
  have LP : ∀ m : Nat, m ≤ 25 → Ex X MX6_kindOf 79 [(7, .int (sqm m)), (6, .int (mask (escP b2))), (5, .int (qb (chkP b2))), (4, .int (nI (s j))), (3, .int (nI (s i))), (0, .ref 40), (1, .int (nI i)), (2, .int (nI j))] [] (HH P Hs T L S V (s, bf, sv, past, isv, pm) (r1, d1, it, low (escP b2) (25 - m) m) mm ml mt) := by
    intro m
    induction m with
    | zero =>
      intro hm
      rw [show sqm 0 = -1 from rfl, Nat.sub_zero]
      refine x_iload C dX6_kindOf_79 rfl ?_
      refine x_if_lt C 114 dX6_kindOf_81 (by decide) (fun c81 => ?_) (fun c81 => ?_)
      · refine x_iload C dX6_kindOf_114 rfl ?_
        refine x_if_eqB C 132 dX6_kindOf_116 (by decide) (fun c116 => ?_) (fun c116 => ?_)
        · refine x_iload C dX6_kindOf_132 rfl ?_
          refine x_if_ne C 141 dX6_kindOf_134 (by decide) (fun c134 => ?_) (fun c134 => ?_)
          · refine x_iconst C (v := nI 0) dX6_kindOf_141 (by decide +kernel) ?_
            exact x_iret E .int dX6_kindOf_142 rfl rfl (by have e : kindB b2 = 0 := (by unfold kindB; rw [if_neg (by rw [c116]; decide), if_neg (fun z => c134 (mask_z.mpr z))]); rw [e]) rfl
          · refine x_iconst C (v := nI 1) dX6_kindOf_137 (by decide +kernel) ?_
            refine x_goto C 142 dX6_kindOf_138 (by decide) ?_
            exact x_iret E .int dX6_kindOf_142 rfl rfl (by have e : kindB b2 = 1 := (by unfold kindB; rw [if_neg (by rw [c116]; decide), if_pos (mask_z.mp c134)]); rw [e]) rfl
        · refine x_iload C dX6_kindOf_119 rfl ?_
          refine x_if_ne C 128 dX6_kindOf_121 (by decide) (fun c121 => ?_) (fun c121 => ?_)
          · refine x_iconst C (v := nI 2) dX6_kindOf_128 (by decide +kernel) ?_
            refine x_goto C 142 dX6_kindOf_129 (by decide) ?_
            exact x_iret E .int dX6_kindOf_142 rfl rfl (by have e : kindB b2 = 2 := (by unfold kindB; rw [if_pos c116, if_neg (fun z => c121 (mask_z.mpr z))]); rw [e]) rfl
          · refine x_iconst C (v := nI 3) dX6_kindOf_124 (by decide +kernel) ?_
            refine x_goto C 142 dX6_kindOf_125 (by decide) ?_
            exact x_iret E .int dX6_kindOf_142 rfl rfl (by have e : kindB b2 = 3 := (by unfold kindB; rw [if_pos c116, if_pos (mask_z.mp c121)]); rw [e]) rfl
      · exact absurd (by decide : (-1 : Int32) < 0) c81
    | succ m ih =>
      intro hm
      rw [sqm_s]
      cases hpm : escP b2 m
      · refine x_iload C dX6_kindOf_79 rfl ?_
        refine x_if_ltN C 114 dX6_kindOf_81 (by decide) (by omega) ?_
        refine x_aload_n C dX6_kindOf_84 rfl ?_
        refine x_iload C dX6_kindOf_85 rfl ?_
        refine x_iload C dX6_kindOf_87 rfl ?_
        refine x_ishr C dX6_kindOf_89 ?_
        refine x_iconst C (v := nI 1) dX6_kindOf_90 (by decide +kernel) ?_
        refine x_iand C dX6_kindOf_91 ?_
        refine x_top ((mask_bit (escP b2) (by omega)).trans (congrArg qb hpm)) ?_
        refine x_iconst C (v := nI 1) dX6_kindOf_92 (by decide +kernel) ?_
        refine x_icmp_ne C 101 dX6_kindOf_93 (by decide) (fun c93 => ?_) (fun c93 => ?_)
        · have e1 : low (escP b2) (25 - (m + 1)) (m + 1) = low (escP b2) (25 - m) m := by rw [low_step _ m (by omega), if_neg (by rw [hpm]; decide)]
          refine x_aload_n C dX6_kindOf_101 rfl ?_
          refine x_getfield C qk6 9 (by decide) lfX6_136 dX6_kindOf_102 rfl rfl ?_
          refine x_putfield C qk6 9 (by decide) lfX6_136 rfl (ty0 := .int) (by decide +kernel) rfl rfl dX6_kindOf_105 rfl (Nat.le_of_ble_eq_true rfl) ?_
          refine x_heap (h2 := HH P Hs T L S V (s, bf, sv, past, isv, pm) (r1, d1, it, low (escP b2) (25 - m) m) mm ml mt) (by rw [← e1]; rfl) ?_
          refine x_iinc C _ dX6_kindOf_108 rfl (q_decm m) (by decide) [(7, _), (6, _), (5, _), (4, _), (3, _), (0, _), (1, _), (2, _)] rfl ?_
          refine x_goto C 79 dX6_kindOf_111 (by decide) ?_
          exact ih (by omega)
        · exact absurd c93 (by decide)
      · refine x_iload C dX6_kindOf_79 rfl ?_
        refine x_if_ltN C 114 dX6_kindOf_81 (by decide) (by omega) ?_
        refine x_aload_n C dX6_kindOf_84 rfl ?_
        refine x_iload C dX6_kindOf_85 rfl ?_
        refine x_iload C dX6_kindOf_87 rfl ?_
        refine x_ishr C dX6_kindOf_89 ?_
        refine x_iconst C (v := nI 1) dX6_kindOf_90 (by decide +kernel) ?_
        refine x_iand C dX6_kindOf_91 ?_
        refine x_top ((mask_bit (escP b2) (by omega)).trans (congrArg qb hpm)) ?_
        refine x_iconst C (v := nI 1) dX6_kindOf_92 (by decide +kernel) ?_
        refine x_icmp_ne C 101 dX6_kindOf_93 (by decide) (fun c93 => ?_) (fun c93 => ?_)
        · exact absurd rfl c93
        · have e1 : nI m = low (escP b2) (25 - m) m := by rw [low_step _ m (by omega), if_pos hpm]
          refine x_iload C dX6_kindOf_96 rfl ?_
          refine x_goto C 105 dX6_kindOf_98 (by decide) ?_
          refine x_putfield C qk6 9 (by decide) lfX6_136 rfl (ty0 := .int) (by decide +kernel) rfl rfl dX6_kindOf_105 rfl (Nat.le_of_ble_eq_true rfl) ?_
          refine x_heap (h2 := HH P Hs T L S V (s, bf, sv, past, isv, pm) (r1, d1, it, low (escP b2) (25 - m) m) mm ml mt) (by rw [← e1]; rfl) ?_
          refine x_iinc C _ dX6_kindOf_108 rfl (q_decm m) (by decide) [(7, _), (6, _), (5, _), (4, _), (3, _), (0, _), (1, _), (2, _)] rfl ?_
          refine x_goto C 79 dX6_kindOf_111 (by decide) ?_
          exact ih (by omega)
  refine x_aload_n C dX6_kindOf_0 rfl ?_
  refine x_getfield C qk6 0 (by decide) lfX6_9 dX6_kindOf_1 rfl rfl ?_
  refine x_iload_n C dX6_kindOf_4 rfl ?_
  refine x_iald C dX6_kindOf_5 HM_s (by omega) (by decide) ?_
  refine x_top (show nb s i = nI (s i) from rfl) ?_
  refine x_istore_n C dX6_kindOf_6 (by decide) [(3, _), (0, _), (1, _), (2, _)] rfl ?_
  refine x_aload_n C dX6_kindOf_7 rfl ?_
  refine x_getfield C qk6 0 (by decide) lfX6_9 dX6_kindOf_8 rfl rfl ?_
  refine x_iload_n C dX6_kindOf_11 rfl ?_
  refine x_iald C dX6_kindOf_12 HM_s (by omega) (by decide) ?_
  refine x_top (show nb s j = nI (s j) from rfl) ?_
  refine x_istore C dX6_kindOf_13 (by decide) [(4, _), (3, _), (0, _), (1, _), (2, _)] rfl ?_
  refine x_aload_n C dX6_kindOf_15 rfl ?_
  refine x_getfield C qk6 0 (by decide) lfX6_9 dX6_kindOf_16 rfl rfl ?_
  refine x_iload_n C dX6_kindOf_19 rfl ?_
  refine x_iconst C (v := nI 0) dX6_kindOf_20 (by decide +kernel) ?_
  refine x_istb C dX6_kindOf_21 HM_s (by omega) (by decide) ?_
  refine x_heap (h2 := HH P Hs T L S V (up s i 0, bf, sv, past, isv, pm) (r1, d1, it, lo) mm ml mt) (by rfl) ?_
  refine x_aload_n C dX6_kindOf_22 rfl ?_
  refine x_getfield C qk6 0 (by decide) lfX6_9 dX6_kindOf_23 rfl rfl ?_
  refine x_iload_n C dX6_kindOf_26 rfl ?_
  refine x_iload_n C dX6_kindOf_27 rfl ?_
  refine x_istb C dX6_kindOf_28 HM_s (by omega) (by decide) ?_
  refine x_heap (h2 := HH P Hs T L S V (aft s i j, bf, sv, past, isv, pm) (r1, d1, it, lo) mm ml mt) (by rfl) ?_
  refine x_aload_n C dX6_kindOf_29 rfl ?_
  refine x_aload_n C dX6_kindOf_30 rfl ?_
  refine x_bipush C (v := nI 7) dX6_kindOf_31 (by decide +kernel) ?_
  refine x_callV1i C (okX6_where hs2 7 (by decide)) lkX6_72 miX6_where msX6_where maX6_where ⟨Nat.le_of_ble_eq_true rfl, Nat.le_of_ble_eq_true rfl⟩ (Nat.le_of_ble_eq_true rfl) rfl rfl dX6_kindOf_33 ?_
  rw [whS hsb2 hu2, hl]
  show Ex X MX6_kindOf _ _ (.int (nI k) :: _) _
  refine x_callV1i C (okX6_attackersOf hs2 hk) lkX6_120 miX6_attackersOf msX6_attackersOf maX6_attackersOf ⟨Nat.le_of_ble_eq_true rfl, Nat.le_of_ble_eq_true rfl⟩ (Nat.le_of_ble_eq_true rfl) rfl rfl dX6_kindOf_36 ?_
  rw [attS hsb2 hb2 hk]
  refine x_if_leN C 46 dX6_kindOf_39 (by decide) (by omega) (fun c39 => ?_) (fun c39 => ?_)
  · have e1 : nI 0 = qb (chkP b2) := by rw [chk_eq hl, decide_eq_false (by omega)]; rfl
    refine x_iconst C (v := nI 0) dX6_kindOf_46 (by decide +kernel) ?_
    refine x_top e1 ?_
    refine x_istore C dX6_kindOf_47 (by decide) [(5, _), (4, _), (3, _), (0, _), (1, _), (2, _)] rfl ?_
    refine x_aload_n C dX6_kindOf_49 rfl ?_
    refine x_callV0i C (okX6_escapeSet hb2 hsb2 hu2) lkX6_129 miX6_escapeSet msX6_escapeSet maX6_escapeSet ⟨Nat.le_of_ble_eq_true rfl, Nat.le_of_ble_eq_true rfl⟩ (Nat.le_of_ble_eq_true rfl) rfl rfl dX6_kindOf_50 ?_
    refine x_istore C dX6_kindOf_53 (by decide) [(6, _), (5, _), (4, _), (3, _), (0, _), (1, _), (2, _)] rfl ?_
    refine x_aload_n C dX6_kindOf_55 rfl ?_
    refine x_getfield C qk6 0 (by decide) lfX6_9 dX6_kindOf_56 rfl rfl ?_
    refine x_iload_n C dX6_kindOf_59 rfl ?_
    refine x_iload_n C dX6_kindOf_60 rfl ?_
    refine x_istb C dX6_kindOf_61 HM_s (by omega) (by decide) ?_
    refine x_heap (h2 := HH P Hs T L S V (up (aft s i j) i (s i), bf, sv, past, isv, pm) (r1, d1, it, lo) mm ml mt) (by rfl) ?_
    refine x_aload_n C dX6_kindOf_62 rfl ?_
    refine x_getfield C qk6 0 (by decide) lfX6_9 dX6_kindOf_63 rfl rfl ?_
    refine x_iload_n C dX6_kindOf_66 rfl ?_
    refine x_iload C dX6_kindOf_67 rfl ?_
    refine x_istb C dX6_kindOf_69 HM_s (by omega) (by decide) ?_
    refine x_heap (h2 := HH P Hs T L S V (s, bf, sv, past, isv, pm) (r1, d1, it, lo) mm ml mt) (by rw [HS_s, kind_back]) ?_
    refine x_aload_n C dX6_kindOf_70 rfl ?_
    refine x_iconst C (v := (-1)) dX6_kindOf_71 (by decide +kernel) ?_
    refine x_putfield C qk6 9 (by decide) lfX6_136 rfl (ty0 := .int) (by decide +kernel) rfl rfl dX6_kindOf_72 rfl (Nat.le_of_ble_eq_true rfl) ?_
    refine x_heap (h2 := HH P Hs T L S V (s, bf, sv, past, isv, pm) (r1, d1, it, -1) mm ml mt) (by rfl) ?_
    rw [show (-1 : Int32) = low (escP b2) (25 - 25) 25 by rw [Nat.sub_self]; rfl]
    refine x_bipush C (v := nI 24) dX6_kindOf_75 (by decide +kernel) ?_
    refine x_istore C dX6_kindOf_77 (by decide) [(7, _), (6, _), (5, _), (4, _), (3, _), (0, _), (1, _), (2, _)] rfl ?_
    exact LP 25 (by omega)
  · have e1 : nI 1 = qb (chkP b2) := by rw [chk_eq hl, decide_eq_true (by omega)]; rfl
    refine x_iconst C (v := nI 1) dX6_kindOf_42 (by decide +kernel) ?_
    refine x_goto C 47 dX6_kindOf_43 (by decide) ?_
    refine x_top e1 ?_
    refine x_istore C dX6_kindOf_47 (by decide) [(5, _), (4, _), (3, _), (0, _), (1, _), (2, _)] rfl ?_
    refine x_aload_n C dX6_kindOf_49 rfl ?_
    refine x_callV0i C (okX6_escapeSet hb2 hsb2 hu2) lkX6_129 miX6_escapeSet msX6_escapeSet maX6_escapeSet ⟨Nat.le_of_ble_eq_true rfl, Nat.le_of_ble_eq_true rfl⟩ (Nat.le_of_ble_eq_true rfl) rfl rfl dX6_kindOf_50 ?_
    refine x_istore C dX6_kindOf_53 (by decide) [(6, _), (5, _), (4, _), (3, _), (0, _), (1, _), (2, _)] rfl ?_
    refine x_aload_n C dX6_kindOf_55 rfl ?_
    refine x_getfield C qk6 0 (by decide) lfX6_9 dX6_kindOf_56 rfl rfl ?_
    refine x_iload_n C dX6_kindOf_59 rfl ?_
    refine x_iload_n C dX6_kindOf_60 rfl ?_
    refine x_istb C dX6_kindOf_61 HM_s (by omega) (by decide) ?_
    refine x_heap (h2 := HH P Hs T L S V (up (aft s i j) i (s i), bf, sv, past, isv, pm) (r1, d1, it, lo) mm ml mt) (by rfl) ?_
    refine x_aload_n C dX6_kindOf_62 rfl ?_
    refine x_getfield C qk6 0 (by decide) lfX6_9 dX6_kindOf_63 rfl rfl ?_
    refine x_iload_n C dX6_kindOf_66 rfl ?_
    refine x_iload C dX6_kindOf_67 rfl ?_
    refine x_istb C dX6_kindOf_69 HM_s (by omega) (by decide) ?_
    refine x_heap (h2 := HH P Hs T L S V (s, bf, sv, past, isv, pm) (r1, d1, it, lo) mm ml mt) (by rw [HS_s, kind_back]) ?_
    refine x_aload_n C dX6_kindOf_70 rfl ?_
    refine x_iconst C (v := (-1)) dX6_kindOf_71 (by decide +kernel) ?_
    refine x_putfield C qk6 9 (by decide) lfX6_136 rfl (ty0 := .int) (by decide +kernel) rfl rfl dX6_kindOf_72 rfl (Nat.le_of_ble_eq_true rfl) ?_
    refine x_heap (h2 := HH P Hs T L S V (s, bf, sv, past, isv, pm) (r1, d1, it, -1) mm ml mt) (by rfl) ?_
    rw [show (-1 : Int32) = low (escP b2) (25 - 25) 25 by rw [Nat.sub_self]; rfl]
    refine x_bipush C (v := nI 24) dX6_kindOf_75 (by decide +kernel) ?_
    refine x_istore C dX6_kindOf_77 (by decide) [(7, _), (6, _), (5, _), (4, _), (3, _), (0, _), (1, _), (2, _)] rfl ?_
    exact LP 25 (by omega)
