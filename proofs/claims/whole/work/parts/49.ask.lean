/-! the reference: moves, escapes, fit -/
theorem movP_f1 {b : Nat → Nat} (hb : ∀ i, b i < 8) {i t : Nat} (ht : t < 25) (h : isW (b i) = false) : movP b i t = false := by
  cases e : movP b i t
  · rfl
  · rw [((movP_iff hb ht).mp e).1] at h; cases h
theorem movP_f2 {b : Nat → Nat} (hb : ∀ i, b i < 8) {i t : Nat} (ht : t < 25) (h : reachP b i t = false) : movP b i t = false := by
  cases e : movP b i t
  · rfl
  · rw [((movP_iff hb ht).mp e).2.1] at h; cases h
theorem movP_f3 {b : Nat → Nat} (hb : ∀ i, b i < 8) {i t : Nat} (ht : t < 25) (h0 : ¬ b t = 0) (h : ¬ b t = 6) : movP b i t = false := by
  cases e : movP b i t
  · rfl
  · exact (((movP_iff hb ht).mp e).2.2.1.elim h0 h).elim
theorem movP_f4 {b : Nat → Nat} (hb : ∀ i, b i < 8) {i t : Nat} (ht : t < 25) (h0 : b i = 1) (h : besO (loc7 b 7) t = true) : movP b i t = false := by
  cases e : movP b i t
  · rfl
  · exact absurd ⟨h0, h⟩ ((movP_iff hb ht).mp e).2.2.2
theorem movP_t {b : Nat → Nat} (hb : ∀ i, b i < 8) {i t : Nat} (ht : t < 25) (h1 : isW (b i) = true) (h2 : reachP b i t = true) (h3 : b t = 0 ∨ b t = 6) (h4 : ¬ (b i = 1 ∧ besO (loc7 b 7) t = true)) : movP b i t = true := (movP_iff hb ht).mpr ⟨h1, h2, h3, h4⟩
set_option maxHeartbeats 4000000 in
set_option maxRecDepth 100000 in
theorem okX6_areBeside_n (x y : Int32) (hn : x < 0 ∨ y < 0) (h : qH) : Ok MX6_areBeside [.int x, .int y] (h) (some (.int (nI 0))) (h) := by
  refine ok_of (by decide +kernel) (Nat.zero_le _) (Nat.le_of_ble_eq_true rfl) ?_
  intro X C E
  show Ex X MX6_areBeside 0 [(0, .int x), (1, .int y)] [] (h)
  refine x_iload_n C dX6_areBeside_0 rfl ?_
  refine x_if_lt C 39 dX6_areBeside_1 (by decide) (fun c1 => ?_) (fun c1 => ?_)
  · refine x_iconst C (v := nI 0) dX6_areBeside_39 (by decide +kernel) ?_
    exact x_iret E .boolean dX6_areBeside_40 rfl rfl rfl rfl
  · refine x_iload_n C dX6_areBeside_4 rfl ?_
    refine x_if_lt C 39 dX6_areBeside_5 (by decide) (fun c5 => ?_) (fun c5 => ?_)
    · refine x_iconst C (v := nI 0) dX6_areBeside_39 (by decide +kernel) ?_
      exact x_iret E .boolean dX6_areBeside_40 rfl rfl rfl rfl
    · exact absurd hn (fun z => z.elim c1 c5)
set_option maxHeartbeats 4000000 in
set_option maxRecDepth 100000 in
theorem okX6_areBeside_p0 {i j : Nat} (hi : i < 25) (hj : j < 25) (h : qH) : Ok MX6_areBeside [.int (nI i), .int (nI j)] (h) (some (.int (qb (decide (farN j i = 1))))) (h) := by
  refine ok_of (by decide +kernel) (Nat.zero_le _) (Nat.le_of_ble_eq_true rfl) ?_
  intro X C E
  show Ex X MX6_areBeside 0 [(0, .int (nI i)), (1, .int (nI j))] [] (h)
  obtain ⟨ha1, ha2, -, -, ha5, ha6, -, -, -⟩ := ag_facts hj hi
  refine x_iload_n C dX6_areBeside_0 rfl ?_
  refine x_if_ltN C 39 dX6_areBeside_1 (by decide) (by omega) ?_
  refine x_iload_n C dX6_areBeside_4 rfl ?_
  refine x_if_ltN C 39 dX6_areBeside_5 (by decide) (by omega) ?_
  refine x_iload_n C dX6_areBeside_8 rfl ?_
  refine x_iconst C (v := nI 5) dX6_areBeside_9 (by decide +kernel) ?_
  refine x_iremN C dX6_areBeside_10 (by omega) (by decide) (by decide) ?_
  refine x_iload_n C dX6_areBeside_11 rfl ?_
  refine x_iconst C (v := nI 5) dX6_areBeside_12 (by decide +kernel) ?_
  refine x_iremN C dX6_areBeside_13 (by omega) (by decide) (by decide) ?_
  refine x_isub C dX6_areBeside_14 ?_
  refine x_mabs C lkX6_99 ⟨Nat.le_of_ble_eq_true rfl, Nat.le_of_ble_eq_true rfl⟩ (Nat.le_of_ble_eq_true rfl) dX6_areBeside_15 ?_
  refine x_top ha1 ?_
  refine x_iload_n C dX6_areBeside_18 rfl ?_
  refine x_iconst C (v := nI 5) dX6_areBeside_19 (by decide +kernel) ?_
  refine x_idivN C dX6_areBeside_20 (by omega) (by decide) (by decide) ?_
  refine x_iload_n C dX6_areBeside_21 rfl ?_
  refine x_iconst C (v := nI 5) dX6_areBeside_22 (by decide +kernel) ?_
  refine x_idivN C dX6_areBeside_23 (by omega) (by decide) (by decide) ?_
  refine x_isub C dX6_areBeside_24 ?_
  refine x_mabs C lkX6_99 ⟨Nat.le_of_ble_eq_true rfl, Nat.le_of_ble_eq_true rfl⟩ (Nat.le_of_ble_eq_true rfl) dX6_areBeside_25 ?_
  refine x_top ha2 ?_
  refine x_mmax C lkX6_104 ⟨Nat.le_of_ble_eq_true rfl, Nat.le_of_ble_eq_true rfl⟩ (Nat.le_of_ble_eq_true rfl) dX6_areBeside_28 ?_
  refine x_top (mx_nI (by omega) (by omega)) ?_
  refine x_iconst C (v := nI 1) dX6_areBeside_31 (by decide +kernel) ?_
  refine x_icmp_neN C 39 dX6_areBeside_32 (by decide) (by unfold farN at *; omega) (by omega) (fun c32 => ?_) (fun c32 => ?_)
  · refine x_iconst C (v := nI 0) dX6_areBeside_39 (by decide +kernel) ?_
    exact x_iret E .boolean dX6_areBeside_40 rfl rfl (by have e : decide (farN j i = 1) = false := decide_eq_false c32; rw [e]; rfl) rfl
  · refine x_iconst C (v := nI 1) dX6_areBeside_35 (by decide +kernel) ?_
    refine x_goto C 40 dX6_areBeside_36 (by decide) ?_
    exact x_iret E .boolean dX6_areBeside_40 rfl rfl (by have e : decide (farN j i = 1) = true := decide_eq_true c32; rw [e]; rfl) rfl
theorem besQ1 (o : Option Nat) (ho : ∀ j, o = some j → j < 25) {t : Nat} (ht : t < 25) (h : qH) : Ok MX6_areBeside [.int (nI t), .int (sqI o)] h (some (.int (qb (besO o t)))) h := by
  cases o with
  | none => exact okX6_areBeside_n _ _ (Or.inr (by decide)) h
  | some j => exact okX6_areBeside_p0 ht (ho j rfl) h
theorem besQ2 (o : Option Nat) (ho : ∀ j, o = some j → j < 25) {t : Nat} (ht : t < 25) (h : qH) : Ok MX6_areBeside [.int (sqI o), .int (nI t)] h (some (.int (qb (besO o t)))) h := by
  cases o with
  | none => exact okX6_areBeside_n _ _ (Or.inl (by decide)) h
  | some j =>
    have := okX6_areBeside_p0 (ho j rfl) ht h
    rw [far_comm] at this
    exact this
set_option maxHeartbeats 4000000 in
set_option maxRecDepth 100000 in
theorem okX6_isMove {P : qPs} {Hs : qHs} {T : qTs} {L : qLs} {S : qSs} {V : qVs} {mr : qmr} {mm : qmm} {ml : qml} {mt : qmt} {s bf sv past : Nat → Nat} {isv : Bool} {pm : Nat} {b : Nat → Nat} (hb : ∀ i, b i < 8) (hsb : Ag s b) (hu : Uq b 7) {i j : Nat} (hi : i < 25) (hj : j < 25) : Ok MX6_isMove [.ref 40, .int (nI i), .int (nI j)] (HH P Hs T L S V (s, bf, sv, past, isv, pm) mr mm ml mt) (some (.int (qb (movP b i j)))) (HH P Hs T L S V (s, bf, sv, past, isv, pm) mr mm ml mt) := by
  refine ok_of (by decide +kernel) (Nat.zero_le _) (Nat.le_of_ble_eq_true rfl) ?_
  intro X C E
  show Ex X MX6_isMove 0 [(0, .ref 40), (1, .int (nI i)), (2, .int (nI j))] [] (HH P Hs T L S V (s, bf, sv, past, isv, pm) mr mm ml mt)
  have hs := hsb.lt hb
  have hbi := hb i
  have hbj := hb j
  refine x_aload_n C dX6_isMove_0 rfl ?_
  refine x_getfield C qk6 0 (by decide) lfX6_9 dX6_isMove_1 rfl rfl ?_
  refine x_iload_n C dX6_isMove_4 rfl ?_
  refine x_iald C dX6_isMove_5 HM_s (by omega) (by decide) ?_
  refine x_top (congrArg nI (hsb i hi)) ?_
  refine x_callS1i C (okX6_isWhite _ (by omega) _) lkX6_107 miX6_isWhite mtX6_isWhite maX6_isWhite ⟨Nat.le_of_ble_eq_true rfl, Nat.le_of_ble_eq_true rfl⟩ (Nat.le_of_ble_eq_true rfl) dX6_isMove_6 ?_
  refine x_if_eqB C 45 dX6_isMove_9 (by decide) (fun c9 => ?_) (fun c9 => ?_)
  · refine x_iconst C (v := nI 0) dX6_isMove_45 (by decide +kernel) ?_
    refine x_istore_n C dX6_isMove_46 (by decide) [(3, _), (0, _), (1, _), (2, _)] rfl ?_
    refine x_iload_n C dX6_isMove_47 rfl ?_
    refine x_if_eqN C 78 dX6_isMove_48 (by decide) (by omega) (fun c48 => ?_) (fun c48 => ?_)
    · refine x_iconst C (v := nI 0) dX6_isMove_78 (by decide +kernel) ?_
      exact x_iret E .boolean dX6_isMove_79 rfl rfl (by have e : movP b i j = false := movP_f1 hb hj c9; rw [e]; rfl) rfl
    · exact absurd rfl c48
  · refine x_aload_n C dX6_isMove_12 rfl ?_
    refine x_iload_n C dX6_isMove_13 rfl ?_
    refine x_iload_n C dX6_isMove_14 rfl ?_
    refine x_callV2i C (okX6_attacks hs hi hj) lkX6_110 miX6_attacks msX6_attacks maX6_attacks ⟨Nat.le_of_ble_eq_true rfl, Nat.le_of_ble_eq_true rfl⟩ (Nat.le_of_ble_eq_true rfl) rfl rfl dX6_isMove_15 ?_
    rw [atS hsb hb hi hj]
    refine x_if_eqB C 45 dX6_isMove_18 (by decide) (fun c18 => ?_) (fun c18 => ?_)
    · refine x_iconst C (v := nI 0) dX6_isMove_45 (by decide +kernel) ?_
      refine x_istore_n C dX6_isMove_46 (by decide) [(3, _), (0, _), (1, _), (2, _)] rfl ?_
      refine x_iload_n C dX6_isMove_47 rfl ?_
      refine x_if_eqN C 78 dX6_isMove_48 (by decide) (by omega) (fun c48 => ?_) (fun c48 => ?_)
      · refine x_iconst C (v := nI 0) dX6_isMove_78 (by decide +kernel) ?_
        exact x_iret E .boolean dX6_isMove_79 rfl rfl (by have e : movP b i j = false := movP_f2 hb hj c18; rw [e]; rfl) rfl
      · exact absurd rfl c48
    · refine x_aload_n C dX6_isMove_21 rfl ?_
      refine x_getfield C qk6 0 (by decide) lfX6_9 dX6_isMove_22 rfl rfl ?_
      refine x_iload_n C dX6_isMove_25 rfl ?_
      refine x_iald C dX6_isMove_26 HM_s (by omega) (by decide) ?_
      refine x_top (congrArg nI (hsb j hj)) ?_
      refine x_if_eqN C 41 dX6_isMove_27 (by decide) (by omega) (fun c27 => ?_) (fun c27 => ?_)
      · refine x_iconst C (v := nI 1) dX6_isMove_41 (by decide +kernel) ?_
        refine x_goto C 46 dX6_isMove_42 (by decide) ?_
        refine x_istore_n C dX6_isMove_46 (by decide) [(3, _), (0, _), (1, _), (2, _)] rfl ?_
        refine x_iload_n C dX6_isMove_47 rfl ?_
        refine x_if_eqN C 78 dX6_isMove_48 (by decide) (by omega) (fun c48 => ?_) (fun c48 => ?_)
        · exact absurd c48 (by decide)
        · refine x_aload_n C dX6_isMove_51 rfl ?_
          refine x_getfield C qk6 0 (by decide) lfX6_9 dX6_isMove_52 rfl rfl ?_
          refine x_iload_n C dX6_isMove_55 rfl ?_
          refine x_iald C dX6_isMove_56 HM_s (by omega) (by decide) ?_
          refine x_top (congrArg nI (hsb i hi)) ?_
          refine x_iconst C (v := nI 1) dX6_isMove_57 (by decide +kernel) ?_
          refine x_icmp_neN C 74 dX6_isMove_58 (by decide) (by omega) (by omega) (fun c58 => ?_) (fun c58 => ?_)
          · refine x_iconst C (v := nI 1) dX6_isMove_74 (by decide +kernel) ?_
            refine x_goto C 79 dX6_isMove_75 (by decide) ?_
            exact x_iret E .boolean dX6_isMove_79 rfl rfl (by have e : movP b i j = true := movP_t hb hj c9 c18 (Or.inl c27) (fun z => c58 z.1); rw [e]; rfl) rfl
          · refine x_iload_n C dX6_isMove_61 rfl ?_
            refine x_aload_n C dX6_isMove_62 rfl ?_
            refine x_bipush C (v := nI 7) dX6_isMove_63 (by decide +kernel) ?_
            refine x_callV1i C (okX6_where hs 7 (by decide)) lkX6_72 miX6_where msX6_where maX6_where ⟨Nat.le_of_ble_eq_true rfl, Nat.le_of_ble_eq_true rfl⟩ (Nat.le_of_ble_eq_true rfl) rfl rfl dX6_isMove_65 ?_
            rw [whS hsb hu]
            refine x_callS2i C (besQ1 _ (fun j hj => (loc7_some hj).1) hj _) lkX6_114 miX6_areBeside mtX6_areBeside maX6_areBeside ⟨Nat.le_of_ble_eq_true rfl, Nat.le_of_ble_eq_true rfl⟩ (Nat.le_of_ble_eq_true rfl) dX6_isMove_68 ?_
            refine x_if_neB C 78 dX6_isMove_71 (by decide) (fun c71 => ?_) (fun c71 => ?_)
            · refine x_iconst C (v := nI 0) dX6_isMove_78 (by decide +kernel) ?_
              exact x_iret E .boolean dX6_isMove_79 rfl rfl (by have e : movP b i j = false := movP_f4 hb hj c58 c71; rw [e]; rfl) rfl
            · refine x_iconst C (v := nI 1) dX6_isMove_74 (by decide +kernel) ?_
              refine x_goto C 79 dX6_isMove_75 (by decide) ?_
              exact x_iret E .boolean dX6_isMove_79 rfl rfl (by have e : movP b i j = true := movP_t hb hj c9 c18 (Or.inl c27) (fun z => by rw [c71] at z; cases z.2); rw [e]; rfl) rfl
      · refine x_aload_n C dX6_isMove_30 rfl ?_
        refine x_getfield C qk6 0 (by decide) lfX6_9 dX6_isMove_31 rfl rfl ?_
        refine x_iload_n C dX6_isMove_34 rfl ?_
        refine x_iald C dX6_isMove_35 HM_s (by omega) (by decide) ?_
        refine x_top (congrArg nI (hsb j hj)) ?_
        refine x_bipush C (v := nI 6) dX6_isMove_36 (by decide +kernel) ?_
        refine x_icmp_neN C 45 dX6_isMove_38 (by decide) (by omega) (by omega) (fun c38 => ?_) (fun c38 => ?_)
        · refine x_iconst C (v := nI 0) dX6_isMove_45 (by decide +kernel) ?_
          refine x_istore_n C dX6_isMove_46 (by decide) [(3, _), (0, _), (1, _), (2, _)] rfl ?_
          refine x_iload_n C dX6_isMove_47 rfl ?_
          refine x_if_eqN C 78 dX6_isMove_48 (by decide) (by omega) (fun c48 => ?_) (fun c48 => ?_)
          · refine x_iconst C (v := nI 0) dX6_isMove_78 (by decide +kernel) ?_
            exact x_iret E .boolean dX6_isMove_79 rfl rfl (by have e : movP b i j = false := movP_f3 hb hj c27 c38; rw [e]; rfl) rfl
          · exact absurd rfl c48
        · refine x_iconst C (v := nI 1) dX6_isMove_41 (by decide +kernel) ?_
          refine x_goto C 46 dX6_isMove_42 (by decide) ?_
          refine x_istore_n C dX6_isMove_46 (by decide) [(3, _), (0, _), (1, _), (2, _)] rfl ?_
          refine x_iload_n C dX6_isMove_47 rfl ?_
          refine x_if_eqN C 78 dX6_isMove_48 (by decide) (by omega) (fun c48 => ?_) (fun c48 => ?_)
          · exact absurd c48 (by decide)
          · refine x_aload_n C dX6_isMove_51 rfl ?_
            refine x_getfield C qk6 0 (by decide) lfX6_9 dX6_isMove_52 rfl rfl ?_
            refine x_iload_n C dX6_isMove_55 rfl ?_
            refine x_iald C dX6_isMove_56 HM_s (by omega) (by decide) ?_
            refine x_top (congrArg nI (hsb i hi)) ?_
            refine x_iconst C (v := nI 1) dX6_isMove_57 (by decide +kernel) ?_
            refine x_icmp_neN C 74 dX6_isMove_58 (by decide) (by omega) (by omega) (fun c58 => ?_) (fun c58 => ?_)
            · refine x_iconst C (v := nI 1) dX6_isMove_74 (by decide +kernel) ?_
              refine x_goto C 79 dX6_isMove_75 (by decide) ?_
              exact x_iret E .boolean dX6_isMove_79 rfl rfl (by have e : movP b i j = true := movP_t hb hj c9 c18 (Or.inr c38) (fun z => c58 z.1); rw [e]; rfl) rfl
            · refine x_iload_n C dX6_isMove_61 rfl ?_
              refine x_aload_n C dX6_isMove_62 rfl ?_
              refine x_bipush C (v := nI 7) dX6_isMove_63 (by decide +kernel) ?_
              refine x_callV1i C (okX6_where hs 7 (by decide)) lkX6_72 miX6_where msX6_where maX6_where ⟨Nat.le_of_ble_eq_true rfl, Nat.le_of_ble_eq_true rfl⟩ (Nat.le_of_ble_eq_true rfl) rfl rfl dX6_isMove_65 ?_
              rw [whS hsb hu]
              refine x_callS2i C (besQ1 _ (fun j hj => (loc7_some hj).1) hj _) lkX6_114 miX6_areBeside mtX6_areBeside maX6_areBeside ⟨Nat.le_of_ble_eq_true rfl, Nat.le_of_ble_eq_true rfl⟩ (Nat.le_of_ble_eq_true rfl) dX6_isMove_68 ?_
              refine x_if_neB C 78 dX6_isMove_71 (by decide) (fun c71 => ?_) (fun c71 => ?_)
              · refine x_iconst C (v := nI 0) dX6_isMove_78 (by decide +kernel) ?_
                exact x_iret E .boolean dX6_isMove_79 rfl rfl (by have e : movP b i j = false := movP_f4 hb hj c58 c71; rw [e]; rfl) rfl
              · refine x_iconst C (v := nI 1) dX6_isMove_74 (by decide +kernel) ?_
                refine x_goto C 79 dX6_isMove_75 (by decide) ?_
                exact x_iret E .boolean dX6_isMove_79 rfl rfl (by have e : movP b i j = true := movP_t hb hj c9 c18 (Or.inr c38) (fun z => by rw [c71] at z; cases z.2); rw [e]; rfl) rfl
set_option maxHeartbeats 4000000 in
set_option maxRecDepth 100000 in
theorem okX6_countOf_a {P : qPs} {Hs : qHs} {T : qTs} {L : qLs} {S : qSs} {V : qVs} {mr : qmr} {mm : qmm} {ml : qml} {mt : qmt} {s bf sv past : Nat → Nat} {isv : Bool} {pm : Nat} {b : Nat → Nat} (hb : ∀ i, b i < 8) (hsb : Ag s b) (hu : Uq b 7) {i : Nat} (hi : i < 25) : Ok MX6_countOf [.ref 40, .int (nI i), .int (nI 1)] (HH P Hs T L S V (s, bf, sv, past, isv, pm) mr mm ml mt) (some (.int (nI (cnt (movP b i) 25)))) (HH P Hs T L S V (s, bf, sv, past, isv, pm) mr mm ml mt) := by
  refine ok_of (by decide +kernel) (Nat.zero_le _) (Nat.le_of_ble_eq_true rfl) ?_
  intro X C E
  show Ex X MX6_countOf 0 [(0, .ref 40), (1, .int (nI i)), (2, .int (nI 1))] [] (HH P Hs T L S V (s, bf, sv, past, isv, pm) mr mm ml mt)
  have hs := hsb.lt hb
  have LP : ∀ n k : Nat, k + n = 25 → Ex X MX6_countOf 5 [(0, .ref 40), (1, .int (nI i)), (2, .int (nI 1)), (3, .int (nI (cnt (movP b i) k))), (4, .int (nI k))] [] (HH P Hs T L S V (s, bf, sv, past, isv, pm) mr mm ml mt) := by
    intro n
    induction n with
    | zero =>
      intro k hin 
      have e : k = 25 := by omega
      subst e
      refine x_iload C dX6_countOf_5 rfl ?_
      refine x_bipush C (v := nI 25) dX6_countOf_7 (by decide +kernel) ?_
      refine x_icmp_geN C 53 dX6_countOf_9 (by decide) (by omega) (by omega) (fun c9 => ?_) (fun c9 => ?_)
      · refine x_iload_n C dX6_countOf_53 rfl ?_
        exact x_iret E .int dX6_countOf_54 rfl rfl rfl rfl
      · exact absurd c9 (by omega)
    | succ n ih =>
      intro k hin 
      have hlt : k < 25 := by omega
      refine x_iload C dX6_countOf_5 rfl ?_
      refine x_bipush C (v := nI 25) dX6_countOf_7 (by decide +kernel) ?_
      refine x_icmp_geN C 53 dX6_countOf_9 (by decide) (by omega) (by omega) (fun c9 => ?_) (fun c9 => ?_)
      · exact absurd c9 (by omega)
      · refine x_iload_n C dX6_countOf_12 rfl ?_
        refine x_iload_n C dX6_countOf_13 rfl ?_
        refine x_if_eqN C 30 dX6_countOf_14 (by decide) (by omega) (fun c14 => ?_) (fun c14 => ?_)
        · exact absurd c14 (by decide)
        · refine x_aload_n C dX6_countOf_17 rfl ?_
          refine x_iload_n C dX6_countOf_18 rfl ?_
          refine x_iload C dX6_countOf_19 rfl ?_
          refine x_callV2i C (okX6_isMove hb hsb hu hi hlt) lkX6_117 miX6_isMove msX6_isMove maX6_isMove ⟨Nat.le_of_ble_eq_true rfl, Nat.le_of_ble_eq_true rfl⟩ (Nat.le_of_ble_eq_true rfl) rfl rfl dX6_countOf_21 ?_
          refine x_if_eqB C 44 dX6_countOf_24 (by decide) (fun c24 => ?_) (fun c24 => ?_)
          · have e1 : cnt (movP b i) k + 0 = cnt (movP b i) (k + 1) := by simp [cnt, c24]
            refine x_iconst C (v := nI 0) dX6_countOf_44 (by decide +kernel) ?_
            refine x_iaddN C dX6_countOf_45 ?_
            rw [e1]
            refine x_istore_n C dX6_countOf_46 (by decide) [(3, _), (0, _), (1, _), (2, _), (4, _)] rfl ?_
            refine x_iinc C _ dX6_countOf_47 rfl (q_inc _) (by decide) [(4, _), (3, _), (0, _), (1, _), (2, _)] rfl ?_
            refine x_goto C 5 dX6_countOf_50 (by decide) ?_
            exact x_sub [2, 3, 4, 1, 0] (ih (k + 1) (by omega)) rfl
          · have e1 : cnt (movP b i) k + 1 = cnt (movP b i) (k + 1) := by simp [cnt, c24]
            refine x_goto C 40 dX6_countOf_27 (by decide) ?_
            refine x_iconst C (v := nI 1) dX6_countOf_40 (by decide +kernel) ?_
            refine x_goto C 45 dX6_countOf_41 (by decide) ?_
            refine x_iaddN C dX6_countOf_45 ?_
            rw [e1]
            refine x_istore_n C dX6_countOf_46 (by decide) [(3, _), (0, _), (1, _), (2, _), (4, _)] rfl ?_
            refine x_iinc C _ dX6_countOf_47 rfl (q_inc _) (by decide) [(4, _), (3, _), (0, _), (1, _), (2, _)] rfl ?_
            refine x_goto C 5 dX6_countOf_50 (by decide) ?_
            exact x_sub [2, 3, 4, 1, 0] (ih (k + 1) (by omega)) rfl
  refine x_iconst C (v := nI 0) dX6_countOf_0 (by decide +kernel) ?_
  refine x_istore_n C dX6_countOf_1 (by decide) [(3, _), (0, _), (1, _), (2, _)] rfl ?_
  refine x_iconst C (v := nI 0) dX6_countOf_2 (by decide +kernel) ?_
  refine x_istore C dX6_countOf_3 (by decide) [(4, _), (3, _), (0, _), (1, _), (2, _)] rfl ?_
  exact x_sub [2, 3, 4, 1, 0] (LP 25 0 (by omega)) rfl
set_option maxHeartbeats 4000000 in
set_option maxRecDepth 100000 in
theorem okX6_countOf_b {P : qPs} {Hs : qHs} {T : qTs} {L : qLs} {S : qSs} {V : qVs} {mr : qmr} {mm : qmm} {ml : qml} {mt : qmt} {s bf sv past : Nat → Nat} {isv : Bool} {pm : Nat} {b : Nat → Nat} (hb : ∀ i, b i < 8) (hsb : Ag s b) (hu : Uq b 7) {i : Nat} (hi : i < 25) : Ok MX6_countOf [.ref 40, .int (nI i), .int (nI 0)] (HH P Hs T L S V (s, bf, sv, past, isv, pm) mr mm ml mt) (some (.int (nI (cnt (reachP b i) 25)))) (HH P Hs T L S V (s, bf, sv, past, isv, pm) mr mm ml mt) := by
  refine ok_of (by decide +kernel) (Nat.zero_le _) (Nat.le_of_ble_eq_true rfl) ?_
  intro X C E
  show Ex X MX6_countOf 0 [(0, .ref 40), (1, .int (nI i)), (2, .int (nI 0))] [] (HH P Hs T L S V (s, bf, sv, past, isv, pm) mr mm ml mt)
  have hs := hsb.lt hb
  have LP : ∀ n k : Nat, k + n = 25 → Ex X MX6_countOf 5 [(0, .ref 40), (1, .int (nI i)), (2, .int (nI 0)), (3, .int (nI (cnt (reachP b i) k))), (4, .int (nI k))] [] (HH P Hs T L S V (s, bf, sv, past, isv, pm) mr mm ml mt) := by
    intro n
    induction n with
    | zero =>
      intro k hin 
      have e : k = 25 := by omega
      subst e
      refine x_iload C dX6_countOf_5 rfl ?_
      refine x_bipush C (v := nI 25) dX6_countOf_7 (by decide +kernel) ?_
      refine x_icmp_geN C 53 dX6_countOf_9 (by decide) (by omega) (by omega) (fun c9 => ?_) (fun c9 => ?_)
      · refine x_iload_n C dX6_countOf_53 rfl ?_
        exact x_iret E .int dX6_countOf_54 rfl rfl rfl rfl
      · exact absurd c9 (by omega)
    | succ n ih =>
      intro k hin 
      have hlt : k < 25 := by omega
      refine x_iload C dX6_countOf_5 rfl ?_
      refine x_bipush C (v := nI 25) dX6_countOf_7 (by decide +kernel) ?_
      refine x_icmp_geN C 53 dX6_countOf_9 (by decide) (by omega) (by omega) (fun c9 => ?_) (fun c9 => ?_)
      · exact absurd c9 (by omega)
      · refine x_iload_n C dX6_countOf_12 rfl ?_
        refine x_iload_n C dX6_countOf_13 rfl ?_
        refine x_if_eqN C 30 dX6_countOf_14 (by decide) (by omega) (fun c14 => ?_) (fun c14 => ?_)
        · refine x_aload_n C dX6_countOf_30 rfl ?_
          refine x_iload_n C dX6_countOf_31 rfl ?_
          refine x_iload C dX6_countOf_32 rfl ?_
          refine x_callV2i C (okX6_attacks hs hi hlt) lkX6_110 miX6_attacks msX6_attacks maX6_attacks ⟨Nat.le_of_ble_eq_true rfl, Nat.le_of_ble_eq_true rfl⟩ (Nat.le_of_ble_eq_true rfl) rfl rfl dX6_countOf_34 ?_
          rw [atS hsb hb hi hlt]
          refine x_if_eqB C 44 dX6_countOf_37 (by decide) (fun c37 => ?_) (fun c37 => ?_)
          · have e1 : cnt (reachP b i) k + 0 = cnt (reachP b i) (k + 1) := by simp [cnt, c37]
            refine x_iconst C (v := nI 0) dX6_countOf_44 (by decide +kernel) ?_
            refine x_iaddN C dX6_countOf_45 ?_
            rw [e1]
            refine x_istore_n C dX6_countOf_46 (by decide) [(3, _), (0, _), (1, _), (2, _), (4, _)] rfl ?_
            refine x_iinc C _ dX6_countOf_47 rfl (q_inc _) (by decide) [(4, _), (3, _), (0, _), (1, _), (2, _)] rfl ?_
            refine x_goto C 5 dX6_countOf_50 (by decide) ?_
            exact x_sub [2, 3, 4, 1, 0] (ih (k + 1) (by omega)) rfl
          · have e1 : cnt (reachP b i) k + 1 = cnt (reachP b i) (k + 1) := by simp [cnt, c37]
            refine x_iconst C (v := nI 1) dX6_countOf_40 (by decide +kernel) ?_
            refine x_goto C 45 dX6_countOf_41 (by decide) ?_
            refine x_iaddN C dX6_countOf_45 ?_
            rw [e1]
            refine x_istore_n C dX6_countOf_46 (by decide) [(3, _), (0, _), (1, _), (2, _), (4, _)] rfl ?_
            refine x_iinc C _ dX6_countOf_47 rfl (q_inc _) (by decide) [(4, _), (3, _), (0, _), (1, _), (2, _)] rfl ?_
            refine x_goto C 5 dX6_countOf_50 (by decide) ?_
            exact x_sub [2, 3, 4, 1, 0] (ih (k + 1) (by omega)) rfl
        · exact absurd rfl c14
  refine x_iconst C (v := nI 0) dX6_countOf_0 (by decide +kernel) ?_
  refine x_istore_n C dX6_countOf_1 (by decide) [(3, _), (0, _), (1, _), (2, _)] rfl ?_
  refine x_iconst C (v := nI 0) dX6_countOf_2 (by decide +kernel) ?_
  refine x_istore C dX6_countOf_3 (by decide) [(4, _), (3, _), (0, _), (1, _), (2, _)] rfl ?_
  exact x_sub [2, 3, 4, 1, 0] (LP 25 0 (by omega)) rfl
set_option maxHeartbeats 4000000 in
set_option maxRecDepth 100000 in
theorem okX6_attackers_out {P : qPs} {Hs : qHs} {T : qTs} {L : qLs} {S : qSs} {V : qVs} {mr : qmr} {mm : qmm} {ml : qml} {mt : qmt} {s bf sv past : Nat → Nat} {isv : Bool} {pm : Nat} {x : Int32} (hx : isSq x = false) : Ok MX6_attackers [.ref 40, .int x] (HH P Hs T L S V (s, bf, sv, past, isv, pm) mr mm ml mt) (some (.int (-1))) (HH P Hs T L S V (s, bf, sv, past, isv, pm) mr mm ml mt) := by
  refine ok_of (by decide +kernel) (Nat.zero_le _) (Nat.le_of_ble_eq_true rfl) ?_
  intro X C E
  show Ex X MX6_attackers 0 [(0, .ref 40), (1, .int x)] [] (HH P Hs T L S V (s, bf, sv, past, isv, pm) mr mm ml mt)
  refine x_iload_n C dX6_attackers_0 rfl ?_
  refine x_callS1i C (okX6_isSquare _ _) lkX6_64 miX6_isSquare mtX6_isSquare maX6_isSquare ⟨Nat.le_of_ble_eq_true rfl, Nat.le_of_ble_eq_true rfl⟩ (Nat.le_of_ble_eq_true rfl) dX6_attackers_1 ?_
  rw [hx]
  refine x_if_eqB C 15 dX6_attackers_4 (by decide) (fun c4 => ?_) (fun c4 => ?_)
  · refine x_iconst C (v := (-1)) dX6_attackers_15 (by decide +kernel) ?_
    exact x_iret E .int dX6_attackers_16 rfl rfl rfl rfl
  · cases c4
set_option maxHeartbeats 4000000 in
set_option maxRecDepth 100000 in
theorem okX6_attackers_in {P : qPs} {Hs : qHs} {T : qTs} {L : qLs} {S : qSs} {V : qVs} {mr : qmr} {mm : qmm} {ml : qml} {mt : qmt} {s bf sv past : Nat → Nat} {isv : Bool} {pm : Nat} {b : Nat → Nat} (hb : ∀ i, b i < 8) (hsb : Ag s b) {i : Nat} (hi : i < 25) : Ok MX6_attackers [.ref 40, .int (nI i)] (HH P Hs T L S V (s, bf, sv, past, isv, pm) mr mm ml mt) (some (.int (nI (lineN b i)))) (HH P Hs T L S V (s, bf, sv, past, isv, pm) mr mm ml mt) := by
  refine ok_of (by decide +kernel) (Nat.zero_le _) (Nat.le_of_ble_eq_true rfl) ?_
  intro X C E
  show Ex X MX6_attackers 0 [(0, .ref 40), (1, .int (nI i))] [] (HH P Hs T L S V (s, bf, sv, past, isv, pm) mr mm ml mt)
  have hs := hsb.lt hb
  refine x_iload_n C dX6_attackers_0 rfl ?_
  refine x_callS1i C (okX6_isSquare _ _) lkX6_64 miX6_isSquare mtX6_isSquare maX6_isSquare ⟨Nat.le_of_ble_eq_true rfl, Nat.le_of_ble_eq_true rfl⟩ (Nat.le_of_ble_eq_true rfl) dX6_attackers_1 ?_
  rw [isSq_nI (by omega), decide_eq_true hi]
  refine x_if_eqB C 15 dX6_attackers_4 (by decide) (fun c4 => ?_) (fun c4 => ?_)
  · cases c4
  · refine x_aload_n C dX6_attackers_7 rfl ?_
    refine x_iload_n C dX6_attackers_8 rfl ?_
    refine x_callV1i C (okX6_attackersOf hs hi) lkX6_120 miX6_attackersOf msX6_attackersOf maX6_attackersOf ⟨Nat.le_of_ble_eq_true rfl, Nat.le_of_ble_eq_true rfl⟩ (Nat.le_of_ble_eq_true rfl) rfl rfl dX6_attackers_9 ?_
    rw [attS hsb hb hi]
    refine x_goto C 16 dX6_attackers_12 (by decide) ?_
    exact x_iret E .int dX6_attackers_16 rfl rfl rfl rfl
set_option maxHeartbeats 4000000 in
set_option maxRecDepth 100000 in
theorem okX6_attackersAgain_out {P : qPs} {Hs : qHs} {T : qTs} {L : qLs} {S : qSs} {V : qVs} {mr : qmr} {mm : qmm} {ml : qml} {mt : qmt} {s bf sv past : Nat → Nat} {isv : Bool} {pm : Nat} {x : Int32} (hx : isSq x = false) : Ok MX6_attackersAgain [.ref 40, .int x] (HH P Hs T L S V (s, bf, sv, past, isv, pm) mr mm ml mt) (some (.int (-1))) (HH P Hs T L S V (s, bf, sv, past, isv, pm) mr mm ml mt) := by
  refine ok_of (by decide +kernel) (Nat.zero_le _) (Nat.le_of_ble_eq_true rfl) ?_
  intro X C E
  show Ex X MX6_attackersAgain 0 [(0, .ref 40), (1, .int x)] [] (HH P Hs T L S V (s, bf, sv, past, isv, pm) mr mm ml mt)
  refine x_aload_n C dX6_attackersAgain_0 rfl ?_
  refine x_iload_n C dX6_attackersAgain_1 rfl ?_
  refine x_callV1i C (okX6_attackers_out hx) lkX6_123 miX6_attackers msX6_attackers maX6_attackers ⟨Nat.le_of_ble_eq_true rfl, Nat.le_of_ble_eq_true rfl⟩ (Nat.le_of_ble_eq_true rfl) rfl rfl dX6_attackersAgain_2 ?_
  exact x_iret E .int dX6_attackersAgain_5 rfl rfl rfl rfl
set_option maxHeartbeats 4000000 in
set_option maxRecDepth 100000 in
theorem okX6_attackersAgain_in {P : qPs} {Hs : qHs} {T : qTs} {L : qLs} {S : qSs} {V : qVs} {mr : qmr} {mm : qmm} {ml : qml} {mt : qmt} {s bf sv past : Nat → Nat} {isv : Bool} {pm : Nat} {b : Nat → Nat} (hb : ∀ i, b i < 8) (hsb : Ag s b) {i : Nat} (hi : i < 25) : Ok MX6_attackersAgain [.ref 40, .int (nI i)] (HH P Hs T L S V (s, bf, sv, past, isv, pm) mr mm ml mt) (some (.int (nI (lineN b i)))) (HH P Hs T L S V (s, bf, sv, past, isv, pm) mr mm ml mt) := by
  refine ok_of (by decide +kernel) (Nat.zero_le _) (Nat.le_of_ble_eq_true rfl) ?_
  intro X C E
  show Ex X MX6_attackersAgain 0 [(0, .ref 40), (1, .int (nI i))] [] (HH P Hs T L S V (s, bf, sv, past, isv, pm) mr mm ml mt)
  refine x_aload_n C dX6_attackersAgain_0 rfl ?_
  refine x_iload_n C dX6_attackersAgain_1 rfl ?_
  refine x_callV1i C (okX6_attackers_in hb hsb hi) lkX6_123 miX6_attackers msX6_attackers maX6_attackers ⟨Nat.le_of_ble_eq_true rfl, Nat.le_of_ble_eq_true rfl⟩ (Nat.le_of_ble_eq_true rfl) rfl rfl dX6_attackersAgain_2 ?_
  exact x_iret E .int dX6_attackersAgain_5 rfl rfl rfl rfl
set_option maxHeartbeats 4000000 in
set_option maxRecDepth 100000 in
theorem okX6_at_out {P : qPs} {Hs : qHs} {T : qTs} {L : qLs} {S : qSs} {V : qVs} {mr : qmr} {mm : qmm} {ml : qml} {mt : qmt} {s bf sv past : Nat → Nat} {isv : Bool} {pm : Nat} {x : Int32} (hx : isSq x = false) : Ok MX6_at [.ref 40, .int x] (HH P Hs T L S V (s, bf, sv, past, isv, pm) mr mm ml mt) (some (.int (-1))) (HH P Hs T L S V (s, bf, sv, past, isv, pm) mr mm ml mt) := by
  refine ok_of (by decide +kernel) (Nat.zero_le _) (Nat.le_of_ble_eq_true rfl) ?_
  intro X C E
  show Ex X MX6_at 0 [(0, .ref 40), (1, .int x)] [] (HH P Hs T L S V (s, bf, sv, past, isv, pm) mr mm ml mt)
  refine x_iload_n C dX6_at_0 rfl ?_
  refine x_callS1i C (okX6_isSquare _ _) lkX6_64 miX6_isSquare mtX6_isSquare maX6_isSquare ⟨Nat.le_of_ble_eq_true rfl, Nat.le_of_ble_eq_true rfl⟩ (Nat.le_of_ble_eq_true rfl) dX6_at_1 ?_
  rw [hx]
  refine x_if_eqB C 16 dX6_at_4 (by decide) (fun c4 => ?_) (fun c4 => ?_)
  · refine x_iconst C (v := (-1)) dX6_at_16 (by decide +kernel) ?_
    exact x_iret E .int dX6_at_17 rfl rfl rfl rfl
  · cases c4
set_option maxHeartbeats 4000000 in
set_option maxRecDepth 100000 in
theorem okX6_at_in {P : qPs} {Hs : qHs} {T : qTs} {L : qLs} {S : qSs} {V : qVs} {mr : qmr} {mm : qmm} {ml : qml} {mt : qmt} {s bf sv past : Nat → Nat} {isv : Bool} {pm : Nat} {b : Nat → Nat} (hb : ∀ i, b i < 8) (hsb : Ag s b) {i : Nat} (hi : i < 25) : Ok MX6_at [.ref 40, .int (nI i)] (HH P Hs T L S V (s, bf, sv, past, isv, pm) mr mm ml mt) (some (.int (nI (b i)))) (HH P Hs T L S V (s, bf, sv, past, isv, pm) mr mm ml mt) := by
  refine ok_of (by decide +kernel) (Nat.zero_le _) (Nat.le_of_ble_eq_true rfl) ?_
  intro X C E
  show Ex X MX6_at 0 [(0, .ref 40), (1, .int (nI i))] [] (HH P Hs T L S V (s, bf, sv, past, isv, pm) mr mm ml mt)
  have hs := hsb.lt hb
  refine x_iload_n C dX6_at_0 rfl ?_
  refine x_callS1i C (okX6_isSquare _ _) lkX6_64 miX6_isSquare mtX6_isSquare maX6_isSquare ⟨Nat.le_of_ble_eq_true rfl, Nat.le_of_ble_eq_true rfl⟩ (Nat.le_of_ble_eq_true rfl) dX6_at_1 ?_
  rw [isSq_nI (by omega), decide_eq_true hi]
  refine x_if_eqB C 16 dX6_at_4 (by decide) (fun c4 => ?_) (fun c4 => ?_)
  · cases c4
  · refine x_aload_n C dX6_at_7 rfl ?_
    refine x_getfield C qk6 0 (by decide) lfX6_9 dX6_at_8 rfl rfl ?_
    refine x_iload_n C dX6_at_11 rfl ?_
    refine x_iald C dX6_at_12 HM_s (by omega) (by decide) ?_
    refine x_top (congrArg nI (hsb i hi)) ?_
    refine x_goto C 17 dX6_at_13 (by decide) ?_
    exact x_iret E .int dX6_at_17 rfl rfl rfl rfl
theorem esc_back {s : Nat → Nat} {j t : Nat} (h : s j = 7) : up (up (up (up s j 0) t 7) j 7) t (s t) = s := by
  funext x
  unfold up
  by_cases e : x = t
  · subst e; rw [if_pos rfl]
  · rw [if_neg e]
    by_cases e2 : x = j
    · subst e2; rw [if_pos rfl, h]
    · rw [if_neg e2, if_neg e, if_neg e2]
def escN (b : Nat → Nat) (n : Nat) : Nat → Bool := fun t => decide (t < n) && escP b t
theorem esc_none {b : Nat → Nat} (h : loc7 b 7 = none) : escP b = fun _ => false := by unfold escP; rw [h]
theorem escN_t {b : Nat → Nat} {n : Nat} (h : escP b n = true) : mask (escN b n) ||| (nI 1 <<< (nI n &&& 31)) = mask (escN b (n + 1)) ∨ 25 ≤ n := by
  by_cases hn : n < 25
  · left
    rw [mask_one hn, mask_or]
    refine mask_congr fun k hk => ?_
    unfold escN one
    by_cases e : k = n
    · subst e; rw [h]; simp
    · by_cases e2 : k < n
      · simp [e, e2, show k < n + 1 by omega]
      · simp [e, e2, show ¬ k < n + 1 by omega]
  · right; omega
theorem escN_f {b : Nat → Nat} {n : Nat} (h : escP b n = false) : mask (escN b n) ||| nI 0 = mask (escN b (n + 1)) := by
  rw [mask_or0]
  refine mask_congr fun k hk => ?_
  unfold escN
  by_cases e : k = n
  · subst e; rw [h]; simp
  · by_cases e2 : k < n
    · simp [e2, show k < n + 1 by omega]
    · simp [e2, show ¬ k < n + 1 by omega]
theorem escN_25 (b : Nat → Nat) : mask (escN b 25) = mask (escP b) := mask_congr fun k hk => by unfold escN; rw [decide_eq_true hk]; rfl
theorem escN_0 (b : Nat → Nat) : nI 0 = mask (escN b 0) := by
  rw [← mask_none]
  exact mask_congr fun k hk => by unfold escN; simp
theorem HS_s {P : qPs} {Hs : qHs} {T : qTs} {L : qLs} {S : qSs} {V : qVs} {s s2 bf sv past : Nat → Nat} {isv : Bool} {pm : Nat} {mr : qmr} {mm : qmm} {ml : qml} {mt : qmt} : (HH P Hs T L S V (s, bf, sv, past, isv, pm) mr mm ml mt).set 41 (qB0 29 s2) = HH P Hs T L S V (s2, bf, sv, past, isv, pm) mr mm ml mt := rfl
set_option maxHeartbeats 4000000 in
set_option maxRecDepth 100000 in
theorem okX6_canEscape {P : qPs} {Hs : qHs} {T : qTs} {L : qLs} {S : qSs} {V : qVs} {mr : qmr} {mm : qmm} {ml : qml} {mt : qmt} {s bf sv past : Nat → Nat} {isv : Bool} {pm : Nat} {b : Nat → Nat} (hb : ∀ i, b i < 8) (hsb : Ag s b) (hu : Uq b 7) {j : Nat} (hj : j < 25) : Ok MX6_canEscape [.ref 40, .int (nI j)] (HH P Hs T L S V (s, bf, sv, past, isv, pm) mr mm ml mt) (some (.int (qb (escP b j)))) (HH P Hs T L S V (s, bf, sv, past, isv, pm) mr mm ml mt) := by
  refine ok_of (by decide +kernel) (Nat.zero_le _) (Nat.le_of_ble_eq_true rfl) ?_
  intro X C E
  show Ex X MX6_canEscape 0 [(0, .ref 40), (1, .int (nI j))] [] (HH P Hs T L S V (s, bf, sv, past, isv, pm) mr mm ml mt)
  have hs := hsb.lt hb
  cases hl : loc7 b 7 with
  | none =>
    refine x_aload_n C dX6_canEscape_0 rfl ?_
    refine x_bipush C (v := nI 7) dX6_canEscape_1 (by decide +kernel) ?_
    refine x_callV1i C (okX6_where hs 7 (by decide)) lkX6_72 miX6_where msX6_where maX6_where ⟨Nat.le_of_ble_eq_true rfl, Nat.le_of_ble_eq_true rfl⟩ (Nat.le_of_ble_eq_true rfl) rfl rfl dX6_canEscape_3 ?_
    rw [whS hsb hu, hl]
    refine x_istore_n C dX6_canEscape_6 (by decide) [(2, _), (0, _), (1, _)] rfl ?_
    refine x_iload_n C dX6_canEscape_7 rfl ?_
    refine x_iload_n C dX6_canEscape_8 rfl ?_
    refine x_callS2i C (besQ2 none (fun _ h => by cases h) hj _) lkX6_114 miX6_areBeside mtX6_areBeside maX6_areBeside ⟨Nat.le_of_ble_eq_true rfl, Nat.le_of_ble_eq_true rfl⟩ (Nat.le_of_ble_eq_true rfl) dX6_canEscape_9 ?_
    rw [show besO none j = false from rfl]
    refine x_if_eqB C 26 dX6_canEscape_12 (by decide) (fun c12 => ?_) (fun c12 => ?_)
    · refine x_iconst C (v := nI 0) dX6_canEscape_26 (by decide +kernel) ?_
      exact x_iret E .boolean dX6_canEscape_27 rfl rfl (by rw [esc_none hl]; rfl) rfl
    · cases c12
  | some k =>
    obtain ⟨hk, hk7⟩ := loc7_some hl
    have hsk : s k = 7 := by rw [hsb k hk]; exact hk7
    have hb2 : ∀ x, up (up b k 0) j 7 x < 8 := up_lt (up_lt hb (by decide)) (by decide)
    have hsb2 := (hsb.up k 0).up j 7
    have hs2 := hsb2.lt hb2
    have hbj := hb j
    have hln := lineN_le (up (up b k 0) j 7) j
    refine x_aload_n C dX6_canEscape_0 rfl ?_
    refine x_bipush C (v := nI 7) dX6_canEscape_1 (by decide +kernel) ?_
    refine x_callV1i C (okX6_where hs 7 (by decide)) lkX6_72 miX6_where msX6_where maX6_where ⟨Nat.le_of_ble_eq_true rfl, Nat.le_of_ble_eq_true rfl⟩ (Nat.le_of_ble_eq_true rfl) rfl rfl dX6_canEscape_3 ?_
    rw [whS hsb hu, hl]
    refine x_istore_n C dX6_canEscape_6 (by decide) [(2, _), (0, _), (1, _)] rfl ?_
    skip
    refine x_iload_n C dX6_canEscape_7 rfl ?_
    refine x_iload_n C dX6_canEscape_8 rfl ?_
    refine x_callS2i C (besQ2 (some k) (fun q h => by cases h; exact hk) hj _) lkX6_114 miX6_areBeside mtX6_areBeside maX6_areBeside ⟨Nat.le_of_ble_eq_true rfl, Nat.le_of_ble_eq_true rfl⟩ (Nat.le_of_ble_eq_true rfl) dX6_canEscape_9 ?_
    rw [show besO (some k) j = decide (farN k j = 1) from rfl]
    refine x_if_eqB C 26 dX6_canEscape_12 (by decide) (fun c12 => ?_) (fun c12 => ?_)
    · refine x_iconst C (v := nI 0) dX6_canEscape_26 (by decide +kernel) ?_
      exact x_iret E .boolean dX6_canEscape_27 rfl rfl (by have e : escP b j = false := (by cases e : escP b j; rfl; exact absurd ((esc_iff hb hl hj).mp e).1 (of_decide_eq_false c12)); rw [e]; rfl) rfl
    · refine x_aload_n C dX6_canEscape_15 rfl ?_
      refine x_getfield C qk6 0 (by decide) lfX6_9 dX6_canEscape_16 rfl rfl ?_
      refine x_iload_n C dX6_canEscape_19 rfl ?_
      refine x_iald C dX6_canEscape_20 HM_s (by omega) (by decide) ?_
      refine x_top (congrArg nI (hsb j hj)) ?_
      refine x_bipush C (v := nI 6) dX6_canEscape_21 (by decide +kernel) ?_
      refine x_icmp_neN C 28 dX6_canEscape_23 (by decide) (by omega) (by omega) (fun c23 => ?_) (fun c23 => ?_)
      · refine x_aload_n C dX6_canEscape_28 rfl ?_
        refine x_getfield C qk6 0 (by decide) lfX6_9 dX6_canEscape_29 rfl rfl ?_
        refine x_iload_n C dX6_canEscape_32 rfl ?_
        refine x_iald C dX6_canEscape_33 HM_s (by omega) (by decide) ?_
        refine x_istore_n C dX6_canEscape_34 (by decide) [(3, _), (2, _), (0, _), (1, _)] rfl ?_
        refine x_aload_n C dX6_canEscape_35 rfl ?_
        refine x_getfield C qk6 0 (by decide) lfX6_9 dX6_canEscape_36 rfl rfl ?_
        refine x_iload_n C dX6_canEscape_39 rfl ?_
        refine x_iconst C (v := nI 0) dX6_canEscape_40 (by decide +kernel) ?_
        refine x_istb C dX6_canEscape_41 HM_s (by omega) (by decide) ?_
        refine x_heap (h2 := HH P Hs T L S V (up s k 0, bf, sv, past, isv, pm) mr mm ml mt) (by rfl) ?_
        refine x_aload_n C dX6_canEscape_42 rfl ?_
        refine x_getfield C qk6 0 (by decide) lfX6_9 dX6_canEscape_43 rfl rfl ?_
        refine x_iload_n C dX6_canEscape_46 rfl ?_
        refine x_bipush C (v := nI 7) dX6_canEscape_47 (by decide +kernel) ?_
        refine x_istb C dX6_canEscape_49 HM_s (by omega) (by decide) ?_
        refine x_heap (h2 := HH P Hs T L S V (up (up s k 0) j 7, bf, sv, past, isv, pm) mr mm ml mt) (by rfl) ?_
        refine x_aload_n C dX6_canEscape_50 rfl ?_
        refine x_iload_n C dX6_canEscape_51 rfl ?_
        refine x_callV1i C (okX6_attackersOf hs2 hj) lkX6_120 miX6_attackersOf msX6_attackersOf maX6_attackersOf ⟨Nat.le_of_ble_eq_true rfl, Nat.le_of_ble_eq_true rfl⟩ (Nat.le_of_ble_eq_true rfl) rfl rfl dX6_canEscape_52 ?_
        rw [attS hsb2 hb2 hj]
        refine x_if_neN C 62 dX6_canEscape_55 (by decide) (by omega) (fun c55 => ?_) (fun c55 => ?_)
        · refine x_iconst C (v := nI 0) dX6_canEscape_62 (by decide +kernel) ?_
          refine x_istore C dX6_canEscape_63 (by decide) [(4, _), (3, _), (2, _), (0, _), (1, _)] rfl ?_
          refine x_aload_n C dX6_canEscape_65 rfl ?_
          refine x_getfield C qk6 0 (by decide) lfX6_9 dX6_canEscape_66 rfl rfl ?_
          refine x_iload_n C dX6_canEscape_69 rfl ?_
          refine x_bipush C (v := nI 7) dX6_canEscape_70 (by decide +kernel) ?_
          refine x_istb C dX6_canEscape_72 HM_s (by omega) (by decide) ?_
          refine x_heap (h2 := HH P Hs T L S V (up (up (up s k 0) j 7) k 7, bf, sv, past, isv, pm) mr mm ml mt) (by rfl) ?_
          refine x_aload_n C dX6_canEscape_73 rfl ?_
          refine x_getfield C qk6 0 (by decide) lfX6_9 dX6_canEscape_74 rfl rfl ?_
          refine x_iload_n C dX6_canEscape_77 rfl ?_
          refine x_iload_n C dX6_canEscape_78 rfl ?_
          refine x_istb C dX6_canEscape_79 HM_s (by omega) (by decide) ?_
          refine x_heap (h2 := HH P Hs T L S V (s, bf, sv, past, isv, pm) mr mm ml mt) (by rw [HS_s, esc_back hsk]) ?_
          refine x_iload C dX6_canEscape_80 rfl ?_
          exact x_iret E .boolean dX6_canEscape_82 rfl rfl (by have e : escP b j = false := (by cases e : escP b j; rfl; exact absurd ((esc_iff hb hl hj).mp e).2.2 c55); rw [e]; rfl) rfl
        · refine x_iconst C (v := nI 1) dX6_canEscape_58 (by decide +kernel) ?_
          refine x_goto C 63 dX6_canEscape_59 (by decide) ?_
          refine x_istore C dX6_canEscape_63 (by decide) [(4, _), (3, _), (2, _), (0, _), (1, _)] rfl ?_
          refine x_aload_n C dX6_canEscape_65 rfl ?_
          refine x_getfield C qk6 0 (by decide) lfX6_9 dX6_canEscape_66 rfl rfl ?_
          refine x_iload_n C dX6_canEscape_69 rfl ?_
          refine x_bipush C (v := nI 7) dX6_canEscape_70 (by decide +kernel) ?_
          refine x_istb C dX6_canEscape_72 HM_s (by omega) (by decide) ?_
          refine x_heap (h2 := HH P Hs T L S V (up (up (up s k 0) j 7) k 7, bf, sv, past, isv, pm) mr mm ml mt) (by rfl) ?_
          refine x_aload_n C dX6_canEscape_73 rfl ?_
          refine x_getfield C qk6 0 (by decide) lfX6_9 dX6_canEscape_74 rfl rfl ?_
          refine x_iload_n C dX6_canEscape_77 rfl ?_
          refine x_iload_n C dX6_canEscape_78 rfl ?_
          refine x_istb C dX6_canEscape_79 HM_s (by omega) (by decide) ?_
          refine x_heap (h2 := HH P Hs T L S V (s, bf, sv, past, isv, pm) mr mm ml mt) (by rw [HS_s, esc_back hsk]) ?_
          refine x_iload C dX6_canEscape_80 rfl ?_
          exact x_iret E .boolean dX6_canEscape_82 rfl rfl (by have e : escP b j = true := ((esc_iff hb hl hj).mpr ⟨of_decide_eq_true c12, c23, c55⟩); rw [e]; rfl) rfl
      · refine x_iconst C (v := nI 0) dX6_canEscape_26 (by decide +kernel) ?_
        exact x_iret E .boolean dX6_canEscape_27 rfl rfl (by have e : escP b j = false := (by cases e : escP b j; rfl; exact absurd c23 ((esc_iff hb hl hj).mp e).2.1); rw [e]; rfl) rfl
set_option maxHeartbeats 4000000 in
set_option maxRecDepth 100000 in
theorem okX6_escapeSet {P : qPs} {Hs : qHs} {T : qTs} {L : qLs} {S : qSs} {V : qVs} {mr : qmr} {mm : qmm} {ml : qml} {mt : qmt} {s bf sv past : Nat → Nat} {isv : Bool} {pm : Nat} {b : Nat → Nat} (hb : ∀ i, b i < 8) (hsb : Ag s b) (hu : Uq b 7)  : Ok MX6_escapeSet [.ref 40] (HH P Hs T L S V (s, bf, sv, past, isv, pm) mr mm ml mt) (some (.int (mask (escP b)))) (HH P Hs T L S V (s, bf, sv, past, isv, pm) mr mm ml mt) := by
  refine ok_of (by decide +kernel) (Nat.zero_le _) (Nat.le_of_ble_eq_true rfl) ?_
  intro X C E
  show Ex X MX6_escapeSet 0 [(0, .ref 40)] [] (HH P Hs T L S V (s, bf, sv, past, isv, pm) mr mm ml mt)
  have LP : ∀ n k : Nat, k + n = 25 → Ex X MX6_escapeSet 4 [(0, .ref 40), (1, .int (mask (escN b k))), (2, .int (nI k))] [] (HH P Hs T L S V (s, bf, sv, past, isv, pm) mr mm ml mt) := by
    intro n
    induction n with
    | zero =>
      intro k hin 
      have e : k = 25 := by omega
      subst e
      refine x_iload_n C dX6_escapeSet_4 rfl ?_
      refine x_bipush C (v := nI 25) dX6_escapeSet_5 (by decide +kernel) ?_
      refine x_icmp_geN C 34 dX6_escapeSet_7 (by decide) (by omega) (by omega) (fun c7 => ?_) (fun c7 => ?_)
      · refine x_iload_n C dX6_escapeSet_34 rfl ?_
        exact x_iret E .int dX6_escapeSet_35 rfl rfl (by rw [escN_25]) rfl
      · exact absurd c7 (by omega)
    | succ n ih =>
      intro k hin 
      have hlt : k < 25 := by omega
      refine x_iload_n C dX6_escapeSet_4 rfl ?_
      refine x_bipush C (v := nI 25) dX6_escapeSet_5 (by decide +kernel) ?_
      refine x_icmp_geN C 34 dX6_escapeSet_7 (by decide) (by omega) (by omega) (fun c7 => ?_) (fun c7 => ?_)
      · exact absurd c7 (by omega)
      · refine x_iload_n C dX6_escapeSet_10 rfl ?_
        refine x_aload_n C dX6_escapeSet_11 rfl ?_
        refine x_iload_n C dX6_escapeSet_12 rfl ?_
        refine x_callV1i C (okX6_canEscape hb hsb hu hlt) lkX6_126 miX6_canEscape msX6_canEscape maX6_canEscape ⟨Nat.le_of_ble_eq_true rfl, Nat.le_of_ble_eq_true rfl⟩ (Nat.le_of_ble_eq_true rfl) rfl rfl dX6_escapeSet_13 ?_
        refine x_if_eqB C 25 dX6_escapeSet_16 (by decide) (fun c16 => ?_) (fun c16 => ?_)
        · have e1 := escN_f c16
          refine x_iconst C (v := nI 0) dX6_escapeSet_25 (by decide +kernel) ?_
          refine x_ior C dX6_escapeSet_26 ?_
          refine x_top e1 ?_
          refine x_istore_n C dX6_escapeSet_27 (by decide) [(1, _), (0, _), (2, _)] rfl ?_
          refine x_iinc C _ dX6_escapeSet_28 rfl (q_inc _) (by decide) [(2, _), (1, _), (0, _)] rfl ?_
          refine x_goto C 4 dX6_escapeSet_31 (by decide) ?_
          exact x_sub [2, 1, 0] (ih (k + 1) (by omega)) rfl
        · have e1 := (escN_t c16).resolve_right (by omega)
          refine x_iconst C (v := nI 1) dX6_escapeSet_19 (by decide +kernel) ?_
          refine x_iload_n C dX6_escapeSet_20 rfl ?_
          refine x_ishl C dX6_escapeSet_21 ?_
          refine x_goto C 26 dX6_escapeSet_22 (by decide) ?_
          refine x_ior C dX6_escapeSet_26 ?_
          refine x_top e1 ?_
          refine x_istore_n C dX6_escapeSet_27 (by decide) [(1, _), (0, _), (2, _)] rfl ?_
          refine x_iinc C _ dX6_escapeSet_28 rfl (q_inc _) (by decide) [(2, _), (1, _), (0, _)] rfl ?_
          refine x_goto C 4 dX6_escapeSet_31 (by decide) ?_
          exact x_sub [2, 1, 0] (ih (k + 1) (by omega)) rfl
  refine x_iconst C (v := nI 0) dX6_escapeSet_0 (by decide +kernel) ?_
  refine x_top (escN_0 b) ?_
  refine x_istore_n C dX6_escapeSet_1 (by decide) [(1, _), (0, _)] rfl ?_
  refine x_iconst C (v := nI 0) dX6_escapeSet_2 (by decide +kernel) ?_
  refine x_istore_n C dX6_escapeSet_3 (by decide) [(2, _), (1, _), (0, _)] rfl ?_
  exact x_sub [2, 1, 0] (LP 25 0 (by omega)) rfl
set_option maxHeartbeats 4000000 in
set_option maxRecDepth 100000 in
theorem okX6_escapes {P : qPs} {Hs : qHs} {T : qTs} {L : qLs} {S : qSs} {V : qVs} {mr : qmr} {mm : qmm} {ml : qml} {mt : qmt} {s bf sv past : Nat → Nat} {isv : Bool} {pm : Nat} {b : Nat → Nat} (hb : ∀ i, b i < 8) (hsb : Ag s b) (hu : Uq b 7)  : Ok MX6_escapes [.ref 40] (HH P Hs T L S V (s, bf, sv, past, isv, pm) mr mm ml mt) (some (.int (escF b))) (HH P Hs T L S V (s, bf, sv, past, isv, pm) mr mm ml mt) := by
  refine ok_of (by decide +kernel) (Nat.zero_le _) (Nat.le_of_ble_eq_true rfl) ?_
  intro X C E
  show Ex X MX6_escapes 0 [(0, .ref 40)] [] (HH P Hs T L S V (s, bf, sv, past, isv, pm) mr mm ml mt)
  have hs := hsb.lt hb
  cases hl : loc7 b 7 with
  | none =>
    refine x_aload_n C dX6_escapes_0 rfl ?_
    refine x_bipush C (v := nI 7) dX6_escapes_1 (by decide +kernel) ?_
    refine x_callV1i C (okX6_where hs 7 (by decide)) lkX6_72 miX6_where msX6_where maX6_where ⟨Nat.le_of_ble_eq_true rfl, Nat.le_of_ble_eq_true rfl⟩ (Nat.le_of_ble_eq_true rfl) rfl rfl dX6_escapes_3 ?_
    rw [whS hsb hu, hl]
    refine x_if_ge C 14 dX6_escapes_6 (by decide) (fun c6 => ?_) (fun c6 => ?_)
    · exact absurd c6 (by decide)
    · refine x_bipush C (v := (-4)) dX6_escapes_9 (by decide +kernel) ?_
      refine x_goto C 18 dX6_escapes_11 (by decide) ?_
      exact x_iret E .int dX6_escapes_18 rfl rfl (by unfold escF; rw [if_pos hl]) rfl
  | some k =>
    obtain ⟨hk, hk7⟩ := loc7_some hl
    have hln := lineN_le b k
    refine x_aload_n C dX6_escapes_0 rfl ?_
    refine x_bipush C (v := nI 7) dX6_escapes_1 (by decide +kernel) ?_
    refine x_callV1i C (okX6_where hs 7 (by decide)) lkX6_72 miX6_where msX6_where maX6_where ⟨Nat.le_of_ble_eq_true rfl, Nat.le_of_ble_eq_true rfl⟩ (Nat.le_of_ble_eq_true rfl) rfl rfl dX6_escapes_3 ?_
    rw [whS hsb hu, hl]
    show Ex X MX6_escapes _ _ [.int (nI k)] _
    refine x_if_geN C 14 dX6_escapes_6 (by decide) (by omega) ?_
    refine x_aload_n C dX6_escapes_14 rfl ?_
    refine x_callV0i C (okX6_escapeSet hb hsb hu) lkX6_129 miX6_escapeSet msX6_escapeSet maX6_escapeSet ⟨Nat.le_of_ble_eq_true rfl, Nat.le_of_ble_eq_true rfl⟩ (Nat.le_of_ble_eq_true rfl) rfl rfl dX6_escapes_15 ?_
    exact x_iret E .int dX6_escapes_18 rfl rfl (by unfold escF; rw [if_neg (by rw [hl]; exact fun z => by cases z)]) rfl
set_option maxHeartbeats 4000000 in
set_option maxRecDepth 100000 in
theorem okX6_fits {P : qPs} {Hs : qHs} {T : qTs} {L : qLs} {S : qSs} {V : qVs} {mr : qmr} {mm : qmm} {ml : qml} {mt : qmt} {s bf sv past : Nat → Nat} {isv : Bool} {pm : Nat} {b : Nat → Nat} (hb : ∀ i, b i < 8) (hsb : Ag s b) (hu : Uq b 7)  : Ok MX6_fits [.ref 40] (HH P Hs T L S V (s, bf, sv, past, isv, pm) mr mm ml mt) (some (.int (qb (fitsB b)))) (HH P Hs T L S V (s, bf, sv, past, isv, pm) mr mm ml mt) := by
  refine ok_of (by decide +kernel) (Nat.zero_le _) (Nat.le_of_ble_eq_true rfl) ?_
  intro X C E
  show Ex X MX6_fits 0 [(0, .ref 40)] [] (HH P Hs T L S V (s, bf, sv, past, isv, pm) mr mm ml mt)
  have hs := hsb.lt hb
  cases hl : loc7 b 7 with
  | none =>
    refine x_aload_n C dX6_fits_0 rfl ?_
    refine x_bipush C (v := nI 7) dX6_fits_1 (by decide +kernel) ?_
    refine x_callV1i C (okX6_where hs 7 (by decide)) lkX6_72 miX6_where msX6_where maX6_where ⟨Nat.le_of_ble_eq_true rfl, Nat.le_of_ble_eq_true rfl⟩ (Nat.le_of_ble_eq_true rfl) rfl rfl dX6_fits_3 ?_
    rw [whS hsb hu, hl]
    refine x_istore_n C dX6_fits_6 (by decide) [(1, _), (0, _)] rfl ?_
    refine x_iload_n C dX6_fits_7 rfl ?_
    refine x_if_lt C 23 dX6_fits_8 (by decide) (fun c8 => ?_) (fun c8 => ?_)
    · refine x_iconst C (v := nI 0) dX6_fits_23 (by decide +kernel) ?_
      exact x_iret E .boolean dX6_fits_24 rfl rfl (by have e : fitsB b = false := (by unfold fitsB; rw [hl]); rw [e]; rfl) rfl
    · exact absurd (by decide : (-1 : Int32) < 0) c8
  | some k =>
    obtain ⟨hk, hk7⟩ := loc7_some hl
    have hln := lineN_le b k
    refine x_aload_n C dX6_fits_0 rfl ?_
    refine x_bipush C (v := nI 7) dX6_fits_1 (by decide +kernel) ?_
    refine x_callV1i C (okX6_where hs 7 (by decide)) lkX6_72 miX6_where msX6_where maX6_where ⟨Nat.le_of_ble_eq_true rfl, Nat.le_of_ble_eq_true rfl⟩ (Nat.le_of_ble_eq_true rfl) rfl rfl dX6_fits_3 ?_
    rw [whS hsb hu, hl]
    show Ex X MX6_fits _ _ [.int (nI k)] _
    refine x_istore_n C dX6_fits_6 (by decide) [(1, _), (0, _)] rfl ?_
    refine x_iload_n C dX6_fits_7 rfl ?_
    refine x_if_ltN C 23 dX6_fits_8 (by decide) (by omega) ?_
    refine x_aload_n C dX6_fits_11 rfl ?_
    refine x_iload_n C dX6_fits_12 rfl ?_
    refine x_callV1i C (okX6_attackersOf hs hk) lkX6_120 miX6_attackersOf msX6_attackersOf maX6_attackersOf ⟨Nat.le_of_ble_eq_true rfl, Nat.le_of_ble_eq_true rfl⟩ (Nat.le_of_ble_eq_true rfl) rfl rfl dX6_fits_13 ?_
    rw [attS hsb hb hk]
    refine x_if_neN C 23 dX6_fits_16 (by decide) (by omega) (fun c16 => ?_) (fun c16 => ?_)
    · refine x_iconst C (v := nI 0) dX6_fits_23 (by decide +kernel) ?_
      exact x_iret E .boolean dX6_fits_24 rfl rfl (by have e : fitsB b = false := (by unfold fitsB; rw [hl]; exact decide_eq_false c16); rw [e]; rfl) rfl
    · refine x_iconst C (v := nI 1) dX6_fits_19 (by decide +kernel) ?_
      refine x_goto C 24 dX6_fits_20 (by decide) ?_
      exact x_iret E .boolean dX6_fits_24 rfl rfl (by have e : fitsB b = true := (by unfold fitsB; rw [hl]; exact decide_eq_true c16); rw [e]; rfl) rfl
set_option maxHeartbeats 4000000 in
set_option maxRecDepth 100000 in
theorem okX6_isFit {P : qPs} {Hs : qHs} {T : qTs} {L : qLs} {S : qSs} {V : qVs} {mr : qmr} {mm : qmm} {ml : qml} {mt : qmt} {s bf sv past : Nat → Nat} {isv : Bool} {pm : Nat} {b : Nat → Nat} (hb : ∀ i, b i < 8) (hsb : Ag s b) (hu : Uq b 7)  : Ok MX6_isFit [.ref 40] (HH P Hs T L S V (s, bf, sv, past, isv, pm) mr mm ml mt) (some (.int (qb (fitsB b)))) (HH P Hs T L S V (s, bf, sv, past, isv, pm) mr mm ml mt) := by
  refine ok_of (by decide +kernel) (Nat.zero_le _) (Nat.le_of_ble_eq_true rfl) ?_
  intro X C E
  show Ex X MX6_isFit 0 [(0, .ref 40)] [] (HH P Hs T L S V (s, bf, sv, past, isv, pm) mr mm ml mt)
  refine x_aload_n C dX6_isFit_0 rfl ?_
  refine x_callV0i C (okX6_fits hb hsb hu) lkX6_132 miX6_fits msX6_fits maX6_fits ⟨Nat.le_of_ble_eq_true rfl, Nat.le_of_ble_eq_true rfl⟩ (Nat.le_of_ble_eq_true rfl) rfl rfl dX6_isFit_1 ?_
  refine x_if_eqB C 11 dX6_isFit_4 (by decide) (fun c4 => ?_) (fun c4 => ?_)
  · refine x_iconst C (v := nI 0) dX6_isFit_11 (by decide +kernel) ?_
    exact x_iret E .int dX6_isFit_12 rfl rfl (by rw [c4]; rfl) rfl
  · refine x_iconst C (v := nI 1) dX6_isFit_7 (by decide +kernel) ?_
    refine x_goto C 12 dX6_isFit_8 (by decide) ?_
    exact x_iret E .int dX6_isFit_12 rfl rfl (by rw [c4]; rfl) rfl
