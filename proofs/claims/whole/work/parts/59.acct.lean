/-! the reference: accounts, the order, undo, the snapshot -/
def mcB (b : Nat → Nat) (k : Nat) : Nat := cnt (movP b k) 25
theorem mcB_le (b : Nat → Nat) (k : Nat) : mcB b k ≤ 25 := cnt_le _ 25
theorem by_pos {p q : Nat} (hp : p ≤ 25) (hq : q ≤ 25) : 0 < nI p - nI q ↔ q < p := by
  rw [Int32.lt_iff_toInt_lt, pk_sub_toInt (by omega) (by omega)]
  show (0 : Int) < _ ↔ _
  omega
theorem by_0 {p q : Nat} (hp : p ≤ 25) (hq : q ≤ 25) : nI p - nI q = 0 ↔ p = q := by
  constructor
  · intro h
    have e := congrArg Int32.toInt h
    rw [pk_sub_toInt (by omega) (by omega)] at e
    have : (0 : Int32).toInt = 0 := rfl
    omega
  · intro h
    subst h
    exact Int32.sub_self _
set_option maxHeartbeats 4000000 in
set_option maxRecDepth 100000 in
theorem okX6_ranked {P : qPs} {Hs : qHs} {T : qTs} {L : qLs} {S : qSs} {V : qVs} {ml : qml} {mt : qmt} {bf sv past : Nat → Nat} {isv : Bool} {pm : Nat} {mm : qmm} {mr : qmr} {a : qP} (ha : ∀ i, a.1 i < 8) (hu : Uq a.1 7) (x : Int32) : Ok MX6_ranked [.ref 40, .int x] (HH P Hs T L S V (sF a, bf, sv, past, isv, pm) mr mm ml mt) (some (.int (low (rkS a.1 (mcB a.1) x) 25 0))) (HH P Hs T L S V (sF a, bf, sv, past, isv, pm) mr mm ml mt) := by
  refine ok_of (by decide +kernel) (Nat.zero_le _) (Nat.le_of_ble_eq_true rfl) ?_
  intro X C E
  show Ex X MX6_ranked 0 [(0, .ref 40), (1, .int x)] [] (HH P Hs T L S V (sF a, bf, sv, past, isv, pm) mr mm ml mt)
  have L1 : ∀ n i : Nat, i + n = 25 → low (rkS a.1 (mcB a.1) x) 25 0 = low (rkS a.1 (mcB a.1) x) n i → Ex X MX6_ranked 2 [(2, .int (nI i)), (0, .ref 40), (1, .int x)] [] (HH P Hs T L S V (sF a, bf, sv, past, isv, pm) mr mm ml mt) := by
    intro n
    induction n with
    | zero =>
      intro i hi ht
      have e : i = 25 := by omega
      subst e
      refine x_iload_n C dX6_ranked_2 rfl ?_
      refine x_bipush C (v := nI 25) dX6_ranked_3 (by decide +kernel) ?_
      refine x_icmp_geN C 104 dX6_ranked_5 (by decide) (by omega) (by omega) (fun c5 => ?_) (fun c5 => ?_)
      · refine x_iconst C (v := (-1)) dX6_ranked_104 (by decide +kernel) ?_
        exact x_iret E .int dX6_ranked_105 rfl rfl (by rw [ht, low]) rfl
      · exact absurd c5 (by decide)
    | succ n ih1 =>
      intro i hin ht
      have hi : i < 25 := by omega
      have L2 : ∀ m o : Nat, o + m = 25 → Ex X MX6_ranked 13 [(4, .int (nI o)), (3, .int (nI (cnt (ahdS a.1 (mcB a.1) i) o))), (2, .int (nI i)), (0, .ref 40), (1, .int x)] [] (HH P Hs T L S V (sF a, bf, sv, past, isv, pm) mr mm ml mt) := by
        intro m
        induction m with
        | zero =>
          intro o hoe
          have e : o = 25 := by omega
          subst e
          refine x_iload C dX6_ranked_13 rfl ?_
          refine x_bipush C (v := nI 25) dX6_ranked_15 (by decide +kernel) ?_
          refine x_icmp_geN C 79 dX6_ranked_17 (by decide) (by omega) (by omega) (fun c17 => ?_) (fun c17 => ?_)
          · refine x_aload_n C dX6_ranked_79 rfl ?_
            refine x_getfield C qk6 0 (by decide) lfX6_9 dX6_ranked_80 rfl rfl ?_
            refine x_iload_n C dX6_ranked_83 rfl ?_
            refine x_iald C dX6_ranked_84 HM_s (by omega) (by decide) ?_
            refine x_top (congrArg nI (sF_lo hi)) ?_
            refine x_callS1i C (okX6_isWhite _ (by have := ha i; omega) _) lkX6_107 miX6_isWhite mtX6_isWhite maX6_isWhite ⟨Nat.le_of_ble_eq_true rfl, Nat.le_of_ble_eq_true rfl⟩ (Nat.le_of_ble_eq_true rfl) dX6_ranked_85 ?_
            refine x_if_eqB C 98 dX6_ranked_88 (by decide) (fun c88 => ?_) (fun c88 => ?_)
            · refine x_iinc C _ dX6_ranked_98 rfl (q_inc _) (by decide) [(2, _), (4, _), (3, _), (0, _), (1, _)] rfl ?_
              refine x_goto C 2 dX6_ranked_101 (by decide) ?_
              exact x_sub [0, 3, 4] (ih1 (i + 1) (by omega) (by rw [ht, low, if_neg (show ¬ rkS a.1 (mcB a.1) x i = true by unfold rkS ahd; rw [c88, Bool.false_and]; decide)])) rfl
            · refine x_iload_n C dX6_ranked_91 rfl ?_
              refine x_iload_n C dX6_ranked_92 rfl ?_
              refine x_icmp_ne C 98 dX6_ranked_93 (by decide) (fun c93 => ?_) (fun c93 => ?_)
              · refine x_iinc C _ dX6_ranked_98 rfl (q_inc _) (by decide) [(2, _), (4, _), (3, _), (0, _), (1, _)] rfl ?_
                refine x_goto C 2 dX6_ranked_101 (by decide) ?_
                exact x_sub [0, 3, 4] (ih1 (i + 1) (by omega) (by rw [ht, low, if_neg (show ¬ rkS a.1 (mcB a.1) x i = true by unfold rkS ahd; rw [decide_eq_false c93, Bool.and_false]; decide)])) rfl
              · refine x_iload_n C dX6_ranked_96 rfl ?_
                exact x_iret E .int dX6_ranked_97 rfl rfl (by rw [ht, low, if_pos (show rkS a.1 (mcB a.1) x i = true by unfold rkS ahd; rw [c88, decide_eq_true c93]; rfl)]) rfl
          · exact absurd c17 (by omega)
        | succ m ih =>
          intro o hoe
          have ho : o < 25 := by omega
          refine x_iload C dX6_ranked_13 rfl ?_
          refine x_bipush C (v := nI 25) dX6_ranked_15 (by decide +kernel) ?_
          refine x_icmp_geN C 79 dX6_ranked_17 (by decide) (by omega) (by omega) (fun c17 => ?_) (fun c17 => ?_)
          · exact absurd c17 (by omega)
          · refine x_aload_n C dX6_ranked_20 rfl ?_
            refine x_iload C dX6_ranked_21 rfl ?_
            refine x_iconst C (v := nI 1) dX6_ranked_23 (by decide +kernel) ?_
            refine x_callV2i C (okX6_countOf_a ha (sF_ag a) hu ho) lkX6_161 miX6_countOf msX6_countOf maX6_countOf ⟨Nat.le_of_ble_eq_true rfl, Nat.le_of_ble_eq_true rfl⟩ (Nat.le_of_ble_eq_true rfl) rfl rfl dX6_ranked_24 ?_
            refine x_aload_n C dX6_ranked_27 rfl ?_
            refine x_iload_n C dX6_ranked_28 rfl ?_
            refine x_iconst C (v := nI 1) dX6_ranked_29 (by decide +kernel) ?_
            refine x_callV2i C (okX6_countOf_a ha (sF_ag a) hu hi) lkX6_161 miX6_countOf msX6_countOf maX6_countOf ⟨Nat.le_of_ble_eq_true rfl, Nat.le_of_ble_eq_true rfl⟩ (Nat.le_of_ble_eq_true rfl) rfl rfl dX6_ranked_30 ?_
            refine x_isub C dX6_ranked_33 ?_
            refine x_istore C dX6_ranked_34 (by decide) [(5, _), (4, _), (3, _), (2, _), (0, _), (1, _)] rfl ?_
            refine x_iload_n C dX6_ranked_36 rfl ?_
            refine x_aload_n C dX6_ranked_37 rfl ?_
            refine x_getfield C qk6 0 (by decide) lfX6_9 dX6_ranked_38 rfl rfl ?_
            refine x_iload C dX6_ranked_41 rfl ?_
            refine x_iald C dX6_ranked_43 HM_s (by omega) (by decide) ?_
            refine x_top (congrArg nI (sF_lo ho)) ?_
            refine x_callS1i C (okX6_isWhite _ (by have := ha o; omega) _) lkX6_107 miX6_isWhite mtX6_isWhite maX6_isWhite ⟨Nat.le_of_ble_eq_true rfl, Nat.le_of_ble_eq_true rfl⟩ (Nat.le_of_ble_eq_true rfl) dX6_ranked_44 ?_
            refine x_if_eqB C 70 dX6_ranked_47 (by decide) (fun c47 => ?_) (fun c47 => ?_)
            · refine x_iconst C (v := nI 0) dX6_ranked_70 (by decide +kernel) ?_
              refine x_iaddN C dX6_ranked_71 ?_
              have hv : ahdS a.1 (mcB a.1) i o = false := by unfold ahdS; rw [c47]; rfl
              refine x_top (show nI (cnt (ahdS a.1 (mcB a.1) i) o + 0) = nI (cnt (ahdS a.1 (mcB a.1) i) (o + 1)) from congrArg nI (by rw [cnt, hv]; rfl)) ?_
              refine x_istore_n C dX6_ranked_72 (by decide) [(3, _), (5, _), (4, _), (2, _), (0, _), (1, _)] rfl ?_
              refine x_iinc C _ dX6_ranked_73 rfl (q_inc _) (by decide) [(4, _), (3, _), (5, _), (2, _), (0, _), (1, _)] rfl ?_
              refine x_goto C 13 dX6_ranked_76 (by decide) ?_
              exact x_sub [0, 1, 3, 4, 5] (ih (o + 1) (by omega)) rfl
            · refine x_iload C dX6_ranked_50 rfl ?_
              refine x_if_gt C 66 dX6_ranked_52 (by decide) (fun c52 => ?_) (fun c52 => ?_)
              · refine x_iconst C (v := nI 1) dX6_ranked_66 (by decide +kernel) ?_
                refine x_goto C 71 dX6_ranked_67 (by decide) ?_
                refine x_iaddN C dX6_ranked_71 ?_
                have hv : ahdS a.1 (mcB a.1) i o = true := by unfold ahdS; rw [c47, decide_eq_true (Or.inl ((by_pos (mcB_le _ _) (mcB_le _ _)).mp c52))]; rfl
                refine x_top (show nI (cnt (ahdS a.1 (mcB a.1) i) o + 1) = nI (cnt (ahdS a.1 (mcB a.1) i) (o + 1)) from congrArg nI (by rw [cnt, hv]; rfl)) ?_
                refine x_istore_n C dX6_ranked_72 (by decide) [(3, _), (5, _), (4, _), (2, _), (0, _), (1, _)] rfl ?_
                refine x_iinc C _ dX6_ranked_73 rfl (q_inc _) (by decide) [(4, _), (3, _), (5, _), (2, _), (0, _), (1, _)] rfl ?_
                refine x_goto C 13 dX6_ranked_76 (by decide) ?_
                exact x_sub [0, 1, 3, 4, 5] (ih (o + 1) (by omega)) rfl
              · refine x_iload C dX6_ranked_55 rfl ?_
                refine x_if_ne C 70 dX6_ranked_57 (by decide) (fun c57 => ?_) (fun c57 => ?_)
                · refine x_iconst C (v := nI 0) dX6_ranked_70 (by decide +kernel) ?_
                  refine x_iaddN C dX6_ranked_71 ?_
                  have hv : ahdS a.1 (mcB a.1) i o = false := by unfold ahdS; rw [c47, decide_eq_false (fun z => z.elim (fun q => c52 ((by_pos (mcB_le _ _) (mcB_le _ _)).mpr q)) (fun q => c57 ((by_0 (mcB_le _ _) (mcB_le _ _)).mpr q.1)))]; rfl
                  refine x_top (show nI (cnt (ahdS a.1 (mcB a.1) i) o + 0) = nI (cnt (ahdS a.1 (mcB a.1) i) (o + 1)) from congrArg nI (by rw [cnt, hv]; rfl)) ?_
                  refine x_istore_n C dX6_ranked_72 (by decide) [(3, _), (5, _), (4, _), (2, _), (0, _), (1, _)] rfl ?_
                  refine x_iinc C _ dX6_ranked_73 rfl (q_inc _) (by decide) [(4, _), (3, _), (5, _), (2, _), (0, _), (1, _)] rfl ?_
                  refine x_goto C 13 dX6_ranked_76 (by decide) ?_
                  exact x_sub [0, 1, 3, 4, 5] (ih (o + 1) (by omega)) rfl
                · refine x_iload C dX6_ranked_60 rfl ?_
                  refine x_iload_n C dX6_ranked_62 rfl ?_
                  refine x_icmp_geN C 70 dX6_ranked_63 (by decide) (by omega) (by omega) (fun c63 => ?_) (fun c63 => ?_)
                  · refine x_iconst C (v := nI 0) dX6_ranked_70 (by decide +kernel) ?_
                    refine x_iaddN C dX6_ranked_71 ?_
                    have hv : ahdS a.1 (mcB a.1) i o = false := by unfold ahdS; rw [c47, decide_eq_false (fun z => z.elim (fun q => c52 ((by_pos (mcB_le _ _) (mcB_le _ _)).mpr q)) (fun q => absurd q.2 (by omega)))]; rfl
                    refine x_top (show nI (cnt (ahdS a.1 (mcB a.1) i) o + 0) = nI (cnt (ahdS a.1 (mcB a.1) i) (o + 1)) from congrArg nI (by rw [cnt, hv]; rfl)) ?_
                    refine x_istore_n C dX6_ranked_72 (by decide) [(3, _), (5, _), (4, _), (2, _), (0, _), (1, _)] rfl ?_
                    refine x_iinc C _ dX6_ranked_73 rfl (q_inc _) (by decide) [(4, _), (3, _), (5, _), (2, _), (0, _), (1, _)] rfl ?_
                    refine x_goto C 13 dX6_ranked_76 (by decide) ?_
                    exact x_sub [0, 1, 3, 4, 5] (ih (o + 1) (by omega)) rfl
                  · refine x_iconst C (v := nI 1) dX6_ranked_66 (by decide +kernel) ?_
                    refine x_goto C 71 dX6_ranked_67 (by decide) ?_
                    refine x_iaddN C dX6_ranked_71 ?_
                    have hv : ahdS a.1 (mcB a.1) i o = true := by unfold ahdS; rw [c47, decide_eq_true (Or.inr ⟨(by_0 (mcB_le _ _) (mcB_le _ _)).mp c57, by omega⟩)]; rfl
                    refine x_top (show nI (cnt (ahdS a.1 (mcB a.1) i) o + 1) = nI (cnt (ahdS a.1 (mcB a.1) i) (o + 1)) from congrArg nI (by rw [cnt, hv]; rfl)) ?_
                    refine x_istore_n C dX6_ranked_72 (by decide) [(3, _), (5, _), (4, _), (2, _), (0, _), (1, _)] rfl ?_
                    refine x_iinc C _ dX6_ranked_73 rfl (q_inc _) (by decide) [(4, _), (3, _), (5, _), (2, _), (0, _), (1, _)] rfl ?_
                    refine x_goto C 13 dX6_ranked_76 (by decide) ?_
                    exact x_sub [0, 1, 3, 4, 5] (ih (o + 1) (by omega)) rfl
      refine x_iload_n C dX6_ranked_2 rfl ?_
      refine x_bipush C (v := nI 25) dX6_ranked_3 (by decide +kernel) ?_
      refine x_icmp_geN C 104 dX6_ranked_5 (by decide) (by omega) (by omega) (fun c5 => ?_) (fun c5 => ?_)
      · exact absurd c5 (by omega)
      · refine x_iconst C (v := nI 0) dX6_ranked_8 (by decide +kernel) ?_
        refine x_istore_n C dX6_ranked_9 (by decide) [(3, _), (2, _), (0, _), (1, _)] rfl ?_
        refine x_iconst C (v := nI 0) dX6_ranked_10 (by decide +kernel) ?_
        refine x_istore C dX6_ranked_11 (by decide) [(4, _), (3, _), (2, _), (0, _), (1, _)] rfl ?_
        exact L2 25 0 (by omega)
  refine x_iconst C (v := nI 0) dX6_ranked_0 (by decide +kernel) ?_
  refine x_istore_n C dX6_ranked_1 (by decide) [(2, _), (0, _), (1, _)] rfl ?_
  exact L1 25 0 (by omega) rfl
theorem cov_b {b : Nat → Nat} {t : Nat} (ht : t < 25) : covR b 25 t = decide (0 < lineN b t) := cov_line ht
set_option maxHeartbeats 4000000 in
set_option maxRecDepth 100000 in
theorem okX6_attacked {P : qPs} {Hs : qHs} {T : qTs} {L : qLs} {S : qSs} {V : qVs} {ml : qml} {mt : qmt} {bf sv past : Nat → Nat} {isv : Bool} {pm : Nat} {mm : qmm} {mr : qmr} {a : qP} (ha : ∀ i, a.1 i < 8) : Ok MX6_attacked [.ref 40] (HH P Hs T L S V (sF a, bf, sv, past, isv, pm) mr mm ml mt) (some (.int (nI (cnt (covR a.1 25) 25)))) (HH P Hs T L S V (sF a, bf, sv, past, isv, pm) mr mm ml mt) := by
  refine ok_of (by decide +kernel) (Nat.zero_le _) (Nat.le_of_ble_eq_true rfl) ?_
  intro X C E
  show Ex X MX6_attacked 0 [(0, .ref 40)] [] (HH P Hs T L S V (sF a, bf, sv, past, isv, pm) mr mm ml mt)
  have hs := (sF_ag a).lt ha
  have hCV : ∀ k, k < 25 → covR a.1 25 k = decide (0 < lineN a.1 k) := fun k hk => cov_b hk
  generalize covR a.1 25 = CV at hCV E
  have LP : ∀ n k : Nat, k + n = 25 → Ex X MX6_attacked 4 [(0, .ref 40), (1, .int (nI (cnt CV k))), (2, .int (nI k))] [] (HH P Hs T L S V (sF a, bf, sv, past, isv, pm) mr mm ml mt) := by
    intro n
    induction n with
    | zero =>
      intro k hin 
      have e : k = 25 := by omega
      subst e
      refine x_iload_n C dX6_attacked_4 rfl ?_
      refine x_bipush C (v := nI 25) dX6_attacked_5 (by decide +kernel) ?_
      refine x_icmp_geN C 32 dX6_attacked_7 (by decide) (by omega) (by omega) (fun c7 => ?_) (fun c7 => ?_)
      · refine x_iload_n C dX6_attacked_32 rfl ?_
        exact x_iret E .int dX6_attacked_33 rfl rfl rfl rfl
      · exact absurd c7 (by omega)
    | succ n ih =>
      intro k hin 
      have hlt : k < 25 := by omega
      refine x_iload_n C dX6_attacked_4 rfl ?_
      refine x_bipush C (v := nI 25) dX6_attacked_5 (by decide +kernel) ?_
      refine x_icmp_geN C 32 dX6_attacked_7 (by decide) (by omega) (by omega) (fun c7 => ?_) (fun c7 => ?_)
      · exact absurd c7 (by omega)
      · refine x_iload_n C dX6_attacked_10 rfl ?_
        refine x_aload_n C dX6_attacked_11 rfl ?_
        refine x_iload_n C dX6_attacked_12 rfl ?_
        refine x_callV1i C (okX6_attackersOf hs hlt) lkX6_120 miX6_attackersOf msX6_attackersOf maX6_attackersOf ⟨Nat.le_of_ble_eq_true rfl, Nat.le_of_ble_eq_true rfl⟩ (Nat.le_of_ble_eq_true rfl) rfl rfl dX6_attacked_13 ?_
        rw [attS (sF_ag a) ha hlt]
        have hln := lineN_le a.1 k
        refine x_if_leN C 23 dX6_attacked_16 (by decide) (by omega) (fun c16 => ?_) (fun c16 => ?_)
        · have e1 : cnt CV k + 0 = cnt CV (k + 1) := by simp [cnt, hCV k hlt]; omega
          refine x_iconst C (v := nI 0) dX6_attacked_23 (by decide +kernel) ?_
          refine x_iaddN C dX6_attacked_24 ?_
          refine x_top (congrArg nI e1) ?_
          refine x_istore_n C dX6_attacked_25 (by decide) [(1, _), (0, _), (2, _)] rfl ?_
          refine x_iinc C _ dX6_attacked_26 rfl (q_inc _) (by decide) [(2, _), (1, _), (0, _)] rfl ?_
          refine x_goto C 4 dX6_attacked_29 (by decide) ?_
          exact x_sub [2, 1, 0] (ih (k + 1) (by omega)) rfl
        · have e1 : cnt CV k + 1 = cnt CV (k + 1) := by simp [cnt, hCV k hlt]; omega
          refine x_iconst C (v := nI 1) dX6_attacked_19 (by decide +kernel) ?_
          refine x_goto C 24 dX6_attacked_20 (by decide) ?_
          refine x_iaddN C dX6_attacked_24 ?_
          refine x_top (congrArg nI e1) ?_
          refine x_istore_n C dX6_attacked_25 (by decide) [(1, _), (0, _), (2, _)] rfl ?_
          refine x_iinc C _ dX6_attacked_26 rfl (q_inc _) (by decide) [(2, _), (1, _), (0, _)] rfl ?_
          refine x_goto C 4 dX6_attacked_29 (by decide) ?_
          exact x_sub [2, 1, 0] (ih (k + 1) (by omega)) rfl
  refine x_iconst C (v := nI 0) dX6_attacked_0 (by decide +kernel) ?_
  refine x_istore_n C dX6_attacked_1 (by decide) [(1, _), (0, _)] rfl ?_
  refine x_iconst C (v := nI 0) dX6_attacked_2 (by decide +kernel) ?_
  refine x_istore_n C dX6_attacked_3 (by decide) [(2, _), (1, _), (0, _)] rfl ?_
  exact x_sub [2, 1, 0] (LP 25 0 (by omega)) rfl
theorem ck15 (b : Nat → Nat) (k : Nat) : ckS b 1 5 k = isW (b k) := by
  unfold ckS isW
  by_cases h1 : 1 ≤ b k <;> by_cases h2 : b k ≤ 5 <;> simp [h1, h2]
theorem ck66 (b : Nat → Nat) (k : Nat) : ckS b 6 6 k = decide (b k = 6) := by
  unfold ckS
  exact decide_eq_decide.mpr ⟨fun h => by omega, fun h => by omega⟩
set_option maxHeartbeats 4000000 in
set_option maxRecDepth 100000 in
theorem okX6_count_a {P : qPs} {Hs : qHs} {T : qTs} {L : qLs} {S : qSs} {V : qVs} {ml : qml} {mt : qmt} {bf sv past : Nat → Nat} {isv : Bool} {pm : Nat} {mm : qmm} {mr : qmr} {a : qP} (ha : ∀ i, a.1 i < 8) : Ok MX6_count [.ref 40, .int (nI 0)] (HH P Hs T L S V (sF a, bf, sv, past, isv, pm) mr mm ml mt) (some (.int (nI (cnt (ckS a.1 1 5) 25)))) (HH P Hs T L S V (sF a, bf, sv, past, isv, pm) mr mm ml mt) := by
  refine ok_of (by decide +kernel) (Nat.zero_le _) (Nat.le_of_ble_eq_true rfl) ?_
  intro X C E
  show Ex X MX6_count 0 [(0, .ref 40), (1, .int (nI 0))] [] (HH P Hs T L S V (sF a, bf, sv, past, isv, pm) mr mm ml mt)
  have hCK : ∀ k, ckS a.1 1 5 k = isW (a.1 k) := ck15 a.1
  generalize ckS a.1 1 5 = CK at hCK E
  have LP : ∀ n k : Nat, k + n = 25 → Ex X MX6_count 4 [(0, .ref 40), (1, .int (nI 0)), (2, .int (nI (cnt CK k))), (3, .int (nI k))] [] (HH P Hs T L S V (sF a, bf, sv, past, isv, pm) mr mm ml mt) := by
    intro n
    induction n with
    | zero =>
      intro k hin 
      have e : k = 25 := by omega
      subst e
      refine x_iload_n C dX6_count_4 rfl ?_
      refine x_bipush C (v := nI 25) dX6_count_5 (by decide +kernel) ?_
      refine x_icmp_geN C 54 dX6_count_7 (by decide) (by omega) (by omega) (fun c7 => ?_) (fun c7 => ?_)
      · refine x_iload_n C dX6_count_54 rfl ?_
        exact x_iret E .int dX6_count_55 rfl rfl rfl rfl
      · exact absurd c7 (by omega)
    | succ n ih =>
      intro k hin 
      have hlt : k < 25 := by omega
      refine x_iload_n C dX6_count_4 rfl ?_
      refine x_bipush C (v := nI 25) dX6_count_5 (by decide +kernel) ?_
      refine x_icmp_geN C 54 dX6_count_7 (by decide) (by omega) (by omega) (fun c7 => ?_) (fun c7 => ?_)
      · exact absurd c7 (by omega)
      · refine x_iload_n C dX6_count_10 rfl ?_
        refine x_iload_n C dX6_count_11 rfl ?_
        refine x_if_eqN C 29 dX6_count_12 (by decide) (by omega) (fun c12 => ?_) (fun c12 => ?_)
        · refine x_aload_n C dX6_count_29 rfl ?_
          refine x_getfield C qk6 0 (by decide) lfX6_9 dX6_count_30 rfl rfl ?_
          refine x_iload_n C dX6_count_33 rfl ?_
          refine x_iald C dX6_count_34 HM_s (by omega) (by decide) ?_
          refine x_top (congrArg nI (sF_lo hlt)) ?_
          refine x_callS1i C (okX6_isWhite _ (by have := ha k; omega) _) lkX6_107 miX6_isWhite mtX6_isWhite maX6_isWhite ⟨Nat.le_of_ble_eq_true rfl, Nat.le_of_ble_eq_true rfl⟩ (Nat.le_of_ble_eq_true rfl) dX6_count_35 ?_
          refine x_if_eqB C 45 dX6_count_38 (by decide) (fun c38 => ?_) (fun c38 => ?_)
          · have e1 : cnt CK k + 0 = cnt CK (k + 1) := by simp [cnt, hCK k, c38]
            refine x_iconst C (v := nI 0) dX6_count_45 (by decide +kernel) ?_
            refine x_iaddN C dX6_count_46 ?_
            refine x_top (congrArg nI e1) ?_
            refine x_istore_n C dX6_count_47 (by decide) [(2, _), (0, _), (1, _), (3, _)] rfl ?_
            refine x_iinc C _ dX6_count_48 rfl (q_inc _) (by decide) [(3, _), (2, _), (0, _), (1, _)] rfl ?_
            refine x_goto C 4 dX6_count_51 (by decide) ?_
            exact x_sub [2, 3, 1, 0] (ih (k + 1) (by omega)) rfl
          · have e1 : cnt CK k + 1 = cnt CK (k + 1) := by simp [cnt, hCK k, c38]
            refine x_iconst C (v := nI 1) dX6_count_41 (by decide +kernel) ?_
            refine x_goto C 46 dX6_count_42 (by decide) ?_
            refine x_iaddN C dX6_count_46 ?_
            refine x_top (congrArg nI e1) ?_
            refine x_istore_n C dX6_count_47 (by decide) [(2, _), (0, _), (1, _), (3, _)] rfl ?_
            refine x_iinc C _ dX6_count_48 rfl (q_inc _) (by decide) [(3, _), (2, _), (0, _), (1, _)] rfl ?_
            refine x_goto C 4 dX6_count_51 (by decide) ?_
            exact x_sub [2, 3, 1, 0] (ih (k + 1) (by omega)) rfl
        · exact absurd rfl c12
  refine x_iconst C (v := nI 0) dX6_count_0 (by decide +kernel) ?_
  refine x_istore_n C dX6_count_1 (by decide) [(2, _), (0, _), (1, _)] rfl ?_
  refine x_iconst C (v := nI 0) dX6_count_2 (by decide +kernel) ?_
  refine x_istore_n C dX6_count_3 (by decide) [(3, _), (2, _), (0, _), (1, _)] rfl ?_
  exact x_sub [2, 3, 1, 0] (LP 25 0 (by omega)) rfl
set_option maxHeartbeats 4000000 in
set_option maxRecDepth 100000 in
theorem okX6_count_b {P : qPs} {Hs : qHs} {T : qTs} {L : qLs} {S : qSs} {V : qVs} {ml : qml} {mt : qmt} {bf sv past : Nat → Nat} {isv : Bool} {pm : Nat} {mm : qmm} {mr : qmr} {a : qP} (ha : ∀ i, a.1 i < 8) : Ok MX6_count [.ref 40, .int (nI 1)] (HH P Hs T L S V (sF a, bf, sv, past, isv, pm) mr mm ml mt) (some (.int (nI (cnt (ckS a.1 6 6) 25)))) (HH P Hs T L S V (sF a, bf, sv, past, isv, pm) mr mm ml mt) := by
  refine ok_of (by decide +kernel) (Nat.zero_le _) (Nat.le_of_ble_eq_true rfl) ?_
  intro X C E
  show Ex X MX6_count 0 [(0, .ref 40), (1, .int (nI 1))] [] (HH P Hs T L S V (sF a, bf, sv, past, isv, pm) mr mm ml mt)
  have hCK : ∀ k, ckS a.1 6 6 k = decide (a.1 k = 6) := ck66 a.1
  generalize ckS a.1 6 6 = CK at hCK E
  have LP : ∀ n k : Nat, k + n = 25 → Ex X MX6_count 4 [(0, .ref 40), (1, .int (nI 1)), (2, .int (nI (cnt CK k))), (3, .int (nI k))] [] (HH P Hs T L S V (sF a, bf, sv, past, isv, pm) mr mm ml mt) := by
    intro n
    induction n with
    | zero =>
      intro k hin 
      have e : k = 25 := by omega
      subst e
      refine x_iload_n C dX6_count_4 rfl ?_
      refine x_bipush C (v := nI 25) dX6_count_5 (by decide +kernel) ?_
      refine x_icmp_geN C 54 dX6_count_7 (by decide) (by omega) (by omega) (fun c7 => ?_) (fun c7 => ?_)
      · refine x_iload_n C dX6_count_54 rfl ?_
        exact x_iret E .int dX6_count_55 rfl rfl rfl rfl
      · exact absurd c7 (by omega)
    | succ n ih =>
      intro k hin 
      have hlt : k < 25 := by omega
      refine x_iload_n C dX6_count_4 rfl ?_
      refine x_bipush C (v := nI 25) dX6_count_5 (by decide +kernel) ?_
      refine x_icmp_geN C 54 dX6_count_7 (by decide) (by omega) (by omega) (fun c7 => ?_) (fun c7 => ?_)
      · exact absurd c7 (by omega)
      · refine x_iload_n C dX6_count_10 rfl ?_
        refine x_iload_n C dX6_count_11 rfl ?_
        refine x_if_eqN C 29 dX6_count_12 (by decide) (by omega) (fun c12 => ?_) (fun c12 => ?_)
        · exact absurd c12 (by decide)
        · refine x_aload_n C dX6_count_15 rfl ?_
          refine x_getfield C qk6 0 (by decide) lfX6_9 dX6_count_16 rfl rfl ?_
          refine x_iload_n C dX6_count_19 rfl ?_
          refine x_iald C dX6_count_20 HM_s (by omega) (by decide) ?_
          refine x_top (congrArg nI (sF_lo hlt)) ?_
          refine x_bipush C (v := nI 6) dX6_count_21 (by decide +kernel) ?_
          refine x_icmp_neN C 45 dX6_count_23 (by decide) (by first | omega | (have := ha k; omega)) (by first | omega | (have := ha k; omega)) (fun c23 => ?_) (fun c23 => ?_)
          · have e1 : cnt CK k + 0 = cnt CK (k + 1) := by simp [cnt, hCK k, c23]
            refine x_iconst C (v := nI 0) dX6_count_45 (by decide +kernel) ?_
            refine x_iaddN C dX6_count_46 ?_
            refine x_top (congrArg nI e1) ?_
            refine x_istore_n C dX6_count_47 (by decide) [(2, _), (0, _), (1, _), (3, _)] rfl ?_
            refine x_iinc C _ dX6_count_48 rfl (q_inc _) (by decide) [(3, _), (2, _), (0, _), (1, _)] rfl ?_
            refine x_goto C 4 dX6_count_51 (by decide) ?_
            exact x_sub [2, 3, 1, 0] (ih (k + 1) (by omega)) rfl
          · have e1 : cnt CK k + 1 = cnt CK (k + 1) := by simp [cnt, hCK k, c23]
            refine x_goto C 41 dX6_count_26 (by decide) ?_
            refine x_iconst C (v := nI 1) dX6_count_41 (by decide +kernel) ?_
            refine x_goto C 46 dX6_count_42 (by decide) ?_
            refine x_iaddN C dX6_count_46 ?_
            refine x_top (congrArg nI e1) ?_
            refine x_istore_n C dX6_count_47 (by decide) [(2, _), (0, _), (1, _), (3, _)] rfl ?_
            refine x_iinc C _ dX6_count_48 rfl (q_inc _) (by decide) [(3, _), (2, _), (0, _), (1, _)] rfl ?_
            refine x_goto C 4 dX6_count_51 (by decide) ?_
            exact x_sub [2, 3, 1, 0] (ih (k + 1) (by omega)) rfl
  refine x_iconst C (v := nI 0) dX6_count_0 (by decide +kernel) ?_
  refine x_istore_n C dX6_count_1 (by decide) [(2, _), (0, _), (1, _)] rfl ?_
  refine x_iconst C (v := nI 0) dX6_count_2 (by decide +kernel) ?_
  refine x_istore_n C dX6_count_3 (by decide) [(3, _), (2, _), (0, _), (1, _)] rfl ?_
  exact x_sub [2, 3, 1, 0] (LP 25 0 (by omega)) rfl
set_option maxHeartbeats 4000000 in
set_option maxRecDepth 100000 in
theorem okX6_account_p0 {P : qPs} {Hs : qHs} {T : qTs} {L : qLs} {S : qSs} {V : qVs} {ml : qml} {mt : qmt} {bf sv past : Nat → Nat} {isv : Bool} {pm : Nat} {mm : qmm} {mr : qmr} {a : qP} (ha : ∀ i, a.1 i < 8)  : Ok MX6_account [.ref 40, .int (nI 0)] (HH P Hs T L S V (sF a, bf, sv, past, isv, pm) mr mm ml mt) (some (.int (nI (menN a.1)))) (HH P Hs T L S V (sF a, bf, sv, past, isv, pm) mr mm ml mt) := by
  refine ok_of (by decide +kernel) (Nat.zero_le _) (Nat.le_of_ble_eq_true rfl) ?_
  intro X C E
  show Ex X MX6_account 0 [(0, .ref 40), (1, .int (nI 0))] [] (HH P Hs T L S V (sF a, bf, sv, past, isv, pm) mr mm ml mt)
  refine x_iload_n C dX6_account_0 rfl ?_
  refine x_tsw C (off := 63) 64 dX6_account_1 (by decide +kernel) (by decide +kernel) (by decide +kernel) (by decide) ?_
  refine x_aload_n C dX6_account_64 rfl ?_
  refine x_callV0i C (okX6_men ((sF_ag a).lt ha)) lkX6_76 miX6_men msX6_men maX6_men ⟨Nat.le_of_ble_eq_true rfl, Nat.le_of_ble_eq_true rfl⟩ (Nat.le_of_ble_eq_true rfl) rfl rfl dX6_account_65 ?_
  rw [menS (sF_ag a) ha]
  exact x_iret E .int dX6_account_68 rfl rfl rfl rfl
set_option maxHeartbeats 4000000 in
set_option maxRecDepth 100000 in
theorem okX6_account_p1 {P : qPs} {Hs : qHs} {T : qTs} {L : qLs} {S : qSs} {V : qVs} {ml : qml} {mt : qmt} {bf sv past : Nat → Nat} {isv : Bool} {pm : Nat} {mm : qmm} {mr : qmr} {a : qP} (ha : ∀ i, a.1 i < 8)  : Ok MX6_account [.ref 40, .int (nI 1)] (HH P Hs T L S V (sF a, bf, sv, past, isv, pm) mr mm ml mt) (some (.int (nI (cnt (ckS a.1 1 5) 25)))) (HH P Hs T L S V (sF a, bf, sv, past, isv, pm) mr mm ml mt) := by
  refine ok_of (by decide +kernel) (Nat.zero_le _) (Nat.le_of_ble_eq_true rfl) ?_
  intro X C E
  show Ex X MX6_account 0 [(0, .ref 40), (1, .int (nI 1))] [] (HH P Hs T L S V (sF a, bf, sv, past, isv, pm) mr mm ml mt)
  refine x_iload_n C dX6_account_0 rfl ?_
  refine x_tsw C (off := 68) 69 dX6_account_1 (by decide +kernel) (by decide +kernel) (by decide +kernel) (by decide) ?_
  refine x_aload_n C dX6_account_69 rfl ?_
  refine x_iconst C (v := nI 0) dX6_account_70 (by decide +kernel) ?_
  refine x_callV1i C (okX6_count_a ha) lkX6_231 miX6_count msX6_count maX6_count ⟨Nat.le_of_ble_eq_true rfl, Nat.le_of_ble_eq_true rfl⟩ (Nat.le_of_ble_eq_true rfl) rfl rfl dX6_account_71 ?_
  exact x_iret E .int dX6_account_74 rfl rfl rfl rfl
set_option maxHeartbeats 4000000 in
set_option maxRecDepth 100000 in
theorem okX6_account_p2 {P : qPs} {Hs : qHs} {T : qTs} {L : qLs} {S : qSs} {V : qVs} {ml : qml} {mt : qmt} {bf sv past : Nat → Nat} {isv : Bool} {pm : Nat} {mm : qmm} {mr : qmr} {a : qP} (ha : ∀ i, a.1 i < 8)  : Ok MX6_account [.ref 40, .int (nI 2)] (HH P Hs T L S V (sF a, bf, sv, past, isv, pm) mr mm ml mt) (some (.int (nI (cnt (ckS a.1 6 6) 25)))) (HH P Hs T L S V (sF a, bf, sv, past, isv, pm) mr mm ml mt) := by
  refine ok_of (by decide +kernel) (Nat.zero_le _) (Nat.le_of_ble_eq_true rfl) ?_
  intro X C E
  show Ex X MX6_account 0 [(0, .ref 40), (1, .int (nI 2))] [] (HH P Hs T L S V (sF a, bf, sv, past, isv, pm) mr mm ml mt)
  refine x_iload_n C dX6_account_0 rfl ?_
  refine x_tsw C (off := 74) 75 dX6_account_1 (by decide +kernel) (by decide +kernel) (by decide +kernel) (by decide) ?_
  refine x_aload_n C dX6_account_75 rfl ?_
  refine x_iconst C (v := nI 1) dX6_account_76 (by decide +kernel) ?_
  refine x_callV1i C (okX6_count_b ha) lkX6_231 miX6_count msX6_count maX6_count ⟨Nat.le_of_ble_eq_true rfl, Nat.le_of_ble_eq_true rfl⟩ (Nat.le_of_ble_eq_true rfl) rfl rfl dX6_account_77 ?_
  exact x_iret E .int dX6_account_80 rfl rfl rfl rfl
set_option maxHeartbeats 4000000 in
set_option maxRecDepth 100000 in
theorem okX6_account_p3 {P : qPs} {Hs : qHs} {T : qTs} {L : qLs} {S : qSs} {V : qVs} {ml : qml} {mt : qmt} {bf sv past : Nat → Nat} {isv : Bool} {pm : Nat} {mm : qmm} {mr : qmr} {a : qP} (ha : ∀ i, a.1 i < 8) (hu : Uq a.1 7) : Ok MX6_account [.ref 40, .int (nI 3)] (HH P Hs T L S V (sF a, bf, sv, past, isv, pm) mr mm ml mt) (some (.int (kngF a.1))) (HH P Hs T L S V (sF a, bf, sv, past, isv, pm) mr mm ml mt) := by
  refine ok_of (by decide +kernel) (Nat.zero_le _) (Nat.le_of_ble_eq_true rfl) ?_
  intro X C E
  show Ex X MX6_account 0 [(0, .ref 40), (1, .int (nI 3))] [] (HH P Hs T L S V (sF a, bf, sv, past, isv, pm) mr mm ml mt)
  have hs := (sF_ag a).lt ha
  cases hl : loc7 a.1 7 with
  | none =>
    refine x_iload_n C dX6_account_0 rfl ?_
    refine x_tsw C (off := 80) 81 dX6_account_1 (by decide +kernel) (by decide +kernel) (by decide +kernel) (by decide) ?_
    refine x_aload_n C dX6_account_81 rfl ?_
    refine x_bipush C (v := nI 7) dX6_account_82 (by decide +kernel) ?_
    refine x_callV1i C (okX6_where hs 7 (by decide)) lkX6_72 miX6_where msX6_where maX6_where ⟨Nat.le_of_ble_eq_true rfl, Nat.le_of_ble_eq_true rfl⟩ (Nat.le_of_ble_eq_true rfl) rfl rfl dX6_account_84 ?_
    rw [whS (sF_ag a) hu, hl]
    refine x_if_ge C 95 dX6_account_87 (by decide) (fun c87 => ?_) (fun c87 => ?_)
    · exact absurd c87 (by decide)
    · refine x_bipush C (v := (-4)) dX6_account_90 (by decide +kernel) ?_
      refine x_goto C 101 dX6_account_92 (by decide) ?_
      exact x_iret E .int dX6_account_101 rfl rfl (by unfold kngF; rw [if_pos hl]) rfl
  | some k =>
    have hk := (loc7_some hl).1
    refine x_iload_n C dX6_account_0 rfl ?_
    refine x_tsw C (off := 80) 81 dX6_account_1 (by decide +kernel) (by decide +kernel) (by decide +kernel) (by decide) ?_
    refine x_aload_n C dX6_account_81 rfl ?_
    refine x_bipush C (v := nI 7) dX6_account_82 (by decide +kernel) ?_
    refine x_callV1i C (okX6_where hs 7 (by decide)) lkX6_72 miX6_where msX6_where maX6_where ⟨Nat.le_of_ble_eq_true rfl, Nat.le_of_ble_eq_true rfl⟩ (Nat.le_of_ble_eq_true rfl) rfl rfl dX6_account_84 ?_
    rw [whS (sF_ag a) hu, hl]
    show Ex X MX6_account _ _ (.int (nI k) :: _) _
    refine x_if_geN C 95 dX6_account_87 (by decide) (by omega) ?_
    refine x_aload_n C dX6_account_95 rfl ?_
    refine x_bipush C (v := nI 7) dX6_account_96 (by decide +kernel) ?_
    refine x_callV1i C (okX6_where hs 7 (by decide)) lkX6_72 miX6_where msX6_where maX6_where ⟨Nat.le_of_ble_eq_true rfl, Nat.le_of_ble_eq_true rfl⟩ (Nat.le_of_ble_eq_true rfl) rfl rfl dX6_account_98 ?_
    rw [whS (sF_ag a) hu, hl]
    exact x_iret E .int dX6_account_101 rfl rfl (by unfold kngF; rw [if_neg (by rw [hl]; exact fun z => by cases z), hl]) rfl

set_option maxHeartbeats 4000000 in
set_option maxRecDepth 100000 in
theorem okX6_account_p4 {P : qPs} {Hs : qHs} {T : qTs} {L : qLs} {S : qSs} {V : qVs} {ml : qml} {mt : qmt} {bf sv past : Nat → Nat} {isv : Bool} {pm : Nat} {mv ks tn : Nat → Nat} {mn : Nat} {r1 d1 it lo : Int32} {a : qP} (ha : ∀ i, a.1 i < 8) (hu : Uq a.1 7) (hw : wNo a.1 ≤ 12) : Ok MX6_account [.ref 40, .int (nI 4)] (HH P Hs T L S V (sF a, bf, sv, past, isv, pm) (r1, d1, it, lo) (mv, mn, ks, tn) ml mt) (some (.int (nI (sumc (movP a.1) 25)))) (HH P Hs T L S V (sF a, bf, sv, past, isv, pm) (r1, d1, it, loAll (fun _ _ => false) a.1 lo 25) (wl mv (preL (movP a.1) 25), (preL (movP a.1) 25).length, ks, tn) ml mt) := by
  refine ok_of (by decide +kernel) (Nat.zero_le _) (Nat.le_of_ble_eq_true rfl) ?_
  intro X C E
  show Ex X MX6_account 0 [(0, .ref 40), (1, .int (nI 4))] [] (HH P Hs T L S V (sF a, bf, sv, past, isv, pm) (r1, d1, it, lo) (mv, mn, ks, tn) ml mt)
  have hm : Ok MX6_manyOf [.ref 40, .int (-1)] (HH P Hs T L S V (sF a, bf, sv, past, isv, pm) (r1, d1, it, lo) (mv, mn, ks, tn) ml mt) (some (.int (nI (sumc (movP a.1) 25)))) (HH P Hs T L S V (sF a, bf, sv, past, isv, pm) (r1, d1, it, loAll (fun _ _ => false) a.1 lo 25) (wl mv (preL (movP a.1) 25), (preL (movP a.1) 25).length, ks, tn) ml mt) := by
    rw [← preL_len]
    exact okX6_manyOf_a ha (sF_ag a) hu hw
  refine x_iload_n C dX6_account_0 rfl ?_
  refine x_tsw C (off := 101) 102 dX6_account_1 (by decide +kernel) (by decide +kernel) (by decide +kernel) (by decide) ?_
  refine x_aload_n C dX6_account_102 rfl ?_
  refine x_iconst C (v := (-1)) dX6_account_103 (by decide +kernel) ?_
  refine x_callV1i C hm lkX6_152 miX6_manyOf msX6_manyOf maX6_manyOf ⟨Nat.le_of_ble_eq_true rfl, Nat.le_of_ble_eq_true rfl⟩ (Nat.le_of_ble_eq_true rfl) rfl rfl dX6_account_104 ?_
  exact x_iret E .int dX6_account_107 rfl rfl rfl rfl
set_option maxHeartbeats 4000000 in
set_option maxRecDepth 100000 in
theorem okX6_account_p5 {P : qPs} {Hs : qHs} {T : qTs} {L : qLs} {S : qSs} {V : qVs} {ml : qml} {mt : qmt} {bf sv past : Nat → Nat} {isv : Bool} {pm : Nat} {mm : qmm} {mr : qmr} {a : qP} (ha : ∀ i, a.1 i < 8)  : Ok MX6_account [.ref 40, .int (nI 5)] (HH P Hs T L S V (sF a, bf, sv, past, isv, pm) mr mm ml mt) (some (.int (nI (cnt (covR a.1 25) 25)))) (HH P Hs T L S V (sF a, bf, sv, past, isv, pm) mr mm ml mt) := by
  refine ok_of (by decide +kernel) (Nat.zero_le _) (Nat.le_of_ble_eq_true rfl) ?_
  intro X C E
  show Ex X MX6_account 0 [(0, .ref 40), (1, .int (nI 5))] [] (HH P Hs T L S V (sF a, bf, sv, past, isv, pm) mr mm ml mt)
  refine x_iload_n C dX6_account_0 rfl ?_
  refine x_tsw C (off := 107) 108 dX6_account_1 (by decide +kernel) (by decide +kernel) (by decide +kernel) (by decide) ?_
  refine x_aload_n C dX6_account_108 rfl ?_
  refine x_callV0i C (okX6_attacked ha) lkX6_234 miX6_attacked msX6_attacked maX6_attacked ⟨Nat.le_of_ble_eq_true rfl, Nat.le_of_ble_eq_true rfl⟩ (Nat.le_of_ble_eq_true rfl) rfl rfl dX6_account_109 ?_
  exact x_iret E .int dX6_account_112 rfl rfl rfl rfl
set_option maxHeartbeats 4000000 in
set_option maxRecDepth 100000 in
theorem okX6_account_p6 {P : qPs} {Hs : qHs} {T : qTs} {L : qLs} {S : qSs} {V : qVs} {ml : qml} {mt : qmt} {bf sv past : Nat → Nat} {isv : Bool} {pm : Nat} {mm : qmm} {mr : qmr} {a : qP}  : Ok MX6_account [.ref 40, .int (nI 6)] (HH P Hs T L S V (sF a, bf, sv, past, isv, pm) mr mm ml mt) (some (.int (nI a.2.1))) (HH P Hs T L S V (sF a, bf, sv, past, isv, pm) mr mm ml mt) := by
  refine ok_of (by decide +kernel) (Nat.zero_le _) (Nat.le_of_ble_eq_true rfl) ?_
  intro X C E
  show Ex X MX6_account 0 [(0, .ref 40), (1, .int (nI 6))] [] (HH P Hs T L S V (sF a, bf, sv, past, isv, pm) mr mm ml mt)
  refine x_iload_n C dX6_account_0 rfl ?_
  refine x_tsw C (off := 112) 113 dX6_account_1 (by decide +kernel) (by decide +kernel) (by decide +kernel) (by decide) ?_
  refine x_aload_n C dX6_account_113 rfl ?_
  refine x_getfield C qk6 0 (by decide) lfX6_9 dX6_account_114 rfl rfl ?_
  refine x_bipush C (v := nI 25) dX6_account_117 (by decide +kernel) ?_
  refine x_iload_n C dX6_account_119 rfl ?_
  refine x_iaddN C dX6_account_120 ?_
  refine x_bipush C (v := nI 6) dX6_account_121 (by decide +kernel) ?_
  refine x_isubN C dX6_account_123 (by omega) ?_
  refine x_iald C dX6_account_124 HM_s (by decide) (by decide) ?_
  refine x_top (show nb (sF a) 25 = nI a.2.1 from rfl) ?_
  exact x_iret E .int dX6_account_125 rfl rfl rfl rfl
set_option maxHeartbeats 4000000 in
set_option maxRecDepth 100000 in
theorem okX6_account_p7 {P : qPs} {Hs : qHs} {T : qTs} {L : qLs} {S : qSs} {V : qVs} {ml : qml} {mt : qmt} {bf sv past : Nat → Nat} {isv : Bool} {pm : Nat} {mm : qmm} {mr : qmr} {a : qP}  : Ok MX6_account [.ref 40, .int (nI 7)] (HH P Hs T L S V (sF a, bf, sv, past, isv, pm) mr mm ml mt) (some (.int (nI a.2.2.1))) (HH P Hs T L S V (sF a, bf, sv, past, isv, pm) mr mm ml mt) := by
  refine ok_of (by decide +kernel) (Nat.zero_le _) (Nat.le_of_ble_eq_true rfl) ?_
  intro X C E
  show Ex X MX6_account 0 [(0, .ref 40), (1, .int (nI 7))] [] (HH P Hs T L S V (sF a, bf, sv, past, isv, pm) mr mm ml mt)
  refine x_iload_n C dX6_account_0 rfl ?_
  refine x_tsw C (off := 112) 113 dX6_account_1 (by decide +kernel) (by decide +kernel) (by decide +kernel) (by decide) ?_
  refine x_aload_n C dX6_account_113 rfl ?_
  refine x_getfield C qk6 0 (by decide) lfX6_9 dX6_account_114 rfl rfl ?_
  refine x_bipush C (v := nI 25) dX6_account_117 (by decide +kernel) ?_
  refine x_iload_n C dX6_account_119 rfl ?_
  refine x_iaddN C dX6_account_120 ?_
  refine x_bipush C (v := nI 6) dX6_account_121 (by decide +kernel) ?_
  refine x_isubN C dX6_account_123 (by omega) ?_
  refine x_iald C dX6_account_124 HM_s (by decide) (by decide) ?_
  refine x_top (show nb (sF a) 26 = nI a.2.2.1 from rfl) ?_
  exact x_iret E .int dX6_account_125 rfl rfl rfl rfl
set_option maxHeartbeats 4000000 in
set_option maxRecDepth 100000 in
theorem okX6_account_p8 {P : qPs} {Hs : qHs} {T : qTs} {L : qLs} {S : qSs} {V : qVs} {ml : qml} {mt : qmt} {bf sv past : Nat → Nat} {isv : Bool} {pm : Nat} {mm : qmm} {mr : qmr} {a : qP}  : Ok MX6_account [.ref 40, .int (nI 8)] (HH P Hs T L S V (sF a, bf, sv, past, isv, pm) mr mm ml mt) (some (.int (nI a.2.2.2.1))) (HH P Hs T L S V (sF a, bf, sv, past, isv, pm) mr mm ml mt) := by
  refine ok_of (by decide +kernel) (Nat.zero_le _) (Nat.le_of_ble_eq_true rfl) ?_
  intro X C E
  show Ex X MX6_account 0 [(0, .ref 40), (1, .int (nI 8))] [] (HH P Hs T L S V (sF a, bf, sv, past, isv, pm) mr mm ml mt)
  refine x_iload_n C dX6_account_0 rfl ?_
  refine x_tsw C (off := 112) 113 dX6_account_1 (by decide +kernel) (by decide +kernel) (by decide +kernel) (by decide) ?_
  refine x_aload_n C dX6_account_113 rfl ?_
  refine x_getfield C qk6 0 (by decide) lfX6_9 dX6_account_114 rfl rfl ?_
  refine x_bipush C (v := nI 25) dX6_account_117 (by decide +kernel) ?_
  refine x_iload_n C dX6_account_119 rfl ?_
  refine x_iaddN C dX6_account_120 ?_
  refine x_bipush C (v := nI 6) dX6_account_121 (by decide +kernel) ?_
  refine x_isubN C dX6_account_123 (by omega) ?_
  refine x_iald C dX6_account_124 HM_s (by decide) (by decide) ?_
  refine x_top (show nb (sF a) 27 = nI a.2.2.2.1 from rfl) ?_
  exact x_iret E .int dX6_account_125 rfl rfl rfl rfl
set_option maxHeartbeats 4000000 in
set_option maxRecDepth 100000 in
theorem okX6_account_p9 {P : qPs} {Hs : qHs} {T : qTs} {L : qLs} {S : qSs} {V : qVs} {ml : qml} {mt : qmt} {bf sv past : Nat → Nat} {isv : Bool} {pm : Nat} {mm : qmm} {mr : qmr} {a : qP}  : Ok MX6_account [.ref 40, .int (nI 9)] (HH P Hs T L S V (sF a, bf, sv, past, isv, pm) mr mm ml mt) (some (.int (nI a.2.2.2.2))) (HH P Hs T L S V (sF a, bf, sv, past, isv, pm) mr mm ml mt) := by
  refine ok_of (by decide +kernel) (Nat.zero_le _) (Nat.le_of_ble_eq_true rfl) ?_
  intro X C E
  show Ex X MX6_account 0 [(0, .ref 40), (1, .int (nI 9))] [] (HH P Hs T L S V (sF a, bf, sv, past, isv, pm) mr mm ml mt)
  refine x_iload_n C dX6_account_0 rfl ?_
  refine x_tsw C (off := 112) 113 dX6_account_1 (by decide +kernel) (by decide +kernel) (by decide +kernel) (by decide) ?_
  refine x_aload_n C dX6_account_113 rfl ?_
  refine x_getfield C qk6 0 (by decide) lfX6_9 dX6_account_114 rfl rfl ?_
  refine x_bipush C (v := nI 25) dX6_account_117 (by decide +kernel) ?_
  refine x_iload_n C dX6_account_119 rfl ?_
  refine x_iaddN C dX6_account_120 ?_
  refine x_bipush C (v := nI 6) dX6_account_121 (by decide +kernel) ?_
  refine x_isubN C dX6_account_123 (by omega) ?_
  refine x_iald C dX6_account_124 HM_s (by decide) (by decide) ?_
  refine x_top (show nb (sF a) 28 = nI a.2.2.2.2 from rfl) ?_
  exact x_iret E .int dX6_account_125 rfl rfl rfl rfl
set_option maxHeartbeats 4000000 in
set_option maxRecDepth 100000 in
theorem okX6_account_p10 {P : qPs} {Hs : qHs} {T : qTs} {L : qLs} {S : qSs} {V : qVs} {ml : qml} {bf sv past : Nat → Nat} {isv : Bool} {pm : Nat} {mm : qmm} {mr : qmr} {a : qP} {tx od : Nat → Nat} {n at0 o : Nat} {wr : Bool}  : Ok MX6_account [.ref 40, .int (nI 10)] (HH P Hs T L S V (sF a, bf, sv, past, isv, pm) mr mm ml (tx, n, at0, wr, od, o)) (some (.int (nI n))) (HH P Hs T L S V (sF a, bf, sv, past, isv, pm) mr mm ml (tx, n, at0, wr, od, o)) := by
  refine ok_of (by decide +kernel) (Nat.zero_le _) (Nat.le_of_ble_eq_true rfl) ?_
  intro X C E
  show Ex X MX6_account 0 [(0, .ref 40), (1, .int (nI 10))] [] (HH P Hs T L S V (sF a, bf, sv, past, isv, pm) mr mm ml (tx, n, at0, wr, od, o))
  refine x_iload_n C dX6_account_0 rfl ?_
  refine x_tsw C (off := 125) 126 dX6_account_1 (by decide +kernel) (by decide +kernel) (by decide +kernel) (by decide) ?_
  refine x_aload_n C dX6_account_126 rfl ?_
  refine x_getfield C qk6 17 (by decide) lfX6_194 dX6_account_127 rfl rfl ?_
  exact x_iret E .int dX6_account_130 rfl rfl rfl rfl
set_option maxHeartbeats 4000000 in
set_option maxRecDepth 100000 in
theorem okX6_account_p11 {P : qPs} {Hs : qHs} {T : qTs} {L : qLs} {S : qSs} {V : qVs} {ml : qml} {mt : qmt} {bf sv past : Nat → Nat} {isv : Bool} {pm : Nat} {mm : qmm} {mr : qmr} {a : qP}  : Ok MX6_account [.ref 40, .int (nI 11)] (HH P Hs T L S V (sF a, bf, sv, past, isv, pm) mr mm ml mt) (some (.int (nI pm))) (HH P Hs T L S V (sF a, bf, sv, past, isv, pm) mr mm ml mt) := by
  refine ok_of (by decide +kernel) (Nat.zero_le _) (Nat.le_of_ble_eq_true rfl) ?_
  intro X C E
  show Ex X MX6_account 0 [(0, .ref 40), (1, .int (nI 11))] [] (HH P Hs T L S V (sF a, bf, sv, past, isv, pm) mr mm ml mt)
  refine x_iload_n C dX6_account_0 rfl ?_
  refine x_tsw C (off := 130) 131 dX6_account_1 (by decide +kernel) (by decide +kernel) (by decide +kernel) (by decide) ?_
  refine x_aload_n C dX6_account_131 rfl ?_
  refine x_getfield C qk6 5 (by decide) lfX6_51 dX6_account_132 rfl rfl ?_
  exact x_iret E .int dX6_account_135 rfl rfl rfl rfl
set_option maxHeartbeats 4000000 in
set_option maxRecDepth 100000 in
theorem okX6_account_out {P : qPs} {Hs : qHs} {T : qTs} {L : qLs} {S : qSs} {V : qVs} {ml : qml} {mt : qmt} {bf sv past : Nat → Nat} {isv : Bool} {pm : Nat} {mm : qmm} {mr : qmr} {a : qP} {x : Int32} (hx : x.toInt < 0 ∨ 11 < x.toInt) : Ok MX6_account [.ref 40, .int x] (HH P Hs T L S V (sF a, bf, sv, past, isv, pm) mr mm ml mt) (some (.int (-2))) (HH P Hs T L S V (sF a, bf, sv, past, isv, pm) mr mm ml mt) := by
  refine ok_of (by decide +kernel) (Nat.zero_le _) (Nat.le_of_ble_eq_true rfl) ?_
  intro X C E
  show Ex X MX6_account 0 [(0, .ref 40), (1, .int x)] [] (HH P Hs T L S V (sF a, bf, sv, past, isv, pm) mr mm ml mt)
  refine x_iload_n C dX6_account_0 rfl ?_
  refine x_tswOut C 136 dX6_account_1 (by first | exact hx | exact hx.symm | omega) (by decide) ?_
  refine x_bipush C (v := (-2)) dX6_account_136 (by decide +kernel) ?_
  exact x_iret E .int dX6_account_138 rfl rfl rfl rfl
set_option maxHeartbeats 4000000 in
set_option maxRecDepth 100000 in
theorem okX6_isWell {P : qPs} {Hs : qHs} {T : qTs} {L : qLs} {S : qSs} {V : qVs} {ml : qml} {mt : qmt} {bf sv past : Nat → Nat} {isv : Bool} {pm : Nat} {mm : qmm} {mr : qmr} {a : qP}  : Ok MX6_isWell [.ref 40] (HH P Hs T L S V (sF a, bf, sv, past, isv, pm) mr mm ml mt) (some (.int (nI 1))) (HH P Hs T L S V (sF a, bf, sv, past, isv, pm) mr mm ml mt) := by
  refine ok_of (by decide +kernel) (Nat.zero_le _) (Nat.le_of_ble_eq_true rfl) ?_
  intro X C E
  show Ex X MX6_isWell 0 [(0, .ref 40)] [] (HH P Hs T L S V (sF a, bf, sv, past, isv, pm) mr mm ml mt)
  refine x_iconst C (v := nI 1) dX6_isWell_0 (by decide +kernel) ?_
  exact x_iret E .int dX6_isWell_1 rfl rfl rfl rfl
set_option maxHeartbeats 4000000 in
set_option maxRecDepth 100000 in
theorem okX6_undo_p0 {P : qPs} {Hs : qHs} {T : qTs} {L : qLs} {S : qSs} {V : qVs} {ml : qml} {mt : qmt} {bf sv past : Nat → Nat} {isv : Bool} {pm : Nat} {mm : qmm} {mr : qmr} {a : qP} (h0 : pm = 0) : Ok MX6_undo [.ref 40] (HH P Hs T L S V (sF a, bf, sv, past, isv, pm) mr mm ml mt) (some (.int (-4))) (HH P Hs T L S V (sF a, bf, sv, past, isv, pm) mr mm ml mt) := by
  refine ok_of (by decide +kernel) (Nat.zero_le _) (Nat.le_of_ble_eq_true rfl) ?_
  intro X C E
  show Ex X MX6_undo 0 [(0, .ref 40)] [] (HH P Hs T L S V (sF a, bf, sv, past, isv, pm) mr mm ml mt)
  subst h0
  refine x_aload_n C dX6_undo_0 rfl ?_
  refine x_getfield C qk6 5 (by decide) lfX6_51 dX6_undo_1 rfl rfl ?_
  refine x_top (v := nI 0) (by rfl) ?_
  refine x_if_neN C 10 dX6_undo_4 (by decide) (by omega) (fun c4 => ?_) (fun c4 => ?_)
  · exact absurd rfl c4
  · refine x_bipush C (v := (-4)) dX6_undo_7 (by decide +kernel) ?_
    exact x_iret E .int dX6_undo_9 rfl rfl rfl rfl
set_option maxHeartbeats 4000000 in
set_option maxRecDepth 100000 in
theorem okX6_undo_p1 {P : qPs} {Hs : qHs} {T : qTs} {L : qLs} {S : qSs} {V : qVs} {ml : qml} {mt : qmt} {bf sv past : Nat → Nat} {isv : Bool} {pm : Nat} {mm : qmm} {mr : qmr} {a : qP} {n : Nat} (h0 : pm = n + 1) (h8 : n + 1 ≤ 8) : Ok MX6_undo [.ref 40] (HH P Hs T L S V (sF a, bf, sv, past, isv, pm) mr mm ml mt) (some (.int (nI n))) (HH P Hs T L S V (cpB past (sF a) (29 * n) 0 29, bf, sv, past, isv, n) mr mm ml mt) := by
  refine ok_of (by decide +kernel) (Nat.zero_le _) (Nat.le_of_ble_eq_true rfl) ?_
  intro X C E
  show Ex X MX6_undo 0 [(0, .ref 40)] [] (HH P Hs T L S V (sF a, bf, sv, past, isv, pm) mr mm ml mt)
  subst h0
  refine x_aload_n C dX6_undo_0 rfl ?_
  refine x_getfield C qk6 5 (by decide) lfX6_51 dX6_undo_1 rfl rfl ?_
  refine x_top (v := nI (n + 1)) (by rfl) ?_
  refine x_if_neN C 10 dX6_undo_4 (by decide) (by omega) (fun c4 => ?_) (fun c4 => ?_)
  · refine x_aload_n C dX6_undo_10 rfl ?_
    refine x_dup C rfl dX6_undo_11 ?_
    refine x_getfield C qk6 5 (by decide) lfX6_51 dX6_undo_12 rfl rfl ?_
    refine x_top (v := nI (n + 1)) (by rfl) ?_
    refine x_iconst C (v := nI 1) dX6_undo_15 (by decide +kernel) ?_
    refine x_isubN C dX6_undo_16 (by omega) ?_
    refine x_putfield C qk6 5 (by decide) lfX6_51 rfl (ty0 := .int) (by decide +kernel) rfl rfl dX6_undo_17 rfl (Nat.le_of_ble_eq_true rfl) ?_
    refine x_heap (h2 := HH P Hs T L S V (sF a, bf, sv, past, isv, n) mr mm ml mt) (by rfl) ?_
    refine x_aload_n C dX6_undo_20 rfl ?_
    refine x_getfield C qk6 4 (by decide) lfX6_19 dX6_undo_21 rfl rfl ?_
    refine x_bipush C (v := nI 29) dX6_undo_24 (by decide +kernel) ?_
    refine x_aload_n C dX6_undo_26 rfl ?_
    refine x_getfield C qk6 5 (by decide) lfX6_51 dX6_undo_27 rfl rfl ?_
    refine x_top (v := nI n) (by rfl) ?_
    refine x_imulN C dX6_undo_30 ?_
    refine x_aload_n C dX6_undo_31 rfl ?_
    refine x_getfield C qk6 0 (by decide) lfX6_9 dX6_undo_32 rfl rfl ?_
    refine x_iconst C (v := nI 0) dX6_undo_35 (by decide +kernel) ?_
    refine x_bipush C (v := nI 29) dX6_undo_36 (by decide +kernel) ?_
    refine x_copy C lkX6_45 ⟨Nat.le_of_ble_eq_true rfl, Nat.le_of_ble_eq_true rfl⟩ (Nat.le_of_ble_eq_true rfl) HM_past HM_s (by omega) (by omega) (by decide) (by decide) dX6_undo_38 ?_
    refine x_heap HS_s ?_
    refine x_aload_n C dX6_undo_41 rfl ?_
    refine x_getfield C qk6 5 (by decide) lfX6_51 dX6_undo_42 rfl rfl ?_
    exact x_iret E .int dX6_undo_45 rfl rfl rfl rfl
  · exact absurd c4 (Nat.succ_ne_zero n)
set_option maxHeartbeats 4000000 in
set_option maxRecDepth 100000 in
theorem okX6_save {P : qPs} {Hs : qHs} {T : qTs} {L : qLs} {S : qSs} {V : qVs} {ml : qml} {mt : qmt} {bf sv past : Nat → Nat} {isv : Bool} {pm : Nat} {mm : qmm} {mr : qmr} {a : qP} (ha : ∀ i, a.1 i < 8) : Ok MX6_save [.ref 40] (HH P Hs T L S V (sF a, bf, sv, past, isv, pm) mr mm ml mt) (some (.int (nI (menN a.1)))) (HH P Hs T L S V (sF a, bf, cpB (sF a) sv 0 0 29, past, true, pm) mr mm ml mt) := by
  refine ok_of (by decide +kernel) (Nat.zero_le _) (Nat.le_of_ble_eq_true rfl) ?_
  intro X C E
  show Ex X MX6_save 0 [(0, .ref 40)] [] (HH P Hs T L S V (sF a, bf, sv, past, isv, pm) mr mm ml mt)
  refine x_aload_n C dX6_save_0 rfl ?_
  refine x_getfield C qk6 0 (by decide) lfX6_9 dX6_save_1 rfl rfl ?_
  refine x_iconst C (v := nI 0) dX6_save_4 (by decide +kernel) ?_
  refine x_aload_n C dX6_save_5 rfl ?_
  refine x_getfield C qk6 2 (by decide) lfX6_16 dX6_save_6 rfl rfl ?_
  refine x_iconst C (v := nI 0) dX6_save_9 (by decide +kernel) ?_
  refine x_bipush C (v := nI 29) dX6_save_10 (by decide +kernel) ?_
  refine x_copy C lkX6_45 ⟨Nat.le_of_ble_eq_true rfl, Nat.le_of_ble_eq_true rfl⟩ (Nat.le_of_ble_eq_true rfl) HM_s HM_sv (by omega) (by omega) (by decide) (by decide) dX6_save_12 ?_
  refine x_heap HS_sv ?_
  refine x_aload_n C dX6_save_15 rfl ?_
  refine x_iconst C (v := nI 1) dX6_save_16 (by decide +kernel) ?_
  refine x_putfield C qk6 3 (by decide) lfX6_244 rfl (ty0 := .boolean) (by decide +kernel) rfl rfl dX6_save_17 rfl (Nat.le_of_ble_eq_true rfl) ?_
  refine x_heap (h2 := HH P Hs T L S V (sF a, bf, cpB (sF a) sv 0 0 29, past, true, pm) mr mm ml mt) (by rfl) ?_
  refine x_aload_n C dX6_save_20 rfl ?_
  refine x_callV0i C (okX6_men ((sF_ag a).lt ha)) lkX6_76 miX6_men msX6_men maX6_men ⟨Nat.le_of_ble_eq_true rfl, Nat.le_of_ble_eq_true rfl⟩ (Nat.le_of_ble_eq_true rfl) rfl rfl dX6_save_21 ?_
  rw [menS (sF_ag a) ha]
  exact x_iret E .int dX6_save_24 rfl rfl rfl rfl
set_option maxHeartbeats 4000000 in
set_option maxRecDepth 100000 in
theorem okX6_restore_p0 {P : qPs} {Hs : qHs} {T : qTs} {L : qLs} {S : qSs} {V : qVs} {ml : qml} {mt : qmt} {bf sv past : Nat → Nat} {isv : Bool} {pm : Nat} {mm : qmm} {mr : qmr} {a : qP} (h0 : isv = false) : Ok MX6_restore [.ref 40] (HH P Hs T L S V (sF a, bf, sv, past, isv, pm) mr mm ml mt) (some (.int (-4))) (HH P Hs T L S V (sF a, bf, sv, past, isv, pm) mr mm ml mt) := by
  refine ok_of (by decide +kernel) (Nat.zero_le _) (Nat.le_of_ble_eq_true rfl) ?_
  intro X C E
  show Ex X MX6_restore 0 [(0, .ref 40)] [] (HH P Hs T L S V (sF a, bf, sv, past, isv, pm) mr mm ml mt)
  subst h0
  refine x_aload_n C dX6_restore_0 rfl ?_
  refine x_getfield C qk6 3 (by decide) lfX6_244 dX6_restore_1 rfl rfl ?_
  refine x_if_neB C 10 dX6_restore_4 (by decide) (fun c4 => ?_) (fun c4 => ?_)
  · cases c4
  · refine x_bipush C (v := (-4)) dX6_restore_7 (by decide +kernel) ?_
    exact x_iret E .int dX6_restore_9 rfl rfl rfl rfl
set_option maxHeartbeats 4000000 in
set_option maxRecDepth 100000 in
theorem okX6_restore_p1 {P : qPs} {Hs : qHs} {T : qTs} {L : qLs} {S : qSs} {V : qVs} {ml : qml} {mt : qmt} {bf sv past : Nat → Nat} {isv : Bool} {pm : Nat} {mm : qmm} {mr : qmr} {a : qP} {d : qP} (hd : ∀ i, d.1 i < 8) (h0 : isv = true) (hs : ∀ i, i < 29 → sv i = sF d i) : Ok MX6_restore [.ref 40] (HH P Hs T L S V (sF a, bf, sv, past, isv, pm) mr mm ml mt) (some (.int (nI (menN d.1)))) (HH P Hs T L S V (sF d, bf, sv, past, isv, 0) mr mm ml mt) := by
  refine ok_of (by decide +kernel) (Nat.zero_le _) (Nat.le_of_ble_eq_true rfl) ?_
  intro X C E
  show Ex X MX6_restore 0 [(0, .ref 40)] [] (HH P Hs T L S V (sF a, bf, sv, past, isv, pm) mr mm ml mt)
  subst h0
  have e1 : cpB sv (sF a) 0 0 29 = sF d := by
    funext k
    unfold cpB
    by_cases e : k < 29
    · rw [if_pos ⟨Nat.zero_le _, by omega⟩, Nat.zero_add, Nat.sub_zero]; exact hs k e
    · rw [if_neg (by omega), sF_hi (by omega), sF_hi (by omega)]
  refine x_aload_n C dX6_restore_0 rfl ?_
  refine x_getfield C qk6 3 (by decide) lfX6_244 dX6_restore_1 rfl rfl ?_
  refine x_if_neB C 10 dX6_restore_4 (by decide) (fun c4 => ?_) (fun c4 => ?_)
  · refine x_aload_n C dX6_restore_10 rfl ?_
    refine x_getfield C qk6 2 (by decide) lfX6_16 dX6_restore_11 rfl rfl ?_
    refine x_iconst C (v := nI 0) dX6_restore_14 (by decide +kernel) ?_
    refine x_aload_n C dX6_restore_15 rfl ?_
    refine x_getfield C qk6 0 (by decide) lfX6_9 dX6_restore_16 rfl rfl ?_
    refine x_iconst C (v := nI 0) dX6_restore_19 (by decide +kernel) ?_
    refine x_bipush C (v := nI 29) dX6_restore_20 (by decide +kernel) ?_
    refine x_copy C lkX6_45 ⟨Nat.le_of_ble_eq_true rfl, Nat.le_of_ble_eq_true rfl⟩ (Nat.le_of_ble_eq_true rfl) HM_sv HM_s (by omega) (by omega) (by decide) (by decide) dX6_restore_22 ?_
    refine x_heap HS_s ?_
    rw [e1]
    refine x_aload_n C dX6_restore_25 rfl ?_
    refine x_iconst C (v := nI 0) dX6_restore_26 (by decide +kernel) ?_
    refine x_putfield C qk6 5 (by decide) lfX6_51 rfl (ty0 := .int) (by decide +kernel) rfl rfl dX6_restore_27 rfl (Nat.le_of_ble_eq_true rfl) ?_
    refine x_heap (h2 := HH P Hs T L S V (sF d, bf, sv, past, true, 0) mr mm ml mt) (by rfl) ?_
    refine x_aload_n C dX6_restore_30 rfl ?_
    refine x_callV0i C (okX6_men ((sF_ag d).lt hd)) lkX6_76 miX6_men msX6_men maX6_men ⟨Nat.le_of_ble_eq_true rfl, Nat.le_of_ble_eq_true rfl⟩ (Nat.le_of_ble_eq_true rfl) rfl rfl dX6_restore_31 ?_
    rw [menS (sF_ag d) hd]
    exact x_iret E .int dX6_restore_34 rfl rfl rfl rfl
  · cases c4
theorem inB02 {x : Int32} : inB x (nI 0) (nI 2) = false ↔ x < 0 ∨ nI 2 < x := by
  unfold inB
  show (!decide (x < 0) && !decide (nI 2 < x)) = false ↔ _
  by_cases h1 : x < 0 <;> by_cases h2 : nI 2 < x <;> simp [h1, h2]
set_option maxHeartbeats 4000000 in
set_option maxRecDepth 100000 in
theorem okX6_refusal {P : qPs} {Hs : qHs} {T : qTs} {L : qLs} {S : qSs} {V : qVs} {ml : qml} {mt : qmt} {bf sv past : Nat → Nat} {isv : Bool} {pm : Nat} {mm : qmm} {r1 d1 it lo : Int32} {a : qP} (x : Int32) : Ok MX6_refusal [.ref 40, .int x] (HH P Hs T L S V (sF a, bf, sv, past, isv, pm) (r1, d1, it, lo) mm ml mt) (some (.int (rsnF r1 d1 it x))) (HH P Hs T L S V (sF a, bf, sv, past, isv, pm) (r1, d1, it, lo) mm ml mt) := by
  refine ok_of (by decide +kernel) (Nat.zero_le _) (Nat.le_of_ble_eq_true rfl) ?_
  intro X C E
  show Ex X MX6_refusal 0 [(0, .ref 40), (1, .int x)] [] (HH P Hs T L S V (sF a, bf, sv, past, isv, pm) (r1, d1, it, lo) mm ml mt)
  refine x_iload_n C dX6_refusal_0 rfl ?_
  refine x_iconst C (v := nI 0) dX6_refusal_1 (by decide +kernel) ?_
  refine x_iconst C (v := nI 2) dX6_refusal_2 (by decide +kernel) ?_
  refine x_callS3i C (okX6_in _ _ _ _) lkX6_60 miX6_in mtX6_in maX6_in ⟨Nat.le_of_ble_eq_true rfl, Nat.le_of_ble_eq_true rfl⟩ (Nat.le_of_ble_eq_true rfl) dX6_refusal_3 ?_
  refine x_if_neB C 12 dX6_refusal_6 (by decide) (fun c6 => ?_) (fun c6 => ?_)
  · refine x_aload_n C dX6_refusal_12 rfl ?_
    refine x_getfield C qk6 6 (by decide) lfX6_54 dX6_refusal_13 rfl rfl ?_
    refine x_if_ne C 24 dX6_refusal_16 (by decide) (fun c16 => ?_) (fun c16 => ?_)
    · refine x_iload_n C dX6_refusal_24 rfl ?_
      refine x_if_ne C 35 dX6_refusal_25 (by decide) (fun c25 => ?_) (fun c25 => ?_)
      · refine x_iload_n C dX6_refusal_35 rfl ?_
        refine x_iconst C (v := nI 1) dX6_refusal_36 (by decide +kernel) ?_
        refine x_icmp_ne C 47 dX6_refusal_37 (by decide) (fun c37 => ?_) (fun c37 => ?_)
        · refine x_aload_n C dX6_refusal_47 rfl ?_
          refine x_getfield C qk6 8 (by decide) lfX6_22 dX6_refusal_48 rfl rfl ?_
          exact x_iret E .int dX6_refusal_51 rfl rfl (by unfold rsnF; rw [if_neg (fun z => by rw [inB02.mpr z] at c6; cases c6), if_neg c16, if_neg c25, if_neg c37]) rfl
        · refine x_aload_n C dX6_refusal_40 rfl ?_
          refine x_getfield C qk6 7 (by decide) lfX6_57 dX6_refusal_41 rfl rfl ?_
          refine x_goto C 51 dX6_refusal_44 (by decide) ?_
          exact x_iret E .int dX6_refusal_51 rfl rfl (by unfold rsnF; rw [if_neg (fun z => by rw [inB02.mpr z] at c6; cases c6), if_neg c16, if_neg c25, if_pos c37]) rfl
      · refine x_aload_n C dX6_refusal_28 rfl ?_
        refine x_getfield C qk6 6 (by decide) lfX6_54 dX6_refusal_29 rfl rfl ?_
        refine x_goto C 51 dX6_refusal_32 (by decide) ?_
        exact x_iret E .int dX6_refusal_51 rfl rfl (by unfold rsnF; rw [if_neg (fun z => by rw [inB02.mpr z] at c6; cases c6), if_neg c16, if_pos c25]) rfl
    · refine x_bipush C (v := (-4)) dX6_refusal_19 (by decide +kernel) ?_
      refine x_goto C 51 dX6_refusal_21 (by decide) ?_
      exact x_iret E .int dX6_refusal_51 rfl rfl (by unfold rsnF; rw [if_neg (fun z => by rw [inB02.mpr z] at c6; cases c6), if_pos c16]) rfl
  · refine x_bipush C (v := (-2)) dX6_refusal_9 (by decide +kernel) ?_
    exact x_iret E .int dX6_refusal_11 rfl rfl (by unfold rsnF; rw [if_pos (inB02.mp c6)]) rfl
