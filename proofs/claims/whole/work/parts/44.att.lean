/-! the reference: attackersOf -/
def q5 (u : Nat) : Int32 := nI u - nI 2
def dirO (u v : Nat) : Nat := ((List.range 16).find? (fun d => decide (dcI d = (u : Int) - 2) && decide (drI d = (v : Int) - 2))).getD 16
def e2 (u v : Nat) : Nat := (((u : Int) - 2) * ((u : Int) - 2) + ((v : Int) - 2) * ((v : Int) - 2)).toNat
def ofOk (u v : Nat) : Bool := decide (q5 u * q5 u + q5 v * q5 v = nI (e2 u v)) && decide (e2 u v < 9) && (decide (16 ≤ dirO u v) || (decide (q5 u = q_sc (dirO u v)) && decide (q5 v = q_sr (dirO u v)))) && (decide (e2 u v = 1) == decide (dirO u v < 4)) && (decide (e2 u v = 2) == decide (4 ≤ dirO u v ∧ dirO u v < 8)) && (decide (e2 u v = 5) == decide (8 ≤ dirO u v ∧ dirO u v < 16))
theorem ofOk_all : ∀ u v : Fin 5, ofOk u v = true := by decide +kernel
theorem of_facts {u v : Nat} (hu : u < 5) (hv : v < 5) : q5 u * q5 u + q5 v * q5 v = nI (e2 u v) ∧ e2 u v < 9 ∧ (dirO u v < 16 → q5 u = q_sc (dirO u v) ∧ q5 v = q_sr (dirO u v)) ∧ (e2 u v = 1 ↔ dirO u v < 4) ∧ (e2 u v = 2 ↔ 4 ≤ dirO u v ∧ dirO u v < 8) ∧ (e2 u v = 5 ↔ 8 ≤ dirO u v ∧ dirO u v < 16) := by
  have h : ofOk u v = true := ofOk_all ⟨u, hu⟩ ⟨v, hv⟩
  unfold ofOk at h
  simp only [Bool.and_eq_true, Bool.or_eq_true, decide_eq_true_eq, beq_iff_eq, decide_eq_decide] at h
  obtain ⟨⟨⟨⟨⟨h1, h2⟩, h3⟩, h4⟩, h5⟩, h6⟩ := h
  exact ⟨h1, h2, fun hd => h3.elim (fun z => absurd z (by omega)) id, h4, h5, h6⟩
theorem q5_s {u : Nat} (hu : u < 5) : q5 u + Int32.ofInt 1 = q5 (u + 1) := (by decide +kernel : ∀ u : Fin 5, q5 u + Int32.ofInt 1 = q5 (u + 1)) ⟨u, hu⟩
theorem q5_2 {u : Nat} (hu : u < 6) : nI 2 < q5 u ↔ u = 5 := (by decide +kernel : ∀ u : Fin 6, nI 2 < q5 u ↔ (u : Nat) = 5) ⟨u, hu⟩
def metM (s : Nat → Nat) (i d : Nat) : Bool :=
  if d < 8 then decide (fsK s i d = 2 ∨ fsK s i d = (if d < 4 then 3 else 4) ∨ (fsK s i d = 1 ∧ fst s i d = 1))
  else if d < 16 then decide (awI s i d 1 = nI 5) else false
def mmS (s : Nat → Nat) (i k : Nat) : Bool := metM s i (dirO (k / 5) (k % 5))
def attM (s : Nat → Nat) (i : Nat) : Nat := cnt (mmS s i) 25
theorem awQ1 {P : qPs} {Hs : qHs} {T : qTs} {L : qLs} {S : qSs} {V : qVs} {mr : qmr} {mm : qmm} {ml : qml} {mt : qmt} {s bf sv past : Nat → Nat} {isv : Bool} {pm : Nat} {i u v : Nat} (hi : i < 25) (hu : u < 5) (hv : v < 5) (hd : dirO u v < 16) : Ok MX6_away [.ref 40, .int (nI i), .int (q5 u), .int (q5 v)] (HH P Hs T L S V (s, bf, sv, past, isv, pm) mr mm ml mt) (some (.int (awI s i (dirO u v) 1))) (HH P Hs T L S V (s, bf, sv, past, isv, pm) mr mm ml mt) := by
  have h := okX6_away (P := P) (Hs := Hs) (T := T) (L := L) (S := S) (V := V) (mr := mr) (mm := mm) (ml := ml) (mt := mt) (s := s) (bf := bf) (sv := sv) (past := past) (isv := isv) (pm := pm) hi hd (show 1 < 6 by decide)
  obtain ⟨-, -, h3, -⟩ := of_facts hu hv
  obtain ⟨e1, e2⟩ := h3 hd
  rw [show nI 1 * q_sc (dirO u v) = q5 u by rw [e1]; exact Int32.one_mul _, show nI 1 * q_sr (dirO u v) = q5 v by rw [e2]; exact Int32.one_mul _] at h
  exact h
theorem awQf {P : qPs} {Hs : qHs} {T : qTs} {L : qLs} {S : qSs} {V : qVs} {mr : qmr} {mm : qmm} {ml : qml} {mt : qmt} {s bf sv past : Nat → Nat} {isv : Bool} {pm : Nat} {i u v f : Nat} (hi : i < 25) (hu : u < 5) (hv : v < 5) (hd : dirO u v < 16) (hf : f < 6) : Ok MX6_away [.ref 40, .int (nI i), .int (nI f * q5 u), .int (nI f * q5 v)] (HH P Hs T L S V (s, bf, sv, past, isv, pm) mr mm ml mt) (some (.int (awI s i (dirO u v) f))) (HH P Hs T L S V (s, bf, sv, past, isv, pm) mr mm ml mt) := by
  obtain ⟨-, -, h3, -⟩ := of_facts hu hv
  obtain ⟨e1, e2⟩ := h3 hd
  rw [e1, e2]
  exact okX6_away hi hd hf
theorem fsQ {P : qPs} {Hs : qHs} {T : qTs} {L : qLs} {S : qSs} {V : qVs} {mr : qmr} {mm : qmm} {ml : qml} {mt : qmt} {s bf sv past : Nat → Nat} {isv : Bool} {pm : Nat} (hs : ∀ i, i < 25 → s i < 8) {i u v : Nat} (hi : i < 25) (hu : u < 5) (hv : v < 5) (hd : dirO u v < 8) : Ok MX6_firstAt [.ref 40, .int (nI i), .int (q5 u), .int (q5 v)] (HH P Hs T L S V (s, bf, sv, past, isv, pm) mr mm ml mt) (some (.int (nI (fst s i (dirO u v))))) (HH P Hs T L S V (s, bf, sv, past, isv, pm) mr mm ml mt) := by
  obtain ⟨-, -, h3, -⟩ := of_facts hu hv
  obtain ⟨e1, e2⟩ := h3 (by omega)
  rw [e1, e2]
  exact okX6_firstAt hs hi hd
set_option maxHeartbeats 4000000 in
set_option maxRecDepth 100000 in
theorem okX6_attackersOf {P : qPs} {Hs : qHs} {T : qTs} {L : qLs} {S : qSs} {V : qVs} {mr : qmr} {mm : qmm} {ml : qml} {mt : qmt} {s bf sv past : Nat → Nat} {isv : Bool} {pm : Nat} (hs : ∀ i, i < 25 → s i < 8) {i : Nat} (hi : i < 25) : Ok MX6_attackersOf [.ref 40, .int (nI i)] (HH P Hs T L S V (s, bf, sv, past, isv, pm) mr mm ml mt) (some (.int (nI (attM s i)))) (HH P Hs T L S V (s, bf, sv, past, isv, pm) mr mm ml mt) := by
  refine ok_of (by decide +kernel) (Nat.zero_le _) (Nat.le_of_ble_eq_true rfl) ?_
  intro X C E
  show Ex X MX6_attackersOf 0 [(0, .ref 40), (1, .int (nI i))] [] (HH P Hs T L S V (s, bf, sv, past, isv, pm) mr mm ml mt)
  have L1 : ∀ n u : Nat, u + n = 5 → Ex X MX6_attackersOf 5 [(0, .ref 40), (1, .int (nI i)), (2, .int (nI (cnt (mmS s i) (5 * u)))), (3, .int (q5 u))] [] (HH P Hs T L S V (s, bf, sv, past, isv, pm) mr mm ml mt) := by
    intro n
    induction n with
    | zero =>
      intro u hun
      have e : u = 5 := by omega
      subst e
      refine x_iload_n C dX6_attackersOf_5 rfl ?_
      refine x_iconst C (v := nI 2) dX6_attackersOf_6 (by decide +kernel) ?_
      refine x_icmp_gt C 170 dX6_attackersOf_7 (by decide) (fun c7 => ?_) (fun c7 => ?_)
      · refine x_iload_n C dX6_attackersOf_170 rfl ?_
        exact x_iret E .int dX6_attackersOf_171 rfl rfl rfl rfl
      · exact absurd ((q5_2 (by decide : 5 < 6)).mpr rfl) c7
    | succ n ih =>
      intro u hun
      have hu : u < 5 := by omega
      have L2 : ∀ n v : Nat, v + n = 5 → Ex X MX6_attackersOf 14 [(0, .ref 40), (1, .int (nI i)), (2, .int (nI (cnt (mmS s i) (5 * u + v)))), (3, .int (q5 u)), (4, .int (q5 v))] [] (HH P Hs T L S V (s, bf, sv, past, isv, pm) mr mm ml mt) := by
        intro n
        induction n with
        | zero =>
          intro v hvn
          have e : v = 5 := by omega
          subst e
          rw [show 5 * u + 5 = 5 * (u + 1) by omega]
          refine x_iload C dX6_attackersOf_14 rfl ?_
          refine x_iconst C (v := nI 2) dX6_attackersOf_16 (by decide +kernel) ?_
          refine x_icmp_gt C 164 dX6_attackersOf_17 (by decide) (fun c17 => ?_) (fun c17 => ?_)
          · refine x_iinc C _ dX6_attackersOf_164 rfl (q5_s hu) (by decide) [(3, _), (0, _), (1, _), (2, _), (4, _)] rfl ?_
            refine x_goto C 5 dX6_attackersOf_167 (by decide) ?_
            exact x_sub [1, 2, 3, 0] (ih (u + 1) (by omega)) rfl
          · exact absurd ((q5_2 (by decide : 5 < 6)).mpr rfl) c17
        | succ n ih =>
          intro v hvn
          have hv : v < 5 := by omega
          obtain ⟨hb2, he9, -, f1, f2, f3⟩ := of_facts hu hv
          have hmm : mmS s i (5 * u + v) = metM s i (dirO u v) := by
            unfold mmS
            rw [show (5 * u + v) / 5 = u by omega, show (5 * u + v) % 5 = v by omega]
          have hfl := fst_le s i (dirO u v)
          have hfk : dirO u v < 16 → fsK s i (dirO u v) < 8 := fun hd => fsK_lt hs hi hd
          refine x_iload C dX6_attackersOf_14 rfl ?_
          refine x_iconst C (v := nI 2) dX6_attackersOf_16 (by decide +kernel) ?_
          refine x_icmp_gt C 164 dX6_attackersOf_17 (by decide) (fun c17 => ?_) (fun c17 => ?_)
          · exact absurd ((q5_2 (show v < 6 by omega)).mp c17) (by omega)
          · refine x_iload_n C dX6_attackersOf_20 rfl ?_
            refine x_iload_n C dX6_attackersOf_21 rfl ?_
            refine x_imul C dX6_attackersOf_22 ?_
            refine x_iload C dX6_attackersOf_23 rfl ?_
            refine x_iload C dX6_attackersOf_25 rfl ?_
            refine x_imul C dX6_attackersOf_27 ?_
            refine x_iadd C dX6_attackersOf_28 ?_
            refine x_top hb2 ?_
            refine x_istore C dX6_attackersOf_29 (by decide) [(5, _), (0, _), (1, _), (2, _), (3, _), (4, _)] rfl ?_
            refine x_iload_n C dX6_attackersOf_31 rfl ?_
            refine x_iload C dX6_attackersOf_32 rfl ?_
            refine x_iconst C (v := nI 5) dX6_attackersOf_34 (by decide +kernel) ?_
            refine x_icmp_neN C 54 dX6_attackersOf_35 (by decide) (by omega) (by omega) (fun c35 => ?_) (fun c35 => ?_)
            · refine x_iconst C (v := nI 0) dX6_attackersOf_54 (by decide +kernel) ?_
              refine x_iaddN C dX6_attackersOf_55 ?_
              refine x_istore_n C dX6_attackersOf_56 (by decide) [(2, _), (5, _), (0, _), (1, _), (3, _), (4, _)] rfl ?_
              refine x_iload C dX6_attackersOf_57 rfl ?_
              refine x_iconst C (v := nI 1) dX6_attackersOf_59 (by decide +kernel) ?_
              refine x_icmp_eqN C 69 dX6_attackersOf_60 (by decide) (by omega) (by omega) (fun c60 => ?_) (fun c60 => ?_)
              · refine x_aload_n C dX6_attackersOf_69 rfl ?_
                refine x_iload_n C dX6_attackersOf_70 rfl ?_
                refine x_iload_n C dX6_attackersOf_71 rfl ?_
                refine x_iload C dX6_attackersOf_72 rfl ?_
                refine x_callV3i C (fsQ hs hi hu hv (by omega)) lkX6_96 miX6_firstAt msX6_firstAt maX6_firstAt ⟨Nat.le_of_ble_eq_true rfl, Nat.le_of_ble_eq_true rfl⟩ (Nat.le_of_ble_eq_true rfl) rfl rfl dX6_attackersOf_74 ?_
                refine x_istore C dX6_attackersOf_77 (by decide) [(6, _), (2, _), (5, _), (0, _), (1, _), (3, _), (4, _)] rfl ?_
                refine x_iload C dX6_attackersOf_79 rfl ?_
                refine x_if_neN C 88 dX6_attackersOf_81 (by decide) (by omega) (fun c81 => ?_) (fun c81 => ?_)
                · refine x_aload_n C dX6_attackersOf_88 rfl ?_
                  refine x_iload_n C dX6_attackersOf_89 rfl ?_
                  refine x_iload C dX6_attackersOf_90 rfl ?_
                  refine x_iload_n C dX6_attackersOf_92 rfl ?_
                  refine x_imul C dX6_attackersOf_93 ?_
                  refine x_iload C dX6_attackersOf_94 rfl ?_
                  refine x_iload C dX6_attackersOf_96 rfl ?_
                  refine x_imul C dX6_attackersOf_98 ?_
                  refine x_callV3i C (awQf hi hu hv (by omega) (fst_le s i (dirO u v))) lkX6_92 miX6_away msX6_away maX6_away ⟨Nat.le_of_ble_eq_true rfl, Nat.le_of_ble_eq_true rfl⟩ (Nat.le_of_ble_eq_true rfl) rfl rfl dX6_attackersOf_99 ?_
                  rw [fsK_aw c81]
                  refine x_istore C dX6_attackersOf_102 (by decide) [(7, _), (6, _), (2, _), (5, _), (0, _), (1, _), (3, _), (4, _)] rfl ?_
                  refine x_iload C dX6_attackersOf_104 rfl ?_
                  refine x_iconst C (v := nI 2) dX6_attackersOf_106 (by decide +kernel) ?_
                  refine x_icmp_eqN C 138 dX6_attackersOf_107 (by decide) (by first | omega) (by first | omega) (fun c107 => ?_) (fun c107 => ?_)
                  · refine x_iconst C (v := nI 1) dX6_attackersOf_138 (by decide +kernel) ?_
                    refine x_goto C 143 dX6_attackersOf_139 (by decide) ?_
                    refine x_istore C dX6_attackersOf_143 (by decide) [(8, _), (7, _), (6, _), (2, _), (5, _), (0, _), (1, _), (3, _), (4, _)] rfl ?_
                    refine x_iload_n C dX6_attackersOf_145 rfl ?_
                    refine x_iload C dX6_attackersOf_146 rfl ?_
                    refine x_if_eqN C 155 dX6_attackersOf_148 (by decide) (by omega) (fun c148 => ?_) (fun c148 => ?_)
                    · exact absurd c148 (by decide)
                    · refine x_iconst C (v := nI 1) dX6_attackersOf_151 (by decide +kernel) ?_
                      refine x_goto C 156 dX6_attackersOf_152 (by decide) ?_
                      refine x_iaddN C dX6_attackersOf_156 ?_
                      refine x_istore_n C dX6_attackersOf_157 (by decide) [(2, _), (8, _), (7, _), (6, _), (5, _), (0, _), (1, _), (3, _), (4, _)] rfl ?_
                      have hm : mmS s i (5 * u + v) = true := by
                        rw [hmm]
                        unfold metM
                        rw [if_pos (by omega)]
                        exact decide_eq_true (Or.inl c107)
                      have e1 : cnt (mmS s i) (5 * u + v) + 0 + 1 = cnt (mmS s i) (5 * u + v + 1) := by simp [cnt, hm]
                      rw [e1]
                      refine x_iinc C _ dX6_attackersOf_158 rfl (q5_s hv) (by decide) [(4, _), (2, _), (8, _), (7, _), (6, _), (5, _), (0, _), (1, _), (3, _)] rfl ?_
                      refine x_goto C 14 dX6_attackersOf_161 (by decide) ?_
                      exact x_sub [6, 7, 1, 8, 0] (ih (v + 1) (by omega)) rfl
                  · refine x_iload C dX6_attackersOf_110 rfl ?_
                    refine x_iload C dX6_attackersOf_112 rfl ?_
                    refine x_iconst C (v := nI 1) dX6_attackersOf_114 (by decide +kernel) ?_
                    refine x_icmp_neN C 122 dX6_attackersOf_115 (by decide) (by omega) (by omega) (fun c115 => ?_) (fun c115 => ?_)
                    · refine x_iconst C (v := nI 4) dX6_attackersOf_122 (by decide +kernel) ?_
                      refine x_icmp_eqN C 138 dX6_attackersOf_123 (by decide) (by omega) (by omega) (fun c123 => ?_) (fun c123 => ?_)
                      · refine x_iconst C (v := nI 1) dX6_attackersOf_138 (by decide +kernel) ?_
                        refine x_goto C 143 dX6_attackersOf_139 (by decide) ?_
                        refine x_istore C dX6_attackersOf_143 (by decide) [(8, _), (7, _), (6, _), (2, _), (5, _), (0, _), (1, _), (3, _), (4, _)] rfl ?_
                        refine x_iload_n C dX6_attackersOf_145 rfl ?_
                        refine x_iload C dX6_attackersOf_146 rfl ?_
                        refine x_if_eqN C 155 dX6_attackersOf_148 (by decide) (by omega) (fun c148 => ?_) (fun c148 => ?_)
                        · exact absurd c148 (by decide)
                        · refine x_iconst C (v := nI 1) dX6_attackersOf_151 (by decide +kernel) ?_
                          refine x_goto C 156 dX6_attackersOf_152 (by decide) ?_
                          refine x_iaddN C dX6_attackersOf_156 ?_
                          refine x_istore_n C dX6_attackersOf_157 (by decide) [(2, _), (8, _), (7, _), (6, _), (5, _), (0, _), (1, _), (3, _), (4, _)] rfl ?_
                          have hm : mmS s i (5 * u + v) = true := by
                            rw [hmm]
                            unfold metM
                            rw [if_pos (by omega)]
                            exact decide_eq_true (Or.inr (Or.inl (by rw [if_neg (show ¬ dirO u v < 4 by omega)]; exact c123)))
                          have e1 : cnt (mmS s i) (5 * u + v) + 0 + 1 = cnt (mmS s i) (5 * u + v + 1) := by simp [cnt, hm]
                          rw [e1]
                          refine x_iinc C _ dX6_attackersOf_158 rfl (q5_s hv) (by decide) [(4, _), (2, _), (8, _), (7, _), (6, _), (5, _), (0, _), (1, _), (3, _)] rfl ?_
                          refine x_goto C 14 dX6_attackersOf_161 (by decide) ?_
                          exact x_sub [6, 7, 1, 8, 0] (ih (v + 1) (by omega)) rfl
                      · refine x_iload C dX6_attackersOf_126 rfl ?_
                        refine x_iconst C (v := nI 1) dX6_attackersOf_128 (by decide +kernel) ?_
                        refine x_icmp_neN C 142 dX6_attackersOf_129 (by decide) (by omega) (by omega) (fun c129 => ?_) (fun c129 => ?_)
                        · refine x_iconst C (v := nI 0) dX6_attackersOf_142 (by decide +kernel) ?_
                          refine x_istore C dX6_attackersOf_143 (by decide) [(8, _), (7, _), (6, _), (2, _), (5, _), (0, _), (1, _), (3, _), (4, _)] rfl ?_
                          refine x_iload_n C dX6_attackersOf_145 rfl ?_
                          refine x_iload C dX6_attackersOf_146 rfl ?_
                          refine x_if_eqN C 155 dX6_attackersOf_148 (by decide) (by omega) (fun c148 => ?_) (fun c148 => ?_)
                          · refine x_iconst C (v := nI 0) dX6_attackersOf_155 (by decide +kernel) ?_
                            refine x_iaddN C dX6_attackersOf_156 ?_
                            refine x_istore_n C dX6_attackersOf_157 (by decide) [(2, _), (8, _), (7, _), (6, _), (5, _), (0, _), (1, _), (3, _), (4, _)] rfl ?_
                            have hm : mmS s i (5 * u + v) = false := by
                              rw [hmm]
                              unfold metM
                              rw [if_pos (by omega)]
                              exact decide_eq_false (fun z => z.elim c107 (fun z => z.elim (fun z => c123 (by rw [if_neg (show ¬ dirO u v < 4 by omega)] at z; exact z)) (fun z => c129 z.1)))
                            have e1 : cnt (mmS s i) (5 * u + v) + 0 + 0 = cnt (mmS s i) (5 * u + v + 1) := by simp [cnt, hm]
                            rw [e1]
                            refine x_iinc C _ dX6_attackersOf_158 rfl (q5_s hv) (by decide) [(4, _), (2, _), (8, _), (7, _), (6, _), (5, _), (0, _), (1, _), (3, _)] rfl ?_
                            refine x_goto C 14 dX6_attackersOf_161 (by decide) ?_
                            exact x_sub [6, 7, 1, 8, 0] (ih (v + 1) (by omega)) rfl
                          · exact absurd rfl c148
                        · refine x_iload C dX6_attackersOf_132 rfl ?_
                          refine x_iconst C (v := nI 1) dX6_attackersOf_134 (by decide +kernel) ?_
                          refine x_icmp_neN C 142 dX6_attackersOf_135 (by decide) (by omega) (by omega) (fun c135 => ?_) (fun c135 => ?_)
                          · refine x_iconst C (v := nI 0) dX6_attackersOf_142 (by decide +kernel) ?_
                            refine x_istore C dX6_attackersOf_143 (by decide) [(8, _), (7, _), (6, _), (2, _), (5, _), (0, _), (1, _), (3, _), (4, _)] rfl ?_
                            refine x_iload_n C dX6_attackersOf_145 rfl ?_
                            refine x_iload C dX6_attackersOf_146 rfl ?_
                            refine x_if_eqN C 155 dX6_attackersOf_148 (by decide) (by omega) (fun c148 => ?_) (fun c148 => ?_)
                            · refine x_iconst C (v := nI 0) dX6_attackersOf_155 (by decide +kernel) ?_
                              refine x_iaddN C dX6_attackersOf_156 ?_
                              refine x_istore_n C dX6_attackersOf_157 (by decide) [(2, _), (8, _), (7, _), (6, _), (5, _), (0, _), (1, _), (3, _), (4, _)] rfl ?_
                              have hm : mmS s i (5 * u + v) = false := by
                                rw [hmm]
                                unfold metM
                                rw [if_pos (by omega)]
                                exact decide_eq_false (fun z => z.elim c107 (fun z => z.elim (fun z => c123 (by rw [if_neg (show ¬ dirO u v < 4 by omega)] at z; exact z)) (fun z => c135 z.2)))
                              have e1 : cnt (mmS s i) (5 * u + v) + 0 + 0 = cnt (mmS s i) (5 * u + v + 1) := by simp [cnt, hm]
                              rw [e1]
                              refine x_iinc C _ dX6_attackersOf_158 rfl (q5_s hv) (by decide) [(4, _), (2, _), (8, _), (7, _), (6, _), (5, _), (0, _), (1, _), (3, _)] rfl ?_
                              refine x_goto C 14 dX6_attackersOf_161 (by decide) ?_
                              exact x_sub [6, 7, 1, 8, 0] (ih (v + 1) (by omega)) rfl
                            · exact absurd rfl c148
                          · refine x_iconst C (v := nI 1) dX6_attackersOf_138 (by decide +kernel) ?_
                            refine x_goto C 143 dX6_attackersOf_139 (by decide) ?_
                            refine x_istore C dX6_attackersOf_143 (by decide) [(8, _), (7, _), (6, _), (2, _), (5, _), (0, _), (1, _), (3, _), (4, _)] rfl ?_
                            refine x_iload_n C dX6_attackersOf_145 rfl ?_
                            refine x_iload C dX6_attackersOf_146 rfl ?_
                            refine x_if_eqN C 155 dX6_attackersOf_148 (by decide) (by omega) (fun c148 => ?_) (fun c148 => ?_)
                            · exact absurd c148 (by decide)
                            · refine x_iconst C (v := nI 1) dX6_attackersOf_151 (by decide +kernel) ?_
                              refine x_goto C 156 dX6_attackersOf_152 (by decide) ?_
                              refine x_iaddN C dX6_attackersOf_156 ?_
                              refine x_istore_n C dX6_attackersOf_157 (by decide) [(2, _), (8, _), (7, _), (6, _), (5, _), (0, _), (1, _), (3, _), (4, _)] rfl ?_
                              have hm : mmS s i (5 * u + v) = true := by
                                rw [hmm]
                                unfold metM
                                rw [if_pos (by omega)]
                                exact decide_eq_true (Or.inr (Or.inr ⟨c129, c135⟩))
                              have e1 : cnt (mmS s i) (5 * u + v) + 0 + 1 = cnt (mmS s i) (5 * u + v + 1) := by simp [cnt, hm]
                              rw [e1]
                              refine x_iinc C _ dX6_attackersOf_158 rfl (q5_s hv) (by decide) [(4, _), (2, _), (8, _), (7, _), (6, _), (5, _), (0, _), (1, _), (3, _)] rfl ?_
                              refine x_goto C 14 dX6_attackersOf_161 (by decide) ?_
                              exact x_sub [6, 7, 1, 8, 0] (ih (v + 1) (by omega)) rfl
                    · refine x_iconst C (v := nI 3) dX6_attackersOf_118 (by decide +kernel) ?_
                      refine x_goto C 123 dX6_attackersOf_119 (by decide) ?_
                      refine x_icmp_eqN C 138 dX6_attackersOf_123 (by decide) (by omega) (by omega) (fun c123 => ?_) (fun c123 => ?_)
                      · refine x_iconst C (v := nI 1) dX6_attackersOf_138 (by decide +kernel) ?_
                        refine x_goto C 143 dX6_attackersOf_139 (by decide) ?_
                        refine x_istore C dX6_attackersOf_143 (by decide) [(8, _), (7, _), (6, _), (2, _), (5, _), (0, _), (1, _), (3, _), (4, _)] rfl ?_
                        refine x_iload_n C dX6_attackersOf_145 rfl ?_
                        refine x_iload C dX6_attackersOf_146 rfl ?_
                        refine x_if_eqN C 155 dX6_attackersOf_148 (by decide) (by omega) (fun c148 => ?_) (fun c148 => ?_)
                        · exact absurd c148 (by decide)
                        · refine x_iconst C (v := nI 1) dX6_attackersOf_151 (by decide +kernel) ?_
                          refine x_goto C 156 dX6_attackersOf_152 (by decide) ?_
                          refine x_iaddN C dX6_attackersOf_156 ?_
                          refine x_istore_n C dX6_attackersOf_157 (by decide) [(2, _), (8, _), (7, _), (6, _), (5, _), (0, _), (1, _), (3, _), (4, _)] rfl ?_
                          have hm : mmS s i (5 * u + v) = true := by
                            rw [hmm]
                            unfold metM
                            rw [if_pos (by omega)]
                            exact decide_eq_true (Or.inr (Or.inl (by rw [if_pos (show dirO u v < 4 by omega)]; exact c123)))
                          have e1 : cnt (mmS s i) (5 * u + v) + 0 + 1 = cnt (mmS s i) (5 * u + v + 1) := by simp [cnt, hm]
                          rw [e1]
                          refine x_iinc C _ dX6_attackersOf_158 rfl (q5_s hv) (by decide) [(4, _), (2, _), (8, _), (7, _), (6, _), (5, _), (0, _), (1, _), (3, _)] rfl ?_
                          refine x_goto C 14 dX6_attackersOf_161 (by decide) ?_
                          exact x_sub [6, 7, 1, 8, 0] (ih (v + 1) (by omega)) rfl
                      · refine x_iload C dX6_attackersOf_126 rfl ?_
                        refine x_iconst C (v := nI 1) dX6_attackersOf_128 (by decide +kernel) ?_
                        refine x_icmp_neN C 142 dX6_attackersOf_129 (by decide) (by omega) (by omega) (fun c129 => ?_) (fun c129 => ?_)
                        · refine x_iconst C (v := nI 0) dX6_attackersOf_142 (by decide +kernel) ?_
                          refine x_istore C dX6_attackersOf_143 (by decide) [(8, _), (7, _), (6, _), (2, _), (5, _), (0, _), (1, _), (3, _), (4, _)] rfl ?_
                          refine x_iload_n C dX6_attackersOf_145 rfl ?_
                          refine x_iload C dX6_attackersOf_146 rfl ?_
                          refine x_if_eqN C 155 dX6_attackersOf_148 (by decide) (by omega) (fun c148 => ?_) (fun c148 => ?_)
                          · refine x_iconst C (v := nI 0) dX6_attackersOf_155 (by decide +kernel) ?_
                            refine x_iaddN C dX6_attackersOf_156 ?_
                            refine x_istore_n C dX6_attackersOf_157 (by decide) [(2, _), (8, _), (7, _), (6, _), (5, _), (0, _), (1, _), (3, _), (4, _)] rfl ?_
                            have hm : mmS s i (5 * u + v) = false := by
                              rw [hmm]
                              unfold metM
                              rw [if_pos (by omega)]
                              exact decide_eq_false (fun z => z.elim c107 (fun z => z.elim (fun z => c123 (by rw [if_pos (show dirO u v < 4 by omega)] at z; exact z)) (fun z => c129 z.1)))
                            have e1 : cnt (mmS s i) (5 * u + v) + 0 + 0 = cnt (mmS s i) (5 * u + v + 1) := by simp [cnt, hm]
                            rw [e1]
                            refine x_iinc C _ dX6_attackersOf_158 rfl (q5_s hv) (by decide) [(4, _), (2, _), (8, _), (7, _), (6, _), (5, _), (0, _), (1, _), (3, _)] rfl ?_
                            refine x_goto C 14 dX6_attackersOf_161 (by decide) ?_
                            exact x_sub [6, 7, 1, 8, 0] (ih (v + 1) (by omega)) rfl
                          · exact absurd rfl c148
                        · refine x_iload C dX6_attackersOf_132 rfl ?_
                          refine x_iconst C (v := nI 1) dX6_attackersOf_134 (by decide +kernel) ?_
                          refine x_icmp_neN C 142 dX6_attackersOf_135 (by decide) (by omega) (by omega) (fun c135 => ?_) (fun c135 => ?_)
                          · refine x_iconst C (v := nI 0) dX6_attackersOf_142 (by decide +kernel) ?_
                            refine x_istore C dX6_attackersOf_143 (by decide) [(8, _), (7, _), (6, _), (2, _), (5, _), (0, _), (1, _), (3, _), (4, _)] rfl ?_
                            refine x_iload_n C dX6_attackersOf_145 rfl ?_
                            refine x_iload C dX6_attackersOf_146 rfl ?_
                            refine x_if_eqN C 155 dX6_attackersOf_148 (by decide) (by omega) (fun c148 => ?_) (fun c148 => ?_)
                            · refine x_iconst C (v := nI 0) dX6_attackersOf_155 (by decide +kernel) ?_
                              refine x_iaddN C dX6_attackersOf_156 ?_
                              refine x_istore_n C dX6_attackersOf_157 (by decide) [(2, _), (8, _), (7, _), (6, _), (5, _), (0, _), (1, _), (3, _), (4, _)] rfl ?_
                              have hm : mmS s i (5 * u + v) = false := by
                                rw [hmm]
                                unfold metM
                                rw [if_pos (by omega)]
                                exact decide_eq_false (fun z => z.elim c107 (fun z => z.elim (fun z => c123 (by rw [if_pos (show dirO u v < 4 by omega)] at z; exact z)) (fun z => c135 z.2)))
                              have e1 : cnt (mmS s i) (5 * u + v) + 0 + 0 = cnt (mmS s i) (5 * u + v + 1) := by simp [cnt, hm]
                              rw [e1]
                              refine x_iinc C _ dX6_attackersOf_158 rfl (q5_s hv) (by decide) [(4, _), (2, _), (8, _), (7, _), (6, _), (5, _), (0, _), (1, _), (3, _)] rfl ?_
                              refine x_goto C 14 dX6_attackersOf_161 (by decide) ?_
                              exact x_sub [6, 7, 1, 8, 0] (ih (v + 1) (by omega)) rfl
                            · exact absurd rfl c148
                          · refine x_iconst C (v := nI 1) dX6_attackersOf_138 (by decide +kernel) ?_
                            refine x_goto C 143 dX6_attackersOf_139 (by decide) ?_
                            refine x_istore C dX6_attackersOf_143 (by decide) [(8, _), (7, _), (6, _), (2, _), (5, _), (0, _), (1, _), (3, _), (4, _)] rfl ?_
                            refine x_iload_n C dX6_attackersOf_145 rfl ?_
                            refine x_iload C dX6_attackersOf_146 rfl ?_
                            refine x_if_eqN C 155 dX6_attackersOf_148 (by decide) (by omega) (fun c148 => ?_) (fun c148 => ?_)
                            · exact absurd c148 (by decide)
                            · refine x_iconst C (v := nI 1) dX6_attackersOf_151 (by decide +kernel) ?_
                              refine x_goto C 156 dX6_attackersOf_152 (by decide) ?_
                              refine x_iaddN C dX6_attackersOf_156 ?_
                              refine x_istore_n C dX6_attackersOf_157 (by decide) [(2, _), (8, _), (7, _), (6, _), (5, _), (0, _), (1, _), (3, _), (4, _)] rfl ?_
                              have hm : mmS s i (5 * u + v) = true := by
                                rw [hmm]
                                unfold metM
                                rw [if_pos (by omega)]
                                exact decide_eq_true (Or.inr (Or.inr ⟨c129, c135⟩))
                              have e1 : cnt (mmS s i) (5 * u + v) + 0 + 1 = cnt (mmS s i) (5 * u + v + 1) := by simp [cnt, hm]
                              rw [e1]
                              refine x_iinc C _ dX6_attackersOf_158 rfl (q5_s hv) (by decide) [(4, _), (2, _), (8, _), (7, _), (6, _), (5, _), (0, _), (1, _), (3, _)] rfl ?_
                              refine x_goto C 14 dX6_attackersOf_161 (by decide) ?_
                              exact x_sub [6, 7, 1, 8, 0] (ih (v + 1) (by omega)) rfl
                · refine x_iconst C (v := nI 0) dX6_attackersOf_84 (by decide +kernel) ?_
                  refine x_goto C 102 dX6_attackersOf_85 (by decide) ?_
                  refine x_top (show nI 0 = nI (fsK s i (dirO u v)) by unfold fsK; rw [if_pos c81]) ?_
                  refine x_istore C dX6_attackersOf_102 (by decide) [(7, _), (6, _), (2, _), (5, _), (0, _), (1, _), (3, _), (4, _)] rfl ?_
                  refine x_iload C dX6_attackersOf_104 rfl ?_
                  refine x_iconst C (v := nI 2) dX6_attackersOf_106 (by decide +kernel) ?_
                  refine x_icmp_eqN C 138 dX6_attackersOf_107 (by decide) (by first | omega) (by first | omega) (fun c107 => ?_) (fun c107 => ?_)
                  · refine x_iconst C (v := nI 1) dX6_attackersOf_138 (by decide +kernel) ?_
                    refine x_goto C 143 dX6_attackersOf_139 (by decide) ?_
                    refine x_istore C dX6_attackersOf_143 (by decide) [(8, _), (7, _), (6, _), (2, _), (5, _), (0, _), (1, _), (3, _), (4, _)] rfl ?_
                    refine x_iload_n C dX6_attackersOf_145 rfl ?_
                    refine x_iload C dX6_attackersOf_146 rfl ?_
                    refine x_if_eqN C 155 dX6_attackersOf_148 (by decide) (by omega) (fun c148 => ?_) (fun c148 => ?_)
                    · exact absurd c148 (by decide)
                    · refine x_iconst C (v := nI 1) dX6_attackersOf_151 (by decide +kernel) ?_
                      refine x_goto C 156 dX6_attackersOf_152 (by decide) ?_
                      refine x_iaddN C dX6_attackersOf_156 ?_
                      refine x_istore_n C dX6_attackersOf_157 (by decide) [(2, _), (8, _), (7, _), (6, _), (5, _), (0, _), (1, _), (3, _), (4, _)] rfl ?_
                      have hm : mmS s i (5 * u + v) = true := by
                        rw [hmm]
                        unfold metM
                        rw [if_pos (by omega)]
                        exact decide_eq_true (Or.inl c107)
                      have e1 : cnt (mmS s i) (5 * u + v) + 0 + 1 = cnt (mmS s i) (5 * u + v + 1) := by simp [cnt, hm]
                      rw [e1]
                      refine x_iinc C _ dX6_attackersOf_158 rfl (q5_s hv) (by decide) [(4, _), (2, _), (8, _), (7, _), (6, _), (5, _), (0, _), (1, _), (3, _)] rfl ?_
                      refine x_goto C 14 dX6_attackersOf_161 (by decide) ?_
                      exact x_sub [6, 7, 1, 8, 0] (ih (v + 1) (by omega)) rfl
                  · refine x_iload C dX6_attackersOf_110 rfl ?_
                    refine x_iload C dX6_attackersOf_112 rfl ?_
                    refine x_iconst C (v := nI 1) dX6_attackersOf_114 (by decide +kernel) ?_
                    refine x_icmp_neN C 122 dX6_attackersOf_115 (by decide) (by omega) (by omega) (fun c115 => ?_) (fun c115 => ?_)
                    · refine x_iconst C (v := nI 4) dX6_attackersOf_122 (by decide +kernel) ?_
                      refine x_icmp_eqN C 138 dX6_attackersOf_123 (by decide) (by omega) (by omega) (fun c123 => ?_) (fun c123 => ?_)
                      · refine x_iconst C (v := nI 1) dX6_attackersOf_138 (by decide +kernel) ?_
                        refine x_goto C 143 dX6_attackersOf_139 (by decide) ?_
                        refine x_istore C dX6_attackersOf_143 (by decide) [(8, _), (7, _), (6, _), (2, _), (5, _), (0, _), (1, _), (3, _), (4, _)] rfl ?_
                        refine x_iload_n C dX6_attackersOf_145 rfl ?_
                        refine x_iload C dX6_attackersOf_146 rfl ?_
                        refine x_if_eqN C 155 dX6_attackersOf_148 (by decide) (by omega) (fun c148 => ?_) (fun c148 => ?_)
                        · exact absurd c148 (by decide)
                        · refine x_iconst C (v := nI 1) dX6_attackersOf_151 (by decide +kernel) ?_
                          refine x_goto C 156 dX6_attackersOf_152 (by decide) ?_
                          refine x_iaddN C dX6_attackersOf_156 ?_
                          refine x_istore_n C dX6_attackersOf_157 (by decide) [(2, _), (8, _), (7, _), (6, _), (5, _), (0, _), (1, _), (3, _), (4, _)] rfl ?_
                          have hm : mmS s i (5 * u + v) = true := by
                            rw [hmm]
                            unfold metM
                            rw [if_pos (by omega)]
                            exact decide_eq_true (Or.inr (Or.inl (by rw [if_neg (show ¬ dirO u v < 4 by omega)]; exact c123)))
                          have e1 : cnt (mmS s i) (5 * u + v) + 0 + 1 = cnt (mmS s i) (5 * u + v + 1) := by simp [cnt, hm]
                          rw [e1]
                          refine x_iinc C _ dX6_attackersOf_158 rfl (q5_s hv) (by decide) [(4, _), (2, _), (8, _), (7, _), (6, _), (5, _), (0, _), (1, _), (3, _)] rfl ?_
                          refine x_goto C 14 dX6_attackersOf_161 (by decide) ?_
                          exact x_sub [6, 7, 1, 8, 0] (ih (v + 1) (by omega)) rfl
                      · refine x_iload C dX6_attackersOf_126 rfl ?_
                        refine x_iconst C (v := nI 1) dX6_attackersOf_128 (by decide +kernel) ?_
                        refine x_icmp_neN C 142 dX6_attackersOf_129 (by decide) (by omega) (by omega) (fun c129 => ?_) (fun c129 => ?_)
                        · refine x_iconst C (v := nI 0) dX6_attackersOf_142 (by decide +kernel) ?_
                          refine x_istore C dX6_attackersOf_143 (by decide) [(8, _), (7, _), (6, _), (2, _), (5, _), (0, _), (1, _), (3, _), (4, _)] rfl ?_
                          refine x_iload_n C dX6_attackersOf_145 rfl ?_
                          refine x_iload C dX6_attackersOf_146 rfl ?_
                          refine x_if_eqN C 155 dX6_attackersOf_148 (by decide) (by omega) (fun c148 => ?_) (fun c148 => ?_)
                          · refine x_iconst C (v := nI 0) dX6_attackersOf_155 (by decide +kernel) ?_
                            refine x_iaddN C dX6_attackersOf_156 ?_
                            refine x_istore_n C dX6_attackersOf_157 (by decide) [(2, _), (8, _), (7, _), (6, _), (5, _), (0, _), (1, _), (3, _), (4, _)] rfl ?_
                            have hm : mmS s i (5 * u + v) = false := by
                              rw [hmm]
                              unfold metM
                              rw [if_pos (by omega)]
                              exact decide_eq_false (fun z => z.elim c107 (fun z => z.elim (fun z => c123 (by rw [if_neg (show ¬ dirO u v < 4 by omega)] at z; exact z)) (fun z => c129 z.1)))
                            have e1 : cnt (mmS s i) (5 * u + v) + 0 + 0 = cnt (mmS s i) (5 * u + v + 1) := by simp [cnt, hm]
                            rw [e1]
                            refine x_iinc C _ dX6_attackersOf_158 rfl (q5_s hv) (by decide) [(4, _), (2, _), (8, _), (7, _), (6, _), (5, _), (0, _), (1, _), (3, _)] rfl ?_
                            refine x_goto C 14 dX6_attackersOf_161 (by decide) ?_
                            exact x_sub [6, 7, 1, 8, 0] (ih (v + 1) (by omega)) rfl
                          · exact absurd rfl c148
                        · refine x_iload C dX6_attackersOf_132 rfl ?_
                          refine x_iconst C (v := nI 1) dX6_attackersOf_134 (by decide +kernel) ?_
                          refine x_icmp_neN C 142 dX6_attackersOf_135 (by decide) (by omega) (by omega) (fun c135 => ?_) (fun c135 => ?_)
                          · refine x_iconst C (v := nI 0) dX6_attackersOf_142 (by decide +kernel) ?_
                            refine x_istore C dX6_attackersOf_143 (by decide) [(8, _), (7, _), (6, _), (2, _), (5, _), (0, _), (1, _), (3, _), (4, _)] rfl ?_
                            refine x_iload_n C dX6_attackersOf_145 rfl ?_
                            refine x_iload C dX6_attackersOf_146 rfl ?_
                            refine x_if_eqN C 155 dX6_attackersOf_148 (by decide) (by omega) (fun c148 => ?_) (fun c148 => ?_)
                            · refine x_iconst C (v := nI 0) dX6_attackersOf_155 (by decide +kernel) ?_
                              refine x_iaddN C dX6_attackersOf_156 ?_
                              refine x_istore_n C dX6_attackersOf_157 (by decide) [(2, _), (8, _), (7, _), (6, _), (5, _), (0, _), (1, _), (3, _), (4, _)] rfl ?_
                              have hm : mmS s i (5 * u + v) = false := by
                                rw [hmm]
                                unfold metM
                                rw [if_pos (by omega)]
                                exact decide_eq_false (fun z => z.elim c107 (fun z => z.elim (fun z => c123 (by rw [if_neg (show ¬ dirO u v < 4 by omega)] at z; exact z)) (fun z => c135 z.2)))
                              have e1 : cnt (mmS s i) (5 * u + v) + 0 + 0 = cnt (mmS s i) (5 * u + v + 1) := by simp [cnt, hm]
                              rw [e1]
                              refine x_iinc C _ dX6_attackersOf_158 rfl (q5_s hv) (by decide) [(4, _), (2, _), (8, _), (7, _), (6, _), (5, _), (0, _), (1, _), (3, _)] rfl ?_
                              refine x_goto C 14 dX6_attackersOf_161 (by decide) ?_
                              exact x_sub [6, 7, 1, 8, 0] (ih (v + 1) (by omega)) rfl
                            · exact absurd rfl c148
                          · refine x_iconst C (v := nI 1) dX6_attackersOf_138 (by decide +kernel) ?_
                            refine x_goto C 143 dX6_attackersOf_139 (by decide) ?_
                            refine x_istore C dX6_attackersOf_143 (by decide) [(8, _), (7, _), (6, _), (2, _), (5, _), (0, _), (1, _), (3, _), (4, _)] rfl ?_
                            refine x_iload_n C dX6_attackersOf_145 rfl ?_
                            refine x_iload C dX6_attackersOf_146 rfl ?_
                            refine x_if_eqN C 155 dX6_attackersOf_148 (by decide) (by omega) (fun c148 => ?_) (fun c148 => ?_)
                            · exact absurd c148 (by decide)
                            · refine x_iconst C (v := nI 1) dX6_attackersOf_151 (by decide +kernel) ?_
                              refine x_goto C 156 dX6_attackersOf_152 (by decide) ?_
                              refine x_iaddN C dX6_attackersOf_156 ?_
                              refine x_istore_n C dX6_attackersOf_157 (by decide) [(2, _), (8, _), (7, _), (6, _), (5, _), (0, _), (1, _), (3, _), (4, _)] rfl ?_
                              have hm : mmS s i (5 * u + v) = true := by
                                rw [hmm]
                                unfold metM
                                rw [if_pos (by omega)]
                                exact decide_eq_true (Or.inr (Or.inr ⟨c129, c135⟩))
                              have e1 : cnt (mmS s i) (5 * u + v) + 0 + 1 = cnt (mmS s i) (5 * u + v + 1) := by simp [cnt, hm]
                              rw [e1]
                              refine x_iinc C _ dX6_attackersOf_158 rfl (q5_s hv) (by decide) [(4, _), (2, _), (8, _), (7, _), (6, _), (5, _), (0, _), (1, _), (3, _)] rfl ?_
                              refine x_goto C 14 dX6_attackersOf_161 (by decide) ?_
                              exact x_sub [6, 7, 1, 8, 0] (ih (v + 1) (by omega)) rfl
                    · refine x_iconst C (v := nI 3) dX6_attackersOf_118 (by decide +kernel) ?_
                      refine x_goto C 123 dX6_attackersOf_119 (by decide) ?_
                      refine x_icmp_eqN C 138 dX6_attackersOf_123 (by decide) (by omega) (by omega) (fun c123 => ?_) (fun c123 => ?_)
                      · refine x_iconst C (v := nI 1) dX6_attackersOf_138 (by decide +kernel) ?_
                        refine x_goto C 143 dX6_attackersOf_139 (by decide) ?_
                        refine x_istore C dX6_attackersOf_143 (by decide) [(8, _), (7, _), (6, _), (2, _), (5, _), (0, _), (1, _), (3, _), (4, _)] rfl ?_
                        refine x_iload_n C dX6_attackersOf_145 rfl ?_
                        refine x_iload C dX6_attackersOf_146 rfl ?_
                        refine x_if_eqN C 155 dX6_attackersOf_148 (by decide) (by omega) (fun c148 => ?_) (fun c148 => ?_)
                        · exact absurd c148 (by decide)
                        · refine x_iconst C (v := nI 1) dX6_attackersOf_151 (by decide +kernel) ?_
                          refine x_goto C 156 dX6_attackersOf_152 (by decide) ?_
                          refine x_iaddN C dX6_attackersOf_156 ?_
                          refine x_istore_n C dX6_attackersOf_157 (by decide) [(2, _), (8, _), (7, _), (6, _), (5, _), (0, _), (1, _), (3, _), (4, _)] rfl ?_
                          have hm : mmS s i (5 * u + v) = true := by
                            rw [hmm]
                            unfold metM
                            rw [if_pos (by omega)]
                            exact decide_eq_true (Or.inr (Or.inl (by rw [if_pos (show dirO u v < 4 by omega)]; exact c123)))
                          have e1 : cnt (mmS s i) (5 * u + v) + 0 + 1 = cnt (mmS s i) (5 * u + v + 1) := by simp [cnt, hm]
                          rw [e1]
                          refine x_iinc C _ dX6_attackersOf_158 rfl (q5_s hv) (by decide) [(4, _), (2, _), (8, _), (7, _), (6, _), (5, _), (0, _), (1, _), (3, _)] rfl ?_
                          refine x_goto C 14 dX6_attackersOf_161 (by decide) ?_
                          exact x_sub [6, 7, 1, 8, 0] (ih (v + 1) (by omega)) rfl
                      · refine x_iload C dX6_attackersOf_126 rfl ?_
                        refine x_iconst C (v := nI 1) dX6_attackersOf_128 (by decide +kernel) ?_
                        refine x_icmp_neN C 142 dX6_attackersOf_129 (by decide) (by omega) (by omega) (fun c129 => ?_) (fun c129 => ?_)
                        · refine x_iconst C (v := nI 0) dX6_attackersOf_142 (by decide +kernel) ?_
                          refine x_istore C dX6_attackersOf_143 (by decide) [(8, _), (7, _), (6, _), (2, _), (5, _), (0, _), (1, _), (3, _), (4, _)] rfl ?_
                          refine x_iload_n C dX6_attackersOf_145 rfl ?_
                          refine x_iload C dX6_attackersOf_146 rfl ?_
                          refine x_if_eqN C 155 dX6_attackersOf_148 (by decide) (by omega) (fun c148 => ?_) (fun c148 => ?_)
                          · refine x_iconst C (v := nI 0) dX6_attackersOf_155 (by decide +kernel) ?_
                            refine x_iaddN C dX6_attackersOf_156 ?_
                            refine x_istore_n C dX6_attackersOf_157 (by decide) [(2, _), (8, _), (7, _), (6, _), (5, _), (0, _), (1, _), (3, _), (4, _)] rfl ?_
                            have hm : mmS s i (5 * u + v) = false := by
                              rw [hmm]
                              unfold metM
                              rw [if_pos (by omega)]
                              exact decide_eq_false (fun z => z.elim c107 (fun z => z.elim (fun z => c123 (by rw [if_pos (show dirO u v < 4 by omega)] at z; exact z)) (fun z => c129 z.1)))
                            have e1 : cnt (mmS s i) (5 * u + v) + 0 + 0 = cnt (mmS s i) (5 * u + v + 1) := by simp [cnt, hm]
                            rw [e1]
                            refine x_iinc C _ dX6_attackersOf_158 rfl (q5_s hv) (by decide) [(4, _), (2, _), (8, _), (7, _), (6, _), (5, _), (0, _), (1, _), (3, _)] rfl ?_
                            refine x_goto C 14 dX6_attackersOf_161 (by decide) ?_
                            exact x_sub [6, 7, 1, 8, 0] (ih (v + 1) (by omega)) rfl
                          · exact absurd rfl c148
                        · refine x_iload C dX6_attackersOf_132 rfl ?_
                          refine x_iconst C (v := nI 1) dX6_attackersOf_134 (by decide +kernel) ?_
                          refine x_icmp_neN C 142 dX6_attackersOf_135 (by decide) (by omega) (by omega) (fun c135 => ?_) (fun c135 => ?_)
                          · refine x_iconst C (v := nI 0) dX6_attackersOf_142 (by decide +kernel) ?_
                            refine x_istore C dX6_attackersOf_143 (by decide) [(8, _), (7, _), (6, _), (2, _), (5, _), (0, _), (1, _), (3, _), (4, _)] rfl ?_
                            refine x_iload_n C dX6_attackersOf_145 rfl ?_
                            refine x_iload C dX6_attackersOf_146 rfl ?_
                            refine x_if_eqN C 155 dX6_attackersOf_148 (by decide) (by omega) (fun c148 => ?_) (fun c148 => ?_)
                            · refine x_iconst C (v := nI 0) dX6_attackersOf_155 (by decide +kernel) ?_
                              refine x_iaddN C dX6_attackersOf_156 ?_
                              refine x_istore_n C dX6_attackersOf_157 (by decide) [(2, _), (8, _), (7, _), (6, _), (5, _), (0, _), (1, _), (3, _), (4, _)] rfl ?_
                              have hm : mmS s i (5 * u + v) = false := by
                                rw [hmm]
                                unfold metM
                                rw [if_pos (by omega)]
                                exact decide_eq_false (fun z => z.elim c107 (fun z => z.elim (fun z => c123 (by rw [if_pos (show dirO u v < 4 by omega)] at z; exact z)) (fun z => c135 z.2)))
                              have e1 : cnt (mmS s i) (5 * u + v) + 0 + 0 = cnt (mmS s i) (5 * u + v + 1) := by simp [cnt, hm]
                              rw [e1]
                              refine x_iinc C _ dX6_attackersOf_158 rfl (q5_s hv) (by decide) [(4, _), (2, _), (8, _), (7, _), (6, _), (5, _), (0, _), (1, _), (3, _)] rfl ?_
                              refine x_goto C 14 dX6_attackersOf_161 (by decide) ?_
                              exact x_sub [6, 7, 1, 8, 0] (ih (v + 1) (by omega)) rfl
                            · exact absurd rfl c148
                          · refine x_iconst C (v := nI 1) dX6_attackersOf_138 (by decide +kernel) ?_
                            refine x_goto C 143 dX6_attackersOf_139 (by decide) ?_
                            refine x_istore C dX6_attackersOf_143 (by decide) [(8, _), (7, _), (6, _), (2, _), (5, _), (0, _), (1, _), (3, _), (4, _)] rfl ?_
                            refine x_iload_n C dX6_attackersOf_145 rfl ?_
                            refine x_iload C dX6_attackersOf_146 rfl ?_
                            refine x_if_eqN C 155 dX6_attackersOf_148 (by decide) (by omega) (fun c148 => ?_) (fun c148 => ?_)
                            · exact absurd c148 (by decide)
                            · refine x_iconst C (v := nI 1) dX6_attackersOf_151 (by decide +kernel) ?_
                              refine x_goto C 156 dX6_attackersOf_152 (by decide) ?_
                              refine x_iaddN C dX6_attackersOf_156 ?_
                              refine x_istore_n C dX6_attackersOf_157 (by decide) [(2, _), (8, _), (7, _), (6, _), (5, _), (0, _), (1, _), (3, _), (4, _)] rfl ?_
                              have hm : mmS s i (5 * u + v) = true := by
                                rw [hmm]
                                unfold metM
                                rw [if_pos (by omega)]
                                exact decide_eq_true (Or.inr (Or.inr ⟨c129, c135⟩))
                              have e1 : cnt (mmS s i) (5 * u + v) + 0 + 1 = cnt (mmS s i) (5 * u + v + 1) := by simp [cnt, hm]
                              rw [e1]
                              refine x_iinc C _ dX6_attackersOf_158 rfl (q5_s hv) (by decide) [(4, _), (2, _), (8, _), (7, _), (6, _), (5, _), (0, _), (1, _), (3, _)] rfl ?_
                              refine x_goto C 14 dX6_attackersOf_161 (by decide) ?_
                              exact x_sub [6, 7, 1, 8, 0] (ih (v + 1) (by omega)) rfl
              · refine x_iload C dX6_attackersOf_63 rfl ?_
                refine x_iconst C (v := nI 2) dX6_attackersOf_65 (by decide +kernel) ?_
                refine x_icmp_neN C 158 dX6_attackersOf_66 (by decide) (by omega) (by omega) (fun c66 => ?_) (fun c66 => ?_)
                · have hm : mmS s i (5 * u + v) = false := by
                    rw [hmm]
                    unfold metM
                    rw [if_neg (by omega), if_neg (by omega)]
                  have e1 : cnt (mmS s i) (5 * u + v) + 0 = cnt (mmS s i) (5 * u + v + 1) := by simp [cnt, hm]
                  rw [e1]
                  refine x_iinc C _ dX6_attackersOf_158 rfl (q5_s hv) (by decide) [(4, _), (2, _), (5, _), (0, _), (1, _), (3, _)] rfl ?_
                  refine x_goto C 14 dX6_attackersOf_161 (by decide) ?_
                  exact x_sub [3, 4, 1, 5, 0] (ih (v + 1) (by omega)) rfl
                · refine x_aload_n C dX6_attackersOf_69 rfl ?_
                  refine x_iload_n C dX6_attackersOf_70 rfl ?_
                  refine x_iload_n C dX6_attackersOf_71 rfl ?_
                  refine x_iload C dX6_attackersOf_72 rfl ?_
                  refine x_callV3i C (fsQ hs hi hu hv (by omega)) lkX6_96 miX6_firstAt msX6_firstAt maX6_firstAt ⟨Nat.le_of_ble_eq_true rfl, Nat.le_of_ble_eq_true rfl⟩ (Nat.le_of_ble_eq_true rfl) rfl rfl dX6_attackersOf_74 ?_
                  refine x_istore C dX6_attackersOf_77 (by decide) [(6, _), (2, _), (5, _), (0, _), (1, _), (3, _), (4, _)] rfl ?_
                  refine x_iload C dX6_attackersOf_79 rfl ?_
                  refine x_if_neN C 88 dX6_attackersOf_81 (by decide) (by omega) (fun c81 => ?_) (fun c81 => ?_)
                  · refine x_aload_n C dX6_attackersOf_88 rfl ?_
                    refine x_iload_n C dX6_attackersOf_89 rfl ?_
                    refine x_iload C dX6_attackersOf_90 rfl ?_
                    refine x_iload_n C dX6_attackersOf_92 rfl ?_
                    refine x_imul C dX6_attackersOf_93 ?_
                    refine x_iload C dX6_attackersOf_94 rfl ?_
                    refine x_iload C dX6_attackersOf_96 rfl ?_
                    refine x_imul C dX6_attackersOf_98 ?_
                    refine x_callV3i C (awQf hi hu hv (by omega) (fst_le s i (dirO u v))) lkX6_92 miX6_away msX6_away maX6_away ⟨Nat.le_of_ble_eq_true rfl, Nat.le_of_ble_eq_true rfl⟩ (Nat.le_of_ble_eq_true rfl) rfl rfl dX6_attackersOf_99 ?_
                    rw [fsK_aw c81]
                    refine x_istore C dX6_attackersOf_102 (by decide) [(7, _), (6, _), (2, _), (5, _), (0, _), (1, _), (3, _), (4, _)] rfl ?_
                    refine x_iload C dX6_attackersOf_104 rfl ?_
                    refine x_iconst C (v := nI 2) dX6_attackersOf_106 (by decide +kernel) ?_
                    refine x_icmp_eqN C 138 dX6_attackersOf_107 (by decide) (by first | omega) (by first | omega) (fun c107 => ?_) (fun c107 => ?_)
                    · refine x_iconst C (v := nI 1) dX6_attackersOf_138 (by decide +kernel) ?_
                      refine x_goto C 143 dX6_attackersOf_139 (by decide) ?_
                      refine x_istore C dX6_attackersOf_143 (by decide) [(8, _), (7, _), (6, _), (2, _), (5, _), (0, _), (1, _), (3, _), (4, _)] rfl ?_
                      refine x_iload_n C dX6_attackersOf_145 rfl ?_
                      refine x_iload C dX6_attackersOf_146 rfl ?_
                      refine x_if_eqN C 155 dX6_attackersOf_148 (by decide) (by omega) (fun c148 => ?_) (fun c148 => ?_)
                      · exact absurd c148 (by decide)
                      · refine x_iconst C (v := nI 1) dX6_attackersOf_151 (by decide +kernel) ?_
                        refine x_goto C 156 dX6_attackersOf_152 (by decide) ?_
                        refine x_iaddN C dX6_attackersOf_156 ?_
                        refine x_istore_n C dX6_attackersOf_157 (by decide) [(2, _), (8, _), (7, _), (6, _), (5, _), (0, _), (1, _), (3, _), (4, _)] rfl ?_
                        have hm : mmS s i (5 * u + v) = true := by
                          rw [hmm]
                          unfold metM
                          rw [if_pos (by omega)]
                          exact decide_eq_true (Or.inl c107)
                        have e1 : cnt (mmS s i) (5 * u + v) + 0 + 1 = cnt (mmS s i) (5 * u + v + 1) := by simp [cnt, hm]
                        rw [e1]
                        refine x_iinc C _ dX6_attackersOf_158 rfl (q5_s hv) (by decide) [(4, _), (2, _), (8, _), (7, _), (6, _), (5, _), (0, _), (1, _), (3, _)] rfl ?_
                        refine x_goto C 14 dX6_attackersOf_161 (by decide) ?_
                        exact x_sub [6, 7, 1, 8, 0] (ih (v + 1) (by omega)) rfl
                    · refine x_iload C dX6_attackersOf_110 rfl ?_
                      refine x_iload C dX6_attackersOf_112 rfl ?_
                      refine x_iconst C (v := nI 1) dX6_attackersOf_114 (by decide +kernel) ?_
                      refine x_icmp_neN C 122 dX6_attackersOf_115 (by decide) (by omega) (by omega) (fun c115 => ?_) (fun c115 => ?_)
                      · refine x_iconst C (v := nI 4) dX6_attackersOf_122 (by decide +kernel) ?_
                        refine x_icmp_eqN C 138 dX6_attackersOf_123 (by decide) (by omega) (by omega) (fun c123 => ?_) (fun c123 => ?_)
                        · refine x_iconst C (v := nI 1) dX6_attackersOf_138 (by decide +kernel) ?_
                          refine x_goto C 143 dX6_attackersOf_139 (by decide) ?_
                          refine x_istore C dX6_attackersOf_143 (by decide) [(8, _), (7, _), (6, _), (2, _), (5, _), (0, _), (1, _), (3, _), (4, _)] rfl ?_
                          refine x_iload_n C dX6_attackersOf_145 rfl ?_
                          refine x_iload C dX6_attackersOf_146 rfl ?_
                          refine x_if_eqN C 155 dX6_attackersOf_148 (by decide) (by omega) (fun c148 => ?_) (fun c148 => ?_)
                          · exact absurd c148 (by decide)
                          · refine x_iconst C (v := nI 1) dX6_attackersOf_151 (by decide +kernel) ?_
                            refine x_goto C 156 dX6_attackersOf_152 (by decide) ?_
                            refine x_iaddN C dX6_attackersOf_156 ?_
                            refine x_istore_n C dX6_attackersOf_157 (by decide) [(2, _), (8, _), (7, _), (6, _), (5, _), (0, _), (1, _), (3, _), (4, _)] rfl ?_
                            have hm : mmS s i (5 * u + v) = true := by
                              rw [hmm]
                              unfold metM
                              rw [if_pos (by omega)]
                              exact decide_eq_true (Or.inr (Or.inl (by rw [if_neg (show ¬ dirO u v < 4 by omega)]; exact c123)))
                            have e1 : cnt (mmS s i) (5 * u + v) + 0 + 1 = cnt (mmS s i) (5 * u + v + 1) := by simp [cnt, hm]
                            rw [e1]
                            refine x_iinc C _ dX6_attackersOf_158 rfl (q5_s hv) (by decide) [(4, _), (2, _), (8, _), (7, _), (6, _), (5, _), (0, _), (1, _), (3, _)] rfl ?_
                            refine x_goto C 14 dX6_attackersOf_161 (by decide) ?_
                            exact x_sub [6, 7, 1, 8, 0] (ih (v + 1) (by omega)) rfl
                        · refine x_iload C dX6_attackersOf_126 rfl ?_
                          refine x_iconst C (v := nI 1) dX6_attackersOf_128 (by decide +kernel) ?_
                          refine x_icmp_neN C 142 dX6_attackersOf_129 (by decide) (by omega) (by omega) (fun c129 => ?_) (fun c129 => ?_)
                          · refine x_iconst C (v := nI 0) dX6_attackersOf_142 (by decide +kernel) ?_
                            refine x_istore C dX6_attackersOf_143 (by decide) [(8, _), (7, _), (6, _), (2, _), (5, _), (0, _), (1, _), (3, _), (4, _)] rfl ?_
                            refine x_iload_n C dX6_attackersOf_145 rfl ?_
                            refine x_iload C dX6_attackersOf_146 rfl ?_
                            refine x_if_eqN C 155 dX6_attackersOf_148 (by decide) (by omega) (fun c148 => ?_) (fun c148 => ?_)
                            · refine x_iconst C (v := nI 0) dX6_attackersOf_155 (by decide +kernel) ?_
                              refine x_iaddN C dX6_attackersOf_156 ?_
                              refine x_istore_n C dX6_attackersOf_157 (by decide) [(2, _), (8, _), (7, _), (6, _), (5, _), (0, _), (1, _), (3, _), (4, _)] rfl ?_
                              have hm : mmS s i (5 * u + v) = false := by
                                rw [hmm]
                                unfold metM
                                rw [if_pos (by omega)]
                                exact decide_eq_false (fun z => z.elim c107 (fun z => z.elim (fun z => c123 (by rw [if_neg (show ¬ dirO u v < 4 by omega)] at z; exact z)) (fun z => c129 z.1)))
                              have e1 : cnt (mmS s i) (5 * u + v) + 0 + 0 = cnt (mmS s i) (5 * u + v + 1) := by simp [cnt, hm]
                              rw [e1]
                              refine x_iinc C _ dX6_attackersOf_158 rfl (q5_s hv) (by decide) [(4, _), (2, _), (8, _), (7, _), (6, _), (5, _), (0, _), (1, _), (3, _)] rfl ?_
                              refine x_goto C 14 dX6_attackersOf_161 (by decide) ?_
                              exact x_sub [6, 7, 1, 8, 0] (ih (v + 1) (by omega)) rfl
                            · exact absurd rfl c148
                          · refine x_iload C dX6_attackersOf_132 rfl ?_
                            refine x_iconst C (v := nI 1) dX6_attackersOf_134 (by decide +kernel) ?_
                            refine x_icmp_neN C 142 dX6_attackersOf_135 (by decide) (by omega) (by omega) (fun c135 => ?_) (fun c135 => ?_)
                            · refine x_iconst C (v := nI 0) dX6_attackersOf_142 (by decide +kernel) ?_
                              refine x_istore C dX6_attackersOf_143 (by decide) [(8, _), (7, _), (6, _), (2, _), (5, _), (0, _), (1, _), (3, _), (4, _)] rfl ?_
                              refine x_iload_n C dX6_attackersOf_145 rfl ?_
                              refine x_iload C dX6_attackersOf_146 rfl ?_
                              refine x_if_eqN C 155 dX6_attackersOf_148 (by decide) (by omega) (fun c148 => ?_) (fun c148 => ?_)
                              · refine x_iconst C (v := nI 0) dX6_attackersOf_155 (by decide +kernel) ?_
                                refine x_iaddN C dX6_attackersOf_156 ?_
                                refine x_istore_n C dX6_attackersOf_157 (by decide) [(2, _), (8, _), (7, _), (6, _), (5, _), (0, _), (1, _), (3, _), (4, _)] rfl ?_
                                have hm : mmS s i (5 * u + v) = false := by
                                  rw [hmm]
                                  unfold metM
                                  rw [if_pos (by omega)]
                                  exact decide_eq_false (fun z => z.elim c107 (fun z => z.elim (fun z => c123 (by rw [if_neg (show ¬ dirO u v < 4 by omega)] at z; exact z)) (fun z => c135 z.2)))
                                have e1 : cnt (mmS s i) (5 * u + v) + 0 + 0 = cnt (mmS s i) (5 * u + v + 1) := by simp [cnt, hm]
                                rw [e1]
                                refine x_iinc C _ dX6_attackersOf_158 rfl (q5_s hv) (by decide) [(4, _), (2, _), (8, _), (7, _), (6, _), (5, _), (0, _), (1, _), (3, _)] rfl ?_
                                refine x_goto C 14 dX6_attackersOf_161 (by decide) ?_
                                exact x_sub [6, 7, 1, 8, 0] (ih (v + 1) (by omega)) rfl
                              · exact absurd rfl c148
                            · refine x_iconst C (v := nI 1) dX6_attackersOf_138 (by decide +kernel) ?_
                              refine x_goto C 143 dX6_attackersOf_139 (by decide) ?_
                              refine x_istore C dX6_attackersOf_143 (by decide) [(8, _), (7, _), (6, _), (2, _), (5, _), (0, _), (1, _), (3, _), (4, _)] rfl ?_
                              refine x_iload_n C dX6_attackersOf_145 rfl ?_
                              refine x_iload C dX6_attackersOf_146 rfl ?_
                              refine x_if_eqN C 155 dX6_attackersOf_148 (by decide) (by omega) (fun c148 => ?_) (fun c148 => ?_)
                              · exact absurd c148 (by decide)
                              · refine x_iconst C (v := nI 1) dX6_attackersOf_151 (by decide +kernel) ?_
                                refine x_goto C 156 dX6_attackersOf_152 (by decide) ?_
                                refine x_iaddN C dX6_attackersOf_156 ?_
                                refine x_istore_n C dX6_attackersOf_157 (by decide) [(2, _), (8, _), (7, _), (6, _), (5, _), (0, _), (1, _), (3, _), (4, _)] rfl ?_
                                have hm : mmS s i (5 * u + v) = true := by
                                  rw [hmm]
                                  unfold metM
                                  rw [if_pos (by omega)]
                                  exact decide_eq_true (Or.inr (Or.inr ⟨c129, c135⟩))
                                have e1 : cnt (mmS s i) (5 * u + v) + 0 + 1 = cnt (mmS s i) (5 * u + v + 1) := by simp [cnt, hm]
                                rw [e1]
                                refine x_iinc C _ dX6_attackersOf_158 rfl (q5_s hv) (by decide) [(4, _), (2, _), (8, _), (7, _), (6, _), (5, _), (0, _), (1, _), (3, _)] rfl ?_
                                refine x_goto C 14 dX6_attackersOf_161 (by decide) ?_
                                exact x_sub [6, 7, 1, 8, 0] (ih (v + 1) (by omega)) rfl
                      · refine x_iconst C (v := nI 3) dX6_attackersOf_118 (by decide +kernel) ?_
                        refine x_goto C 123 dX6_attackersOf_119 (by decide) ?_
                        refine x_icmp_eqN C 138 dX6_attackersOf_123 (by decide) (by omega) (by omega) (fun c123 => ?_) (fun c123 => ?_)
                        · refine x_iconst C (v := nI 1) dX6_attackersOf_138 (by decide +kernel) ?_
                          refine x_goto C 143 dX6_attackersOf_139 (by decide) ?_
                          refine x_istore C dX6_attackersOf_143 (by decide) [(8, _), (7, _), (6, _), (2, _), (5, _), (0, _), (1, _), (3, _), (4, _)] rfl ?_
                          refine x_iload_n C dX6_attackersOf_145 rfl ?_
                          refine x_iload C dX6_attackersOf_146 rfl ?_
                          refine x_if_eqN C 155 dX6_attackersOf_148 (by decide) (by omega) (fun c148 => ?_) (fun c148 => ?_)
                          · exact absurd c148 (by decide)
                          · refine x_iconst C (v := nI 1) dX6_attackersOf_151 (by decide +kernel) ?_
                            refine x_goto C 156 dX6_attackersOf_152 (by decide) ?_
                            refine x_iaddN C dX6_attackersOf_156 ?_
                            refine x_istore_n C dX6_attackersOf_157 (by decide) [(2, _), (8, _), (7, _), (6, _), (5, _), (0, _), (1, _), (3, _), (4, _)] rfl ?_
                            have hm : mmS s i (5 * u + v) = true := by
                              rw [hmm]
                              unfold metM
                              rw [if_pos (by omega)]
                              exact decide_eq_true (Or.inr (Or.inl (by rw [if_pos (show dirO u v < 4 by omega)]; exact c123)))
                            have e1 : cnt (mmS s i) (5 * u + v) + 0 + 1 = cnt (mmS s i) (5 * u + v + 1) := by simp [cnt, hm]
                            rw [e1]
                            refine x_iinc C _ dX6_attackersOf_158 rfl (q5_s hv) (by decide) [(4, _), (2, _), (8, _), (7, _), (6, _), (5, _), (0, _), (1, _), (3, _)] rfl ?_
                            refine x_goto C 14 dX6_attackersOf_161 (by decide) ?_
                            exact x_sub [6, 7, 1, 8, 0] (ih (v + 1) (by omega)) rfl
                        · refine x_iload C dX6_attackersOf_126 rfl ?_
                          refine x_iconst C (v := nI 1) dX6_attackersOf_128 (by decide +kernel) ?_
                          refine x_icmp_neN C 142 dX6_attackersOf_129 (by decide) (by omega) (by omega) (fun c129 => ?_) (fun c129 => ?_)
                          · refine x_iconst C (v := nI 0) dX6_attackersOf_142 (by decide +kernel) ?_
                            refine x_istore C dX6_attackersOf_143 (by decide) [(8, _), (7, _), (6, _), (2, _), (5, _), (0, _), (1, _), (3, _), (4, _)] rfl ?_
                            refine x_iload_n C dX6_attackersOf_145 rfl ?_
                            refine x_iload C dX6_attackersOf_146 rfl ?_
                            refine x_if_eqN C 155 dX6_attackersOf_148 (by decide) (by omega) (fun c148 => ?_) (fun c148 => ?_)
                            · refine x_iconst C (v := nI 0) dX6_attackersOf_155 (by decide +kernel) ?_
                              refine x_iaddN C dX6_attackersOf_156 ?_
                              refine x_istore_n C dX6_attackersOf_157 (by decide) [(2, _), (8, _), (7, _), (6, _), (5, _), (0, _), (1, _), (3, _), (4, _)] rfl ?_
                              have hm : mmS s i (5 * u + v) = false := by
                                rw [hmm]
                                unfold metM
                                rw [if_pos (by omega)]
                                exact decide_eq_false (fun z => z.elim c107 (fun z => z.elim (fun z => c123 (by rw [if_pos (show dirO u v < 4 by omega)] at z; exact z)) (fun z => c129 z.1)))
                              have e1 : cnt (mmS s i) (5 * u + v) + 0 + 0 = cnt (mmS s i) (5 * u + v + 1) := by simp [cnt, hm]
                              rw [e1]
                              refine x_iinc C _ dX6_attackersOf_158 rfl (q5_s hv) (by decide) [(4, _), (2, _), (8, _), (7, _), (6, _), (5, _), (0, _), (1, _), (3, _)] rfl ?_
                              refine x_goto C 14 dX6_attackersOf_161 (by decide) ?_
                              exact x_sub [6, 7, 1, 8, 0] (ih (v + 1) (by omega)) rfl
                            · exact absurd rfl c148
                          · refine x_iload C dX6_attackersOf_132 rfl ?_
                            refine x_iconst C (v := nI 1) dX6_attackersOf_134 (by decide +kernel) ?_
                            refine x_icmp_neN C 142 dX6_attackersOf_135 (by decide) (by omega) (by omega) (fun c135 => ?_) (fun c135 => ?_)
                            · refine x_iconst C (v := nI 0) dX6_attackersOf_142 (by decide +kernel) ?_
                              refine x_istore C dX6_attackersOf_143 (by decide) [(8, _), (7, _), (6, _), (2, _), (5, _), (0, _), (1, _), (3, _), (4, _)] rfl ?_
                              refine x_iload_n C dX6_attackersOf_145 rfl ?_
                              refine x_iload C dX6_attackersOf_146 rfl ?_
                              refine x_if_eqN C 155 dX6_attackersOf_148 (by decide) (by omega) (fun c148 => ?_) (fun c148 => ?_)
                              · refine x_iconst C (v := nI 0) dX6_attackersOf_155 (by decide +kernel) ?_
                                refine x_iaddN C dX6_attackersOf_156 ?_
                                refine x_istore_n C dX6_attackersOf_157 (by decide) [(2, _), (8, _), (7, _), (6, _), (5, _), (0, _), (1, _), (3, _), (4, _)] rfl ?_
                                have hm : mmS s i (5 * u + v) = false := by
                                  rw [hmm]
                                  unfold metM
                                  rw [if_pos (by omega)]
                                  exact decide_eq_false (fun z => z.elim c107 (fun z => z.elim (fun z => c123 (by rw [if_pos (show dirO u v < 4 by omega)] at z; exact z)) (fun z => c135 z.2)))
                                have e1 : cnt (mmS s i) (5 * u + v) + 0 + 0 = cnt (mmS s i) (5 * u + v + 1) := by simp [cnt, hm]
                                rw [e1]
                                refine x_iinc C _ dX6_attackersOf_158 rfl (q5_s hv) (by decide) [(4, _), (2, _), (8, _), (7, _), (6, _), (5, _), (0, _), (1, _), (3, _)] rfl ?_
                                refine x_goto C 14 dX6_attackersOf_161 (by decide) ?_
                                exact x_sub [6, 7, 1, 8, 0] (ih (v + 1) (by omega)) rfl
                              · exact absurd rfl c148
                            · refine x_iconst C (v := nI 1) dX6_attackersOf_138 (by decide +kernel) ?_
                              refine x_goto C 143 dX6_attackersOf_139 (by decide) ?_
                              refine x_istore C dX6_attackersOf_143 (by decide) [(8, _), (7, _), (6, _), (2, _), (5, _), (0, _), (1, _), (3, _), (4, _)] rfl ?_
                              refine x_iload_n C dX6_attackersOf_145 rfl ?_
                              refine x_iload C dX6_attackersOf_146 rfl ?_
                              refine x_if_eqN C 155 dX6_attackersOf_148 (by decide) (by omega) (fun c148 => ?_) (fun c148 => ?_)
                              · exact absurd c148 (by decide)
                              · refine x_iconst C (v := nI 1) dX6_attackersOf_151 (by decide +kernel) ?_
                                refine x_goto C 156 dX6_attackersOf_152 (by decide) ?_
                                refine x_iaddN C dX6_attackersOf_156 ?_
                                refine x_istore_n C dX6_attackersOf_157 (by decide) [(2, _), (8, _), (7, _), (6, _), (5, _), (0, _), (1, _), (3, _), (4, _)] rfl ?_
                                have hm : mmS s i (5 * u + v) = true := by
                                  rw [hmm]
                                  unfold metM
                                  rw [if_pos (by omega)]
                                  exact decide_eq_true (Or.inr (Or.inr ⟨c129, c135⟩))
                                have e1 : cnt (mmS s i) (5 * u + v) + 0 + 1 = cnt (mmS s i) (5 * u + v + 1) := by simp [cnt, hm]
                                rw [e1]
                                refine x_iinc C _ dX6_attackersOf_158 rfl (q5_s hv) (by decide) [(4, _), (2, _), (8, _), (7, _), (6, _), (5, _), (0, _), (1, _), (3, _)] rfl ?_
                                refine x_goto C 14 dX6_attackersOf_161 (by decide) ?_
                                exact x_sub [6, 7, 1, 8, 0] (ih (v + 1) (by omega)) rfl
                  · refine x_iconst C (v := nI 0) dX6_attackersOf_84 (by decide +kernel) ?_
                    refine x_goto C 102 dX6_attackersOf_85 (by decide) ?_
                    refine x_top (show nI 0 = nI (fsK s i (dirO u v)) by unfold fsK; rw [if_pos c81]) ?_
                    refine x_istore C dX6_attackersOf_102 (by decide) [(7, _), (6, _), (2, _), (5, _), (0, _), (1, _), (3, _), (4, _)] rfl ?_
                    refine x_iload C dX6_attackersOf_104 rfl ?_
                    refine x_iconst C (v := nI 2) dX6_attackersOf_106 (by decide +kernel) ?_
                    refine x_icmp_eqN C 138 dX6_attackersOf_107 (by decide) (by first | omega) (by first | omega) (fun c107 => ?_) (fun c107 => ?_)
                    · refine x_iconst C (v := nI 1) dX6_attackersOf_138 (by decide +kernel) ?_
                      refine x_goto C 143 dX6_attackersOf_139 (by decide) ?_
                      refine x_istore C dX6_attackersOf_143 (by decide) [(8, _), (7, _), (6, _), (2, _), (5, _), (0, _), (1, _), (3, _), (4, _)] rfl ?_
                      refine x_iload_n C dX6_attackersOf_145 rfl ?_
                      refine x_iload C dX6_attackersOf_146 rfl ?_
                      refine x_if_eqN C 155 dX6_attackersOf_148 (by decide) (by omega) (fun c148 => ?_) (fun c148 => ?_)
                      · exact absurd c148 (by decide)
                      · refine x_iconst C (v := nI 1) dX6_attackersOf_151 (by decide +kernel) ?_
                        refine x_goto C 156 dX6_attackersOf_152 (by decide) ?_
                        refine x_iaddN C dX6_attackersOf_156 ?_
                        refine x_istore_n C dX6_attackersOf_157 (by decide) [(2, _), (8, _), (7, _), (6, _), (5, _), (0, _), (1, _), (3, _), (4, _)] rfl ?_
                        have hm : mmS s i (5 * u + v) = true := by
                          rw [hmm]
                          unfold metM
                          rw [if_pos (by omega)]
                          exact decide_eq_true (Or.inl c107)
                        have e1 : cnt (mmS s i) (5 * u + v) + 0 + 1 = cnt (mmS s i) (5 * u + v + 1) := by simp [cnt, hm]
                        rw [e1]
                        refine x_iinc C _ dX6_attackersOf_158 rfl (q5_s hv) (by decide) [(4, _), (2, _), (8, _), (7, _), (6, _), (5, _), (0, _), (1, _), (3, _)] rfl ?_
                        refine x_goto C 14 dX6_attackersOf_161 (by decide) ?_
                        exact x_sub [6, 7, 1, 8, 0] (ih (v + 1) (by omega)) rfl
                    · refine x_iload C dX6_attackersOf_110 rfl ?_
                      refine x_iload C dX6_attackersOf_112 rfl ?_
                      refine x_iconst C (v := nI 1) dX6_attackersOf_114 (by decide +kernel) ?_
                      refine x_icmp_neN C 122 dX6_attackersOf_115 (by decide) (by omega) (by omega) (fun c115 => ?_) (fun c115 => ?_)
                      · refine x_iconst C (v := nI 4) dX6_attackersOf_122 (by decide +kernel) ?_
                        refine x_icmp_eqN C 138 dX6_attackersOf_123 (by decide) (by omega) (by omega) (fun c123 => ?_) (fun c123 => ?_)
                        · refine x_iconst C (v := nI 1) dX6_attackersOf_138 (by decide +kernel) ?_
                          refine x_goto C 143 dX6_attackersOf_139 (by decide) ?_
                          refine x_istore C dX6_attackersOf_143 (by decide) [(8, _), (7, _), (6, _), (2, _), (5, _), (0, _), (1, _), (3, _), (4, _)] rfl ?_
                          refine x_iload_n C dX6_attackersOf_145 rfl ?_
                          refine x_iload C dX6_attackersOf_146 rfl ?_
                          refine x_if_eqN C 155 dX6_attackersOf_148 (by decide) (by omega) (fun c148 => ?_) (fun c148 => ?_)
                          · exact absurd c148 (by decide)
                          · refine x_iconst C (v := nI 1) dX6_attackersOf_151 (by decide +kernel) ?_
                            refine x_goto C 156 dX6_attackersOf_152 (by decide) ?_
                            refine x_iaddN C dX6_attackersOf_156 ?_
                            refine x_istore_n C dX6_attackersOf_157 (by decide) [(2, _), (8, _), (7, _), (6, _), (5, _), (0, _), (1, _), (3, _), (4, _)] rfl ?_
                            have hm : mmS s i (5 * u + v) = true := by
                              rw [hmm]
                              unfold metM
                              rw [if_pos (by omega)]
                              exact decide_eq_true (Or.inr (Or.inl (by rw [if_neg (show ¬ dirO u v < 4 by omega)]; exact c123)))
                            have e1 : cnt (mmS s i) (5 * u + v) + 0 + 1 = cnt (mmS s i) (5 * u + v + 1) := by simp [cnt, hm]
                            rw [e1]
                            refine x_iinc C _ dX6_attackersOf_158 rfl (q5_s hv) (by decide) [(4, _), (2, _), (8, _), (7, _), (6, _), (5, _), (0, _), (1, _), (3, _)] rfl ?_
                            refine x_goto C 14 dX6_attackersOf_161 (by decide) ?_
                            exact x_sub [6, 7, 1, 8, 0] (ih (v + 1) (by omega)) rfl
                        · refine x_iload C dX6_attackersOf_126 rfl ?_
                          refine x_iconst C (v := nI 1) dX6_attackersOf_128 (by decide +kernel) ?_
                          refine x_icmp_neN C 142 dX6_attackersOf_129 (by decide) (by omega) (by omega) (fun c129 => ?_) (fun c129 => ?_)
                          · refine x_iconst C (v := nI 0) dX6_attackersOf_142 (by decide +kernel) ?_
                            refine x_istore C dX6_attackersOf_143 (by decide) [(8, _), (7, _), (6, _), (2, _), (5, _), (0, _), (1, _), (3, _), (4, _)] rfl ?_
                            refine x_iload_n C dX6_attackersOf_145 rfl ?_
                            refine x_iload C dX6_attackersOf_146 rfl ?_
                            refine x_if_eqN C 155 dX6_attackersOf_148 (by decide) (by omega) (fun c148 => ?_) (fun c148 => ?_)
                            · refine x_iconst C (v := nI 0) dX6_attackersOf_155 (by decide +kernel) ?_
                              refine x_iaddN C dX6_attackersOf_156 ?_
                              refine x_istore_n C dX6_attackersOf_157 (by decide) [(2, _), (8, _), (7, _), (6, _), (5, _), (0, _), (1, _), (3, _), (4, _)] rfl ?_
                              have hm : mmS s i (5 * u + v) = false := by
                                rw [hmm]
                                unfold metM
                                rw [if_pos (by omega)]
                                exact decide_eq_false (fun z => z.elim c107 (fun z => z.elim (fun z => c123 (by rw [if_neg (show ¬ dirO u v < 4 by omega)] at z; exact z)) (fun z => c129 z.1)))
                              have e1 : cnt (mmS s i) (5 * u + v) + 0 + 0 = cnt (mmS s i) (5 * u + v + 1) := by simp [cnt, hm]
                              rw [e1]
                              refine x_iinc C _ dX6_attackersOf_158 rfl (q5_s hv) (by decide) [(4, _), (2, _), (8, _), (7, _), (6, _), (5, _), (0, _), (1, _), (3, _)] rfl ?_
                              refine x_goto C 14 dX6_attackersOf_161 (by decide) ?_
                              exact x_sub [6, 7, 1, 8, 0] (ih (v + 1) (by omega)) rfl
                            · exact absurd rfl c148
                          · refine x_iload C dX6_attackersOf_132 rfl ?_
                            refine x_iconst C (v := nI 1) dX6_attackersOf_134 (by decide +kernel) ?_
                            refine x_icmp_neN C 142 dX6_attackersOf_135 (by decide) (by omega) (by omega) (fun c135 => ?_) (fun c135 => ?_)
                            · refine x_iconst C (v := nI 0) dX6_attackersOf_142 (by decide +kernel) ?_
                              refine x_istore C dX6_attackersOf_143 (by decide) [(8, _), (7, _), (6, _), (2, _), (5, _), (0, _), (1, _), (3, _), (4, _)] rfl ?_
                              refine x_iload_n C dX6_attackersOf_145 rfl ?_
                              refine x_iload C dX6_attackersOf_146 rfl ?_
                              refine x_if_eqN C 155 dX6_attackersOf_148 (by decide) (by omega) (fun c148 => ?_) (fun c148 => ?_)
                              · refine x_iconst C (v := nI 0) dX6_attackersOf_155 (by decide +kernel) ?_
                                refine x_iaddN C dX6_attackersOf_156 ?_
                                refine x_istore_n C dX6_attackersOf_157 (by decide) [(2, _), (8, _), (7, _), (6, _), (5, _), (0, _), (1, _), (3, _), (4, _)] rfl ?_
                                have hm : mmS s i (5 * u + v) = false := by
                                  rw [hmm]
                                  unfold metM
                                  rw [if_pos (by omega)]
                                  exact decide_eq_false (fun z => z.elim c107 (fun z => z.elim (fun z => c123 (by rw [if_neg (show ¬ dirO u v < 4 by omega)] at z; exact z)) (fun z => c135 z.2)))
                                have e1 : cnt (mmS s i) (5 * u + v) + 0 + 0 = cnt (mmS s i) (5 * u + v + 1) := by simp [cnt, hm]
                                rw [e1]
                                refine x_iinc C _ dX6_attackersOf_158 rfl (q5_s hv) (by decide) [(4, _), (2, _), (8, _), (7, _), (6, _), (5, _), (0, _), (1, _), (3, _)] rfl ?_
                                refine x_goto C 14 dX6_attackersOf_161 (by decide) ?_
                                exact x_sub [6, 7, 1, 8, 0] (ih (v + 1) (by omega)) rfl
                              · exact absurd rfl c148
                            · refine x_iconst C (v := nI 1) dX6_attackersOf_138 (by decide +kernel) ?_
                              refine x_goto C 143 dX6_attackersOf_139 (by decide) ?_
                              refine x_istore C dX6_attackersOf_143 (by decide) [(8, _), (7, _), (6, _), (2, _), (5, _), (0, _), (1, _), (3, _), (4, _)] rfl ?_
                              refine x_iload_n C dX6_attackersOf_145 rfl ?_
                              refine x_iload C dX6_attackersOf_146 rfl ?_
                              refine x_if_eqN C 155 dX6_attackersOf_148 (by decide) (by omega) (fun c148 => ?_) (fun c148 => ?_)
                              · exact absurd c148 (by decide)
                              · refine x_iconst C (v := nI 1) dX6_attackersOf_151 (by decide +kernel) ?_
                                refine x_goto C 156 dX6_attackersOf_152 (by decide) ?_
                                refine x_iaddN C dX6_attackersOf_156 ?_
                                refine x_istore_n C dX6_attackersOf_157 (by decide) [(2, _), (8, _), (7, _), (6, _), (5, _), (0, _), (1, _), (3, _), (4, _)] rfl ?_
                                have hm : mmS s i (5 * u + v) = true := by
                                  rw [hmm]
                                  unfold metM
                                  rw [if_pos (by omega)]
                                  exact decide_eq_true (Or.inr (Or.inr ⟨c129, c135⟩))
                                have e1 : cnt (mmS s i) (5 * u + v) + 0 + 1 = cnt (mmS s i) (5 * u + v + 1) := by simp [cnt, hm]
                                rw [e1]
                                refine x_iinc C _ dX6_attackersOf_158 rfl (q5_s hv) (by decide) [(4, _), (2, _), (8, _), (7, _), (6, _), (5, _), (0, _), (1, _), (3, _)] rfl ?_
                                refine x_goto C 14 dX6_attackersOf_161 (by decide) ?_
                                exact x_sub [6, 7, 1, 8, 0] (ih (v + 1) (by omega)) rfl
                      · refine x_iconst C (v := nI 3) dX6_attackersOf_118 (by decide +kernel) ?_
                        refine x_goto C 123 dX6_attackersOf_119 (by decide) ?_
                        refine x_icmp_eqN C 138 dX6_attackersOf_123 (by decide) (by omega) (by omega) (fun c123 => ?_) (fun c123 => ?_)
                        · refine x_iconst C (v := nI 1) dX6_attackersOf_138 (by decide +kernel) ?_
                          refine x_goto C 143 dX6_attackersOf_139 (by decide) ?_
                          refine x_istore C dX6_attackersOf_143 (by decide) [(8, _), (7, _), (6, _), (2, _), (5, _), (0, _), (1, _), (3, _), (4, _)] rfl ?_
                          refine x_iload_n C dX6_attackersOf_145 rfl ?_
                          refine x_iload C dX6_attackersOf_146 rfl ?_
                          refine x_if_eqN C 155 dX6_attackersOf_148 (by decide) (by omega) (fun c148 => ?_) (fun c148 => ?_)
                          · exact absurd c148 (by decide)
                          · refine x_iconst C (v := nI 1) dX6_attackersOf_151 (by decide +kernel) ?_
                            refine x_goto C 156 dX6_attackersOf_152 (by decide) ?_
                            refine x_iaddN C dX6_attackersOf_156 ?_
                            refine x_istore_n C dX6_attackersOf_157 (by decide) [(2, _), (8, _), (7, _), (6, _), (5, _), (0, _), (1, _), (3, _), (4, _)] rfl ?_
                            have hm : mmS s i (5 * u + v) = true := by
                              rw [hmm]
                              unfold metM
                              rw [if_pos (by omega)]
                              exact decide_eq_true (Or.inr (Or.inl (by rw [if_pos (show dirO u v < 4 by omega)]; exact c123)))
                            have e1 : cnt (mmS s i) (5 * u + v) + 0 + 1 = cnt (mmS s i) (5 * u + v + 1) := by simp [cnt, hm]
                            rw [e1]
                            refine x_iinc C _ dX6_attackersOf_158 rfl (q5_s hv) (by decide) [(4, _), (2, _), (8, _), (7, _), (6, _), (5, _), (0, _), (1, _), (3, _)] rfl ?_
                            refine x_goto C 14 dX6_attackersOf_161 (by decide) ?_
                            exact x_sub [6, 7, 1, 8, 0] (ih (v + 1) (by omega)) rfl
                        · refine x_iload C dX6_attackersOf_126 rfl ?_
                          refine x_iconst C (v := nI 1) dX6_attackersOf_128 (by decide +kernel) ?_
                          refine x_icmp_neN C 142 dX6_attackersOf_129 (by decide) (by omega) (by omega) (fun c129 => ?_) (fun c129 => ?_)
                          · refine x_iconst C (v := nI 0) dX6_attackersOf_142 (by decide +kernel) ?_
                            refine x_istore C dX6_attackersOf_143 (by decide) [(8, _), (7, _), (6, _), (2, _), (5, _), (0, _), (1, _), (3, _), (4, _)] rfl ?_
                            refine x_iload_n C dX6_attackersOf_145 rfl ?_
                            refine x_iload C dX6_attackersOf_146 rfl ?_
                            refine x_if_eqN C 155 dX6_attackersOf_148 (by decide) (by omega) (fun c148 => ?_) (fun c148 => ?_)
                            · refine x_iconst C (v := nI 0) dX6_attackersOf_155 (by decide +kernel) ?_
                              refine x_iaddN C dX6_attackersOf_156 ?_
                              refine x_istore_n C dX6_attackersOf_157 (by decide) [(2, _), (8, _), (7, _), (6, _), (5, _), (0, _), (1, _), (3, _), (4, _)] rfl ?_
                              have hm : mmS s i (5 * u + v) = false := by
                                rw [hmm]
                                unfold metM
                                rw [if_pos (by omega)]
                                exact decide_eq_false (fun z => z.elim c107 (fun z => z.elim (fun z => c123 (by rw [if_pos (show dirO u v < 4 by omega)] at z; exact z)) (fun z => c129 z.1)))
                              have e1 : cnt (mmS s i) (5 * u + v) + 0 + 0 = cnt (mmS s i) (5 * u + v + 1) := by simp [cnt, hm]
                              rw [e1]
                              refine x_iinc C _ dX6_attackersOf_158 rfl (q5_s hv) (by decide) [(4, _), (2, _), (8, _), (7, _), (6, _), (5, _), (0, _), (1, _), (3, _)] rfl ?_
                              refine x_goto C 14 dX6_attackersOf_161 (by decide) ?_
                              exact x_sub [6, 7, 1, 8, 0] (ih (v + 1) (by omega)) rfl
                            · exact absurd rfl c148
                          · refine x_iload C dX6_attackersOf_132 rfl ?_
                            refine x_iconst C (v := nI 1) dX6_attackersOf_134 (by decide +kernel) ?_
                            refine x_icmp_neN C 142 dX6_attackersOf_135 (by decide) (by omega) (by omega) (fun c135 => ?_) (fun c135 => ?_)
                            · refine x_iconst C (v := nI 0) dX6_attackersOf_142 (by decide +kernel) ?_
                              refine x_istore C dX6_attackersOf_143 (by decide) [(8, _), (7, _), (6, _), (2, _), (5, _), (0, _), (1, _), (3, _), (4, _)] rfl ?_
                              refine x_iload_n C dX6_attackersOf_145 rfl ?_
                              refine x_iload C dX6_attackersOf_146 rfl ?_
                              refine x_if_eqN C 155 dX6_attackersOf_148 (by decide) (by omega) (fun c148 => ?_) (fun c148 => ?_)
                              · refine x_iconst C (v := nI 0) dX6_attackersOf_155 (by decide +kernel) ?_
                                refine x_iaddN C dX6_attackersOf_156 ?_
                                refine x_istore_n C dX6_attackersOf_157 (by decide) [(2, _), (8, _), (7, _), (6, _), (5, _), (0, _), (1, _), (3, _), (4, _)] rfl ?_
                                have hm : mmS s i (5 * u + v) = false := by
                                  rw [hmm]
                                  unfold metM
                                  rw [if_pos (by omega)]
                                  exact decide_eq_false (fun z => z.elim c107 (fun z => z.elim (fun z => c123 (by rw [if_pos (show dirO u v < 4 by omega)] at z; exact z)) (fun z => c135 z.2)))
                                have e1 : cnt (mmS s i) (5 * u + v) + 0 + 0 = cnt (mmS s i) (5 * u + v + 1) := by simp [cnt, hm]
                                rw [e1]
                                refine x_iinc C _ dX6_attackersOf_158 rfl (q5_s hv) (by decide) [(4, _), (2, _), (8, _), (7, _), (6, _), (5, _), (0, _), (1, _), (3, _)] rfl ?_
                                refine x_goto C 14 dX6_attackersOf_161 (by decide) ?_
                                exact x_sub [6, 7, 1, 8, 0] (ih (v + 1) (by omega)) rfl
                              · exact absurd rfl c148
                            · refine x_iconst C (v := nI 1) dX6_attackersOf_138 (by decide +kernel) ?_
                              refine x_goto C 143 dX6_attackersOf_139 (by decide) ?_
                              refine x_istore C dX6_attackersOf_143 (by decide) [(8, _), (7, _), (6, _), (2, _), (5, _), (0, _), (1, _), (3, _), (4, _)] rfl ?_
                              refine x_iload_n C dX6_attackersOf_145 rfl ?_
                              refine x_iload C dX6_attackersOf_146 rfl ?_
                              refine x_if_eqN C 155 dX6_attackersOf_148 (by decide) (by omega) (fun c148 => ?_) (fun c148 => ?_)
                              · exact absurd c148 (by decide)
                              · refine x_iconst C (v := nI 1) dX6_attackersOf_151 (by decide +kernel) ?_
                                refine x_goto C 156 dX6_attackersOf_152 (by decide) ?_
                                refine x_iaddN C dX6_attackersOf_156 ?_
                                refine x_istore_n C dX6_attackersOf_157 (by decide) [(2, _), (8, _), (7, _), (6, _), (5, _), (0, _), (1, _), (3, _), (4, _)] rfl ?_
                                have hm : mmS s i (5 * u + v) = true := by
                                  rw [hmm]
                                  unfold metM
                                  rw [if_pos (by omega)]
                                  exact decide_eq_true (Or.inr (Or.inr ⟨c129, c135⟩))
                                have e1 : cnt (mmS s i) (5 * u + v) + 0 + 1 = cnt (mmS s i) (5 * u + v + 1) := by simp [cnt, hm]
                                rw [e1]
                                refine x_iinc C _ dX6_attackersOf_158 rfl (q5_s hv) (by decide) [(4, _), (2, _), (8, _), (7, _), (6, _), (5, _), (0, _), (1, _), (3, _)] rfl ?_
                                refine x_goto C 14 dX6_attackersOf_161 (by decide) ?_
                                exact x_sub [6, 7, 1, 8, 0] (ih (v + 1) (by omega)) rfl
            · refine x_aload_n C dX6_attackersOf_38 rfl ?_
              refine x_iload_n C dX6_attackersOf_39 rfl ?_
              refine x_iload_n C dX6_attackersOf_40 rfl ?_
              refine x_iload C dX6_attackersOf_41 rfl ?_
              refine x_callV3i C (awQ1 hi hu hv (by omega)) lkX6_92 miX6_away msX6_away maX6_away ⟨Nat.le_of_ble_eq_true rfl, Nat.le_of_ble_eq_true rfl⟩ (Nat.le_of_ble_eq_true rfl) rfl rfl dX6_attackersOf_43 ?_
              refine x_iconst C (v := nI 5) dX6_attackersOf_46 (by decide +kernel) ?_
              refine x_icmp_ne C 54 dX6_attackersOf_47 (by decide) (fun c47 => ?_) (fun c47 => ?_)
              · refine x_iconst C (v := nI 0) dX6_attackersOf_54 (by decide +kernel) ?_
                refine x_iaddN C dX6_attackersOf_55 ?_
                refine x_istore_n C dX6_attackersOf_56 (by decide) [(2, _), (5, _), (0, _), (1, _), (3, _), (4, _)] rfl ?_
                refine x_iload C dX6_attackersOf_57 rfl ?_
                refine x_iconst C (v := nI 1) dX6_attackersOf_59 (by decide +kernel) ?_
                refine x_icmp_eqN C 69 dX6_attackersOf_60 (by decide) (by omega) (by omega) (fun c60 => ?_) (fun c60 => ?_)
                · omega
                · refine x_iload C dX6_attackersOf_63 rfl ?_
                  refine x_iconst C (v := nI 2) dX6_attackersOf_65 (by decide +kernel) ?_
                  refine x_icmp_neN C 158 dX6_attackersOf_66 (by decide) (by omega) (by omega) (fun c66 => ?_) (fun c66 => ?_)
                  · have hm : mmS s i (5 * u + v) = false := by
                      rw [hmm]
                      unfold metM
                      rw [if_neg (by omega), if_pos (by omega)]
                      exact decide_eq_false c47
                    have e1 : cnt (mmS s i) (5 * u + v) + 0 = cnt (mmS s i) (5 * u + v + 1) := by simp [cnt, hm]
                    rw [e1]
                    refine x_iinc C _ dX6_attackersOf_158 rfl (q5_s hv) (by decide) [(4, _), (2, _), (5, _), (0, _), (1, _), (3, _)] rfl ?_
                    refine x_goto C 14 dX6_attackersOf_161 (by decide) ?_
                    exact x_sub [3, 4, 1, 5, 0] (ih (v + 1) (by omega)) rfl
                  · omega
              · refine x_iconst C (v := nI 1) dX6_attackersOf_50 (by decide +kernel) ?_
                refine x_goto C 55 dX6_attackersOf_51 (by decide) ?_
                refine x_iaddN C dX6_attackersOf_55 ?_
                refine x_istore_n C dX6_attackersOf_56 (by decide) [(2, _), (5, _), (0, _), (1, _), (3, _), (4, _)] rfl ?_
                refine x_iload C dX6_attackersOf_57 rfl ?_
                refine x_iconst C (v := nI 1) dX6_attackersOf_59 (by decide +kernel) ?_
                refine x_icmp_eqN C 69 dX6_attackersOf_60 (by decide) (by omega) (by omega) (fun c60 => ?_) (fun c60 => ?_)
                · omega
                · refine x_iload C dX6_attackersOf_63 rfl ?_
                  refine x_iconst C (v := nI 2) dX6_attackersOf_65 (by decide +kernel) ?_
                  refine x_icmp_neN C 158 dX6_attackersOf_66 (by decide) (by omega) (by omega) (fun c66 => ?_) (fun c66 => ?_)
                  · have hm : mmS s i (5 * u + v) = true := by
                      rw [hmm]
                      unfold metM
                      rw [if_neg (by omega), if_pos (by omega)]
                      exact decide_eq_true c47
                    have e1 : cnt (mmS s i) (5 * u + v) + 1 = cnt (mmS s i) (5 * u + v + 1) := by simp [cnt, hm]
                    rw [e1]
                    refine x_iinc C _ dX6_attackersOf_158 rfl (q5_s hv) (by decide) [(4, _), (2, _), (5, _), (0, _), (1, _), (3, _)] rfl ?_
                    refine x_goto C 14 dX6_attackersOf_161 (by decide) ?_
                    exact x_sub [3, 4, 1, 5, 0] (ih (v + 1) (by omega)) rfl
                  · omega
      refine x_iload_n C dX6_attackersOf_5 rfl ?_
      refine x_iconst C (v := nI 2) dX6_attackersOf_6 (by decide +kernel) ?_
      refine x_icmp_gt C 170 dX6_attackersOf_7 (by decide) (fun c7 => ?_) (fun c7 => ?_)
      · exact absurd ((q5_2 (show u < 6 by omega)).mp c7) (by omega)
      · refine x_bipush C (v := (-2)) dX6_attackersOf_10 (by decide +kernel) ?_
        refine x_top (show (-2 : Int32) = q5 0 by decide +kernel) ?_
        refine x_istore C dX6_attackersOf_12 (by decide) [(4, _), (0, _), (1, _), (2, _), (3, _)] rfl ?_
        exact x_sub [1, 2, 3, 4, 0] (L2 5 0 (by omega)) rfl
  refine x_iconst C (v := nI 0) dX6_attackersOf_0 (by decide +kernel) ?_
  refine x_istore_n C dX6_attackersOf_1 (by decide) [(2, _), (0, _), (1, _)] rfl ?_
  refine x_bipush C (v := (-2)) dX6_attackersOf_2 (by decide +kernel) ?_
  refine x_top (show (-2 : Int32) = q5 0 by decide +kernel) ?_
  refine x_istore_n C dX6_attackersOf_4 (by decide) [(3, _), (2, _), (0, _), (1, _)] rfl ?_
  exact x_sub [2, 3, 1, 0] (L1 5 0 (by omega)) rfl
