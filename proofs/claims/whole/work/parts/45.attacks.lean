/-! the reference: attacks, moves -/
def cI (i j : Nat) : Int := ((j % 5 : Nat) : Int) - ((i % 5 : Nat) : Int)
def rI (i j : Nat) : Int := ((j / 5 : Nat) : Int) - ((i / 5 : Nat) : Int)
def ca (i j : Nat) : Nat := (cI i j).natAbs
def ra (i j : Nat) : Nat := (rI i j).natAbs
def farN (i j : Nat) : Nat := max (ca i j) (ra i j)
def e3 (i j : Nat) : Nat := ca i j * ca i j + ra i j * ra i j
def dirT (i j : Nat) : Nat := ((List.range 8).find? (fun d => decide (0 < farN i j) && (decide ((farN i j : Int) * dcI d = cI i j) && decide ((farN i j : Int) * drI d = rI i j)))).getD 16
def c32 (i j : Nat) : Int32 := nI (j % 5) - nI (i % 5)
def r32 (i j : Nat) : Int32 := nI (j / 5) - nI (i / 5)
def ab (x : Int32) : Int32 := if 0 ≤ x then x else 0 - x
def agOk (i j : Nat) : Bool := decide (ab (c32 i j) = nI (ca i j)) && decide (ab (r32 i j) = nI (ra i j)) && (decide (c32 i j = 0) == decide (ca i j = 0)) && (decide (r32 i j = 0) == decide (ra i j = 0)) && decide (ca i j < 5) && decide (ra i j < 5) && decide (c32 i j * c32 i j + r32 i j * r32 i j = nI (e3 i j)) && decide (e3 i j < 50) &&
  (!(decide (0 < farN i j) && (decide (ca i j = 0) || decide (ra i j = 0) || decide (ca i j = ra i j))) || (decide (dirT i j < 8) && decide (c32 i j / nI (farN i j) = q_sc (dirT i j)) && decide (r32 i j / nI (farN i j) = q_sr (dirT i j))))
theorem agOk_all : ∀ i j : Fin 25, agOk i j = true := by decide +kernel
theorem ag_facts {i j : Nat} (hi : i < 25) (hj : j < 25) : ab (c32 i j) = nI (ca i j) ∧ ab (r32 i j) = nI (ra i j) ∧ (c32 i j = 0 ↔ ca i j = 0) ∧ (r32 i j = 0 ↔ ra i j = 0) ∧ ca i j < 5 ∧ ra i j < 5 ∧ c32 i j * c32 i j + r32 i j * r32 i j = nI (e3 i j) ∧ e3 i j < 50 ∧ (0 < farN i j → ca i j = 0 ∨ ra i j = 0 ∨ ca i j = ra i j → dirT i j < 8 ∧ c32 i j / nI (farN i j) = q_sc (dirT i j) ∧ r32 i j / nI (farN i j) = q_sr (dirT i j)) := by
  have h : agOk i j = true := agOk_all ⟨i, hi⟩ ⟨j, hj⟩
  unfold agOk at h
  simp only [Bool.and_eq_true, Bool.or_eq_true, decide_eq_true_eq, beq_iff_eq, decide_eq_decide, Bool.not_eq_true', Bool.and_eq_false_iff, Bool.or_eq_false_iff, decide_eq_false_iff_not] at h
  obtain ⟨⟨⟨⟨⟨⟨⟨⟨h1, h2⟩, h3⟩, h4⟩, h5⟩, h6⟩, h7⟩, h8⟩, h9⟩ := h
  refine ⟨h1, h2, h3, h4, h5, h6, h7, h8, fun hf ho => ?_⟩
  rcases h9 with h9 | h9
  · exfalso
    rcases h9 with h9 | h9
    · exact h9 hf
    · obtain ⟨⟨z1, z2⟩, z3⟩ := h9
      rcases ho with q | q | q
      · exact z1 q
      · exact z2 q
      · exact z3 q
  · exact ⟨h9.1.1, h9.1.2, h9.2⟩
theorem mx_nI {a b : Nat} (ha : a < 2147483648) (hb : b < 2147483648) : (if nI a < nI b then nI b else nI a) = nI (max a b) := by
  by_cases h : a < b
  · rw [if_pos ((nI_ltI ha hb).mpr h), show max a b = b by omega]
  · rw [if_neg (fun z => h ((nI_ltI ha hb).mp z)), show max a b = a by omega]
def atM (s : Nat → Nat) (i j : Nat) : Bool :=
  if s i = 5 then decide (e3 i j = 5) else if s i = 1 ∨ s i = 7 then decide (farN i j = 1)
  else decide (0 < farN i j ∧ ((s i ≠ 4 ∧ (ca i j = 0 ∨ ra i j = 0)) ∨ (s i ≠ 3 ∧ ca i j = ra i j)) ∧ 2 ≤ s i ∧ s i ≤ 4 ∧ (fst s i (dirT i j) = 0 ∨ farN i j ≤ fst s i (dirT i j)))
set_option maxHeartbeats 4000000 in
set_option maxRecDepth 100000 in
theorem okX6_attacks {P : qPs} {Hs : qHs} {T : qTs} {L : qLs} {S : qSs} {V : qVs} {mr : qmr} {mm : qmm} {ml : qml} {mt : qmt} {s bf sv past : Nat → Nat} {isv : Bool} {pm : Nat} (hs : ∀ i, i < 25 → s i < 8) {i j : Nat} (hi : i < 25) (hj : j < 25) : Ok MX6_attacks [.ref 40, .int (nI i), .int (nI j)] (HH P Hs T L S V (s, bf, sv, past, isv, pm) mr mm ml mt) (some (.int (qb (atM s i j)))) (HH P Hs T L S V (s, bf, sv, past, isv, pm) mr mm ml mt) := by
  refine ok_of (by decide +kernel) (Nat.zero_le _) (Nat.le_of_ble_eq_true rfl) ?_
  intro X C E
  show Ex X MX6_attacks 0 [(0, .ref 40), (1, .int (nI i)), (2, .int (nI j))] [] (HH P Hs T L S V (s, bf, sv, past, isv, pm) mr mm ml mt)
  have hsi := hs i hi
  obtain ⟨ha1, ha2, ha3, ha4, ha5, ha6, ha7, ha8, ha9⟩ := ag_facts hi hj
  have hff : farN i j = max (ca i j) (ra i j) := rfl
  have hfl := fst_le s i (dirT i j)
  unfold farN at ha9
  refine x_iload_n C dX6_attacks_0 rfl ?_
  refine x_iconst C (v := nI 5) dX6_attacks_1 (by decide +kernel) ?_
  refine x_iremN C dX6_attacks_2 (by omega) (by decide) (by decide) ?_
  refine x_iload_n C dX6_attacks_3 rfl ?_
  refine x_iconst C (v := nI 5) dX6_attacks_4 (by decide +kernel) ?_
  refine x_iremN C dX6_attacks_5 (by omega) (by decide) (by decide) ?_
  refine x_isub C dX6_attacks_6 ?_
  refine x_istore_n C dX6_attacks_7 (by decide) [(3, _), (0, _), (1, _), (2, _)] rfl ?_
  refine x_iload_n C dX6_attacks_8 rfl ?_
  refine x_iconst C (v := nI 5) dX6_attacks_9 (by decide +kernel) ?_
  refine x_idivN C dX6_attacks_10 (by omega) (by decide) (by decide) ?_
  refine x_iload_n C dX6_attacks_11 rfl ?_
  refine x_iconst C (v := nI 5) dX6_attacks_12 (by decide +kernel) ?_
  refine x_idivN C dX6_attacks_13 (by omega) (by decide) (by decide) ?_
  refine x_isub C dX6_attacks_14 ?_
  refine x_istore C dX6_attacks_15 (by decide) [(4, _), (3, _), (0, _), (1, _), (2, _)] rfl ?_
  refine x_iload_n C dX6_attacks_17 rfl ?_
  refine x_mabs C lkX6_99 ⟨Nat.le_of_ble_eq_true rfl, Nat.le_of_ble_eq_true rfl⟩ (Nat.le_of_ble_eq_true rfl) dX6_attacks_18 ?_
  refine x_top ha1 ?_
  refine x_iload C dX6_attacks_21 rfl ?_
  refine x_mabs C lkX6_99 ⟨Nat.le_of_ble_eq_true rfl, Nat.le_of_ble_eq_true rfl⟩ (Nat.le_of_ble_eq_true rfl) dX6_attacks_23 ?_
  refine x_top ha2 ?_
  refine x_mmax C lkX6_104 ⟨Nat.le_of_ble_eq_true rfl, Nat.le_of_ble_eq_true rfl⟩ (Nat.le_of_ble_eq_true rfl) dX6_attacks_26 ?_
  refine x_top (mx_nI (by omega) (by omega)) ?_
  refine x_istore C dX6_attacks_29 (by decide) [(5, _), (4, _), (3, _), (0, _), (1, _), (2, _)] rfl ?_
  refine x_aload_n C dX6_attacks_31 rfl ?_
  refine x_getfield C qk6 0 (by decide) lfX6_9 dX6_attacks_32 rfl rfl ?_
  refine x_iload_n C dX6_attacks_35 rfl ?_
  refine x_iald C dX6_attacks_36 HM_s (by omega) (by decide) ?_
  refine x_istore C dX6_attacks_37 (by decide) [(6, _), (5, _), (4, _), (3, _), (0, _), (1, _), (2, _)] rfl ?_
  refine x_iload C dX6_attacks_39 rfl ?_
  refine x_iconst C (v := nI 5) dX6_attacks_41 (by decide +kernel) ?_
  refine x_icmp_neN C 64 dX6_attacks_42 (by decide) (by omega) (by omega) (fun c42 => ?_) (fun c42 => ?_)
  · refine x_iload C dX6_attacks_64 rfl ?_
    refine x_iconst C (v := nI 1) dX6_attacks_66 (by decide +kernel) ?_
    refine x_icmp_eqN C 77 dX6_attacks_67 (by decide) (by omega) (by omega) (fun c67 => ?_) (fun c67 => ?_)
    · have h17 : s i = 1 ∨ s i = 7 := Or.inl c67
      refine x_iload C dX6_attacks_77 rfl ?_
      refine x_iconst C (v := nI 1) dX6_attacks_79 (by decide +kernel) ?_
      refine x_icmp_neN C 87 dX6_attacks_80 (by decide) (by omega) (by omega) (fun c80 => ?_) (fun c80 => ?_)
      · refine x_iconst C (v := nI 0) dX6_attacks_87 (by decide +kernel) ?_
        exact x_iret E .boolean dX6_attacks_88 rfl rfl (by have e : atM s i j = false := (by unfold atM; rw [if_neg c42, if_pos h17]; exact decide_eq_false c80); rw [e]; rfl) rfl
      · refine x_iconst C (v := nI 1) dX6_attacks_83 (by decide +kernel) ?_
        refine x_goto C 88 dX6_attacks_84 (by decide) ?_
        exact x_iret E .boolean dX6_attacks_88 rfl rfl (by have e : atM s i j = true := (by unfold atM; rw [if_neg c42, if_pos h17]; exact decide_eq_true c80); rw [e]; rfl) rfl
    · refine x_iload C dX6_attacks_70 rfl ?_
      refine x_bipush C (v := nI 7) dX6_attacks_72 (by decide +kernel) ?_
      refine x_icmp_neN C 89 dX6_attacks_74 (by decide) (by omega) (by omega) (fun c74 => ?_) (fun c74 => ?_)
      · have h17 : ¬ (s i = 1 ∨ s i = 7) := by omega
        refine x_iload_n C dX6_attacks_89 rfl ?_
        refine x_if_eq C 98 dX6_attacks_90 (by decide) (fun c90 => ?_) (fun c90 => ?_)
        · have g90 := ha3.mp c90
          refine x_iconst C (v := nI 1) dX6_attacks_98 (by decide +kernel) ?_
          refine x_goto C 103 dX6_attacks_99 (by decide) ?_
          refine x_istore C dX6_attacks_103 (by decide) [(7, _), (6, _), (5, _), (4, _), (3, _), (0, _), (1, _), (2, _)] rfl ?_
          refine x_iload_n C dX6_attacks_105 rfl ?_
          refine x_mabs C lkX6_99 ⟨Nat.le_of_ble_eq_true rfl, Nat.le_of_ble_eq_true rfl⟩ (Nat.le_of_ble_eq_true rfl) dX6_attacks_106 ?_
          refine x_top ha1 ?_
          refine x_iload C dX6_attacks_109 rfl ?_
          refine x_mabs C lkX6_99 ⟨Nat.le_of_ble_eq_true rfl, Nat.le_of_ble_eq_true rfl⟩ (Nat.le_of_ble_eq_true rfl) dX6_attacks_111 ?_
          refine x_top ha2 ?_
          refine x_icmp_neN C 121 dX6_attacks_114 (by decide) (by omega) (by omega) (fun c114 => ?_) (fun c114 => ?_)
          · refine x_iconst C (v := nI 0) dX6_attacks_121 (by decide +kernel) ?_
            refine x_istore C dX6_attacks_122 (by decide) [(8, _), (7, _), (6, _), (5, _), (4, _), (3, _), (0, _), (1, _), (2, _)] rfl ?_
            refine x_iload C dX6_attacks_124 rfl ?_
            refine x_if_leN C 155 dX6_attacks_126 (by decide) (by omega) (fun c126 => ?_) (fun c126 => ?_)
            · refine x_iconst C (v := nI 0) dX6_attacks_155 (by decide +kernel) ?_
              refine x_istore C dX6_attacks_156 (by decide) [(9, _), (8, _), (7, _), (6, _), (5, _), (4, _), (3, _), (0, _), (1, _), (2, _)] rfl ?_
              refine x_iload C dX6_attacks_158 rfl ?_
              refine x_if_eqN C 173 dX6_attacks_160 (by decide) (by omega) (fun c160 => ?_) (fun c160 => ?_)
              · refine x_iconst C (v := nI 0) dX6_attacks_173 (by decide +kernel) ?_
                exact x_iret E .boolean dX6_attacks_174 rfl rfl (by have e : atM s i j = false := (by unfold atM; rw [if_neg c42, if_neg h17]; exact decide_eq_false (by omega)); rw [e]; rfl) rfl
              · exact absurd rfl c160
            · refine x_iload C dX6_attacks_129 rfl ?_
              refine x_iconst C (v := nI 4) dX6_attacks_131 (by decide +kernel) ?_
              refine x_icmp_eqN C 140 dX6_attacks_132 (by decide) (by omega) (by omega) (fun c132 => ?_) (fun c132 => ?_)
              · refine x_iload C dX6_attacks_140 rfl ?_
                refine x_iconst C (v := nI 3) dX6_attacks_142 (by decide +kernel) ?_
                refine x_icmp_eqN C 155 dX6_attacks_143 (by decide) (by omega) (by omega) (fun c143 => ?_) (fun c143 => ?_)
                · refine x_iconst C (v := nI 0) dX6_attacks_155 (by decide +kernel) ?_
                  refine x_istore C dX6_attacks_156 (by decide) [(9, _), (8, _), (7, _), (6, _), (5, _), (4, _), (3, _), (0, _), (1, _), (2, _)] rfl ?_
                  refine x_iload C dX6_attacks_158 rfl ?_
                  refine x_if_eqN C 173 dX6_attacks_160 (by decide) (by omega) (fun c160 => ?_) (fun c160 => ?_)
                  · refine x_iconst C (v := nI 0) dX6_attacks_173 (by decide +kernel) ?_
                    exact x_iret E .boolean dX6_attacks_174 rfl rfl (by have e : atM s i j = false := (by unfold atM; rw [if_neg c42, if_neg h17]; exact decide_eq_false (by omega)); rw [e]; rfl) rfl
                  · exact absurd rfl c160
                · refine x_iload C dX6_attacks_146 rfl ?_
                  refine x_if_eqN C 155 dX6_attacks_148 (by decide) (by omega) (fun c148 => ?_) (fun c148 => ?_)
                  · refine x_iconst C (v := nI 0) dX6_attacks_155 (by decide +kernel) ?_
                    refine x_istore C dX6_attacks_156 (by decide) [(9, _), (8, _), (7, _), (6, _), (5, _), (4, _), (3, _), (0, _), (1, _), (2, _)] rfl ?_
                    refine x_iload C dX6_attacks_158 rfl ?_
                    refine x_if_eqN C 173 dX6_attacks_160 (by decide) (by omega) (fun c160 => ?_) (fun c160 => ?_)
                    · refine x_iconst C (v := nI 0) dX6_attacks_173 (by decide +kernel) ?_
                      exact x_iret E .boolean dX6_attacks_174 rfl rfl (by have e : atM s i j = false := (by unfold atM; rw [if_neg c42, if_neg h17]; exact decide_eq_false (by omega)); rw [e]; rfl) rfl
                    · exact absurd rfl c160
                  · exact absurd rfl c148
              · refine x_iload C dX6_attacks_135 rfl ?_
                refine x_if_neN C 151 dX6_attacks_137 (by decide) (by omega) (fun c137 => ?_) (fun c137 => ?_)
                · refine x_iconst C (v := nI 1) dX6_attacks_151 (by decide +kernel) ?_
                  refine x_goto C 156 dX6_attacks_152 (by decide) ?_
                  refine x_istore C dX6_attacks_156 (by decide) [(9, _), (8, _), (7, _), (6, _), (5, _), (4, _), (3, _), (0, _), (1, _), (2, _)] rfl ?_
                  refine x_iload C dX6_attacks_158 rfl ?_
                  refine x_if_eqN C 173 dX6_attacks_160 (by decide) (by omega) (fun c160 => ?_) (fun c160 => ?_)
                  · exact absurd c160 (by decide)
                  · refine x_iload C dX6_attacks_163 rfl ?_
                    refine x_iconst C (v := nI 2) dX6_attacks_165 (by decide +kernel) ?_
                    refine x_iconst C (v := nI 4) dX6_attacks_166 (by decide +kernel) ?_
                    refine x_callS3i C (okX6_in _ _ _ _) lkX6_60 miX6_in mtX6_in maX6_in ⟨Nat.le_of_ble_eq_true rfl, Nat.le_of_ble_eq_true rfl⟩ (Nat.le_of_ble_eq_true rfl) dX6_attacks_167 ?_
                    rw [inB_nI (by omega) (by decide) (by decide)]
                    refine x_if_neB C 175 dX6_attacks_170 (by decide) (fun c170 => ?_) (fun c170 => ?_)
                    · have hfp : 0 < max (ca i j) (ra i j) := Nat.pos_of_ne_zero c126
                      have hal : ca i j = 0 ∨ ra i j = 0 ∨ ca i j = ra i j := by omega
                      have hm24 := of_decide_eq_true c170
                      refine x_aload_n C dX6_attacks_175 rfl ?_
                      refine x_iload_n C dX6_attacks_176 rfl ?_
                      refine x_iload_n C dX6_attacks_177 rfl ?_
                      refine x_iload C dX6_attacks_178 rfl ?_
                      refine x_idiv C dX6_attacks_180 (nI_ne (by exact hfp) (by omega)) ?_
                      refine x_top (ha9 hfp hal).2.1 ?_
                      refine x_iload C dX6_attacks_181 rfl ?_
                      refine x_iload C dX6_attacks_183 rfl ?_
                      refine x_idiv C dX6_attacks_185 (nI_ne (by exact hfp) (by omega)) ?_
                      refine x_top (ha9 hfp hal).2.2 ?_
                      refine x_callV3i C (okX6_firstAt hs hi (ha9 hfp hal).1) lkX6_96 miX6_firstAt msX6_firstAt maX6_firstAt ⟨Nat.le_of_ble_eq_true rfl, Nat.le_of_ble_eq_true rfl⟩ (Nat.le_of_ble_eq_true rfl) rfl rfl dX6_attacks_186 ?_
                      refine x_istore C dX6_attacks_189 (by decide) [(10, _), (9, _), (8, _), (7, _), (6, _), (5, _), (4, _), (3, _), (0, _), (1, _), (2, _)] rfl ?_
                      refine x_iload C dX6_attacks_191 rfl ?_
                      refine x_if_eqN C 203 dX6_attacks_193 (by decide) (by omega) (fun c193 => ?_) (fun c193 => ?_)
                      · refine x_iconst C (v := nI 1) dX6_attacks_203 (by decide +kernel) ?_
                        refine x_goto C 208 dX6_attacks_204 (by decide) ?_
                        exact x_iret E .boolean dX6_attacks_208 rfl rfl (by have e : atM s i j = true := (by unfold atM; rw [if_neg c42, if_neg h17]; exact decide_eq_true (by omega)); rw [e]; rfl) rfl
                      · refine x_iload C dX6_attacks_196 rfl ?_
                        refine x_iload C dX6_attacks_198 rfl ?_
                        refine x_icmp_ltN C 207 dX6_attacks_200 (by decide) (by omega) (by omega) (fun c200 => ?_) (fun c200 => ?_)
                        · refine x_iconst C (v := nI 0) dX6_attacks_207 (by decide +kernel) ?_
                          exact x_iret E .boolean dX6_attacks_208 rfl rfl (by have e : atM s i j = false := (by unfold atM; rw [if_neg c42, if_neg h17]; exact decide_eq_false (by omega)); rw [e]; rfl) rfl
                        · refine x_iconst C (v := nI 1) dX6_attacks_203 (by decide +kernel) ?_
                          refine x_goto C 208 dX6_attacks_204 (by decide) ?_
                          exact x_iret E .boolean dX6_attacks_208 rfl rfl (by have e : atM s i j = true := (by unfold atM; rw [if_neg c42, if_neg h17]; exact decide_eq_true (by omega)); rw [e]; rfl) rfl
                    · have hm24 := of_decide_eq_false c170
                      refine x_iconst C (v := nI 0) dX6_attacks_173 (by decide +kernel) ?_
                      exact x_iret E .boolean dX6_attacks_174 rfl rfl (by have e : atM s i j = false := (by unfold atM; rw [if_neg c42, if_neg h17]; exact decide_eq_false (by omega)); rw [e]; rfl) rfl
                · exact absurd c137 (by decide)
          · refine x_iconst C (v := nI 1) dX6_attacks_117 (by decide +kernel) ?_
            refine x_goto C 122 dX6_attacks_118 (by decide) ?_
            refine x_istore C dX6_attacks_122 (by decide) [(8, _), (7, _), (6, _), (5, _), (4, _), (3, _), (0, _), (1, _), (2, _)] rfl ?_
            refine x_iload C dX6_attacks_124 rfl ?_
            refine x_if_leN C 155 dX6_attacks_126 (by decide) (by omega) (fun c126 => ?_) (fun c126 => ?_)
            · refine x_iconst C (v := nI 0) dX6_attacks_155 (by decide +kernel) ?_
              refine x_istore C dX6_attacks_156 (by decide) [(9, _), (8, _), (7, _), (6, _), (5, _), (4, _), (3, _), (0, _), (1, _), (2, _)] rfl ?_
              refine x_iload C dX6_attacks_158 rfl ?_
              refine x_if_eqN C 173 dX6_attacks_160 (by decide) (by omega) (fun c160 => ?_) (fun c160 => ?_)
              · refine x_iconst C (v := nI 0) dX6_attacks_173 (by decide +kernel) ?_
                exact x_iret E .boolean dX6_attacks_174 rfl rfl (by have e : atM s i j = false := (by unfold atM; rw [if_neg c42, if_neg h17]; exact decide_eq_false (by omega)); rw [e]; rfl) rfl
              · exact absurd rfl c160
            · refine x_iload C dX6_attacks_129 rfl ?_
              refine x_iconst C (v := nI 4) dX6_attacks_131 (by decide +kernel) ?_
              refine x_icmp_eqN C 140 dX6_attacks_132 (by decide) (by omega) (by omega) (fun c132 => ?_) (fun c132 => ?_)
              · refine x_iload C dX6_attacks_140 rfl ?_
                refine x_iconst C (v := nI 3) dX6_attacks_142 (by decide +kernel) ?_
                refine x_icmp_eqN C 155 dX6_attacks_143 (by decide) (by omega) (by omega) (fun c143 => ?_) (fun c143 => ?_)
                · refine x_iconst C (v := nI 0) dX6_attacks_155 (by decide +kernel) ?_
                  refine x_istore C dX6_attacks_156 (by decide) [(9, _), (8, _), (7, _), (6, _), (5, _), (4, _), (3, _), (0, _), (1, _), (2, _)] rfl ?_
                  refine x_iload C dX6_attacks_158 rfl ?_
                  refine x_if_eqN C 173 dX6_attacks_160 (by decide) (by omega) (fun c160 => ?_) (fun c160 => ?_)
                  · refine x_iconst C (v := nI 0) dX6_attacks_173 (by decide +kernel) ?_
                    exact x_iret E .boolean dX6_attacks_174 rfl rfl (by have e : atM s i j = false := (by unfold atM; rw [if_neg c42, if_neg h17]; exact decide_eq_false (by omega)); rw [e]; rfl) rfl
                  · exact absurd rfl c160
                · refine x_iload C dX6_attacks_146 rfl ?_
                  refine x_if_eqN C 155 dX6_attacks_148 (by decide) (by omega) (fun c148 => ?_) (fun c148 => ?_)
                  · exact absurd c148 (by decide)
                  · refine x_iconst C (v := nI 1) dX6_attacks_151 (by decide +kernel) ?_
                    refine x_goto C 156 dX6_attacks_152 (by decide) ?_
                    refine x_istore C dX6_attacks_156 (by decide) [(9, _), (8, _), (7, _), (6, _), (5, _), (4, _), (3, _), (0, _), (1, _), (2, _)] rfl ?_
                    refine x_iload C dX6_attacks_158 rfl ?_
                    refine x_if_eqN C 173 dX6_attacks_160 (by decide) (by omega) (fun c160 => ?_) (fun c160 => ?_)
                    · exact absurd c160 (by decide)
                    · refine x_iload C dX6_attacks_163 rfl ?_
                      refine x_iconst C (v := nI 2) dX6_attacks_165 (by decide +kernel) ?_
                      refine x_iconst C (v := nI 4) dX6_attacks_166 (by decide +kernel) ?_
                      refine x_callS3i C (okX6_in _ _ _ _) lkX6_60 miX6_in mtX6_in maX6_in ⟨Nat.le_of_ble_eq_true rfl, Nat.le_of_ble_eq_true rfl⟩ (Nat.le_of_ble_eq_true rfl) dX6_attacks_167 ?_
                      rw [inB_nI (by omega) (by decide) (by decide)]
                      refine x_if_neB C 175 dX6_attacks_170 (by decide) (fun c170 => ?_) (fun c170 => ?_)
                      · have hfp : 0 < max (ca i j) (ra i j) := Nat.pos_of_ne_zero c126
                        have hal : ca i j = 0 ∨ ra i j = 0 ∨ ca i j = ra i j := by omega
                        have hm24 := of_decide_eq_true c170
                        refine x_aload_n C dX6_attacks_175 rfl ?_
                        refine x_iload_n C dX6_attacks_176 rfl ?_
                        refine x_iload_n C dX6_attacks_177 rfl ?_
                        refine x_iload C dX6_attacks_178 rfl ?_
                        refine x_idiv C dX6_attacks_180 (nI_ne (by exact hfp) (by omega)) ?_
                        refine x_top (ha9 hfp hal).2.1 ?_
                        refine x_iload C dX6_attacks_181 rfl ?_
                        refine x_iload C dX6_attacks_183 rfl ?_
                        refine x_idiv C dX6_attacks_185 (nI_ne (by exact hfp) (by omega)) ?_
                        refine x_top (ha9 hfp hal).2.2 ?_
                        refine x_callV3i C (okX6_firstAt hs hi (ha9 hfp hal).1) lkX6_96 miX6_firstAt msX6_firstAt maX6_firstAt ⟨Nat.le_of_ble_eq_true rfl, Nat.le_of_ble_eq_true rfl⟩ (Nat.le_of_ble_eq_true rfl) rfl rfl dX6_attacks_186 ?_
                        refine x_istore C dX6_attacks_189 (by decide) [(10, _), (9, _), (8, _), (7, _), (6, _), (5, _), (4, _), (3, _), (0, _), (1, _), (2, _)] rfl ?_
                        refine x_iload C dX6_attacks_191 rfl ?_
                        refine x_if_eqN C 203 dX6_attacks_193 (by decide) (by omega) (fun c193 => ?_) (fun c193 => ?_)
                        · refine x_iconst C (v := nI 1) dX6_attacks_203 (by decide +kernel) ?_
                          refine x_goto C 208 dX6_attacks_204 (by decide) ?_
                          exact x_iret E .boolean dX6_attacks_208 rfl rfl (by have e : atM s i j = true := (by unfold atM; rw [if_neg c42, if_neg h17]; exact decide_eq_true (by omega)); rw [e]; rfl) rfl
                        · refine x_iload C dX6_attacks_196 rfl ?_
                          refine x_iload C dX6_attacks_198 rfl ?_
                          refine x_icmp_ltN C 207 dX6_attacks_200 (by decide) (by omega) (by omega) (fun c200 => ?_) (fun c200 => ?_)
                          · refine x_iconst C (v := nI 0) dX6_attacks_207 (by decide +kernel) ?_
                            exact x_iret E .boolean dX6_attacks_208 rfl rfl (by have e : atM s i j = false := (by unfold atM; rw [if_neg c42, if_neg h17]; exact decide_eq_false (by omega)); rw [e]; rfl) rfl
                          · refine x_iconst C (v := nI 1) dX6_attacks_203 (by decide +kernel) ?_
                            refine x_goto C 208 dX6_attacks_204 (by decide) ?_
                            exact x_iret E .boolean dX6_attacks_208 rfl rfl (by have e : atM s i j = true := (by unfold atM; rw [if_neg c42, if_neg h17]; exact decide_eq_true (by omega)); rw [e]; rfl) rfl
                      · have hm24 := of_decide_eq_false c170
                        refine x_iconst C (v := nI 0) dX6_attacks_173 (by decide +kernel) ?_
                        exact x_iret E .boolean dX6_attacks_174 rfl rfl (by have e : atM s i j = false := (by unfold atM; rw [if_neg c42, if_neg h17]; exact decide_eq_false (by omega)); rw [e]; rfl) rfl
              · refine x_iload C dX6_attacks_135 rfl ?_
                refine x_if_neN C 151 dX6_attacks_137 (by decide) (by omega) (fun c137 => ?_) (fun c137 => ?_)
                · refine x_iconst C (v := nI 1) dX6_attacks_151 (by decide +kernel) ?_
                  refine x_goto C 156 dX6_attacks_152 (by decide) ?_
                  refine x_istore C dX6_attacks_156 (by decide) [(9, _), (8, _), (7, _), (6, _), (5, _), (4, _), (3, _), (0, _), (1, _), (2, _)] rfl ?_
                  refine x_iload C dX6_attacks_158 rfl ?_
                  refine x_if_eqN C 173 dX6_attacks_160 (by decide) (by omega) (fun c160 => ?_) (fun c160 => ?_)
                  · exact absurd c160 (by decide)
                  · refine x_iload C dX6_attacks_163 rfl ?_
                    refine x_iconst C (v := nI 2) dX6_attacks_165 (by decide +kernel) ?_
                    refine x_iconst C (v := nI 4) dX6_attacks_166 (by decide +kernel) ?_
                    refine x_callS3i C (okX6_in _ _ _ _) lkX6_60 miX6_in mtX6_in maX6_in ⟨Nat.le_of_ble_eq_true rfl, Nat.le_of_ble_eq_true rfl⟩ (Nat.le_of_ble_eq_true rfl) dX6_attacks_167 ?_
                    rw [inB_nI (by omega) (by decide) (by decide)]
                    refine x_if_neB C 175 dX6_attacks_170 (by decide) (fun c170 => ?_) (fun c170 => ?_)
                    · have hfp : 0 < max (ca i j) (ra i j) := Nat.pos_of_ne_zero c126
                      have hal : ca i j = 0 ∨ ra i j = 0 ∨ ca i j = ra i j := by omega
                      have hm24 := of_decide_eq_true c170
                      refine x_aload_n C dX6_attacks_175 rfl ?_
                      refine x_iload_n C dX6_attacks_176 rfl ?_
                      refine x_iload_n C dX6_attacks_177 rfl ?_
                      refine x_iload C dX6_attacks_178 rfl ?_
                      refine x_idiv C dX6_attacks_180 (nI_ne (by exact hfp) (by omega)) ?_
                      refine x_top (ha9 hfp hal).2.1 ?_
                      refine x_iload C dX6_attacks_181 rfl ?_
                      refine x_iload C dX6_attacks_183 rfl ?_
                      refine x_idiv C dX6_attacks_185 (nI_ne (by exact hfp) (by omega)) ?_
                      refine x_top (ha9 hfp hal).2.2 ?_
                      refine x_callV3i C (okX6_firstAt hs hi (ha9 hfp hal).1) lkX6_96 miX6_firstAt msX6_firstAt maX6_firstAt ⟨Nat.le_of_ble_eq_true rfl, Nat.le_of_ble_eq_true rfl⟩ (Nat.le_of_ble_eq_true rfl) rfl rfl dX6_attacks_186 ?_
                      refine x_istore C dX6_attacks_189 (by decide) [(10, _), (9, _), (8, _), (7, _), (6, _), (5, _), (4, _), (3, _), (0, _), (1, _), (2, _)] rfl ?_
                      refine x_iload C dX6_attacks_191 rfl ?_
                      refine x_if_eqN C 203 dX6_attacks_193 (by decide) (by omega) (fun c193 => ?_) (fun c193 => ?_)
                      · refine x_iconst C (v := nI 1) dX6_attacks_203 (by decide +kernel) ?_
                        refine x_goto C 208 dX6_attacks_204 (by decide) ?_
                        exact x_iret E .boolean dX6_attacks_208 rfl rfl (by have e : atM s i j = true := (by unfold atM; rw [if_neg c42, if_neg h17]; exact decide_eq_true (by omega)); rw [e]; rfl) rfl
                      · refine x_iload C dX6_attacks_196 rfl ?_
                        refine x_iload C dX6_attacks_198 rfl ?_
                        refine x_icmp_ltN C 207 dX6_attacks_200 (by decide) (by omega) (by omega) (fun c200 => ?_) (fun c200 => ?_)
                        · refine x_iconst C (v := nI 0) dX6_attacks_207 (by decide +kernel) ?_
                          exact x_iret E .boolean dX6_attacks_208 rfl rfl (by have e : atM s i j = false := (by unfold atM; rw [if_neg c42, if_neg h17]; exact decide_eq_false (by omega)); rw [e]; rfl) rfl
                        · refine x_iconst C (v := nI 1) dX6_attacks_203 (by decide +kernel) ?_
                          refine x_goto C 208 dX6_attacks_204 (by decide) ?_
                          exact x_iret E .boolean dX6_attacks_208 rfl rfl (by have e : atM s i j = true := (by unfold atM; rw [if_neg c42, if_neg h17]; exact decide_eq_true (by omega)); rw [e]; rfl) rfl
                    · have hm24 := of_decide_eq_false c170
                      refine x_iconst C (v := nI 0) dX6_attacks_173 (by decide +kernel) ?_
                      exact x_iret E .boolean dX6_attacks_174 rfl rfl (by have e : atM s i j = false := (by unfold atM; rw [if_neg c42, if_neg h17]; exact decide_eq_false (by omega)); rw [e]; rfl) rfl
                · exact absurd c137 (by decide)
        · have g90 : ¬ ca i j = 0 := fun z => c90 (ha3.mpr z)
          refine x_iload C dX6_attacks_93 rfl ?_
          refine x_if_ne C 102 dX6_attacks_95 (by decide) (fun c95 => ?_) (fun c95 => ?_)
          · have g95 : ¬ ra i j = 0 := fun z => c95 (ha4.mpr z)
            refine x_iconst C (v := nI 0) dX6_attacks_102 (by decide +kernel) ?_
            refine x_istore C dX6_attacks_103 (by decide) [(7, _), (6, _), (5, _), (4, _), (3, _), (0, _), (1, _), (2, _)] rfl ?_
            refine x_iload_n C dX6_attacks_105 rfl ?_
            refine x_mabs C lkX6_99 ⟨Nat.le_of_ble_eq_true rfl, Nat.le_of_ble_eq_true rfl⟩ (Nat.le_of_ble_eq_true rfl) dX6_attacks_106 ?_
            refine x_top ha1 ?_
            refine x_iload C dX6_attacks_109 rfl ?_
            refine x_mabs C lkX6_99 ⟨Nat.le_of_ble_eq_true rfl, Nat.le_of_ble_eq_true rfl⟩ (Nat.le_of_ble_eq_true rfl) dX6_attacks_111 ?_
            refine x_top ha2 ?_
            refine x_icmp_neN C 121 dX6_attacks_114 (by decide) (by omega) (by omega) (fun c114 => ?_) (fun c114 => ?_)
            · refine x_iconst C (v := nI 0) dX6_attacks_121 (by decide +kernel) ?_
              refine x_istore C dX6_attacks_122 (by decide) [(8, _), (7, _), (6, _), (5, _), (4, _), (3, _), (0, _), (1, _), (2, _)] rfl ?_
              refine x_iload C dX6_attacks_124 rfl ?_
              refine x_if_leN C 155 dX6_attacks_126 (by decide) (by omega) (fun c126 => ?_) (fun c126 => ?_)
              · refine x_iconst C (v := nI 0) dX6_attacks_155 (by decide +kernel) ?_
                refine x_istore C dX6_attacks_156 (by decide) [(9, _), (8, _), (7, _), (6, _), (5, _), (4, _), (3, _), (0, _), (1, _), (2, _)] rfl ?_
                refine x_iload C dX6_attacks_158 rfl ?_
                refine x_if_eqN C 173 dX6_attacks_160 (by decide) (by omega) (fun c160 => ?_) (fun c160 => ?_)
                · refine x_iconst C (v := nI 0) dX6_attacks_173 (by decide +kernel) ?_
                  exact x_iret E .boolean dX6_attacks_174 rfl rfl (by have e : atM s i j = false := (by unfold atM; rw [if_neg c42, if_neg h17]; exact decide_eq_false (by omega)); rw [e]; rfl) rfl
                · exact absurd rfl c160
              · refine x_iload C dX6_attacks_129 rfl ?_
                refine x_iconst C (v := nI 4) dX6_attacks_131 (by decide +kernel) ?_
                refine x_icmp_eqN C 140 dX6_attacks_132 (by decide) (by omega) (by omega) (fun c132 => ?_) (fun c132 => ?_)
                · refine x_iload C dX6_attacks_140 rfl ?_
                  refine x_iconst C (v := nI 3) dX6_attacks_142 (by decide +kernel) ?_
                  refine x_icmp_eqN C 155 dX6_attacks_143 (by decide) (by omega) (by omega) (fun c143 => ?_) (fun c143 => ?_)
                  · refine x_iconst C (v := nI 0) dX6_attacks_155 (by decide +kernel) ?_
                    refine x_istore C dX6_attacks_156 (by decide) [(9, _), (8, _), (7, _), (6, _), (5, _), (4, _), (3, _), (0, _), (1, _), (2, _)] rfl ?_
                    refine x_iload C dX6_attacks_158 rfl ?_
                    refine x_if_eqN C 173 dX6_attacks_160 (by decide) (by omega) (fun c160 => ?_) (fun c160 => ?_)
                    · refine x_iconst C (v := nI 0) dX6_attacks_173 (by decide +kernel) ?_
                      exact x_iret E .boolean dX6_attacks_174 rfl rfl (by have e : atM s i j = false := (by unfold atM; rw [if_neg c42, if_neg h17]; exact decide_eq_false (by omega)); rw [e]; rfl) rfl
                    · exact absurd rfl c160
                  · refine x_iload C dX6_attacks_146 rfl ?_
                    refine x_if_eqN C 155 dX6_attacks_148 (by decide) (by omega) (fun c148 => ?_) (fun c148 => ?_)
                    · refine x_iconst C (v := nI 0) dX6_attacks_155 (by decide +kernel) ?_
                      refine x_istore C dX6_attacks_156 (by decide) [(9, _), (8, _), (7, _), (6, _), (5, _), (4, _), (3, _), (0, _), (1, _), (2, _)] rfl ?_
                      refine x_iload C dX6_attacks_158 rfl ?_
                      refine x_if_eqN C 173 dX6_attacks_160 (by decide) (by omega) (fun c160 => ?_) (fun c160 => ?_)
                      · refine x_iconst C (v := nI 0) dX6_attacks_173 (by decide +kernel) ?_
                        exact x_iret E .boolean dX6_attacks_174 rfl rfl (by have e : atM s i j = false := (by unfold atM; rw [if_neg c42, if_neg h17]; exact decide_eq_false (by omega)); rw [e]; rfl) rfl
                      · exact absurd rfl c160
                    · exact absurd rfl c148
                · refine x_iload C dX6_attacks_135 rfl ?_
                  refine x_if_neN C 151 dX6_attacks_137 (by decide) (by omega) (fun c137 => ?_) (fun c137 => ?_)
                  · exact absurd rfl c137
                  · refine x_iload C dX6_attacks_140 rfl ?_
                    refine x_iconst C (v := nI 3) dX6_attacks_142 (by decide +kernel) ?_
                    refine x_icmp_eqN C 155 dX6_attacks_143 (by decide) (by omega) (by omega) (fun c143 => ?_) (fun c143 => ?_)
                    · refine x_iconst C (v := nI 0) dX6_attacks_155 (by decide +kernel) ?_
                      refine x_istore C dX6_attacks_156 (by decide) [(9, _), (8, _), (7, _), (6, _), (5, _), (4, _), (3, _), (0, _), (1, _), (2, _)] rfl ?_
                      refine x_iload C dX6_attacks_158 rfl ?_
                      refine x_if_eqN C 173 dX6_attacks_160 (by decide) (by omega) (fun c160 => ?_) (fun c160 => ?_)
                      · refine x_iconst C (v := nI 0) dX6_attacks_173 (by decide +kernel) ?_
                        exact x_iret E .boolean dX6_attacks_174 rfl rfl (by have e : atM s i j = false := (by unfold atM; rw [if_neg c42, if_neg h17]; exact decide_eq_false (by omega)); rw [e]; rfl) rfl
                      · exact absurd rfl c160
                    · refine x_iload C dX6_attacks_146 rfl ?_
                      refine x_if_eqN C 155 dX6_attacks_148 (by decide) (by omega) (fun c148 => ?_) (fun c148 => ?_)
                      · refine x_iconst C (v := nI 0) dX6_attacks_155 (by decide +kernel) ?_
                        refine x_istore C dX6_attacks_156 (by decide) [(9, _), (8, _), (7, _), (6, _), (5, _), (4, _), (3, _), (0, _), (1, _), (2, _)] rfl ?_
                        refine x_iload C dX6_attacks_158 rfl ?_
                        refine x_if_eqN C 173 dX6_attacks_160 (by decide) (by omega) (fun c160 => ?_) (fun c160 => ?_)
                        · refine x_iconst C (v := nI 0) dX6_attacks_173 (by decide +kernel) ?_
                          exact x_iret E .boolean dX6_attacks_174 rfl rfl (by have e : atM s i j = false := (by unfold atM; rw [if_neg c42, if_neg h17]; exact decide_eq_false (by omega)); rw [e]; rfl) rfl
                        · exact absurd rfl c160
                      · exact absurd rfl c148
            · refine x_iconst C (v := nI 1) dX6_attacks_117 (by decide +kernel) ?_
              refine x_goto C 122 dX6_attacks_118 (by decide) ?_
              refine x_istore C dX6_attacks_122 (by decide) [(8, _), (7, _), (6, _), (5, _), (4, _), (3, _), (0, _), (1, _), (2, _)] rfl ?_
              refine x_iload C dX6_attacks_124 rfl ?_
              refine x_if_leN C 155 dX6_attacks_126 (by decide) (by omega) (fun c126 => ?_) (fun c126 => ?_)
              · refine x_iconst C (v := nI 0) dX6_attacks_155 (by decide +kernel) ?_
                refine x_istore C dX6_attacks_156 (by decide) [(9, _), (8, _), (7, _), (6, _), (5, _), (4, _), (3, _), (0, _), (1, _), (2, _)] rfl ?_
                refine x_iload C dX6_attacks_158 rfl ?_
                refine x_if_eqN C 173 dX6_attacks_160 (by decide) (by omega) (fun c160 => ?_) (fun c160 => ?_)
                · refine x_iconst C (v := nI 0) dX6_attacks_173 (by decide +kernel) ?_
                  exact x_iret E .boolean dX6_attacks_174 rfl rfl (by have e : atM s i j = false := (by unfold atM; rw [if_neg c42, if_neg h17]; exact decide_eq_false (by omega)); rw [e]; rfl) rfl
                · exact absurd rfl c160
              · refine x_iload C dX6_attacks_129 rfl ?_
                refine x_iconst C (v := nI 4) dX6_attacks_131 (by decide +kernel) ?_
                refine x_icmp_eqN C 140 dX6_attacks_132 (by decide) (by omega) (by omega) (fun c132 => ?_) (fun c132 => ?_)
                · refine x_iload C dX6_attacks_140 rfl ?_
                  refine x_iconst C (v := nI 3) dX6_attacks_142 (by decide +kernel) ?_
                  refine x_icmp_eqN C 155 dX6_attacks_143 (by decide) (by omega) (by omega) (fun c143 => ?_) (fun c143 => ?_)
                  · refine x_iconst C (v := nI 0) dX6_attacks_155 (by decide +kernel) ?_
                    refine x_istore C dX6_attacks_156 (by decide) [(9, _), (8, _), (7, _), (6, _), (5, _), (4, _), (3, _), (0, _), (1, _), (2, _)] rfl ?_
                    refine x_iload C dX6_attacks_158 rfl ?_
                    refine x_if_eqN C 173 dX6_attacks_160 (by decide) (by omega) (fun c160 => ?_) (fun c160 => ?_)
                    · refine x_iconst C (v := nI 0) dX6_attacks_173 (by decide +kernel) ?_
                      exact x_iret E .boolean dX6_attacks_174 rfl rfl (by have e : atM s i j = false := (by unfold atM; rw [if_neg c42, if_neg h17]; exact decide_eq_false (by omega)); rw [e]; rfl) rfl
                    · exact absurd rfl c160
                  · refine x_iload C dX6_attacks_146 rfl ?_
                    refine x_if_eqN C 155 dX6_attacks_148 (by decide) (by omega) (fun c148 => ?_) (fun c148 => ?_)
                    · exact absurd c148 (by decide)
                    · refine x_iconst C (v := nI 1) dX6_attacks_151 (by decide +kernel) ?_
                      refine x_goto C 156 dX6_attacks_152 (by decide) ?_
                      refine x_istore C dX6_attacks_156 (by decide) [(9, _), (8, _), (7, _), (6, _), (5, _), (4, _), (3, _), (0, _), (1, _), (2, _)] rfl ?_
                      refine x_iload C dX6_attacks_158 rfl ?_
                      refine x_if_eqN C 173 dX6_attacks_160 (by decide) (by omega) (fun c160 => ?_) (fun c160 => ?_)
                      · exact absurd c160 (by decide)
                      · refine x_iload C dX6_attacks_163 rfl ?_
                        refine x_iconst C (v := nI 2) dX6_attacks_165 (by decide +kernel) ?_
                        refine x_iconst C (v := nI 4) dX6_attacks_166 (by decide +kernel) ?_
                        refine x_callS3i C (okX6_in _ _ _ _) lkX6_60 miX6_in mtX6_in maX6_in ⟨Nat.le_of_ble_eq_true rfl, Nat.le_of_ble_eq_true rfl⟩ (Nat.le_of_ble_eq_true rfl) dX6_attacks_167 ?_
                        rw [inB_nI (by omega) (by decide) (by decide)]
                        refine x_if_neB C 175 dX6_attacks_170 (by decide) (fun c170 => ?_) (fun c170 => ?_)
                        · have hfp : 0 < max (ca i j) (ra i j) := Nat.pos_of_ne_zero c126
                          have hal : ca i j = 0 ∨ ra i j = 0 ∨ ca i j = ra i j := by omega
                          have hm24 := of_decide_eq_true c170
                          refine x_aload_n C dX6_attacks_175 rfl ?_
                          refine x_iload_n C dX6_attacks_176 rfl ?_
                          refine x_iload_n C dX6_attacks_177 rfl ?_
                          refine x_iload C dX6_attacks_178 rfl ?_
                          refine x_idiv C dX6_attacks_180 (nI_ne (by exact hfp) (by omega)) ?_
                          refine x_top (ha9 hfp hal).2.1 ?_
                          refine x_iload C dX6_attacks_181 rfl ?_
                          refine x_iload C dX6_attacks_183 rfl ?_
                          refine x_idiv C dX6_attacks_185 (nI_ne (by exact hfp) (by omega)) ?_
                          refine x_top (ha9 hfp hal).2.2 ?_
                          refine x_callV3i C (okX6_firstAt hs hi (ha9 hfp hal).1) lkX6_96 miX6_firstAt msX6_firstAt maX6_firstAt ⟨Nat.le_of_ble_eq_true rfl, Nat.le_of_ble_eq_true rfl⟩ (Nat.le_of_ble_eq_true rfl) rfl rfl dX6_attacks_186 ?_
                          refine x_istore C dX6_attacks_189 (by decide) [(10, _), (9, _), (8, _), (7, _), (6, _), (5, _), (4, _), (3, _), (0, _), (1, _), (2, _)] rfl ?_
                          refine x_iload C dX6_attacks_191 rfl ?_
                          refine x_if_eqN C 203 dX6_attacks_193 (by decide) (by omega) (fun c193 => ?_) (fun c193 => ?_)
                          · refine x_iconst C (v := nI 1) dX6_attacks_203 (by decide +kernel) ?_
                            refine x_goto C 208 dX6_attacks_204 (by decide) ?_
                            exact x_iret E .boolean dX6_attacks_208 rfl rfl (by have e : atM s i j = true := (by unfold atM; rw [if_neg c42, if_neg h17]; exact decide_eq_true (by omega)); rw [e]; rfl) rfl
                          · refine x_iload C dX6_attacks_196 rfl ?_
                            refine x_iload C dX6_attacks_198 rfl ?_
                            refine x_icmp_ltN C 207 dX6_attacks_200 (by decide) (by omega) (by omega) (fun c200 => ?_) (fun c200 => ?_)
                            · refine x_iconst C (v := nI 0) dX6_attacks_207 (by decide +kernel) ?_
                              exact x_iret E .boolean dX6_attacks_208 rfl rfl (by have e : atM s i j = false := (by unfold atM; rw [if_neg c42, if_neg h17]; exact decide_eq_false (by omega)); rw [e]; rfl) rfl
                            · refine x_iconst C (v := nI 1) dX6_attacks_203 (by decide +kernel) ?_
                              refine x_goto C 208 dX6_attacks_204 (by decide) ?_
                              exact x_iret E .boolean dX6_attacks_208 rfl rfl (by have e : atM s i j = true := (by unfold atM; rw [if_neg c42, if_neg h17]; exact decide_eq_true (by omega)); rw [e]; rfl) rfl
                        · have hm24 := of_decide_eq_false c170
                          refine x_iconst C (v := nI 0) dX6_attacks_173 (by decide +kernel) ?_
                          exact x_iret E .boolean dX6_attacks_174 rfl rfl (by have e : atM s i j = false := (by unfold atM; rw [if_neg c42, if_neg h17]; exact decide_eq_false (by omega)); rw [e]; rfl) rfl
                · refine x_iload C dX6_attacks_135 rfl ?_
                  refine x_if_neN C 151 dX6_attacks_137 (by decide) (by omega) (fun c137 => ?_) (fun c137 => ?_)
                  · exact absurd rfl c137
                  · refine x_iload C dX6_attacks_140 rfl ?_
                    refine x_iconst C (v := nI 3) dX6_attacks_142 (by decide +kernel) ?_
                    refine x_icmp_eqN C 155 dX6_attacks_143 (by decide) (by omega) (by omega) (fun c143 => ?_) (fun c143 => ?_)
                    · refine x_iconst C (v := nI 0) dX6_attacks_155 (by decide +kernel) ?_
                      refine x_istore C dX6_attacks_156 (by decide) [(9, _), (8, _), (7, _), (6, _), (5, _), (4, _), (3, _), (0, _), (1, _), (2, _)] rfl ?_
                      refine x_iload C dX6_attacks_158 rfl ?_
                      refine x_if_eqN C 173 dX6_attacks_160 (by decide) (by omega) (fun c160 => ?_) (fun c160 => ?_)
                      · refine x_iconst C (v := nI 0) dX6_attacks_173 (by decide +kernel) ?_
                        exact x_iret E .boolean dX6_attacks_174 rfl rfl (by have e : atM s i j = false := (by unfold atM; rw [if_neg c42, if_neg h17]; exact decide_eq_false (by omega)); rw [e]; rfl) rfl
                      · exact absurd rfl c160
                    · refine x_iload C dX6_attacks_146 rfl ?_
                      refine x_if_eqN C 155 dX6_attacks_148 (by decide) (by omega) (fun c148 => ?_) (fun c148 => ?_)
                      · exact absurd c148 (by decide)
                      · refine x_iconst C (v := nI 1) dX6_attacks_151 (by decide +kernel) ?_
                        refine x_goto C 156 dX6_attacks_152 (by decide) ?_
                        refine x_istore C dX6_attacks_156 (by decide) [(9, _), (8, _), (7, _), (6, _), (5, _), (4, _), (3, _), (0, _), (1, _), (2, _)] rfl ?_
                        refine x_iload C dX6_attacks_158 rfl ?_
                        refine x_if_eqN C 173 dX6_attacks_160 (by decide) (by omega) (fun c160 => ?_) (fun c160 => ?_)
                        · exact absurd c160 (by decide)
                        · refine x_iload C dX6_attacks_163 rfl ?_
                          refine x_iconst C (v := nI 2) dX6_attacks_165 (by decide +kernel) ?_
                          refine x_iconst C (v := nI 4) dX6_attacks_166 (by decide +kernel) ?_
                          refine x_callS3i C (okX6_in _ _ _ _) lkX6_60 miX6_in mtX6_in maX6_in ⟨Nat.le_of_ble_eq_true rfl, Nat.le_of_ble_eq_true rfl⟩ (Nat.le_of_ble_eq_true rfl) dX6_attacks_167 ?_
                          rw [inB_nI (by omega) (by decide) (by decide)]
                          refine x_if_neB C 175 dX6_attacks_170 (by decide) (fun c170 => ?_) (fun c170 => ?_)
                          · have hfp : 0 < max (ca i j) (ra i j) := Nat.pos_of_ne_zero c126
                            have hal : ca i j = 0 ∨ ra i j = 0 ∨ ca i j = ra i j := by omega
                            have hm24 := of_decide_eq_true c170
                            refine x_aload_n C dX6_attacks_175 rfl ?_
                            refine x_iload_n C dX6_attacks_176 rfl ?_
                            refine x_iload_n C dX6_attacks_177 rfl ?_
                            refine x_iload C dX6_attacks_178 rfl ?_
                            refine x_idiv C dX6_attacks_180 (nI_ne (by exact hfp) (by omega)) ?_
                            refine x_top (ha9 hfp hal).2.1 ?_
                            refine x_iload C dX6_attacks_181 rfl ?_
                            refine x_iload C dX6_attacks_183 rfl ?_
                            refine x_idiv C dX6_attacks_185 (nI_ne (by exact hfp) (by omega)) ?_
                            refine x_top (ha9 hfp hal).2.2 ?_
                            refine x_callV3i C (okX6_firstAt hs hi (ha9 hfp hal).1) lkX6_96 miX6_firstAt msX6_firstAt maX6_firstAt ⟨Nat.le_of_ble_eq_true rfl, Nat.le_of_ble_eq_true rfl⟩ (Nat.le_of_ble_eq_true rfl) rfl rfl dX6_attacks_186 ?_
                            refine x_istore C dX6_attacks_189 (by decide) [(10, _), (9, _), (8, _), (7, _), (6, _), (5, _), (4, _), (3, _), (0, _), (1, _), (2, _)] rfl ?_
                            refine x_iload C dX6_attacks_191 rfl ?_
                            refine x_if_eqN C 203 dX6_attacks_193 (by decide) (by omega) (fun c193 => ?_) (fun c193 => ?_)
                            · refine x_iconst C (v := nI 1) dX6_attacks_203 (by decide +kernel) ?_
                              refine x_goto C 208 dX6_attacks_204 (by decide) ?_
                              exact x_iret E .boolean dX6_attacks_208 rfl rfl (by have e : atM s i j = true := (by unfold atM; rw [if_neg c42, if_neg h17]; exact decide_eq_true (by omega)); rw [e]; rfl) rfl
                            · refine x_iload C dX6_attacks_196 rfl ?_
                              refine x_iload C dX6_attacks_198 rfl ?_
                              refine x_icmp_ltN C 207 dX6_attacks_200 (by decide) (by omega) (by omega) (fun c200 => ?_) (fun c200 => ?_)
                              · refine x_iconst C (v := nI 0) dX6_attacks_207 (by decide +kernel) ?_
                                exact x_iret E .boolean dX6_attacks_208 rfl rfl (by have e : atM s i j = false := (by unfold atM; rw [if_neg c42, if_neg h17]; exact decide_eq_false (by omega)); rw [e]; rfl) rfl
                              · refine x_iconst C (v := nI 1) dX6_attacks_203 (by decide +kernel) ?_
                                refine x_goto C 208 dX6_attacks_204 (by decide) ?_
                                exact x_iret E .boolean dX6_attacks_208 rfl rfl (by have e : atM s i j = true := (by unfold atM; rw [if_neg c42, if_neg h17]; exact decide_eq_true (by omega)); rw [e]; rfl) rfl
                          · have hm24 := of_decide_eq_false c170
                            refine x_iconst C (v := nI 0) dX6_attacks_173 (by decide +kernel) ?_
                            exact x_iret E .boolean dX6_attacks_174 rfl rfl (by have e : atM s i j = false := (by unfold atM; rw [if_neg c42, if_neg h17]; exact decide_eq_false (by omega)); rw [e]; rfl) rfl
          · have g95 := ha4.mp c95
            refine x_iconst C (v := nI 1) dX6_attacks_98 (by decide +kernel) ?_
            refine x_goto C 103 dX6_attacks_99 (by decide) ?_
            refine x_istore C dX6_attacks_103 (by decide) [(7, _), (6, _), (5, _), (4, _), (3, _), (0, _), (1, _), (2, _)] rfl ?_
            refine x_iload_n C dX6_attacks_105 rfl ?_
            refine x_mabs C lkX6_99 ⟨Nat.le_of_ble_eq_true rfl, Nat.le_of_ble_eq_true rfl⟩ (Nat.le_of_ble_eq_true rfl) dX6_attacks_106 ?_
            refine x_top ha1 ?_
            refine x_iload C dX6_attacks_109 rfl ?_
            refine x_mabs C lkX6_99 ⟨Nat.le_of_ble_eq_true rfl, Nat.le_of_ble_eq_true rfl⟩ (Nat.le_of_ble_eq_true rfl) dX6_attacks_111 ?_
            refine x_top ha2 ?_
            refine x_icmp_neN C 121 dX6_attacks_114 (by decide) (by omega) (by omega) (fun c114 => ?_) (fun c114 => ?_)
            · refine x_iconst C (v := nI 0) dX6_attacks_121 (by decide +kernel) ?_
              refine x_istore C dX6_attacks_122 (by decide) [(8, _), (7, _), (6, _), (5, _), (4, _), (3, _), (0, _), (1, _), (2, _)] rfl ?_
              refine x_iload C dX6_attacks_124 rfl ?_
              refine x_if_leN C 155 dX6_attacks_126 (by decide) (by omega) (fun c126 => ?_) (fun c126 => ?_)
              · refine x_iconst C (v := nI 0) dX6_attacks_155 (by decide +kernel) ?_
                refine x_istore C dX6_attacks_156 (by decide) [(9, _), (8, _), (7, _), (6, _), (5, _), (4, _), (3, _), (0, _), (1, _), (2, _)] rfl ?_
                refine x_iload C dX6_attacks_158 rfl ?_
                refine x_if_eqN C 173 dX6_attacks_160 (by decide) (by omega) (fun c160 => ?_) (fun c160 => ?_)
                · refine x_iconst C (v := nI 0) dX6_attacks_173 (by decide +kernel) ?_
                  exact x_iret E .boolean dX6_attacks_174 rfl rfl (by have e : atM s i j = false := (by unfold atM; rw [if_neg c42, if_neg h17]; exact decide_eq_false (by omega)); rw [e]; rfl) rfl
                · exact absurd rfl c160
              · refine x_iload C dX6_attacks_129 rfl ?_
                refine x_iconst C (v := nI 4) dX6_attacks_131 (by decide +kernel) ?_
                refine x_icmp_eqN C 140 dX6_attacks_132 (by decide) (by omega) (by omega) (fun c132 => ?_) (fun c132 => ?_)
                · refine x_iload C dX6_attacks_140 rfl ?_
                  refine x_iconst C (v := nI 3) dX6_attacks_142 (by decide +kernel) ?_
                  refine x_icmp_eqN C 155 dX6_attacks_143 (by decide) (by omega) (by omega) (fun c143 => ?_) (fun c143 => ?_)
                  · refine x_iconst C (v := nI 0) dX6_attacks_155 (by decide +kernel) ?_
                    refine x_istore C dX6_attacks_156 (by decide) [(9, _), (8, _), (7, _), (6, _), (5, _), (4, _), (3, _), (0, _), (1, _), (2, _)] rfl ?_
                    refine x_iload C dX6_attacks_158 rfl ?_
                    refine x_if_eqN C 173 dX6_attacks_160 (by decide) (by omega) (fun c160 => ?_) (fun c160 => ?_)
                    · refine x_iconst C (v := nI 0) dX6_attacks_173 (by decide +kernel) ?_
                      exact x_iret E .boolean dX6_attacks_174 rfl rfl (by have e : atM s i j = false := (by unfold atM; rw [if_neg c42, if_neg h17]; exact decide_eq_false (by omega)); rw [e]; rfl) rfl
                    · exact absurd rfl c160
                  · refine x_iload C dX6_attacks_146 rfl ?_
                    refine x_if_eqN C 155 dX6_attacks_148 (by decide) (by omega) (fun c148 => ?_) (fun c148 => ?_)
                    · refine x_iconst C (v := nI 0) dX6_attacks_155 (by decide +kernel) ?_
                      refine x_istore C dX6_attacks_156 (by decide) [(9, _), (8, _), (7, _), (6, _), (5, _), (4, _), (3, _), (0, _), (1, _), (2, _)] rfl ?_
                      refine x_iload C dX6_attacks_158 rfl ?_
                      refine x_if_eqN C 173 dX6_attacks_160 (by decide) (by omega) (fun c160 => ?_) (fun c160 => ?_)
                      · refine x_iconst C (v := nI 0) dX6_attacks_173 (by decide +kernel) ?_
                        exact x_iret E .boolean dX6_attacks_174 rfl rfl (by have e : atM s i j = false := (by unfold atM; rw [if_neg c42, if_neg h17]; exact decide_eq_false (by omega)); rw [e]; rfl) rfl
                      · exact absurd rfl c160
                    · exact absurd rfl c148
                · refine x_iload C dX6_attacks_135 rfl ?_
                  refine x_if_neN C 151 dX6_attacks_137 (by decide) (by omega) (fun c137 => ?_) (fun c137 => ?_)
                  · refine x_iconst C (v := nI 1) dX6_attacks_151 (by decide +kernel) ?_
                    refine x_goto C 156 dX6_attacks_152 (by decide) ?_
                    refine x_istore C dX6_attacks_156 (by decide) [(9, _), (8, _), (7, _), (6, _), (5, _), (4, _), (3, _), (0, _), (1, _), (2, _)] rfl ?_
                    refine x_iload C dX6_attacks_158 rfl ?_
                    refine x_if_eqN C 173 dX6_attacks_160 (by decide) (by omega) (fun c160 => ?_) (fun c160 => ?_)
                    · exact absurd c160 (by decide)
                    · refine x_iload C dX6_attacks_163 rfl ?_
                      refine x_iconst C (v := nI 2) dX6_attacks_165 (by decide +kernel) ?_
                      refine x_iconst C (v := nI 4) dX6_attacks_166 (by decide +kernel) ?_
                      refine x_callS3i C (okX6_in _ _ _ _) lkX6_60 miX6_in mtX6_in maX6_in ⟨Nat.le_of_ble_eq_true rfl, Nat.le_of_ble_eq_true rfl⟩ (Nat.le_of_ble_eq_true rfl) dX6_attacks_167 ?_
                      rw [inB_nI (by omega) (by decide) (by decide)]
                      refine x_if_neB C 175 dX6_attacks_170 (by decide) (fun c170 => ?_) (fun c170 => ?_)
                      · have hfp : 0 < max (ca i j) (ra i j) := Nat.pos_of_ne_zero c126
                        have hal : ca i j = 0 ∨ ra i j = 0 ∨ ca i j = ra i j := by omega
                        have hm24 := of_decide_eq_true c170
                        refine x_aload_n C dX6_attacks_175 rfl ?_
                        refine x_iload_n C dX6_attacks_176 rfl ?_
                        refine x_iload_n C dX6_attacks_177 rfl ?_
                        refine x_iload C dX6_attacks_178 rfl ?_
                        refine x_idiv C dX6_attacks_180 (nI_ne (by exact hfp) (by omega)) ?_
                        refine x_top (ha9 hfp hal).2.1 ?_
                        refine x_iload C dX6_attacks_181 rfl ?_
                        refine x_iload C dX6_attacks_183 rfl ?_
                        refine x_idiv C dX6_attacks_185 (nI_ne (by exact hfp) (by omega)) ?_
                        refine x_top (ha9 hfp hal).2.2 ?_
                        refine x_callV3i C (okX6_firstAt hs hi (ha9 hfp hal).1) lkX6_96 miX6_firstAt msX6_firstAt maX6_firstAt ⟨Nat.le_of_ble_eq_true rfl, Nat.le_of_ble_eq_true rfl⟩ (Nat.le_of_ble_eq_true rfl) rfl rfl dX6_attacks_186 ?_
                        refine x_istore C dX6_attacks_189 (by decide) [(10, _), (9, _), (8, _), (7, _), (6, _), (5, _), (4, _), (3, _), (0, _), (1, _), (2, _)] rfl ?_
                        refine x_iload C dX6_attacks_191 rfl ?_
                        refine x_if_eqN C 203 dX6_attacks_193 (by decide) (by omega) (fun c193 => ?_) (fun c193 => ?_)
                        · refine x_iconst C (v := nI 1) dX6_attacks_203 (by decide +kernel) ?_
                          refine x_goto C 208 dX6_attacks_204 (by decide) ?_
                          exact x_iret E .boolean dX6_attacks_208 rfl rfl (by have e : atM s i j = true := (by unfold atM; rw [if_neg c42, if_neg h17]; exact decide_eq_true (by omega)); rw [e]; rfl) rfl
                        · refine x_iload C dX6_attacks_196 rfl ?_
                          refine x_iload C dX6_attacks_198 rfl ?_
                          refine x_icmp_ltN C 207 dX6_attacks_200 (by decide) (by omega) (by omega) (fun c200 => ?_) (fun c200 => ?_)
                          · refine x_iconst C (v := nI 0) dX6_attacks_207 (by decide +kernel) ?_
                            exact x_iret E .boolean dX6_attacks_208 rfl rfl (by have e : atM s i j = false := (by unfold atM; rw [if_neg c42, if_neg h17]; exact decide_eq_false (by omega)); rw [e]; rfl) rfl
                          · refine x_iconst C (v := nI 1) dX6_attacks_203 (by decide +kernel) ?_
                            refine x_goto C 208 dX6_attacks_204 (by decide) ?_
                            exact x_iret E .boolean dX6_attacks_208 rfl rfl (by have e : atM s i j = true := (by unfold atM; rw [if_neg c42, if_neg h17]; exact decide_eq_true (by omega)); rw [e]; rfl) rfl
                      · have hm24 := of_decide_eq_false c170
                        refine x_iconst C (v := nI 0) dX6_attacks_173 (by decide +kernel) ?_
                        exact x_iret E .boolean dX6_attacks_174 rfl rfl (by have e : atM s i j = false := (by unfold atM; rw [if_neg c42, if_neg h17]; exact decide_eq_false (by omega)); rw [e]; rfl) rfl
                  · exact absurd c137 (by decide)
            · refine x_iconst C (v := nI 1) dX6_attacks_117 (by decide +kernel) ?_
              refine x_goto C 122 dX6_attacks_118 (by decide) ?_
              refine x_istore C dX6_attacks_122 (by decide) [(8, _), (7, _), (6, _), (5, _), (4, _), (3, _), (0, _), (1, _), (2, _)] rfl ?_
              refine x_iload C dX6_attacks_124 rfl ?_
              refine x_if_leN C 155 dX6_attacks_126 (by decide) (by omega) (fun c126 => ?_) (fun c126 => ?_)
              · refine x_iconst C (v := nI 0) dX6_attacks_155 (by decide +kernel) ?_
                refine x_istore C dX6_attacks_156 (by decide) [(9, _), (8, _), (7, _), (6, _), (5, _), (4, _), (3, _), (0, _), (1, _), (2, _)] rfl ?_
                refine x_iload C dX6_attacks_158 rfl ?_
                refine x_if_eqN C 173 dX6_attacks_160 (by decide) (by omega) (fun c160 => ?_) (fun c160 => ?_)
                · refine x_iconst C (v := nI 0) dX6_attacks_173 (by decide +kernel) ?_
                  exact x_iret E .boolean dX6_attacks_174 rfl rfl (by have e : atM s i j = false := (by unfold atM; rw [if_neg c42, if_neg h17]; exact decide_eq_false (by omega)); rw [e]; rfl) rfl
                · exact absurd rfl c160
              · refine x_iload C dX6_attacks_129 rfl ?_
                refine x_iconst C (v := nI 4) dX6_attacks_131 (by decide +kernel) ?_
                refine x_icmp_eqN C 140 dX6_attacks_132 (by decide) (by omega) (by omega) (fun c132 => ?_) (fun c132 => ?_)
                · refine x_iload C dX6_attacks_140 rfl ?_
                  refine x_iconst C (v := nI 3) dX6_attacks_142 (by decide +kernel) ?_
                  refine x_icmp_eqN C 155 dX6_attacks_143 (by decide) (by omega) (by omega) (fun c143 => ?_) (fun c143 => ?_)
                  · refine x_iconst C (v := nI 0) dX6_attacks_155 (by decide +kernel) ?_
                    refine x_istore C dX6_attacks_156 (by decide) [(9, _), (8, _), (7, _), (6, _), (5, _), (4, _), (3, _), (0, _), (1, _), (2, _)] rfl ?_
                    refine x_iload C dX6_attacks_158 rfl ?_
                    refine x_if_eqN C 173 dX6_attacks_160 (by decide) (by omega) (fun c160 => ?_) (fun c160 => ?_)
                    · refine x_iconst C (v := nI 0) dX6_attacks_173 (by decide +kernel) ?_
                      exact x_iret E .boolean dX6_attacks_174 rfl rfl (by have e : atM s i j = false := (by unfold atM; rw [if_neg c42, if_neg h17]; exact decide_eq_false (by omega)); rw [e]; rfl) rfl
                    · exact absurd rfl c160
                  · refine x_iload C dX6_attacks_146 rfl ?_
                    refine x_if_eqN C 155 dX6_attacks_148 (by decide) (by omega) (fun c148 => ?_) (fun c148 => ?_)
                    · exact absurd c148 (by decide)
                    · refine x_iconst C (v := nI 1) dX6_attacks_151 (by decide +kernel) ?_
                      refine x_goto C 156 dX6_attacks_152 (by decide) ?_
                      refine x_istore C dX6_attacks_156 (by decide) [(9, _), (8, _), (7, _), (6, _), (5, _), (4, _), (3, _), (0, _), (1, _), (2, _)] rfl ?_
                      refine x_iload C dX6_attacks_158 rfl ?_
                      refine x_if_eqN C 173 dX6_attacks_160 (by decide) (by omega) (fun c160 => ?_) (fun c160 => ?_)
                      · exact absurd c160 (by decide)
                      · refine x_iload C dX6_attacks_163 rfl ?_
                        refine x_iconst C (v := nI 2) dX6_attacks_165 (by decide +kernel) ?_
                        refine x_iconst C (v := nI 4) dX6_attacks_166 (by decide +kernel) ?_
                        refine x_callS3i C (okX6_in _ _ _ _) lkX6_60 miX6_in mtX6_in maX6_in ⟨Nat.le_of_ble_eq_true rfl, Nat.le_of_ble_eq_true rfl⟩ (Nat.le_of_ble_eq_true rfl) dX6_attacks_167 ?_
                        rw [inB_nI (by omega) (by decide) (by decide)]
                        refine x_if_neB C 175 dX6_attacks_170 (by decide) (fun c170 => ?_) (fun c170 => ?_)
                        · have hfp : 0 < max (ca i j) (ra i j) := Nat.pos_of_ne_zero c126
                          have hal : ca i j = 0 ∨ ra i j = 0 ∨ ca i j = ra i j := by omega
                          have hm24 := of_decide_eq_true c170
                          refine x_aload_n C dX6_attacks_175 rfl ?_
                          refine x_iload_n C dX6_attacks_176 rfl ?_
                          refine x_iload_n C dX6_attacks_177 rfl ?_
                          refine x_iload C dX6_attacks_178 rfl ?_
                          refine x_idiv C dX6_attacks_180 (nI_ne (by exact hfp) (by omega)) ?_
                          refine x_top (ha9 hfp hal).2.1 ?_
                          refine x_iload C dX6_attacks_181 rfl ?_
                          refine x_iload C dX6_attacks_183 rfl ?_
                          refine x_idiv C dX6_attacks_185 (nI_ne (by exact hfp) (by omega)) ?_
                          refine x_top (ha9 hfp hal).2.2 ?_
                          refine x_callV3i C (okX6_firstAt hs hi (ha9 hfp hal).1) lkX6_96 miX6_firstAt msX6_firstAt maX6_firstAt ⟨Nat.le_of_ble_eq_true rfl, Nat.le_of_ble_eq_true rfl⟩ (Nat.le_of_ble_eq_true rfl) rfl rfl dX6_attacks_186 ?_
                          refine x_istore C dX6_attacks_189 (by decide) [(10, _), (9, _), (8, _), (7, _), (6, _), (5, _), (4, _), (3, _), (0, _), (1, _), (2, _)] rfl ?_
                          refine x_iload C dX6_attacks_191 rfl ?_
                          refine x_if_eqN C 203 dX6_attacks_193 (by decide) (by omega) (fun c193 => ?_) (fun c193 => ?_)
                          · refine x_iconst C (v := nI 1) dX6_attacks_203 (by decide +kernel) ?_
                            refine x_goto C 208 dX6_attacks_204 (by decide) ?_
                            exact x_iret E .boolean dX6_attacks_208 rfl rfl (by have e : atM s i j = true := (by unfold atM; rw [if_neg c42, if_neg h17]; exact decide_eq_true (by omega)); rw [e]; rfl) rfl
                          · refine x_iload C dX6_attacks_196 rfl ?_
                            refine x_iload C dX6_attacks_198 rfl ?_
                            refine x_icmp_ltN C 207 dX6_attacks_200 (by decide) (by omega) (by omega) (fun c200 => ?_) (fun c200 => ?_)
                            · refine x_iconst C (v := nI 0) dX6_attacks_207 (by decide +kernel) ?_
                              exact x_iret E .boolean dX6_attacks_208 rfl rfl (by have e : atM s i j = false := (by unfold atM; rw [if_neg c42, if_neg h17]; exact decide_eq_false (by omega)); rw [e]; rfl) rfl
                            · refine x_iconst C (v := nI 1) dX6_attacks_203 (by decide +kernel) ?_
                              refine x_goto C 208 dX6_attacks_204 (by decide) ?_
                              exact x_iret E .boolean dX6_attacks_208 rfl rfl (by have e : atM s i j = true := (by unfold atM; rw [if_neg c42, if_neg h17]; exact decide_eq_true (by omega)); rw [e]; rfl) rfl
                        · have hm24 := of_decide_eq_false c170
                          refine x_iconst C (v := nI 0) dX6_attacks_173 (by decide +kernel) ?_
                          exact x_iret E .boolean dX6_attacks_174 rfl rfl (by have e : atM s i j = false := (by unfold atM; rw [if_neg c42, if_neg h17]; exact decide_eq_false (by omega)); rw [e]; rfl) rfl
                · refine x_iload C dX6_attacks_135 rfl ?_
                  refine x_if_neN C 151 dX6_attacks_137 (by decide) (by omega) (fun c137 => ?_) (fun c137 => ?_)
                  · refine x_iconst C (v := nI 1) dX6_attacks_151 (by decide +kernel) ?_
                    refine x_goto C 156 dX6_attacks_152 (by decide) ?_
                    refine x_istore C dX6_attacks_156 (by decide) [(9, _), (8, _), (7, _), (6, _), (5, _), (4, _), (3, _), (0, _), (1, _), (2, _)] rfl ?_
                    refine x_iload C dX6_attacks_158 rfl ?_
                    refine x_if_eqN C 173 dX6_attacks_160 (by decide) (by omega) (fun c160 => ?_) (fun c160 => ?_)
                    · exact absurd c160 (by decide)
                    · refine x_iload C dX6_attacks_163 rfl ?_
                      refine x_iconst C (v := nI 2) dX6_attacks_165 (by decide +kernel) ?_
                      refine x_iconst C (v := nI 4) dX6_attacks_166 (by decide +kernel) ?_
                      refine x_callS3i C (okX6_in _ _ _ _) lkX6_60 miX6_in mtX6_in maX6_in ⟨Nat.le_of_ble_eq_true rfl, Nat.le_of_ble_eq_true rfl⟩ (Nat.le_of_ble_eq_true rfl) dX6_attacks_167 ?_
                      rw [inB_nI (by omega) (by decide) (by decide)]
                      refine x_if_neB C 175 dX6_attacks_170 (by decide) (fun c170 => ?_) (fun c170 => ?_)
                      · have hfp : 0 < max (ca i j) (ra i j) := Nat.pos_of_ne_zero c126
                        have hal : ca i j = 0 ∨ ra i j = 0 ∨ ca i j = ra i j := by omega
                        have hm24 := of_decide_eq_true c170
                        refine x_aload_n C dX6_attacks_175 rfl ?_
                        refine x_iload_n C dX6_attacks_176 rfl ?_
                        refine x_iload_n C dX6_attacks_177 rfl ?_
                        refine x_iload C dX6_attacks_178 rfl ?_
                        refine x_idiv C dX6_attacks_180 (nI_ne (by exact hfp) (by omega)) ?_
                        refine x_top (ha9 hfp hal).2.1 ?_
                        refine x_iload C dX6_attacks_181 rfl ?_
                        refine x_iload C dX6_attacks_183 rfl ?_
                        refine x_idiv C dX6_attacks_185 (nI_ne (by exact hfp) (by omega)) ?_
                        refine x_top (ha9 hfp hal).2.2 ?_
                        refine x_callV3i C (okX6_firstAt hs hi (ha9 hfp hal).1) lkX6_96 miX6_firstAt msX6_firstAt maX6_firstAt ⟨Nat.le_of_ble_eq_true rfl, Nat.le_of_ble_eq_true rfl⟩ (Nat.le_of_ble_eq_true rfl) rfl rfl dX6_attacks_186 ?_
                        refine x_istore C dX6_attacks_189 (by decide) [(10, _), (9, _), (8, _), (7, _), (6, _), (5, _), (4, _), (3, _), (0, _), (1, _), (2, _)] rfl ?_
                        refine x_iload C dX6_attacks_191 rfl ?_
                        refine x_if_eqN C 203 dX6_attacks_193 (by decide) (by omega) (fun c193 => ?_) (fun c193 => ?_)
                        · refine x_iconst C (v := nI 1) dX6_attacks_203 (by decide +kernel) ?_
                          refine x_goto C 208 dX6_attacks_204 (by decide) ?_
                          exact x_iret E .boolean dX6_attacks_208 rfl rfl (by have e : atM s i j = true := (by unfold atM; rw [if_neg c42, if_neg h17]; exact decide_eq_true (by omega)); rw [e]; rfl) rfl
                        · refine x_iload C dX6_attacks_196 rfl ?_
                          refine x_iload C dX6_attacks_198 rfl ?_
                          refine x_icmp_ltN C 207 dX6_attacks_200 (by decide) (by omega) (by omega) (fun c200 => ?_) (fun c200 => ?_)
                          · refine x_iconst C (v := nI 0) dX6_attacks_207 (by decide +kernel) ?_
                            exact x_iret E .boolean dX6_attacks_208 rfl rfl (by have e : atM s i j = false := (by unfold atM; rw [if_neg c42, if_neg h17]; exact decide_eq_false (by omega)); rw [e]; rfl) rfl
                          · refine x_iconst C (v := nI 1) dX6_attacks_203 (by decide +kernel) ?_
                            refine x_goto C 208 dX6_attacks_204 (by decide) ?_
                            exact x_iret E .boolean dX6_attacks_208 rfl rfl (by have e : atM s i j = true := (by unfold atM; rw [if_neg c42, if_neg h17]; exact decide_eq_true (by omega)); rw [e]; rfl) rfl
                      · have hm24 := of_decide_eq_false c170
                        refine x_iconst C (v := nI 0) dX6_attacks_173 (by decide +kernel) ?_
                        exact x_iret E .boolean dX6_attacks_174 rfl rfl (by have e : atM s i j = false := (by unfold atM; rw [if_neg c42, if_neg h17]; exact decide_eq_false (by omega)); rw [e]; rfl) rfl
                  · exact absurd c137 (by decide)
      · have h17 : s i = 1 ∨ s i = 7 := Or.inr c74
        refine x_iload C dX6_attacks_77 rfl ?_
        refine x_iconst C (v := nI 1) dX6_attacks_79 (by decide +kernel) ?_
        refine x_icmp_neN C 87 dX6_attacks_80 (by decide) (by omega) (by omega) (fun c80 => ?_) (fun c80 => ?_)
        · refine x_iconst C (v := nI 0) dX6_attacks_87 (by decide +kernel) ?_
          exact x_iret E .boolean dX6_attacks_88 rfl rfl (by have e : atM s i j = false := (by unfold atM; rw [if_neg c42, if_pos h17]; exact decide_eq_false c80); rw [e]; rfl) rfl
        · refine x_iconst C (v := nI 1) dX6_attacks_83 (by decide +kernel) ?_
          refine x_goto C 88 dX6_attacks_84 (by decide) ?_
          exact x_iret E .boolean dX6_attacks_88 rfl rfl (by have e : atM s i j = true := (by unfold atM; rw [if_neg c42, if_pos h17]; exact decide_eq_true c80); rw [e]; rfl) rfl
  · refine x_iload_n C dX6_attacks_45 rfl ?_
    refine x_iload_n C dX6_attacks_46 rfl ?_
    refine x_imul C dX6_attacks_47 ?_
    refine x_iload C dX6_attacks_48 rfl ?_
    refine x_iload C dX6_attacks_50 rfl ?_
    refine x_imul C dX6_attacks_52 ?_
    refine x_iadd C dX6_attacks_53 ?_
    refine x_top ha7 ?_
    refine x_iconst C (v := nI 5) dX6_attacks_54 (by decide +kernel) ?_
    refine x_icmp_neN C 62 dX6_attacks_55 (by decide) (by omega) (by omega) (fun c55 => ?_) (fun c55 => ?_)
    · refine x_iconst C (v := nI 0) dX6_attacks_62 (by decide +kernel) ?_
      exact x_iret E .boolean dX6_attacks_63 rfl rfl (by have e : atM s i j = false := (by unfold atM; rw [if_pos c42]; exact decide_eq_false c55); rw [e]; rfl) rfl
    · refine x_iconst C (v := nI 1) dX6_attacks_58 (by decide +kernel) ?_
      refine x_goto C 63 dX6_attacks_59 (by decide) ?_
      exact x_iret E .boolean dX6_attacks_63 rfl rfl (by have e : atM s i j = true := (by unfold atM; rw [if_pos c42]; exact decide_eq_true c55); rw [e]; rfl) rfl
