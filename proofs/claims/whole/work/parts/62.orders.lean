/-! the reference: tell, the orders of a text -/
def kSg (k : Nat) : Nat := if k = 3 then 35 else if k = 2 then 43 else 61
def tel6 (b : Nat → Nat) (i j : Nat) : List Nat := [] ++ [sgC (b i)] ++ [97 + i % 5, 49 + i / 5] ++ [if b j = 6 then 120 else 45] ++ [97 + j % 5, 49 + j / 5]
def telN (b : Nat → Nat) (i j : Nat) : List Nat := if kindB (aft b i j) = 0 then tel6 b i j else tel6 b i j ++ [kSg (kindB (aft b i j))]
set_option maxHeartbeats 4000000 in
set_option maxRecDepth 100000 in
theorem okX6_tell_out {P : qPs} {Hs : qHs} {T : qTs} {L : qLs} {S : qSs} {V : qVs} {mm : qmm} {ln : Nat → Nat} {lm : Nat} {mt : qmt} {s bf sv past : Nat → Nat} {isv : Bool} {pm : Nat} {r1 d1 it lo : Int32} {x y : Int32} (hx : isSq x = false ∨ isSq y = false) : Ok MX6_tell [.ref 40, .int x, .int y] (HH P Hs T L S V (s, bf, sv, past, isv, pm) (r1, d1, it, lo) mm (ln, lm) mt) (some (.int (-1))) (HH P Hs T L S V (s, bf, sv, past, isv, pm) (r1, d1, it, lo) mm (ln, lm) mt) := by
  refine ok_of (by decide +kernel) (Nat.zero_le _) (Nat.le_of_ble_eq_true rfl) ?_
  intro X C E
  show Ex X MX6_tell 0 [(0, .ref 40), (1, .int x), (2, .int y)] [] (HH P Hs T L S V (s, bf, sv, past, isv, pm) (r1, d1, it, lo) mm (ln, lm) mt)
  refine x_aload_n C dX6_tell_0 rfl ?_
  refine x_iload_n C dX6_tell_1 rfl ?_
  refine x_iload_n C dX6_tell_2 rfl ?_
  refine x_callV2i C (okX6_kind_out hx) lkX6_187 miX6_kind msX6_kind maX6_kind ⟨Nat.le_of_ble_eq_true rfl, Nat.le_of_ble_eq_true rfl⟩ (Nat.le_of_ble_eq_true rfl) rfl rfl dX6_tell_3 ?_
  refine x_istore_n C dX6_tell_6 (by decide) [(3, _), (0, _), (1, _), (2, _)] rfl ?_
  refine x_iload_n C dX6_tell_7 rfl ?_
  refine x_if_ge C 13 dX6_tell_8 (by decide) (fun c8 => ?_) (fun c8 => ?_)
  · exact absurd (by decide : (-1 : Int32) < 0) (Int32.not_lt.mpr c8)
  · refine x_iload_n C dX6_tell_11 rfl ?_
    exact x_iret E .int dX6_tell_12 rfl rfl rfl rfl
set_option maxHeartbeats 4000000 in
set_option maxRecDepth 100000 in
theorem okX6_tell_p0 {P : qPs} {Hs : qHs} {T : qTs} {L : qLs} {S : qSs} {V : qVs} {mm : qmm} {ln : Nat → Nat} {lm : Nat} {mt : qmt} {s bf sv past : Nat → Nat} {isv : Bool} {pm : Nat} {r1 d1 it lo : Int32} {b : Nat → Nat} (hb : ∀ i, b i < 8) (hsb : Ag s b) (hu : Uq b 7) {i j : Nat} (hi : i < 25) (hj : j < 25) (hm : movP b i j = false) : Ok MX6_tell [.ref 40, .int (nI i), .int (nI j)] (HH P Hs T L S V (s, bf, sv, past, isv, pm) (r1, d1, it, lo) mm (ln, lm) mt) (some (.int (-1))) (HH P Hs T L S V (s, bf, sv, past, isv, pm) (r1, d1, it, kindL b lo i j) mm (ln, lm) mt) := by
  refine ok_of (by decide +kernel) (Nat.zero_le _) (Nat.le_of_ble_eq_true rfl) ?_
  intro X C E
  show Ex X MX6_tell 0 [(0, .ref 40), (1, .int (nI i)), (2, .int (nI j))] [] (HH P Hs T L S V (s, bf, sv, past, isv, pm) (r1, d1, it, lo) mm (ln, lm) mt)
  have e1 : kindF b i j = -1 := by unfold kindF; rw [if_pos hm]
  refine x_aload_n C dX6_tell_0 rfl ?_
  refine x_iload_n C dX6_tell_1 rfl ?_
  refine x_iload_n C dX6_tell_2 rfl ?_
  refine x_callV2i C (okX6_kind_in hb hsb hu hi hj) lkX6_187 miX6_kind msX6_kind maX6_kind ⟨Nat.le_of_ble_eq_true rfl, Nat.le_of_ble_eq_true rfl⟩ (Nat.le_of_ble_eq_true rfl) rfl rfl dX6_tell_3 ?_
  rw [e1]
  refine x_istore_n C dX6_tell_6 (by decide) [(3, _), (0, _), (1, _), (2, _)] rfl ?_
  refine x_iload_n C dX6_tell_7 rfl ?_
  refine x_if_ge C 13 dX6_tell_8 (by decide) (fun c8 => ?_) (fun c8 => ?_)
  · exact absurd (by decide : (-1 : Int32) < 0) (Int32.not_lt.mpr c8)
  · refine x_iload_n C dX6_tell_11 rfl ?_
    exact x_iret E .int dX6_tell_12 rfl rfl rfl rfl
set_option maxHeartbeats 4000000 in
set_option maxRecDepth 100000 in
theorem okX6_tell_p1 {P : qPs} {Hs : qHs} {T : qTs} {L : qLs} {S : qSs} {V : qVs} {mm : qmm} {ln : Nat → Nat} {lm : Nat} {mt : qmt} {s bf sv past : Nat → Nat} {isv : Bool} {pm : Nat} {r1 d1 it lo : Int32} {b : Nat → Nat} (hb : ∀ i, b i < 8) (hsb : Ag s b) (hu : Uq b 7) {i j : Nat} (hi : i < 25) (hj : j < 25) (hm : movP b i j = true) (hf : fitsB b = false) : Ok MX6_tell [.ref 40, .int (nI i), .int (nI j)] (HH P Hs T L S V (s, bf, sv, past, isv, pm) (r1, d1, it, lo) mm (ln, lm) mt) (some (.int (-4))) (HH P Hs T L S V (s, bf, sv, past, isv, pm) (r1, d1, it, kindL b lo i j) mm (ln, lm) mt) := by
  refine ok_of (by decide +kernel) (Nat.zero_le _) (Nat.le_of_ble_eq_true rfl) ?_
  intro X C E
  show Ex X MX6_tell 0 [(0, .ref 40), (1, .int (nI i)), (2, .int (nI j))] [] (HH P Hs T L S V (s, bf, sv, past, isv, pm) (r1, d1, it, lo) mm (ln, lm) mt)
  have e1 : kindF b i j = -4 := by unfold kindF; rw [if_neg (by rw [hm]; decide), if_pos hf]
  refine x_aload_n C dX6_tell_0 rfl ?_
  refine x_iload_n C dX6_tell_1 rfl ?_
  refine x_iload_n C dX6_tell_2 rfl ?_
  refine x_callV2i C (okX6_kind_in hb hsb hu hi hj) lkX6_187 miX6_kind msX6_kind maX6_kind ⟨Nat.le_of_ble_eq_true rfl, Nat.le_of_ble_eq_true rfl⟩ (Nat.le_of_ble_eq_true rfl) rfl rfl dX6_tell_3 ?_
  rw [e1]
  refine x_istore_n C dX6_tell_6 (by decide) [(3, _), (0, _), (1, _), (2, _)] rfl ?_
  refine x_iload_n C dX6_tell_7 rfl ?_
  refine x_if_ge C 13 dX6_tell_8 (by decide) (fun c8 => ?_) (fun c8 => ?_)
  · exact absurd (by decide : (-4 : Int32) < 0) (Int32.not_lt.mpr c8)
  · refine x_iload_n C dX6_tell_11 rfl ?_
    exact x_iret E .int dX6_tell_12 rfl rfl rfl rfl
set_option maxHeartbeats 4000000 in
set_option maxRecDepth 100000 in
theorem okX6_tell_p2 {P : qPs} {Hs : qHs} {T : qTs} {L : qLs} {S : qSs} {V : qVs} {mm : qmm} {ln : Nat → Nat} {lm : Nat} {mt : qmt} {s bf sv past : Nat → Nat} {isv : Bool} {pm : Nat} {r1 d1 it lo : Int32} {b : Nat → Nat} (hb : ∀ i, b i < 8) (hsb : Ag s b) (hu : Uq b 7) {i j : Nat} (hi : i < 25) (hj : j < 25) (hm : movP b i j = true) (hf : fitsB b = true) : Ok MX6_tell [.ref 40, .int (nI i), .int (nI j)] (HH P Hs T L S V (s, bf, sv, past, isv, pm) (r1, d1, it, lo) mm (ln, lm) mt) (some (.int (nI (telN b i j).length))) (HH P Hs T L S V (s, bf, sv, past, isv, pm) (r1, d1, it, kindL b lo i j) mm (wl ln (telN b i j), (telN b i j).length) mt) := by
  refine ok_of (by decide +kernel) (Nat.zero_le _) (Nat.le_of_ble_eq_true rfl) ?_
  intro X C E
  show Ex X MX6_tell 0 [(0, .ref 40), (1, .int (nI i)), (2, .int (nI j))] [] (HH P Hs T L S V (s, bf, sv, past, isv, pm) (r1, d1, it, lo) mm (ln, lm) mt)
  have hq : 0 < 2 := by decide
  have hbi := hb i
  have hbj := hb j
  have hk3 := kindB_le (aft b i j)
  have e1 : kindF b i j = nI (kindB (aft b i j)) := by unfold kindF; rw [if_neg (by rw [hm]; decide), if_neg (by rw [hf]; decide)]
  obtain ⟨x4, hx4e⟩ : ∃ x4, x4 = (if b j = 6 then 120 else 45) := ⟨_, rfl⟩
  have hT : (if kindB (aft b i j) = 0 then (((([] ++ [sgC (b i)]) ++ [97 + i % 5, 49 + i / 5]) ++ [x4]) ++ [97 + j % 5, 49 + j / 5]) else (((([] ++ [sgC (b i)]) ++ [97 + i % 5, 49 + i / 5]) ++ [x4]) ++ [97 + j % 5, 49 + j / 5]) ++ [kSg (kindB (aft b i j))]) = telN b i j := by unfold telN tel6; rw [hx4e]
  generalize telN b i j = TN at hT E
  generalize kindB (aft b i j) = k at hT e1 hk3
  have hx4 : x4 < 128 := by rw [hx4e]; split <;> omega
  have hx7 : kSg k < 128 := by unfold kSg; (repeat' split) <;> omega
  have K57 : Ex X MX6_tell 57 [(3, .int (nI k)), (0, .ref 40), (1, .int (nI i)), (2, .int (nI j))] [.int (nI x4), .ref 40] (HH P Hs T L S V (s, bf, sv, past, isv, pm) (r1, d1, it, kindL b lo i j) mm (wl ln (([] ++ [sgC (b i)]) ++ [97 + i % 5, 49 + i / 5]), ((([] ++ [sgC (b i)]) ++ [97 + i % 5, 49 + i / 5])).length) mt) := by
    refine x_callV1v C (okX6_says (Nat.le_of_ble_eq_true rfl) hx4) lkX6_183 miX6_says msX6_says maX6_says ⟨Nat.le_of_ble_eq_true rfl, Nat.le_of_ble_eq_true rfl⟩ (Nat.le_of_ble_eq_true rfl) rfl rfl dX6_tell_57 ?_
    refine x_heap wl_saidH ?_
    refine x_aload_n C dX6_tell_60 rfl ?_
    refine x_iload_n C dX6_tell_61 rfl ?_
    refine x_callV1v C (okX6_saysSquare (Nat.le_of_ble_eq_true rfl) hj) lkX6_190 miX6_saysSquare msX6_saysSquare maX6_saysSquare ⟨Nat.le_of_ble_eq_true rfl, Nat.le_of_ble_eq_true rfl⟩ (Nat.le_of_ble_eq_true rfl) rfl rfl dX6_tell_62 ?_
    refine x_heap wl_said2 ?_
    refine x_iload_n C dX6_tell_65 rfl ?_
    refine x_if_leN C 95 dX6_tell_66 (by decide) (by omega) (fun c66 => ?_) (fun c66 => ?_)
    · refine x_aload_n C dX6_tell_95 rfl ?_
      refine x_getfield C qk6 15 (by decide) lfX6_172 dX6_tell_96 rfl rfl ?_
      exact x_iret E .int dX6_tell_99 rfl rfl (by rw [← hT, if_pos c66]) (by rw [← hT, if_pos c66])
    · refine x_aload_n C dX6_tell_69 rfl ?_
      refine x_iload_n C dX6_tell_70 rfl ?_
      refine x_iconst C (v := nI 3) dX6_tell_71 (by decide +kernel) ?_
      refine x_icmp_neN C 80 dX6_tell_72 (by decide) (by omega) (by omega) (fun c72 => ?_) (fun c72 => ?_)
      · refine x_iload_n C dX6_tell_80 rfl ?_
        refine x_iconst C (v := nI 2) dX6_tell_81 (by decide +kernel) ?_
        refine x_icmp_neN C 90 dX6_tell_82 (by decide) (by omega) (by omega) (fun c82 => ?_) (fun c82 => ?_)
        · have e7 : nI 61 = nI (kSg k) := by unfold kSg; rw [if_neg c72, if_neg c82]
          refine x_bipush C (v := nI 61) dX6_tell_90 (by decide +kernel) ?_
          refine x_top e7 ?_
          refine x_callV1v C (okX6_says (Nat.le_of_ble_eq_true rfl) hx7) lkX6_183 miX6_says msX6_says maX6_says ⟨Nat.le_of_ble_eq_true rfl, Nat.le_of_ble_eq_true rfl⟩ (Nat.le_of_ble_eq_true rfl) rfl rfl dX6_tell_92 ?_
          refine x_heap wl_saidH ?_
          refine x_aload_n C dX6_tell_95 rfl ?_
          refine x_getfield C qk6 15 (by decide) lfX6_172 dX6_tell_96 rfl rfl ?_
          exact x_iret E .int dX6_tell_99 rfl rfl (by rw [← hT, if_neg c66]) (by rw [← hT, if_neg c66])
        · have e7 : nI 43 = nI (kSg k) := by unfold kSg; rw [if_neg c72, if_pos c82]
          refine x_bipush C (v := nI 43) dX6_tell_85 (by decide +kernel) ?_
          refine x_goto C 92 dX6_tell_87 (by decide) ?_
          refine x_top e7 ?_
          refine x_callV1v C (okX6_says (Nat.le_of_ble_eq_true rfl) hx7) lkX6_183 miX6_says msX6_says maX6_says ⟨Nat.le_of_ble_eq_true rfl, Nat.le_of_ble_eq_true rfl⟩ (Nat.le_of_ble_eq_true rfl) rfl rfl dX6_tell_92 ?_
          refine x_heap wl_saidH ?_
          refine x_aload_n C dX6_tell_95 rfl ?_
          refine x_getfield C qk6 15 (by decide) lfX6_172 dX6_tell_96 rfl rfl ?_
          exact x_iret E .int dX6_tell_99 rfl rfl (by rw [← hT, if_neg c66]) (by rw [← hT, if_neg c66])
      · have e7 : nI 35 = nI (kSg k) := by unfold kSg; rw [if_pos c72]
        refine x_bipush C (v := nI 35) dX6_tell_75 (by decide +kernel) ?_
        refine x_goto C 92 dX6_tell_77 (by decide) ?_
        refine x_top e7 ?_
        refine x_callV1v C (okX6_says (Nat.le_of_ble_eq_true rfl) hx7) lkX6_183 miX6_says msX6_says maX6_says ⟨Nat.le_of_ble_eq_true rfl, Nat.le_of_ble_eq_true rfl⟩ (Nat.le_of_ble_eq_true rfl) rfl rfl dX6_tell_92 ?_
        refine x_heap wl_saidH ?_
        refine x_aload_n C dX6_tell_95 rfl ?_
        refine x_getfield C qk6 15 (by decide) lfX6_172 dX6_tell_96 rfl rfl ?_
        exact x_iret E .int dX6_tell_99 rfl rfl (by rw [← hT, if_neg c66]) (by rw [← hT, if_neg c66])
  refine x_aload_n C dX6_tell_0 rfl ?_
  refine x_iload_n C dX6_tell_1 rfl ?_
  refine x_iload_n C dX6_tell_2 rfl ?_
  refine x_callV2i C (okX6_kind_in hb hsb hu hi hj) lkX6_187 miX6_kind msX6_kind maX6_kind ⟨Nat.le_of_ble_eq_true rfl, Nat.le_of_ble_eq_true rfl⟩ (Nat.le_of_ble_eq_true rfl) rfl rfl dX6_tell_3 ?_
  rw [e1]
  refine x_istore_n C dX6_tell_6 (by decide) [(3, _), (0, _), (1, _), (2, _)] rfl ?_
  refine x_iload_n C dX6_tell_7 rfl ?_
  refine x_if_geN C 13 dX6_tell_8 (by decide) (by omega) ?_
  refine x_aload_n C dX6_tell_13 rfl ?_
  refine x_iconst C (v := nI 0) dX6_tell_14 (by decide +kernel) ?_
  refine x_putfield C qk6 15 (by decide) lfX6_172 rfl (ty0 := .int) (by decide +kernel) rfl rfl dX6_tell_15 rfl (Nat.le_of_ble_eq_true rfl) ?_
  refine x_heap (h2 := HH P Hs T L S V (s, bf, sv, past, isv, pm) (r1, d1, it, kindL b lo i j) mm (ln, 0) mt) (by rfl) ?_
  refine x_heap wl_start ?_
  refine x_aload_n C dX6_tell_18 rfl ?_
  refine x_ldcS C (q := 0) (fun _ _ _ _ y => y.2.2.2.2.1.2.2.2) dX6_tell_19 ?_
  refine x_aload_n C dX6_tell_21 rfl ?_
  refine x_getfield C qk6 0 (by decide) lfX6_9 dX6_tell_22 rfl rfl ?_
  refine x_iload_n C dX6_tell_25 rfl ?_
  refine x_iald C dX6_tell_26 HM_s (by omega) (by decide) ?_
  refine x_top (congrArg nI (hsb i hi)) ?_
  refine x_callK1i C (okJ0_charAt_5068e (q := 0) hq (show b i < strN 0 from hb i) _) lkX6_177 miJ0_charAt_5068e msJ0_charAt_5068e maJ0_charAt_5068e ⟨Nat.le_of_ble_eq_true rfl, Nat.le_of_ble_eq_true rfl⟩ (Nat.le_of_ble_eq_true rfl) hq rfl dX6_tell_27 ?_
  rw [strC_sg (hb i)]
  refine x_callV1v C (okX6_says (Nat.le_of_ble_eq_true rfl) (sgC_lt (hb i))) lkX6_183 miX6_says msX6_says maX6_says ⟨Nat.le_of_ble_eq_true rfl, Nat.le_of_ble_eq_true rfl⟩ (Nat.le_of_ble_eq_true rfl) rfl rfl dX6_tell_30 ?_
  refine x_heap wl_saidH ?_
  refine x_aload_n C dX6_tell_33 rfl ?_
  refine x_iload_n C dX6_tell_34 rfl ?_
  refine x_callV1v C (okX6_saysSquare (Nat.le_of_ble_eq_true rfl) hi) lkX6_190 miX6_saysSquare msX6_saysSquare maX6_saysSquare ⟨Nat.le_of_ble_eq_true rfl, Nat.le_of_ble_eq_true rfl⟩ (Nat.le_of_ble_eq_true rfl) rfl rfl dX6_tell_35 ?_
  refine x_heap wl_said2 ?_
  refine x_aload_n C dX6_tell_38 rfl ?_
  refine x_aload_n C dX6_tell_39 rfl ?_
  refine x_getfield C qk6 0 (by decide) lfX6_9 dX6_tell_40 rfl rfl ?_
  refine x_iload_n C dX6_tell_43 rfl ?_
  refine x_iald C dX6_tell_44 HM_s (by omega) (by decide) ?_
  refine x_top (congrArg nI (hsb j hj)) ?_
  refine x_bipush C (v := nI 6) dX6_tell_45 (by decide +kernel) ?_
  refine x_icmp_neN C 55 dX6_tell_47 (by decide) (by omega) (by omega) (fun c47 => ?_) (fun c47 => ?_)
  · have e4 : nI 45 = nI x4 := by rw [hx4e, if_neg c47]
    refine x_bipush C (v := nI 45) dX6_tell_55 (by decide +kernel) ?_
    refine x_top e4 ?_
    exact K57
  · have e4 : nI 120 = nI x4 := by rw [hx4e, if_pos c47]
    refine x_bipush C (v := nI 120) dX6_tell_50 (by decide +kernel) ?_
    refine x_goto C 57 dX6_tell_52 (by decide) ?_
    refine x_top e4 ?_
    exact K57
def manI (c : Nat) : Nat := if c = 75 then 1 else if c = 81 then 2 else if c = 82 then 3 else if c = 66 then 4 else if c = 78 then 5 else if c = 35 then 6 else if c = 107 then 7 else 0
theorem idx_man {c : Nat} (hc : c < 128) : (manI c ≠ 0 ∧ idx c 8 0 = nI (manI c)) ∨ (manI c = 0 ∧ idx c 8 0 ≤ 0) :=
  (by decide +kernel : ∀ c : Fin 128, (manI c.1 ≠ 0 ∧ idx c.1 8 0 = nI (manI c.1)) ∨ (manI c.1 = 0 ∧ idx c.1 8 0 ≤ 0)) ⟨c, hc⟩
theorem manI_lt (c : Nat) : manI c < 8 := by unfold manI; (repeat' split) <;> omega
theorem manI_0 {c : Nat} (h : c = 45 ∨ (97 ≤ c ∧ c ≤ 101) ∨ c = 116 ∨ c = 109 ∨ c = 115 ∨ c = 0) : manI c = 0 := by
  unfold manI
  rw [if_neg (by omega), if_neg (by omega), if_neg (by omega), if_neg (by omega), if_neg (by omega), if_neg (by omega), if_neg (by omega)]
def chA (tx : Nat → Nat) (n a0 : Nat) : Nat := if a0 < n then tx a0 else 0
def tmsN (c : Nat) : Nat := if c = 116 then 10 else if c = 109 then 11 else 12
abbrev qO4 : Type := Nat × Bool × (Nat → Nat) × Nat
def plyA (tx : Nat → Nat) (n a0 : Nat) : Nat × Bool × Nat := sgn tx n 45 45 (sqr tx n a0 false).1 (sqr tx n a0 false).2.1
def plyB (tx : Nat → Nat) (n a0 : Nat) : Nat × Bool × Nat := sqr tx n (plyA tx n a0).1 (plyA tx n a0).2.1
def roF (tx : Nat → Nat) (n a0 : Nat) (od : Nat → Nat) (o : Nat) : qO4 :=
  if manI (chA tx n a0) ≠ 0 then ((sqr tx n (a0 + 1) false).1, (sqr tx n (a0 + 1) false).2.1, ordF od o (manI (chA tx n a0)) (sqr tx n (a0 + 1) false).2.2 0, o + 1)
  else if chA tx n a0 = 45 then ((sqr tx n (a0 + 1) false).1, (sqr tx n (a0 + 1) false).2.1, ordF od o 8 (sqr tx n (a0 + 1) false).2.2 0, o + 1)
  else if 97 ≤ chA tx n a0 ∧ chA tx n a0 ≤ 101 then ((plyB tx n a0).1, (plyB tx n a0).2.1, ordF od o 9 (sqr tx n a0 false).2.2 (plyB tx n a0).2.2, o + 1)
  else if chA tx n a0 = 116 ∨ chA tx n a0 = 109 ∨ chA tx n a0 = 115 then (a0 + 1, false, ordF od o (tmsN (chA tx n a0)) 0 0, o + 1)
  else (a0, true, od, o)
theorem sqr_b {tx : Nat → Nat} {n a0 : Nat} {wr : Bool} (ha : a0 ≤ n) : (sqr tx n a0 wr).1 ≤ n ∧ a0 ≤ (sqr tx n a0 wr).1 ∧ (sqr tx n a0 wr).2.2 < 25 := by
  have h1 := sgn_b (tx := tx) (lo := 97) (hi := 101) (wr := wr) ha
  have h2 := sgn_b (tx := tx) (lo := 49) (hi := 53) (wr := (sgn tx n 97 101 a0 wr).2.1) h1.1
  unfold sqr
  refine ⟨?_, ?_, ?_⟩ <;> simp only [] <;> omega
theorem chA_pos {tx : Nat → Nat} {n a0 : Nat} (h : chA tx n a0 ≠ 0) : a0 < n ∧ chA tx n a0 = tx a0 := by
  unfold chA at h ⊢
  by_cases e : a0 < n
  · rw [if_pos e]; exact ⟨e, rfl⟩
  · rw [if_neg e] at h; exact absurd rfl h
set_option maxHeartbeats 4000000 in
set_option maxRecDepth 100000 in
theorem okX6_readOrder {P : qPs} {Hs : qHs} {T : qTs} {L : qLs} {S : qSs} {V : qVs} {ms : qms} {mr : qmr} {mm : qmm} {ml : qml} {tx od : Nat → Nat} {n a0 o : Nat} (hn : n ≤ 70) (ht : ∀ i, tx i < 128) (ha : a0 ≤ n) (ho : o ≤ a0) : Ok MX6_readOrder [.ref 40] (HH P Hs T L S V ms mr mm ml (tx, n, a0, false, od, o)) (none) (HH P Hs T L S V ms mr mm ml (tx, n, (roF tx n a0 od o).1, (roF tx n a0 od o).2.1, (roF tx n a0 od o).2.2.1, (roF tx n a0 od o).2.2.2)) := by
  refine ok_of (by decide +kernel) (Nat.zero_le _) (Nat.le_of_ble_eq_true rfl) ?_
  intro X C E
  show Ex X MX6_readOrder 0 [(0, .ref 40)] [] (HH P Hs T L S V ms mr mm ml (tx, n, a0, false, od, o))
  have hta := ht a0
  have hq : 0 < 2 := by decide
  have K32 : Ex X MX6_readOrder 32 [(0, .ref 40)] [.int (nI (chA tx n a0))] (HH P Hs T L S V ms mr mm ml (tx, n, a0, false, od, o)) := by
    have hcp := chA_pos (tx := tx) (n := n) (a0 := a0)
    have hc : chA tx n a0 < 128 := by unfold chA; split <;> omega
    unfold roF at E
    generalize chA tx n a0 = c at E hc hcp
    have hmi := manI_lt c
    rcases idx_man hc with ⟨hm, himn⟩ | ⟨hm, himn⟩
    · have hlt : a0 + 1 ≤ n := (hcp (fun z => hm (by rw [z]; rfl))).1
      have ho1 : o < 70 := by omega
      rw [if_pos hm] at E
      refine x_istore_n C dX6_readOrder_32 (by decide) [(1, _), (0, _)] rfl ?_
      refine x_ldcS C (q := 0) (fun _ _ _ _ y => y.2.2.2.2.1.2.2.2) dX6_readOrder_33 ?_
      refine x_iload_n C dX6_readOrder_35 rfl ?_
      refine x_callK1i C (okJ0_indexOf_0f7a4 hc _) lkX6_215 miJ0_indexOf_0f7a4 msJ0_indexOf_0f7a4 maJ0_indexOf_0f7a4 ⟨Nat.le_of_ble_eq_true rfl, Nat.le_of_ble_eq_true rfl⟩ (Nat.le_of_ble_eq_true rfl) hq rfl dX6_readOrder_36 ?_
      rw [himn]
      refine x_istore_n C dX6_readOrder_39 (by decide) [(2, _), (1, _), (0, _)] rfl ?_
      refine x_iload_n C dX6_readOrder_40 rfl ?_
      refine x_if_le C 67 dX6_readOrder_41 (by decide) (fun c41 => ?_) (fun c41 => ?_)
      · exact absurd c41 (Int32.not_le.mpr ((nI_ltI (a := 0) (by decide) (by omega)).mpr (by omega)))
      · refine x_aload_n C dX6_readOrder_44 rfl ?_
        refine x_dup C rfl dX6_readOrder_45 ?_
        refine x_getfield C qk6 18 (by decide) lfX6_201 dX6_readOrder_46 rfl rfl ?_
        refine x_top (v := nI a0) (by rfl) ?_
        refine x_iconst C (v := nI 1) dX6_readOrder_49 (by decide +kernel) ?_
        refine x_iaddN C dX6_readOrder_50 ?_
        refine x_putfield C qk6 18 (by decide) lfX6_201 rfl (ty0 := .int) (by decide +kernel) rfl rfl dX6_readOrder_51 rfl (Nat.le_of_ble_eq_true rfl) ?_
        refine x_heap (h2 := HH P Hs T L S V ms mr mm ml (tx, n, a0 + 1, false, od, o)) (by rfl) ?_
        refine x_aload_n C dX6_readOrder_54 rfl ?_
        refine x_iload_n C dX6_readOrder_55 rfl ?_
        refine x_aload_n C dX6_readOrder_56 rfl ?_
        refine x_callV0i C (okX6_square hn ht hlt) lkX6_218 miX6_square msX6_square maX6_square ⟨Nat.le_of_ble_eq_true rfl, Nat.le_of_ble_eq_true rfl⟩ (Nat.le_of_ble_eq_true rfl) rfl rfl dX6_readOrder_57 ?_
        refine x_iconst C (v := nI 0) dX6_readOrder_60 (by decide +kernel) ?_
        refine x_callV3v C (okX6_order ho1 (manI c) (sqr tx n (a0 + 1) false).2.2 0) lkX6_221 miX6_order msX6_order maX6_order ⟨Nat.le_of_ble_eq_true rfl, Nat.le_of_ble_eq_true rfl⟩ (Nat.le_of_ble_eq_true rfl) rfl rfl dX6_readOrder_61 ?_
        refine x_goto C 203 dX6_readOrder_64 (by decide) ?_
        exact x_vret E dX6_readOrder_203 rfl rfl rfl
    · by_cases h45 : c = 45
      · have hlt : a0 + 1 ≤ n := (hcp (by omega)).1
        have ho1 : o < 70 := by omega
        rw [if_neg (fun z => z hm), if_pos h45] at E
        refine x_istore_n C dX6_readOrder_32 (by decide) [(1, _), (0, _)] rfl ?_
        refine x_ldcS C (q := 0) (fun _ _ _ _ y => y.2.2.2.2.1.2.2.2) dX6_readOrder_33 ?_
        refine x_iload_n C dX6_readOrder_35 rfl ?_
        refine x_callK1i C (okJ0_indexOf_0f7a4 hc _) lkX6_215 miJ0_indexOf_0f7a4 msJ0_indexOf_0f7a4 maJ0_indexOf_0f7a4 ⟨Nat.le_of_ble_eq_true rfl, Nat.le_of_ble_eq_true rfl⟩ (Nat.le_of_ble_eq_true rfl) hq rfl dX6_readOrder_36 ?_
        refine x_istore_n C dX6_readOrder_39 (by decide) [(2, _), (1, _), (0, _)] rfl ?_
        refine x_iload_n C dX6_readOrder_40 rfl ?_
        refine x_if_le C 67 dX6_readOrder_41 (by decide) (fun c41 => ?_) (fun c41 => ?_)
        · refine x_iload_n C dX6_readOrder_67 rfl ?_
          refine x_bipush C (v := nI 45) dX6_readOrder_68 (by decide +kernel) ?_
          refine x_icmp_neN C 97 dX6_readOrder_70 (by decide) (by omega) (by omega) (fun c70 => ?_) (fun c70 => ?_)
          · exact absurd h45 c70
          · refine x_aload_n C dX6_readOrder_73 rfl ?_
            refine x_dup C rfl dX6_readOrder_74 ?_
            refine x_getfield C qk6 18 (by decide) lfX6_201 dX6_readOrder_75 rfl rfl ?_
            refine x_top (v := nI a0) (by rfl) ?_
            refine x_iconst C (v := nI 1) dX6_readOrder_78 (by decide +kernel) ?_
            refine x_iaddN C dX6_readOrder_79 ?_
            refine x_putfield C qk6 18 (by decide) lfX6_201 rfl (ty0 := .int) (by decide +kernel) rfl rfl dX6_readOrder_80 rfl (Nat.le_of_ble_eq_true rfl) ?_
            refine x_heap (h2 := HH P Hs T L S V ms mr mm ml (tx, n, a0 + 1, false, od, o)) (by rfl) ?_
            refine x_aload_n C dX6_readOrder_83 rfl ?_
            refine x_bipush C (v := nI 8) dX6_readOrder_84 (by decide +kernel) ?_
            refine x_aload_n C dX6_readOrder_86 rfl ?_
            refine x_callV0i C (okX6_square hn ht hlt) lkX6_218 miX6_square msX6_square maX6_square ⟨Nat.le_of_ble_eq_true rfl, Nat.le_of_ble_eq_true rfl⟩ (Nat.le_of_ble_eq_true rfl) rfl rfl dX6_readOrder_87 ?_
            refine x_iconst C (v := nI 0) dX6_readOrder_90 (by decide +kernel) ?_
            refine x_callV3v C (okX6_order ho1 8 (sqr tx n (a0 + 1) false).2.2 0) lkX6_221 miX6_order msX6_order maX6_order ⟨Nat.le_of_ble_eq_true rfl, Nat.le_of_ble_eq_true rfl⟩ (Nat.le_of_ble_eq_true rfl) rfl rfl dX6_readOrder_91 ?_
            refine x_goto C 203 dX6_readOrder_94 (by decide) ?_
            exact x_vret E dX6_readOrder_203 rfl rfl rfl
        · exact absurd himn c41
      · by_cases hp : 97 ≤ c ∧ c ≤ 101
        · obtain ⟨hlt0, hce⟩ := hcp (by omega)
          have ho1 : o < 70 := by omega
          rw [if_neg (fun z => z hm), if_neg h45, if_pos hp] at E
          unfold plyB plyA at E
          have hb1 := sqr_b (tx := tx) (wr := false) (Nat.le_of_lt hlt0)
          have hb2 := sgn_b (tx := tx) (lo := 45) (hi := 45) (wr := (sqr tx n a0 false).2.1) hb1.1
          refine x_istore_n C dX6_readOrder_32 (by decide) [(1, _), (0, _)] rfl ?_
          refine x_ldcS C (q := 0) (fun _ _ _ _ y => y.2.2.2.2.1.2.2.2) dX6_readOrder_33 ?_
          refine x_iload_n C dX6_readOrder_35 rfl ?_
          refine x_callK1i C (okJ0_indexOf_0f7a4 hc _) lkX6_215 miJ0_indexOf_0f7a4 msJ0_indexOf_0f7a4 maJ0_indexOf_0f7a4 ⟨Nat.le_of_ble_eq_true rfl, Nat.le_of_ble_eq_true rfl⟩ (Nat.le_of_ble_eq_true rfl) hq rfl dX6_readOrder_36 ?_
          refine x_istore_n C dX6_readOrder_39 (by decide) [(2, _), (1, _), (0, _)] rfl ?_
          refine x_iload_n C dX6_readOrder_40 rfl ?_
          refine x_if_le C 67 dX6_readOrder_41 (by decide) (fun c41 => ?_) (fun c41 => ?_)
          · refine x_iload_n C dX6_readOrder_67 rfl ?_
            refine x_bipush C (v := nI 45) dX6_readOrder_68 (by decide +kernel) ?_
            refine x_icmp_neN C 97 dX6_readOrder_70 (by decide) (by omega) (by omega) (fun c70 => ?_) (fun c70 => ?_)
            · refine x_iload_n C dX6_readOrder_97 rfl ?_
              refine x_bipush C (v := nI 97) dX6_readOrder_98 (by decide +kernel) ?_
              refine x_bipush C (v := nI 101) dX6_readOrder_100 (by decide +kernel) ?_
              refine x_callS3i C (okX6_in _ _ _ _) lkX6_60 miX6_in mtX6_in maX6_in ⟨Nat.le_of_ble_eq_true rfl, Nat.le_of_ble_eq_true rfl⟩ (Nat.le_of_ble_eq_true rfl) dX6_readOrder_102 ?_
              rw [inB_nI (by omega) (by decide) (by decide)]
              refine x_if_eqB C 137 dX6_readOrder_105 (by decide) (fun c105 => ?_) (fun c105 => ?_)
              · rw [decide_eq_true hp] at c105; cases c105
              · refine x_aload_n C dX6_readOrder_108 rfl ?_
                refine x_callV0i C (okX6_square hn ht (Nat.le_of_lt hlt0)) lkX6_218 miX6_square msX6_square maX6_square ⟨Nat.le_of_ble_eq_true rfl, Nat.le_of_ble_eq_true rfl⟩ (Nat.le_of_ble_eq_true rfl) rfl rfl dX6_readOrder_109 ?_
                refine x_istore_n C dX6_readOrder_112 (by decide) [(3, _), (2, _), (1, _), (0, _)] rfl ?_
                refine x_aload_n C dX6_readOrder_113 rfl ?_
                refine x_bipush C (v := nI 45) dX6_readOrder_114 (by decide +kernel) ?_
                refine x_bipush C (v := nI 45) dX6_readOrder_116 (by decide +kernel) ?_
                refine x_callV2i C (okX6_signAt hn ht hb1.1 (by decide) (by decide)) lkX6_208 miX6_signAt msX6_signAt maX6_signAt ⟨Nat.le_of_ble_eq_true rfl, Nat.le_of_ble_eq_true rfl⟩ (Nat.le_of_ble_eq_true rfl) rfl rfl dX6_readOrder_118 ?_
                refine x_istore C dX6_readOrder_121 (by decide) [(4, _), (3, _), (2, _), (1, _), (0, _)] rfl ?_
                refine x_aload_n C dX6_readOrder_123 rfl ?_
                refine x_bipush C (v := nI 9) dX6_readOrder_124 (by decide +kernel) ?_
                refine x_iload_n C dX6_readOrder_126 rfl ?_
                refine x_aload_n C dX6_readOrder_127 rfl ?_
                refine x_callV0i C (okX6_square hn ht hb2.1) lkX6_218 miX6_square msX6_square maX6_square ⟨Nat.le_of_ble_eq_true rfl, Nat.le_of_ble_eq_true rfl⟩ (Nat.le_of_ble_eq_true rfl) rfl rfl dX6_readOrder_128 ?_
                refine x_callV3v C (okX6_order ho1 9 (sqr tx n a0 false).2.2 _) lkX6_221 miX6_order msX6_order maX6_order ⟨Nat.le_of_ble_eq_true rfl, Nat.le_of_ble_eq_true rfl⟩ (Nat.le_of_ble_eq_true rfl) rfl rfl dX6_readOrder_131 ?_
                refine x_goto C 203 dX6_readOrder_134 (by decide) ?_
                exact x_vret E dX6_readOrder_203 rfl rfl rfl
            · exact absurd c70 h45
          · exact absurd himn c41
        · by_cases h3 : c = 116 ∨ c = 109 ∨ c = 115
          · have hlt : a0 + 1 ≤ n := (hcp (by omega)).1
            have ho1 : o < 70 := by omega
            rw [if_neg (fun z => z hm), if_neg h45, if_neg hp, if_pos h3] at E
            refine x_istore_n C dX6_readOrder_32 (by decide) [(1, _), (0, _)] rfl ?_
            refine x_ldcS C (q := 0) (fun _ _ _ _ y => y.2.2.2.2.1.2.2.2) dX6_readOrder_33 ?_
            refine x_iload_n C dX6_readOrder_35 rfl ?_
            refine x_callK1i C (okJ0_indexOf_0f7a4 hc _) lkX6_215 miJ0_indexOf_0f7a4 msJ0_indexOf_0f7a4 maJ0_indexOf_0f7a4 ⟨Nat.le_of_ble_eq_true rfl, Nat.le_of_ble_eq_true rfl⟩ (Nat.le_of_ble_eq_true rfl) hq rfl dX6_readOrder_36 ?_
            refine x_istore_n C dX6_readOrder_39 (by decide) [(2, _), (1, _), (0, _)] rfl ?_
            refine x_iload_n C dX6_readOrder_40 rfl ?_
            refine x_if_le C 67 dX6_readOrder_41 (by decide) (fun c41 => ?_) (fun c41 => ?_)
            · refine x_iload_n C dX6_readOrder_67 rfl ?_
              refine x_bipush C (v := nI 45) dX6_readOrder_68 (by decide +kernel) ?_
              refine x_icmp_neN C 97 dX6_readOrder_70 (by decide) (by omega) (by omega) (fun c70 => ?_) (fun c70 => ?_)
              · refine x_iload_n C dX6_readOrder_97 rfl ?_
                refine x_bipush C (v := nI 97) dX6_readOrder_98 (by decide +kernel) ?_
                refine x_bipush C (v := nI 101) dX6_readOrder_100 (by decide +kernel) ?_
                refine x_callS3i C (okX6_in _ _ _ _) lkX6_60 miX6_in mtX6_in maX6_in ⟨Nat.le_of_ble_eq_true rfl, Nat.le_of_ble_eq_true rfl⟩ (Nat.le_of_ble_eq_true rfl) dX6_readOrder_102 ?_
                rw [inB_nI (by omega) (by decide) (by decide)]
                refine x_if_eqB C 137 dX6_readOrder_105 (by decide) (fun c105 => ?_) (fun c105 => ?_)
                · refine x_iload_n C dX6_readOrder_137 rfl ?_
                  refine x_bipush C (v := nI 116) dX6_readOrder_138 (by decide +kernel) ?_
                  refine x_icmp_eqN C 155 dX6_readOrder_140 (by decide) (by omega) (by omega) (fun c140 => ?_) (fun c140 => ?_)
                  · refine x_aload_n C dX6_readOrder_155 rfl ?_
                    refine x_dup C rfl dX6_readOrder_156 ?_
                    refine x_getfield C qk6 18 (by decide) lfX6_201 dX6_readOrder_157 rfl rfl ?_
                    refine x_top (v := nI a0) (by rfl) ?_
                    refine x_iconst C (v := nI 1) dX6_readOrder_160 (by decide +kernel) ?_
                    refine x_iaddN C dX6_readOrder_161 ?_
                    refine x_putfield C qk6 18 (by decide) lfX6_201 rfl (ty0 := .int) (by decide +kernel) rfl rfl dX6_readOrder_162 rfl (Nat.le_of_ble_eq_true rfl) ?_
                    refine x_heap (h2 := HH P Hs T L S V ms mr mm ml (tx, n, a0 + 1, false, od, o)) (by rfl) ?_
                    refine x_aload_n C dX6_readOrder_165 rfl ?_
                    refine x_iload_n C dX6_readOrder_166 rfl ?_
                    refine x_bipush C (v := nI 116) dX6_readOrder_167 (by decide +kernel) ?_
                    refine x_icmp_neN C 177 dX6_readOrder_169 (by decide) (by omega) (by omega) (fun c169 => ?_) (fun c169 => ?_)
                    · refine x_iload_n C dX6_readOrder_177 rfl ?_
                      refine x_bipush C (v := nI 109) dX6_readOrder_178 (by decide +kernel) ?_
                      refine x_icmp_neN C 188 dX6_readOrder_180 (by decide) (by omega) (by omega) (fun c180 => ?_) (fun c180 => ?_)
                      · have e10 : nI 12 = nI (tmsN c) := by unfold tmsN; rw [if_neg c169, if_neg c180]
                        refine x_bipush C (v := nI 12) dX6_readOrder_188 (by decide +kernel) ?_
                        refine x_top e10 ?_
                        refine x_iconst C (v := nI 0) dX6_readOrder_190 (by decide +kernel) ?_
                        refine x_iconst C (v := nI 0) dX6_readOrder_191 (by decide +kernel) ?_
                        refine x_callV3v C (okX6_order ho1 (tmsN c) 0 0) lkX6_221 miX6_order msX6_order maX6_order ⟨Nat.le_of_ble_eq_true rfl, Nat.le_of_ble_eq_true rfl⟩ (Nat.le_of_ble_eq_true rfl) rfl rfl dX6_readOrder_192 ?_
                        refine x_goto C 203 dX6_readOrder_195 (by decide) ?_
                        exact x_vret E dX6_readOrder_203 rfl rfl rfl
                      · have e10 : nI 11 = nI (tmsN c) := by unfold tmsN; rw [if_neg c169, if_pos c180]
                        refine x_bipush C (v := nI 11) dX6_readOrder_183 (by decide +kernel) ?_
                        refine x_goto C 190 dX6_readOrder_185 (by decide) ?_
                        refine x_top e10 ?_
                        refine x_iconst C (v := nI 0) dX6_readOrder_190 (by decide +kernel) ?_
                        refine x_iconst C (v := nI 0) dX6_readOrder_191 (by decide +kernel) ?_
                        refine x_callV3v C (okX6_order ho1 (tmsN c) 0 0) lkX6_221 miX6_order msX6_order maX6_order ⟨Nat.le_of_ble_eq_true rfl, Nat.le_of_ble_eq_true rfl⟩ (Nat.le_of_ble_eq_true rfl) rfl rfl dX6_readOrder_192 ?_
                        refine x_goto C 203 dX6_readOrder_195 (by decide) ?_
                        exact x_vret E dX6_readOrder_203 rfl rfl rfl
                    · have e10 : nI 10 = nI (tmsN c) := by unfold tmsN; rw [if_pos c169]
                      refine x_bipush C (v := nI 10) dX6_readOrder_172 (by decide +kernel) ?_
                      refine x_goto C 190 dX6_readOrder_174 (by decide) ?_
                      refine x_top e10 ?_
                      refine x_iconst C (v := nI 0) dX6_readOrder_190 (by decide +kernel) ?_
                      refine x_iconst C (v := nI 0) dX6_readOrder_191 (by decide +kernel) ?_
                      refine x_callV3v C (okX6_order ho1 (tmsN c) 0 0) lkX6_221 miX6_order msX6_order maX6_order ⟨Nat.le_of_ble_eq_true rfl, Nat.le_of_ble_eq_true rfl⟩ (Nat.le_of_ble_eq_true rfl) rfl rfl dX6_readOrder_192 ?_
                      refine x_goto C 203 dX6_readOrder_195 (by decide) ?_
                      exact x_vret E dX6_readOrder_203 rfl rfl rfl
                  · refine x_iload_n C dX6_readOrder_143 rfl ?_
                    refine x_bipush C (v := nI 109) dX6_readOrder_144 (by decide +kernel) ?_
                    refine x_icmp_eqN C 155 dX6_readOrder_146 (by decide) (by omega) (by omega) (fun c146 => ?_) (fun c146 => ?_)
                    · refine x_aload_n C dX6_readOrder_155 rfl ?_
                      refine x_dup C rfl dX6_readOrder_156 ?_
                      refine x_getfield C qk6 18 (by decide) lfX6_201 dX6_readOrder_157 rfl rfl ?_
                      refine x_top (v := nI a0) (by rfl) ?_
                      refine x_iconst C (v := nI 1) dX6_readOrder_160 (by decide +kernel) ?_
                      refine x_iaddN C dX6_readOrder_161 ?_
                      refine x_putfield C qk6 18 (by decide) lfX6_201 rfl (ty0 := .int) (by decide +kernel) rfl rfl dX6_readOrder_162 rfl (Nat.le_of_ble_eq_true rfl) ?_
                      refine x_heap (h2 := HH P Hs T L S V ms mr mm ml (tx, n, a0 + 1, false, od, o)) (by rfl) ?_
                      refine x_aload_n C dX6_readOrder_165 rfl ?_
                      refine x_iload_n C dX6_readOrder_166 rfl ?_
                      refine x_bipush C (v := nI 116) dX6_readOrder_167 (by decide +kernel) ?_
                      refine x_icmp_neN C 177 dX6_readOrder_169 (by decide) (by omega) (by omega) (fun c169 => ?_) (fun c169 => ?_)
                      · refine x_iload_n C dX6_readOrder_177 rfl ?_
                        refine x_bipush C (v := nI 109) dX6_readOrder_178 (by decide +kernel) ?_
                        refine x_icmp_neN C 188 dX6_readOrder_180 (by decide) (by omega) (by omega) (fun c180 => ?_) (fun c180 => ?_)
                        · have e10 : nI 12 = nI (tmsN c) := by unfold tmsN; rw [if_neg c169, if_neg c180]
                          refine x_bipush C (v := nI 12) dX6_readOrder_188 (by decide +kernel) ?_
                          refine x_top e10 ?_
                          refine x_iconst C (v := nI 0) dX6_readOrder_190 (by decide +kernel) ?_
                          refine x_iconst C (v := nI 0) dX6_readOrder_191 (by decide +kernel) ?_
                          refine x_callV3v C (okX6_order ho1 (tmsN c) 0 0) lkX6_221 miX6_order msX6_order maX6_order ⟨Nat.le_of_ble_eq_true rfl, Nat.le_of_ble_eq_true rfl⟩ (Nat.le_of_ble_eq_true rfl) rfl rfl dX6_readOrder_192 ?_
                          refine x_goto C 203 dX6_readOrder_195 (by decide) ?_
                          exact x_vret E dX6_readOrder_203 rfl rfl rfl
                        · have e10 : nI 11 = nI (tmsN c) := by unfold tmsN; rw [if_neg c169, if_pos c180]
                          refine x_bipush C (v := nI 11) dX6_readOrder_183 (by decide +kernel) ?_
                          refine x_goto C 190 dX6_readOrder_185 (by decide) ?_
                          refine x_top e10 ?_
                          refine x_iconst C (v := nI 0) dX6_readOrder_190 (by decide +kernel) ?_
                          refine x_iconst C (v := nI 0) dX6_readOrder_191 (by decide +kernel) ?_
                          refine x_callV3v C (okX6_order ho1 (tmsN c) 0 0) lkX6_221 miX6_order msX6_order maX6_order ⟨Nat.le_of_ble_eq_true rfl, Nat.le_of_ble_eq_true rfl⟩ (Nat.le_of_ble_eq_true rfl) rfl rfl dX6_readOrder_192 ?_
                          refine x_goto C 203 dX6_readOrder_195 (by decide) ?_
                          exact x_vret E dX6_readOrder_203 rfl rfl rfl
                      · have e10 : nI 10 = nI (tmsN c) := by unfold tmsN; rw [if_pos c169]
                        refine x_bipush C (v := nI 10) dX6_readOrder_172 (by decide +kernel) ?_
                        refine x_goto C 190 dX6_readOrder_174 (by decide) ?_
                        refine x_top e10 ?_
                        refine x_iconst C (v := nI 0) dX6_readOrder_190 (by decide +kernel) ?_
                        refine x_iconst C (v := nI 0) dX6_readOrder_191 (by decide +kernel) ?_
                        refine x_callV3v C (okX6_order ho1 (tmsN c) 0 0) lkX6_221 miX6_order msX6_order maX6_order ⟨Nat.le_of_ble_eq_true rfl, Nat.le_of_ble_eq_true rfl⟩ (Nat.le_of_ble_eq_true rfl) rfl rfl dX6_readOrder_192 ?_
                        refine x_goto C 203 dX6_readOrder_195 (by decide) ?_
                        exact x_vret E dX6_readOrder_203 rfl rfl rfl
                    · refine x_iload_n C dX6_readOrder_149 rfl ?_
                      refine x_bipush C (v := nI 115) dX6_readOrder_150 (by decide +kernel) ?_
                      refine x_icmp_neN C 198 dX6_readOrder_152 (by decide) (by omega) (by omega) (fun c152 => ?_) (fun c152 => ?_)
                      · omega
                      · refine x_aload_n C dX6_readOrder_155 rfl ?_
                        refine x_dup C rfl dX6_readOrder_156 ?_
                        refine x_getfield C qk6 18 (by decide) lfX6_201 dX6_readOrder_157 rfl rfl ?_
                        refine x_top (v := nI a0) (by rfl) ?_
                        refine x_iconst C (v := nI 1) dX6_readOrder_160 (by decide +kernel) ?_
                        refine x_iaddN C dX6_readOrder_161 ?_
                        refine x_putfield C qk6 18 (by decide) lfX6_201 rfl (ty0 := .int) (by decide +kernel) rfl rfl dX6_readOrder_162 rfl (Nat.le_of_ble_eq_true rfl) ?_
                        refine x_heap (h2 := HH P Hs T L S V ms mr mm ml (tx, n, a0 + 1, false, od, o)) (by rfl) ?_
                        refine x_aload_n C dX6_readOrder_165 rfl ?_
                        refine x_iload_n C dX6_readOrder_166 rfl ?_
                        refine x_bipush C (v := nI 116) dX6_readOrder_167 (by decide +kernel) ?_
                        refine x_icmp_neN C 177 dX6_readOrder_169 (by decide) (by omega) (by omega) (fun c169 => ?_) (fun c169 => ?_)
                        · refine x_iload_n C dX6_readOrder_177 rfl ?_
                          refine x_bipush C (v := nI 109) dX6_readOrder_178 (by decide +kernel) ?_
                          refine x_icmp_neN C 188 dX6_readOrder_180 (by decide) (by omega) (by omega) (fun c180 => ?_) (fun c180 => ?_)
                          · have e10 : nI 12 = nI (tmsN c) := by unfold tmsN; rw [if_neg c169, if_neg c180]
                            refine x_bipush C (v := nI 12) dX6_readOrder_188 (by decide +kernel) ?_
                            refine x_top e10 ?_
                            refine x_iconst C (v := nI 0) dX6_readOrder_190 (by decide +kernel) ?_
                            refine x_iconst C (v := nI 0) dX6_readOrder_191 (by decide +kernel) ?_
                            refine x_callV3v C (okX6_order ho1 (tmsN c) 0 0) lkX6_221 miX6_order msX6_order maX6_order ⟨Nat.le_of_ble_eq_true rfl, Nat.le_of_ble_eq_true rfl⟩ (Nat.le_of_ble_eq_true rfl) rfl rfl dX6_readOrder_192 ?_
                            refine x_goto C 203 dX6_readOrder_195 (by decide) ?_
                            exact x_vret E dX6_readOrder_203 rfl rfl rfl
                          · have e10 : nI 11 = nI (tmsN c) := by unfold tmsN; rw [if_neg c169, if_pos c180]
                            refine x_bipush C (v := nI 11) dX6_readOrder_183 (by decide +kernel) ?_
                            refine x_goto C 190 dX6_readOrder_185 (by decide) ?_
                            refine x_top e10 ?_
                            refine x_iconst C (v := nI 0) dX6_readOrder_190 (by decide +kernel) ?_
                            refine x_iconst C (v := nI 0) dX6_readOrder_191 (by decide +kernel) ?_
                            refine x_callV3v C (okX6_order ho1 (tmsN c) 0 0) lkX6_221 miX6_order msX6_order maX6_order ⟨Nat.le_of_ble_eq_true rfl, Nat.le_of_ble_eq_true rfl⟩ (Nat.le_of_ble_eq_true rfl) rfl rfl dX6_readOrder_192 ?_
                            refine x_goto C 203 dX6_readOrder_195 (by decide) ?_
                            exact x_vret E dX6_readOrder_203 rfl rfl rfl
                        · have e10 : nI 10 = nI (tmsN c) := by unfold tmsN; rw [if_pos c169]
                          refine x_bipush C (v := nI 10) dX6_readOrder_172 (by decide +kernel) ?_
                          refine x_goto C 190 dX6_readOrder_174 (by decide) ?_
                          refine x_top e10 ?_
                          refine x_iconst C (v := nI 0) dX6_readOrder_190 (by decide +kernel) ?_
                          refine x_iconst C (v := nI 0) dX6_readOrder_191 (by decide +kernel) ?_
                          refine x_callV3v C (okX6_order ho1 (tmsN c) 0 0) lkX6_221 miX6_order msX6_order maX6_order ⟨Nat.le_of_ble_eq_true rfl, Nat.le_of_ble_eq_true rfl⟩ (Nat.le_of_ble_eq_true rfl) rfl rfl dX6_readOrder_192 ?_
                          refine x_goto C 203 dX6_readOrder_195 (by decide) ?_
                          exact x_vret E dX6_readOrder_203 rfl rfl rfl
                · rw [decide_eq_false hp] at c105; cases c105
              · exact absurd c70 h45
            · exact absurd himn c41
          · rw [if_neg (fun z => z hm), if_neg h45, if_neg hp, if_neg h3] at E
            refine x_istore_n C dX6_readOrder_32 (by decide) [(1, _), (0, _)] rfl ?_
            refine x_ldcS C (q := 0) (fun _ _ _ _ y => y.2.2.2.2.1.2.2.2) dX6_readOrder_33 ?_
            refine x_iload_n C dX6_readOrder_35 rfl ?_
            refine x_callK1i C (okJ0_indexOf_0f7a4 hc _) lkX6_215 miJ0_indexOf_0f7a4 msJ0_indexOf_0f7a4 maJ0_indexOf_0f7a4 ⟨Nat.le_of_ble_eq_true rfl, Nat.le_of_ble_eq_true rfl⟩ (Nat.le_of_ble_eq_true rfl) hq rfl dX6_readOrder_36 ?_
            refine x_istore_n C dX6_readOrder_39 (by decide) [(2, _), (1, _), (0, _)] rfl ?_
            refine x_iload_n C dX6_readOrder_40 rfl ?_
            refine x_if_le C 67 dX6_readOrder_41 (by decide) (fun c41 => ?_) (fun c41 => ?_)
            · refine x_iload_n C dX6_readOrder_67 rfl ?_
              refine x_bipush C (v := nI 45) dX6_readOrder_68 (by decide +kernel) ?_
              refine x_icmp_neN C 97 dX6_readOrder_70 (by decide) (by omega) (by omega) (fun c70 => ?_) (fun c70 => ?_)
              · refine x_iload_n C dX6_readOrder_97 rfl ?_
                refine x_bipush C (v := nI 97) dX6_readOrder_98 (by decide +kernel) ?_
                refine x_bipush C (v := nI 101) dX6_readOrder_100 (by decide +kernel) ?_
                refine x_callS3i C (okX6_in _ _ _ _) lkX6_60 miX6_in mtX6_in maX6_in ⟨Nat.le_of_ble_eq_true rfl, Nat.le_of_ble_eq_true rfl⟩ (Nat.le_of_ble_eq_true rfl) dX6_readOrder_102 ?_
                rw [inB_nI (by omega) (by decide) (by decide)]
                refine x_if_eqB C 137 dX6_readOrder_105 (by decide) (fun c105 => ?_) (fun c105 => ?_)
                · refine x_iload_n C dX6_readOrder_137 rfl ?_
                  refine x_bipush C (v := nI 116) dX6_readOrder_138 (by decide +kernel) ?_
                  refine x_icmp_eqN C 155 dX6_readOrder_140 (by decide) (by omega) (by omega) (fun c140 => ?_) (fun c140 => ?_)
                  · exact absurd (Or.inl c140) h3
                  · refine x_iload_n C dX6_readOrder_143 rfl ?_
                    refine x_bipush C (v := nI 109) dX6_readOrder_144 (by decide +kernel) ?_
                    refine x_icmp_eqN C 155 dX6_readOrder_146 (by decide) (by omega) (by omega) (fun c146 => ?_) (fun c146 => ?_)
                    · exact absurd (Or.inr (Or.inl c146)) h3
                    · refine x_iload_n C dX6_readOrder_149 rfl ?_
                      refine x_bipush C (v := nI 115) dX6_readOrder_150 (by decide +kernel) ?_
                      refine x_icmp_neN C 198 dX6_readOrder_152 (by decide) (by omega) (by omega) (fun c152 => ?_) (fun c152 => ?_)
                      · refine x_aload_n C dX6_readOrder_198 rfl ?_
                        refine x_iconst C (v := nI 1) dX6_readOrder_199 (by decide +kernel) ?_
                        refine x_putfield C qk6 19 (by decide) lfX6_197 rfl (ty0 := .boolean) (by decide +kernel) rfl rfl dX6_readOrder_200 rfl (Nat.le_of_ble_eq_true rfl) ?_
                        refine x_heap (h2 := HH P Hs T L S V ms mr mm ml (tx, n, a0, true, od, o)) (by rfl) ?_
                        exact x_vret E dX6_readOrder_203 rfl rfl rfl
                      · exact absurd (Or.inr (Or.inr c152)) h3
                · rw [decide_eq_false hp] at c105; cases c105
              · exact absurd c70 h45
            · exact absurd himn c41
  refine x_aload_n C dX6_readOrder_0 rfl ?_
  refine x_getfield C qk6 19 (by decide) lfX6_197 dX6_readOrder_1 rfl rfl ?_
  refine x_top (v := qb false) (by rfl) ?_
  refine x_if_eqB C 8 dX6_readOrder_4 (by decide) (fun c4 => ?_) (fun c4 => ?_)
  · refine x_aload_n C dX6_readOrder_8 rfl ?_
    refine x_getfield C qk6 18 (by decide) lfX6_201 dX6_readOrder_9 rfl rfl ?_
    refine x_top (v := nI a0) (by rfl) ?_
    refine x_aload_n C dX6_readOrder_12 rfl ?_
    refine x_getfield C qk6 17 (by decide) lfX6_194 dX6_readOrder_13 rfl rfl ?_
    refine x_top (v := nI n) (by rfl) ?_
    refine x_icmp_geN C 31 dX6_readOrder_16 (by decide) (by omega) (by omega) (fun c16 => ?_) (fun c16 => ?_)
    · have hcv : chA tx n a0 = 0 := by unfold chA; rw [if_neg (by omega)]
      refine x_iconst C (v := nI 0) dX6_readOrder_31 (by decide +kernel) ?_
      refine x_top (congrArg nI hcv.symm) ?_
      exact K32
    · have hcv : chA tx n a0 = tx a0 := by unfold chA; rw [if_pos (by omega)]
      refine x_aload_n C dX6_readOrder_19 rfl ?_
      refine x_getfield C qk6 16 (by decide) lfX6_39 dX6_readOrder_20 rfl rfl ?_
      refine x_aload_n C dX6_readOrder_23 rfl ?_
      refine x_getfield C qk6 18 (by decide) lfX6_201 dX6_readOrder_24 rfl rfl ?_
      refine x_top (v := nI a0) (by rfl) ?_
      refine x_caldN C dX6_readOrder_27 HM_tx (by omega) (by decide) ?_
      refine x_goto C 32 dX6_readOrder_28 (by decide) ?_
      refine x_top (congrArg nI hcv.symm) ?_
      exact K32
  · cases c4
