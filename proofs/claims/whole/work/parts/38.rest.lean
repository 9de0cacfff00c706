def rsnF (r1 d1 f1 x : Int32) : Int32 := if x < 0 ∨ nI 2 < x then -2 else if r1 = 0 then -4 else if x = 0 then r1 else if x = nI 1 then d1 else f1
set_option maxHeartbeats 4000000 in
set_option maxRecDepth 100000 in
theorem okX5_refusal {a b c d : qP} {Hs : qHs} {T : qTs} {L : qLs} {S : qSs} {ms : qms} {mr : qmr} {mm : qmm} {ml : qml} {mt : qmt} {sv : Bool} {cm r1 d1 f1 : Int32} (x : Int32) : Ok MX5_refusal [.ref 0, .int x] (HH (a, b, c, d) Hs T L S (sv, cm, r1, d1, f1) ms mr mm ml mt) (some (.int (rsnF r1 d1 f1 x))) (HH (a, b, c, d) Hs T L S (sv, cm, r1, d1, f1) ms mr mm ml mt) := by
  refine ok_of (by decide +kernel) (Nat.zero_le _) (Nat.le_of_ble_eq_true rfl) ?_
  intro X C E
  show Ex X MX5_refusal 0 [(0, .ref 0), (1, .int x)] [] (HH (a, b, c, d) Hs T L S (sv, cm, r1, d1, f1) ms mr mm ml mt)
  refine x_iload_n C dX5_refusal_0 rfl ?_
  refine x_if_lt C 9 dX5_refusal_1 (by decide) (fun c1 => ?_) (fun c1 => ?_)
  · refine x_bipush C (v := (-2)) dX5_refusal_9 (by decide +kernel) ?_
    exact x_iret E .int dX5_refusal_11 rfl rfl (by unfold rsnF; rw [if_pos (Or.inl c1)]) rfl
  · refine x_iload_n C dX5_refusal_4 rfl ?_
    refine x_iconst C (v := nI 2) dX5_refusal_5 (by decide +kernel) ?_
    refine x_icmp_le C 12 dX5_refusal_6 (by decide) (fun c6 => ?_) (fun c6 => ?_)
    · have hin : ¬ (x < 0 ∨ nI 2 < x) := fun q => q.elim c1 (fun z => absurd c6 (Int32.not_le.mpr z))
      refine x_aload_n C dX5_refusal_12 rfl ?_
      refine x_getfield C qk5 13 (by decide) lfX5_219 dX5_refusal_13 rfl rfl ?_
      refine x_if_ne C 22 dX5_refusal_16 (by decide) (fun c16 => ?_) (fun c16 => ?_)
      · refine x_iload_n C dX5_refusal_22 rfl ?_
        refine x_if_ne C 31 dX5_refusal_23 (by decide) (fun c23 => ?_) (fun c23 => ?_)
        · refine x_iload_n C dX5_refusal_31 rfl ?_
          refine x_iconst C (v := nI 1) dX5_refusal_32 (by decide +kernel) ?_
          refine x_icmp_ne C 43 dX5_refusal_33 (by decide) (fun c33 => ?_) (fun c33 => ?_)
          · refine x_aload_n C dX5_refusal_43 rfl ?_
            refine x_getfield C qk5 15 (by decide) lfX5_225 dX5_refusal_44 rfl rfl ?_
            exact x_iret E .int dX5_refusal_47 rfl rfl (by unfold rsnF; rw [if_neg hin, if_neg c16, if_neg c23, if_neg c33]) rfl
          · refine x_aload_n C dX5_refusal_36 rfl ?_
            refine x_getfield C qk5 14 (by decide) lfX5_222 dX5_refusal_37 rfl rfl ?_
            refine x_goto C 47 dX5_refusal_40 (by decide) ?_
            exact x_iret E .int dX5_refusal_47 rfl rfl (by unfold rsnF; rw [if_neg hin, if_neg c16, if_neg c23, if_pos c33]) rfl
        · refine x_aload_n C dX5_refusal_26 rfl ?_
          refine x_getfield C qk5 13 (by decide) lfX5_219 dX5_refusal_27 rfl rfl ?_
          exact x_iret E .int dX5_refusal_30 rfl rfl (by unfold rsnF; rw [if_neg hin, if_neg c16, if_pos c23]) rfl
      · refine x_bipush C (v := (-4)) dX5_refusal_19 (by decide +kernel) ?_
        exact x_iret E .int dX5_refusal_21 rfl rfl (by unfold rsnF; rw [if_neg hin, if_pos c16]) rfl
    · refine x_bipush C (v := (-2)) dX5_refusal_9 (by decide +kernel) ?_
      exact x_iret E .int dX5_refusal_11 rfl rfl (by unfold rsnF; rw [if_pos (Or.inr (Int32.not_le.mp c6))]) rfl
set_option maxHeartbeats 4000000 in
set_option maxRecDepth 100000 in
theorem okX5_account_p0 {a b c d : qP} {Hs : qHs} {T : qTs} {L : qLs} {S : qSs} {V : qVs} {ms : qms} {mr : qmr} {mm : qmm} {ml : qml} {mt : qmt} (ha : Bd a.1) : Ok MX5_account [.ref 0, .int (nI 0)] (HH (a, b, c, d) Hs T L S V ms mr mm ml mt) (some (.int (nI (menN a.1)))) (HH (a, b, c, d) Hs T L S V ms mr mm ml mt) := by
  refine ok_of (by decide +kernel) (Nat.zero_le _) (Nat.le_of_ble_eq_true rfl) ?_
  intro X C E
  show Ex X MX5_account 0 [(0, .ref 0), (1, .int (nI 0))] [] (HH (a, b, c, d) Hs T L S V ms mr mm ml mt)
  refine x_iload_n C dX5_account_0 rfl ?_
  refine x_tsw C (off := 63) 64 dX5_account_1 (by decide +kernel) (by decide +kernel) (by decide +kernel) (by decide) ?_
  refine x_aload_n C dX5_account_64 rfl ?_
  refine x_getfield C qk5 0 (by decide) lfX5_12 dX5_account_65 rfl rfl ?_
  refine x_callV0i C (okX3_countAll PosA_now ha.1) lkX5_228 miX3_countAll msX3_countAll maX3_countAll ⟨Nat.le_of_ble_eq_true rfl, Nat.le_of_ble_eq_true rfl⟩ (Nat.le_of_ble_eq_true rfl) rfl rfl dX5_account_68 ?_
  exact x_iret E .int dX5_account_71 rfl rfl rfl rfl
set_option maxHeartbeats 4000000 in
set_option maxRecDepth 100000 in
theorem okX5_account_p1 {a b c d : qP} {Hs : qHs} {T : qTs} {L : qLs} {S : qSs} {V : qVs} {ms : qms} {mr : qmr} {mm : qmm} {ml : qml} {mt : qmt} (ha : Bd a.1) : Ok MX5_account [.ref 0, .int (nI 1)] (HH (a, b, c, d) Hs T L S V ms mr mm ml mt) (some (.int (nI (cnt (ckS a.1 1 5) 25)))) (HH (a, b, c, d) Hs T L S V ms mr mm ml mt) := by
  refine ok_of (by decide +kernel) (Nat.zero_le _) (Nat.le_of_ble_eq_true rfl) ?_
  intro X C E
  show Ex X MX5_account 0 [(0, .ref 0), (1, .int (nI 1))] [] (HH (a, b, c, d) Hs T L S V ms mr mm ml mt)
  refine x_iload_n C dX5_account_0 rfl ?_
  refine x_tsw C (off := 71) 72 dX5_account_1 (by decide +kernel) (by decide +kernel) (by decide +kernel) (by decide) ?_
  refine x_aload_n C dX5_account_72 rfl ?_
  refine x_getfield C qk5 0 (by decide) lfX5_12 dX5_account_73 rfl rfl ?_
  refine x_iconst C (v := nI 1) dX5_account_76 (by decide +kernel) ?_
  refine x_iconst C (v := nI 5) dX5_account_77 (by decide +kernel) ?_
  refine x_callV2i C (okX3_countKinds PosA_now ha.1 1 5 (by decide) (by decide)) lkX5_231 miX3_countKinds msX3_countKinds maX3_countKinds ⟨Nat.le_of_ble_eq_true rfl, Nat.le_of_ble_eq_true rfl⟩ (Nat.le_of_ble_eq_true rfl) rfl rfl dX5_account_78 ?_
  exact x_iret E .int dX5_account_81 rfl rfl rfl rfl
set_option maxHeartbeats 4000000 in
set_option maxRecDepth 100000 in
theorem okX5_account_p2 {a b c d : qP} {Hs : qHs} {T : qTs} {L : qLs} {S : qSs} {V : qVs} {ms : qms} {mr : qmr} {mm : qmm} {ml : qml} {mt : qmt} (ha : Bd a.1) : Ok MX5_account [.ref 0, .int (nI 2)] (HH (a, b, c, d) Hs T L S V ms mr mm ml mt) (some (.int (nI (cnt (ckS a.1 6 6) 25)))) (HH (a, b, c, d) Hs T L S V ms mr mm ml mt) := by
  refine ok_of (by decide +kernel) (Nat.zero_le _) (Nat.le_of_ble_eq_true rfl) ?_
  intro X C E
  show Ex X MX5_account 0 [(0, .ref 0), (1, .int (nI 2))] [] (HH (a, b, c, d) Hs T L S V ms mr mm ml mt)
  refine x_iload_n C dX5_account_0 rfl ?_
  refine x_tsw C (off := 81) 82 dX5_account_1 (by decide +kernel) (by decide +kernel) (by decide +kernel) (by decide) ?_
  refine x_aload_n C dX5_account_82 rfl ?_
  refine x_getfield C qk5 0 (by decide) lfX5_12 dX5_account_83 rfl rfl ?_
  refine x_bipush C (v := nI 6) dX5_account_86 (by decide +kernel) ?_
  refine x_bipush C (v := nI 6) dX5_account_88 (by decide +kernel) ?_
  refine x_callV2i C (okX3_countKinds PosA_now ha.1 6 6 (by decide) (by decide)) lkX5_231 miX3_countKinds msX3_countKinds maX3_countKinds ⟨Nat.le_of_ble_eq_true rfl, Nat.le_of_ble_eq_true rfl⟩ (Nat.le_of_ble_eq_true rfl) rfl rfl dX5_account_90 ?_
  exact x_iret E .int dX5_account_93 rfl rfl rfl rfl
set_option maxHeartbeats 4000000 in
set_option maxRecDepth 100000 in
theorem okX5_account_p5 {a b c d : qP} {Hs : qHs} {T : qTs} {L : qLs} {S : qSs} {V : qVs} {ms : qms} {mr : qmr} {mm : qmm} {ml : qml} {mt : qmt} (ha : Bd a.1) : Ok MX5_account [.ref 0, .int (nI 5)] (HH (a, b, c, d) Hs T L S V ms mr mm ml mt) (some (.int (nI (cnt (covR a.1 25) 25)))) (HH (a, b, c, d) Hs T L S V ms mr mm ml mt) := by
  refine ok_of (by decide +kernel) (Nat.zero_le _) (Nat.le_of_ble_eq_true rfl) ?_
  intro X C E
  show Ex X MX5_account 0 [(0, .ref 0), (1, .int (nI 5))] [] (HH (a, b, c, d) Hs T L S V ms mr mm ml mt)
  refine x_iload_n C dX5_account_0 rfl ?_
  refine x_tsw C (off := 139) 140 dX5_account_1 (by decide +kernel) (by decide +kernel) (by decide +kernel) (by decide) ?_
  refine x_aload_n C dX5_account_140 rfl ?_
  refine x_getfield C qk5 0 (by decide) lfX5_12 dX5_account_141 rfl rfl ?_
  refine x_callV0i C (okX3_covered PosA_now ha.1) lkX5_234 miX3_covered msX3_covered maX3_covered ⟨Nat.le_of_ble_eq_true rfl, Nat.le_of_ble_eq_true rfl⟩ (Nat.le_of_ble_eq_true rfl) rfl rfl dX5_account_144 ?_
  refine x_callS1i C (okX5_bitsOf _ _) lkX5_111 miX5_bitsOf mtX5_bitsOf maX5_bitsOf ⟨Nat.le_of_ble_eq_true rfl, Nat.le_of_ble_eq_true rfl⟩ (Nat.le_of_ble_eq_true rfl) dX5_account_147 ?_
  exact x_iret E .int dX5_account_150 rfl rfl rfl rfl
set_option maxHeartbeats 4000000 in
set_option maxRecDepth 100000 in
theorem okX5_account_p6 {a b c d : qP} {Hs : qHs} {T : qTs} {L : qLs} {S : qSs} {V : qVs} {ms : qms} {mr : qmr} {mm : qmm} {ml : qml} {mt : qmt} (ha : Bd a.1) : Ok MX5_account [.ref 0, .int (nI 6)] (HH (a, b, c, d) Hs T L S V ms mr mm ml mt) (some (.int (nI a.2.1))) (HH (a, b, c, d) Hs T L S V ms mr mm ml mt) := by
  refine ok_of (by decide +kernel) (Nat.zero_le _) (Nat.le_of_ble_eq_true rfl) ?_
  intro X C E
  show Ex X MX5_account 0 [(0, .ref 0), (1, .int (nI 6))] [] (HH (a, b, c, d) Hs T L S V ms mr mm ml mt)
  refine x_iload_n C dX5_account_0 rfl ?_
  refine x_tsw C (off := 150) 151 dX5_account_1 (by decide +kernel) (by decide +kernel) (by decide +kernel) (by decide) ?_
  refine x_aload_n C dX5_account_151 rfl ?_
  refine x_getfield C qk5 0 (by decide) lfX5_12 dX5_account_152 rfl rfl ?_
  refine x_getfield C qk3 1 (by decide) lfX5_237 dX5_account_155 rfl rfl ?_
  exact x_iret E .int dX5_account_158 rfl rfl rfl rfl
set_option maxHeartbeats 4000000 in
set_option maxRecDepth 100000 in
theorem okX5_account_p7 {a b c d : qP} {Hs : qHs} {T : qTs} {L : qLs} {S : qSs} {V : qVs} {ms : qms} {mr : qmr} {mm : qmm} {ml : qml} {mt : qmt} (ha : Bd a.1) : Ok MX5_account [.ref 0, .int (nI 7)] (HH (a, b, c, d) Hs T L S V ms mr mm ml mt) (some (.int (nI a.2.2.1))) (HH (a, b, c, d) Hs T L S V ms mr mm ml mt) := by
  refine ok_of (by decide +kernel) (Nat.zero_le _) (Nat.le_of_ble_eq_true rfl) ?_
  intro X C E
  show Ex X MX5_account 0 [(0, .ref 0), (1, .int (nI 7))] [] (HH (a, b, c, d) Hs T L S V ms mr mm ml mt)
  refine x_iload_n C dX5_account_0 rfl ?_
  refine x_tsw C (off := 158) 159 dX5_account_1 (by decide +kernel) (by decide +kernel) (by decide +kernel) (by decide) ?_
  refine x_aload_n C dX5_account_159 rfl ?_
  refine x_getfield C qk5 0 (by decide) lfX5_12 dX5_account_160 rfl rfl ?_
  refine x_getfield C qk3 2 (by decide) lfX5_240 dX5_account_163 rfl rfl ?_
  exact x_iret E .int dX5_account_166 rfl rfl rfl rfl
set_option maxHeartbeats 4000000 in
set_option maxRecDepth 100000 in
theorem okX5_account_p8 {a b c d : qP} {Hs : qHs} {T : qTs} {L : qLs} {S : qSs} {V : qVs} {ms : qms} {mr : qmr} {mm : qmm} {ml : qml} {mt : qmt} (ha : Bd a.1) : Ok MX5_account [.ref 0, .int (nI 8)] (HH (a, b, c, d) Hs T L S V ms mr mm ml mt) (some (.int (nI a.2.2.2.1))) (HH (a, b, c, d) Hs T L S V ms mr mm ml mt) := by
  refine ok_of (by decide +kernel) (Nat.zero_le _) (Nat.le_of_ble_eq_true rfl) ?_
  intro X C E
  show Ex X MX5_account 0 [(0, .ref 0), (1, .int (nI 8))] [] (HH (a, b, c, d) Hs T L S V ms mr mm ml mt)
  refine x_iload_n C dX5_account_0 rfl ?_
  refine x_tsw C (off := 166) 167 dX5_account_1 (by decide +kernel) (by decide +kernel) (by decide +kernel) (by decide) ?_
  refine x_aload_n C dX5_account_167 rfl ?_
  refine x_getfield C qk5 0 (by decide) lfX5_12 dX5_account_168 rfl rfl ?_
  refine x_getfield C qk3 3 (by decide) lfX5_243 dX5_account_171 rfl rfl ?_
  exact x_iret E .int dX5_account_174 rfl rfl rfl rfl
set_option maxHeartbeats 4000000 in
set_option maxRecDepth 100000 in
theorem okX5_account_p9 {a b c d : qP} {Hs : qHs} {T : qTs} {L : qLs} {S : qSs} {V : qVs} {ms : qms} {mr : qmr} {mm : qmm} {ml : qml} {mt : qmt} (ha : Bd a.1) : Ok MX5_account [.ref 0, .int (nI 9)] (HH (a, b, c, d) Hs T L S V ms mr mm ml mt) (some (.int (nI a.2.2.2.2))) (HH (a, b, c, d) Hs T L S V ms mr mm ml mt) := by
  refine ok_of (by decide +kernel) (Nat.zero_le _) (Nat.le_of_ble_eq_true rfl) ?_
  intro X C E
  show Ex X MX5_account 0 [(0, .ref 0), (1, .int (nI 9))] [] (HH (a, b, c, d) Hs T L S V ms mr mm ml mt)
  refine x_iload_n C dX5_account_0 rfl ?_
  refine x_tsw C (off := 174) 175 dX5_account_1 (by decide +kernel) (by decide +kernel) (by decide +kernel) (by decide) ?_
  refine x_aload_n C dX5_account_175 rfl ?_
  refine x_getfield C qk5 0 (by decide) lfX5_12 dX5_account_176 rfl rfl ?_
  refine x_getfield C qk3 4 (by decide) lfX5_246 dX5_account_179 rfl rfl ?_
  exact x_iret E .int dX5_account_182 rfl rfl rfl rfl
set_option maxHeartbeats 4000000 in
set_option maxRecDepth 100000 in
theorem okX5_account_p10 {a b c d : qP} {Hs : qHs} {T : qTs} {L : qLs} {S : qSs} {V : qVs} {ms : qms} {mr : qmr} {mm : qmm} {ml : qml} {mt : qmt} (ha : Bd a.1) : Ok MX5_account [.ref 0, .int (nI 10)] (HH (a, b, c, d) Hs T L S V ms mr mm ml mt) (some (.int (nI S.2.1))) (HH (a, b, c, d) Hs T L S V ms mr mm ml mt) := by
  refine ok_of (by decide +kernel) (Nat.zero_le _) (Nat.le_of_ble_eq_true rfl) ?_
  intro X C E
  show Ex X MX5_account 0 [(0, .ref 0), (1, .int (nI 10))] [] (HH (a, b, c, d) Hs T L S V ms mr mm ml mt)
  refine x_iload_n C dX5_account_0 rfl ?_
  refine x_tsw C (off := 182) 183 dX5_account_1 (by decide +kernel) (by decide +kernel) (by decide +kernel) (by decide) ?_
  refine x_aload_n C dX5_account_183 rfl ?_
  refine x_getfield C qk5 11 (by decide) lfX5_59 dX5_account_184 rfl rfl ?_
  refine x_getfield C qk4 1 (by decide) lfX5_249 dX5_account_187 rfl rfl ?_
  exact x_iret E .int dX5_account_190 rfl rfl rfl rfl
set_option maxHeartbeats 4000000 in
set_option maxRecDepth 100000 in
theorem okX5_account_p11 {a b c d : qP} {Hs : qHs} {T : qTs} {L : qLs} {S : qSs} {V : qVs} {ms : qms} {mr : qmr} {mm : qmm} {ml : qml} {mt : qmt} (ha : Bd a.1) : Ok MX5_account [.ref 0, .int (nI 11)] (HH (a, b, c, d) Hs T L S V ms mr mm ml mt) (some (.int (nI Hs.2.2))) (HH (a, b, c, d) Hs T L S V ms mr mm ml mt) := by
  refine ok_of (by decide +kernel) (Nat.zero_le _) (Nat.le_of_ble_eq_true rfl) ?_
  intro X C E
  show Ex X MX5_account 0 [(0, .ref 0), (1, .int (nI 11))] [] (HH (a, b, c, d) Hs T L S V ms mr mm ml mt)
  refine x_iload_n C dX5_account_0 rfl ?_
  refine x_tsw C (off := 190) 191 dX5_account_1 (by decide +kernel) (by decide +kernel) (by decide +kernel) (by decide) ?_
  refine x_aload_n C dX5_account_191 rfl ?_
  refine x_getfield C qk5 5 (by decide) lfX5_28 dX5_account_192 rfl rfl ?_
  refine x_getfield C qk0 2 (by decide) lfX5_250 dX5_account_195 rfl rfl ?_
  exact x_iret E .int dX5_account_198 rfl rfl rfl rfl
def kngF (b : Nat → Nat) : Int32 := if loc7 b 7 = none then -4 else sqI (loc7 b 7)
set_option maxHeartbeats 4000000 in
set_option maxRecDepth 100000 in
theorem okX5_account_p3 {a b c d : qP} {Hs : qHs} {T : qTs} {L : qLs} {S : qSs} {V : qVs} {ms : qms} {mr : qmr} {mm : qmm} {ml : qml} {mt : qmt} (ha : Bd a.1) : Ok MX5_account [.ref 0, .int (nI 3)] (HH (a, b, c, d) Hs T L S V ms mr mm ml mt) (some (.int (kngF a.1))) (HH (a, b, c, d) Hs T L S V ms mr mm ml mt) := by
  refine ok_of (by decide +kernel) (Nat.zero_le _) (Nat.le_of_ble_eq_true rfl) ?_
  intro X C E
  show Ex X MX5_account 0 [(0, .ref 0), (1, .int (nI 3))] [] (HH (a, b, c, d) Hs T L S V ms mr mm ml mt)
  refine x_iload_n C dX5_account_0 rfl ?_
  refine x_tsw C (off := 93) 94 dX5_account_1 (by decide +kernel) (by decide +kernel) (by decide +kernel) (by decide) ?_
  refine x_aload_n C dX5_account_94 rfl ?_
  refine x_getfield C qk5 0 (by decide) lfX5_12 dX5_account_95 rfl rfl ?_
  refine x_bipush C (v := nI 7) dX5_account_98 (by decide +kernel) ?_
  refine x_callV1i C (okX3_squareOf PosA_now ha.1 7 (by decide)) lkX5_136 miX3_squareOf msX3_squareOf maX3_squareOf ⟨Nat.le_of_ble_eq_true rfl, Nat.le_of_ble_eq_true rfl⟩ (Nat.le_of_ble_eq_true rfl) rfl rfl dX5_account_100 ?_
  refine x_if_ge C 111 dX5_account_103 (by decide) (fun c103 => ?_) (fun c103 => ?_)
  · refine x_aload_n C dX5_account_111 rfl ?_
    refine x_getfield C qk5 0 (by decide) lfX5_12 dX5_account_112 rfl rfl ?_
    refine x_bipush C (v := nI 7) dX5_account_115 (by decide +kernel) ?_
    refine x_callV1i C (okX3_squareOf PosA_now ha.1 7 (by decide)) lkX5_136 miX3_squareOf msX3_squareOf maX3_squareOf ⟨Nat.le_of_ble_eq_true rfl, Nat.le_of_ble_eq_true rfl⟩ (Nat.le_of_ble_eq_true rfl) rfl rfl dX5_account_117 ?_
    exact x_iret E .int dX5_account_120 rfl rfl (by unfold kngF; rw [if_neg (fun z => absurd (sqI_neg7.mpr z) (Int32.not_lt.mpr c103))]) rfl
  · refine x_bipush C (v := (-4)) dX5_account_106 (by decide +kernel) ?_
    refine x_goto C 120 dX5_account_108 (by decide) ?_
    exact x_iret E .int dX5_account_120 rfl rfl (by unfold kngF; rw [if_pos (sqI_neg7.mp (Int32.not_le.mp c103))]) rfl
set_option maxHeartbeats 4000000 in
set_option maxRecDepth 100000 in
theorem okX5_account_p4 {a b c d : qP} {Hs : qHs} {L : qLs} {S : qSs} {V : qVs} {ms : qms} {mr : qmr} {mm : qmm} {ml : qml} {mt : qmt} {Tm Tk : Nat → Int32} {ta mc : Nat → Nat} (ha : Bd a.1) : Ok MX5_account [.ref 0, .int (nI 4)] (HH (a, b, c, d) Hs (Tm, Tk, ta, mc) L S V ms mr mm ml mt) (some (.int (nI (sumc (movP a.1) 25)))) (HH (a, b, c, d) Hs (tmF a.1 Tm, Tk, ta, mc) L S V ms mr mm ml mt) := by
  refine ok_of (by decide +kernel) (Nat.zero_le _) (Nat.le_of_ble_eq_true rfl) ?_
  intro X C E
  show Ex X MX5_account 0 [(0, .ref 0), (1, .int (nI 4))] [] (HH (a, b, c, d) Hs (Tm, Tk, ta, mc) L S V ms mr mm ml mt)
  refine x_iload_n C dX5_account_0 rfl ?_
  refine x_tsw C (off := 120) 121 dX5_account_1 (by decide +kernel) (by decide +kernel) (by decide +kernel) (by decide) ?_
  refine x_aload_n C dX5_account_121 rfl ?_
  refine x_getfield C qk5 6 (by decide) lfX5_35 dX5_account_122 rfl rfl ?_
  refine x_aload_n C dX5_account_125 rfl ?_
  refine x_getfield C qk5 0 (by decide) lfX5_12 dX5_account_126 rfl rfl ?_
  refine x_callV1v C (okX2_fillWithMoves TabA_m PosA_now ha.1 (by decide) (by decide)) lkX5_130 miX2_fillWithMoves msX2_fillWithMoves maX2_fillWithMoves ⟨Nat.le_of_ble_eq_true rfl, Nat.le_of_ble_eq_true rfl⟩ (Nat.le_of_ble_eq_true rfl) rfl rfl dX5_account_129 ?_
  refine x_heap (h2 := HH (a, b, c, d) Hs (tmF a.1 Tm, Tk, ta, mc) L S V ms mr mm ml mt) (by rfl) ?_
  refine x_aload_n C dX5_account_132 rfl ?_
  refine x_getfield C qk5 6 (by decide) lfX5_35 dX5_account_133 rfl rfl ?_
  refine x_callV0i C (okX2_count TabA_m (movP a.1) (tmF_at a.1 Tm)) lkX5_161 miX2_count msX2_count maX2_count ⟨Nat.le_of_ble_eq_true rfl, Nat.le_of_ble_eq_true rfl⟩ (Nat.le_of_ble_eq_true rfl) rfl rfl dX5_account_136 ?_
  exact x_iret E .int dX5_account_139 rfl rfl rfl rfl
set_option maxHeartbeats 4000000 in
set_option maxRecDepth 100000 in
theorem okX5_account_out {a b c d : qP} {Hs : qHs} {T : qTs} {L : qLs} {S : qSs} {V : qVs} {ms : qms} {mr : qmr} {mm : qmm} {ml : qml} {mt : qmt} {x : Int32} (hx : x.toInt < 0 ∨ 11 < x.toInt) : Ok MX5_account [.ref 0, .int x] (HH (a, b, c, d) Hs T L S V ms mr mm ml mt) (some (.int (-2))) (HH (a, b, c, d) Hs T L S V ms mr mm ml mt) := by
  refine ok_of (by decide +kernel) (Nat.zero_le _) (Nat.le_of_ble_eq_true rfl) ?_
  intro X C E
  show Ex X MX5_account 0 [(0, .ref 0), (1, .int x)] [] (HH (a, b, c, d) Hs T L S V ms mr mm ml mt)
  refine x_iload_n C dX5_account_0 rfl ?_
  refine x_tswOut C 199 dX5_account_1 hx (by decide) ?_
  refine x_bipush C (v := (-2)) dX5_account_199 (by decide +kernel) ?_
  exact x_iret E .int dX5_account_201 rfl rfl rfl rfl
set_option maxHeartbeats 4000000 in
set_option maxRecDepth 100000 in
theorem okX5_undo_p0 {a b c d : qP} {T : qTs} {L : qLs} {S : qSs} {V : qVs} {ms : qms} {mr : qmr} {mm : qmm} {ml : qml} {mt : qmt} {R : Nat → qP} {nx : Nat} : Ok MX5_undo [.ref 0] (HH (a, b, c, d) (R, nx, 0) T L S V ms mr mm ml mt) (some (.int (-4))) (HH (a, b, c, d) (R, nx, 0) T L S V ms mr mm ml mt) := by
  refine ok_of (by decide +kernel) (Nat.zero_le _) (Nat.le_of_ble_eq_true rfl) ?_
  intro X C E
  show Ex X MX5_undo 0 [(0, .ref 0)] [] (HH (a, b, c, d) (R, nx, 0) T L S V ms mr mm ml mt)
  refine x_aload_n C dX5_undo_0 rfl ?_
  refine x_getfield C qk5 5 (by decide) lfX5_28 dX5_undo_1 rfl rfl ?_
  refine x_getfield C qk0 2 (by decide) lfX5_250 dX5_undo_4 rfl rfl ?_
  refine x_if_neN C 13 dX5_undo_7 (by decide) (by show 0 < 2147483648; decide) (fun c7 => ?_) (fun c7 => ?_)
  · exact absurd rfl c7
  · refine x_bipush C (v := (-4)) dX5_undo_10 (by decide +kernel) ?_
    exact x_iret E .int dX5_undo_12 rfl rfl rfl rfl
theorem HH_pop {a b c d : qP} {R : Nat → qP} {nx sz : Nat} {T : qTs} {L : qLs} {S : qSs} {V : qVs} {ms : qms} {mr : qmr} {mm : qmm} {ml : qml} {mt : qmt} {p : qP} {n2 s2 : Nat} : (setP (HH (a, b, c, d) (R, nx, sz) T L S V ms mr mm ml mt) 1 p).set 9 (qHi n2 s2) = HH (p, b, c, d) (R, n2, s2) T L S V ms mr mm ml mt := rfl
set_option maxHeartbeats 4000000 in
set_option maxRecDepth 100000 in
theorem okX5_undo_p1 {a b c d : qP} {T : qTs} {L : qLs} {S : qSs} {V : qVs} {ms : qms} {mr : qmr} {mm : qmm} {ml : qml} {mt : qmt} {R : Nat → qP} {nx sz : Nat} (hn : nx < 8) (hsz : 0 < sz) (hsz8 : sz ≤ 8) (hR : ∀ j, j < 8 → Bd (R j).1) (ha : Bd a.1) : Ok MX5_undo [.ref 0] (HH (a, b, c, d) (R, nx, sz) T L S V ms mr mm ml mt) (some (.int (nI (sz - 1)))) (HH (R (prv nx), b, c, d) (R, prv nx, sz - 1) T L S V ms mr mm ml mt) := by
  refine ok_of (by decide +kernel) (Nat.zero_le _) (Nat.le_of_ble_eq_true rfl) ?_
  intro X C E
  show Ex X MX5_undo 0 [(0, .ref 0)] [] (HH (a, b, c, d) (R, nx, sz) T L S V ms mr mm ml mt)
  refine x_aload_n C dX5_undo_0 rfl ?_
  refine x_getfield C qk5 5 (by decide) lfX5_28 dX5_undo_1 rfl rfl ?_
  refine x_getfield C qk0 2 (by decide) lfX5_250 dX5_undo_4 rfl rfl ?_
  refine x_if_neN C 13 dX5_undo_7 (by decide) (by show sz < 2147483648; omega) (fun c7 => ?_) (fun c7 => ?_)
  · refine x_aload_n C dX5_undo_13 rfl ?_
    refine x_getfield C qk5 5 (by decide) lfX5_28 dX5_undo_14 rfl rfl ?_
    refine x_aload_n C dX5_undo_17 rfl ?_
    refine x_getfield C qk5 0 (by decide) lfX5_12 dX5_undo_18 rfl rfl ?_
    refine x_callV1v C (okX0_pop HH_hist hn hsz hsz8 PosF_now hR ha (by decide)) lkX5_264 miX0_pop msX0_pop maX0_pop ⟨Nat.le_of_ble_eq_true rfl, Nat.le_of_ble_eq_true rfl⟩ (Nat.le_of_ble_eq_true rfl) rfl rfl dX5_undo_21 ?_
    refine x_heap HH_pop ?_
    refine x_aload_n C dX5_undo_24 rfl ?_
    refine x_getfield C qk5 5 (by decide) lfX5_28 dX5_undo_25 rfl rfl ?_
    refine x_getfield C qk0 2 (by decide) lfX5_250 dX5_undo_28 rfl rfl ?_
    exact x_iret E .int dX5_undo_31 rfl rfl rfl rfl
  · exact absurd (show sz = 0 from c7) (by omega)
set_option maxHeartbeats 4000000 in
set_option maxRecDepth 100000 in
theorem okX5_save {a b c d : qP} {Hs : qHs} {T : qTs} {L : qLs} {S : qSs} {ms : qms} {mr : qmr} {mm : qmm} {ml : qml} {mt : qmt} {sv : Bool} {cm r1 d1 f1 : Int32} (ha : Bd a.1) (hd : Bd d.1) : Ok MX5_save [.ref 0] (HH (a, b, c, d) Hs T L S (sv, cm, r1, d1, f1) ms mr mm ml mt) (some (.int (nI (menN a.1)))) (HH (a, b, c, a) Hs T L S (true, cm, r1, d1, f1) ms mr mm ml mt) := by
  refine ok_of (by decide +kernel) (Nat.zero_le _) (Nat.le_of_ble_eq_true rfl) ?_
  intro X C E
  show Ex X MX5_save 0 [(0, .ref 0)] [] (HH (a, b, c, d) Hs T L S (sv, cm, r1, d1, f1) ms mr mm ml mt)
  refine x_aload_n C dX5_save_0 rfl ?_
  refine x_getfield C qk5 3 (by decide) lfX5_22 dX5_save_1 rfl rfl ?_
  refine x_aload_n C dX5_save_4 rfl ?_
  refine x_getfield C qk5 0 (by decide) lfX5_12 dX5_save_5 rfl rfl ?_
  refine x_callV1v C (okX3_copyFrom PosF_saved PosF_now hd ha (by decide) (by decide) (by decide)) lkX5_67 miX3_copyFrom msX3_copyFrom maX3_copyFrom ⟨Nat.le_of_ble_eq_true rfl, Nat.le_of_ble_eq_true rfl⟩ (Nat.le_of_ble_eq_true rfl) rfl rfl dX5_save_8 ?_
  refine x_heap (h2 := HH (a, b, c, a) Hs T L S (sv, cm, r1, d1, f1) ms mr mm ml mt) (by rfl) ?_
  refine x_aload_n C dX5_save_11 rfl ?_
  refine x_iconst C (v := nI 1) dX5_save_12 (by decide +kernel) ?_
  refine x_putfield C qk5 4 (by decide) lfX5_267 rfl (ty0 := .boolean) (by decide +kernel) rfl rfl dX5_save_13 rfl (Nat.le_of_ble_eq_true rfl) ?_
  refine x_heap (h2 := HH (a, b, c, a) Hs T L S (true, cm, r1, d1, f1) ms mr mm ml mt) (by rfl) ?_
  refine x_aload_n C dX5_save_16 rfl ?_
  refine x_getfield C qk5 0 (by decide) lfX5_12 dX5_save_17 rfl rfl ?_
  refine x_callV0i C (okX3_countAll PosA_now ha.1) lkX5_228 miX3_countAll msX3_countAll maX3_countAll ⟨Nat.le_of_ble_eq_true rfl, Nat.le_of_ble_eq_true rfl⟩ (Nat.le_of_ble_eq_true rfl) rfl rfl dX5_save_20 ?_
  exact x_iret E .int dX5_save_23 rfl rfl rfl rfl
set_option maxHeartbeats 4000000 in
set_option maxRecDepth 100000 in
theorem okX5_restore_p0 {a b c d : qP} {Hs : qHs} {T : qTs} {L : qLs} {S : qSs} {ms : qms} {mr : qmr} {mm : qmm} {ml : qml} {mt : qmt} {cm r1 d1 f1 : Int32} : Ok MX5_restore [.ref 0] (HH (a, b, c, d) Hs T L S (false, cm, r1, d1, f1) ms mr mm ml mt) (some (.int (-4))) (HH (a, b, c, d) Hs T L S (false, cm, r1, d1, f1) ms mr mm ml mt) := by
  refine ok_of (by decide +kernel) (Nat.zero_le _) (Nat.le_of_ble_eq_true rfl) ?_
  intro X C E
  show Ex X MX5_restore 0 [(0, .ref 0)] [] (HH (a, b, c, d) Hs T L S (false, cm, r1, d1, f1) ms mr mm ml mt)
  refine x_aload_n C dX5_restore_0 rfl ?_
  refine x_getfield C qk5 4 (by decide) lfX5_267 dX5_restore_1 rfl rfl ?_
  refine x_if_neB C 10 dX5_restore_4 (by decide) (fun c4 => ?_) (fun c4 => ?_)
  · cases c4
  · refine x_bipush C (v := (-4)) dX5_restore_7 (by decide +kernel) ?_
    exact x_iret E .int dX5_restore_9 rfl rfl rfl rfl
set_option maxHeartbeats 4000000 in
set_option maxRecDepth 100000 in
theorem okX5_restore_p1 {a b c d : qP} {T : qTs} {L : qLs} {S : qSs} {ms : qms} {mr : qmr} {mm : qmm} {ml : qml} {mt : qmt} {R : Nat → qP} {nx sz : Nat} {cm r1 d1 f1 : Int32} (ha : Bd a.1) (hd : Bd d.1) : Ok MX5_restore [.ref 0] (HH (a, b, c, d) (R, nx, sz) T L S (true, cm, r1, d1, f1) ms mr mm ml mt) (some (.int (nI (menN d.1)))) (HH (d, b, c, d) (R, 0, 0) T L S (true, cm, r1, d1, f1) ms mr mm ml mt) := by
  refine ok_of (by decide +kernel) (Nat.zero_le _) (Nat.le_of_ble_eq_true rfl) ?_
  intro X C E
  show Ex X MX5_restore 0 [(0, .ref 0)] [] (HH (a, b, c, d) (R, nx, sz) T L S (true, cm, r1, d1, f1) ms mr mm ml mt)
  refine x_aload_n C dX5_restore_0 rfl ?_
  refine x_getfield C qk5 4 (by decide) lfX5_267 dX5_restore_1 rfl rfl ?_
  refine x_if_neB C 10 dX5_restore_4 (by decide) (fun c4 => ?_) (fun c4 => ?_)
  · refine x_aload_n C dX5_restore_10 rfl ?_
    refine x_getfield C qk5 0 (by decide) lfX5_12 dX5_restore_11 rfl rfl ?_
    refine x_aload_n C dX5_restore_14 rfl ?_
    refine x_getfield C qk5 3 (by decide) lfX5_22 dX5_restore_15 rfl rfl ?_
    refine x_callV1v C (okX3_copyFrom PosF_now PosF_saved ha hd (by decide) (by decide) (by decide)) lkX5_67 miX3_copyFrom msX3_copyFrom maX3_copyFrom ⟨Nat.le_of_ble_eq_true rfl, Nat.le_of_ble_eq_true rfl⟩ (Nat.le_of_ble_eq_true rfl) rfl rfl dX5_restore_18 ?_
    refine x_heap (h2 := HH (d, b, c, d) (R, nx, sz) T L S (true, cm, r1, d1, f1) ms mr mm ml mt) (by rfl) ?_
    refine x_aload_n C dX5_restore_21 rfl ?_
    refine x_getfield C qk5 5 (by decide) lfX5_28 dX5_restore_22 rfl rfl ?_
    refine x_callV0v C (okX0_clear HH_hist) lkX5_271 miX0_clear msX0_clear maX0_clear ⟨Nat.le_of_ble_eq_true rfl, Nat.le_of_ble_eq_true rfl⟩ (Nat.le_of_ble_eq_true rfl) rfl rfl dX5_restore_25 ?_
    refine x_heap (h2 := HH (d, b, c, d) (R, 0, 0) T L S (true, cm, r1, d1, f1) ms mr mm ml mt) (by rfl) ?_
    refine x_aload_n C dX5_restore_28 rfl ?_
    refine x_getfield C qk5 0 (by decide) lfX5_12 dX5_restore_29 rfl rfl ?_
    refine x_callV0i C (okX3_countAll PosA_now hd.1) lkX5_228 miX3_countAll msX3_countAll maX3_countAll ⟨Nat.le_of_ble_eq_true rfl, Nat.le_of_ble_eq_true rfl⟩ (Nat.le_of_ble_eq_true rfl) rfl rfl dX5_restore_32 ?_
    exact x_iret E .int dX5_restore_35 rfl rfl rfl rfl
  · cases c4
