/-! the reference: lines, characters of the text -/
theorem HS_ln {P : qPs} {Hs : qHs} {T : qTs} {L : qLs} {S : qSs} {V : qVs} {ms : qms} {mr : qmr} {mm : qmm} {ln l2 : Nat → Nat} {lm : Nat} {mt : qmt} : (HH P Hs T L S V ms mr mm (ln, lm) mt).set 48 (qB1 40 l2) = HH P Hs T L S V ms mr mm (l2, lm) mt := rfl
theorem HS_tx {P : qPs} {Hs : qHs} {T : qTs} {L : qLs} {S : qSs} {V : qVs} {ms : qms} {mr : qmr} {mm : qmm} {ml : qml} {tx od t2 : Nat → Nat} {n a0 o : Nat} {wr : Bool} : (HH P Hs T L S V ms mr mm ml (tx, n, a0, wr, od, o)).set 49 (qB1 70 t2) = HH P Hs T L S V ms mr mm ml (t2, n, a0, wr, od, o) := rfl
theorem HS_od {P : qPs} {Hs : qHs} {T : qTs} {L : qLs} {S : qSs} {V : qVs} {ms : qms} {mr : qmr} {mm : qmm} {ml : qml} {tx od t2 : Nat → Nat} {n a0 o : Nat} {wr : Bool} : (HH P Hs T L S V ms mr mm ml (tx, n, a0, wr, od, o)).set 50 (qB0 210 t2) = HH P Hs T L S V ms mr mm ml (tx, n, a0, wr, t2, o) := rfl
def sgC (m : Nat) : Nat := [46, 75, 81, 82, 66, 78, 35, 107].getD m 0
theorem strC_sg {m : Nat} (hm : m < 8) : strC 0 m = nI (sgC m) := (by decide +kernel : ∀ m : Fin 8, strC 0 m.1 = nI (sgC m.1)) ⟨m, hm⟩
theorem sgC_lt {m : Nat} (hm : m < 8) : sgC m < 128 := (by decide +kernel : ∀ m : Fin 8, sgC m.1 < 128) ⟨m, hm⟩
set_option maxHeartbeats 4000000 in
set_option maxRecDepth 100000 in
theorem okX6_says {P : qPs} {Hs : qHs} {T : qTs} {L : qLs} {S : qSs} {V : qVs} {mr : qmr} {mm : qmm} {ln : Nat → Nat} {lm : Nat} {mt : qmt} {ms : qms} (hl : lm < 40) {v : Nat} (hv : v < 128) : Ok MX6_says [.ref 40, .int (nI v)] (HH P Hs T L S V ms mr mm (ln, lm) mt) (none) (HH P Hs T L S V ms mr mm (up ln lm v, lm + 1) mt) := by
  refine ok_of (by decide +kernel) (Nat.zero_le _) (Nat.le_of_ble_eq_true rfl) ?_
  intro X C E
  show Ex X MX6_says 0 [(0, .ref 40), (1, .int (nI v))] [] (HH P Hs T L S V ms mr mm (ln, lm) mt)
  refine x_aload_n C dX6_says_0 rfl ?_
  refine x_getfield C qk6 14 (by decide) lfX6_35 dX6_says_1 rfl rfl ?_
  refine x_aload_n C dX6_says_4 rfl ?_
  refine x_getfield C qk6 15 (by decide) lfX6_172 dX6_says_5 rfl rfl ?_
  refine x_top (v := nI lm) (by rfl) ?_
  refine x_iload_n C dX6_says_8 rfl ?_
  refine x_castB C dX6_says_9 HM_ln hl (by decide) hv ?_
  refine x_heap HS_ln ?_
  refine x_aload_n C dX6_says_10 rfl ?_
  refine x_dup C rfl dX6_says_11 ?_
  refine x_getfield C qk6 15 (by decide) lfX6_172 dX6_says_12 rfl rfl ?_
  refine x_top (v := nI lm) (by rfl) ?_
  refine x_iconst C (v := nI 1) dX6_says_15 (by decide +kernel) ?_
  refine x_iaddN C dX6_says_16 ?_
  refine x_putfield C qk6 15 (by decide) lfX6_172 rfl (ty0 := .int) (by decide +kernel) rfl rfl dX6_says_17 rfl (Nat.le_of_ble_eq_true rfl) ?_
  refine x_heap (h2 := HH P Hs T L S V ms mr mm (up ln lm v, lm + 1) mt) (by rfl) ?_
  exact x_vret E dX6_says_20 rfl rfl rfl
theorem up_wl {g : Nat → Nat} {l : List Nat} {v : Nat} : up (wl g l) l.length v = wl g (l ++ [v]) := wl_app g l v
theorem wl_saidH {P : qPs} {Hs : qHs} {T : qTs} {L : qLs} {S : qSs} {V : qVs} {ms : qms} {mr : qmr} {mm : qmm} {ln : Nat → Nat} {l : List Nat} {v : Nat} {mt : qmt} : HH P Hs T L S V ms mr mm (up (wl ln l) l.length v, l.length + 1) mt = HH P Hs T L S V ms mr mm (wl ln (l ++ [v]), (l ++ [v]).length) mt := by
  rw [wl_app, List.length_append, List.length_singleton]
theorem wl_said2 {P : qPs} {Hs : qHs} {T : qTs} {L : qLs} {S : qSs} {V : qVs} {ms : qms} {mr : qmr} {mm : qmm} {ln : Nat → Nat} {l : List Nat} {v u : Nat} {mt : qmt} : HH P Hs T L S V ms mr mm (up (up (wl ln l) l.length v) (l.length + 1) u, l.length + 1 + 1) mt = HH P Hs T L S V ms mr mm (wl ln (l ++ [v, u]), (l ++ [v, u]).length) mt := by
  have e : l.length + 1 = (l ++ [v]).length := by rw [List.length_append, List.length_singleton]
  rw [wl_app, e, wl_app, List.append_assoc]
  simp
theorem wl_start {P : qPs} {Hs : qHs} {T : qTs} {L : qLs} {S : qSs} {V : qVs} {ms : qms} {mr : qmr} {mm : qmm} {ln : Nat → Nat} {mt : qmt} : HH P Hs T L S V ms mr mm (ln, 0) mt = HH P Hs T L S V ms mr mm (wl ln [], ([] : List Nat).length) mt := by rw [wl_nil]; rfl
set_option maxHeartbeats 4000000 in
set_option maxRecDepth 100000 in
theorem okX6_saysSquare {P : qPs} {Hs : qHs} {T : qTs} {L : qLs} {S : qSs} {V : qVs} {mr : qmr} {mm : qmm} {ln : Nat → Nat} {lm : Nat} {mt : qmt} {ms : qms} (hl : lm + 1 < 40) {i : Nat} (hi : i < 25) : Ok MX6_saysSquare [.ref 40, .int (nI i)] (HH P Hs T L S V ms mr mm (ln, lm) mt) (none) (HH P Hs T L S V ms mr mm (up (up ln lm (97 + i % 5)) (lm + 1) (49 + i / 5), lm + 1 + 1) mt) := by
  refine ok_of (by decide +kernel) (Nat.zero_le _) (Nat.le_of_ble_eq_true rfl) ?_
  intro X C E
  show Ex X MX6_saysSquare 0 [(0, .ref 40), (1, .int (nI i))] [] (HH P Hs T L S V ms mr mm (ln, lm) mt)
  refine x_aload_n C dX6_saysSquare_0 rfl ?_
  refine x_bipush C (v := nI 97) dX6_saysSquare_1 (by decide +kernel) ?_
  refine x_iload_n C dX6_saysSquare_3 rfl ?_
  refine x_iconst C (v := nI 5) dX6_saysSquare_4 (by decide +kernel) ?_
  refine x_iremN C dX6_saysSquare_5 (by omega) (by decide) (by decide) ?_
  refine x_iaddN C dX6_saysSquare_6 ?_
  refine x_i2c C dX6_saysSquare_7 ?_
  rw [i2c_c (show 97 + i % 5 < 128 by omega)]
  refine x_callV1v C (okX6_says (by omega) (show 97 + i % 5 < 128 by omega)) lkX6_183 miX6_says msX6_says maX6_says ⟨Nat.le_of_ble_eq_true rfl, Nat.le_of_ble_eq_true rfl⟩ (Nat.le_of_ble_eq_true rfl) rfl rfl dX6_saysSquare_8 ?_
  refine x_aload_n C dX6_saysSquare_11 rfl ?_
  refine x_bipush C (v := nI 49) dX6_saysSquare_12 (by decide +kernel) ?_
  refine x_iload_n C dX6_saysSquare_14 rfl ?_
  refine x_iconst C (v := nI 5) dX6_saysSquare_15 (by decide +kernel) ?_
  refine x_idivN C dX6_saysSquare_16 (by omega) (by decide) (by decide) ?_
  refine x_iaddN C dX6_saysSquare_17 ?_
  refine x_i2c C dX6_saysSquare_18 ?_
  rw [i2c_c (show 49 + i / 5 < 128 by omega)]
  refine x_callV1v C (okX6_says hl (show 49 + i / 5 < 128 by omega)) lkX6_183 miX6_says msX6_says maX6_says ⟨Nat.le_of_ble_eq_true rfl, Nat.le_of_ble_eq_true rfl⟩ (Nat.le_of_ble_eq_true rfl) rfl rfl dX6_saysSquare_19 ?_
  exact x_vret E dX6_saysSquare_22 rfl rfl rfl
def colN (b : Nat → Nat) (r : Nat) : Nat → List Nat
  | 0 => []
  | c + 1 => colN b r c ++ [sgC (b (5 * r + c))]
/-- the rows from the uppermost down to row r (r of them are left out) -/
def rowsN (b : Nat → Nat) : Nat → List Nat
  | 0 => []
  | n + 1 => rowsN b n ++ colN b (4 - n) 5 ++ (if n = 4 then [] else [47])
theorem colN_len (b : Nat → Nat) (r : Nat) : ∀ c, (colN b r c).length = c
  | 0 => rfl
  | c + 1 => by rw [colN, List.length_append, colN_len b r c]; rfl
theorem rowsN_len (b : Nat → Nat) : ∀ n, n ≤ 4 → (rowsN b n).length = 6 * n
  | 0, _ => rfl
  | n + 1, h => by
    rw [rowsN, List.length_append, List.length_append, rowsN_len b n (by omega), colN_len, if_neg (by omega)]
    simp only [List.length_singleton]
    omega
theorem rowsN_5 (b : Nat → Nat) : (rowsN b 5).length = 29 := by
  rw [rowsN, List.length_append, List.length_append, rowsN_len b 4 (by omega), colN_len, if_pos rfl]
  rfl
set_option maxHeartbeats 4000000 in
set_option maxRecDepth 100000 in
theorem okX6_show {P : qPs} {Hs : qHs} {T : qTs} {L : qLs} {S : qSs} {V : qVs} {mr : qmr} {mm : qmm} {ln : Nat → Nat} {lm : Nat} {mt : qmt} {s bf sv past : Nat → Nat} {isv : Bool} {pm : Nat} {b : Nat → Nat} (hb : ∀ i, b i < 8) (hsb : Ag s b) : Ok MX6_show [.ref 40] (HH P Hs T L S V (s, bf, sv, past, isv, pm) mr mm (ln, lm) mt) (some (.int (nI (rowsN b 5).length))) (HH P Hs T L S V (s, bf, sv, past, isv, pm) mr mm (wl ln (rowsN b 5), (rowsN b 5).length) mt) := by
  refine ok_of (by decide +kernel) (Nat.zero_le _) (Nat.le_of_ble_eq_true rfl) ?_
  intro X C E
  show Ex X MX6_show 0 [(0, .ref 40)] [] (HH P Hs T L S V (s, bf, sv, past, isv, pm) mr mm (ln, lm) mt)
  have hq : 0 < 2 := by decide
  obtain ⟨R, hR⟩ : ∃ R, R = rowsN b 5 := ⟨_, rfl⟩
  have hRl : R.length = 29 := by rw [hR]; exact rowsN_5 b
  rw [← hR] at E
  have L1 : ∀ k r : Nat, k + r = 5 → Ex X MX6_show 7 [(1, .int (sqm r)), (0, .ref 40)] [] (HH P Hs T L S V (s, bf, sv, past, isv, pm) mr mm (wl ln (rowsN b k), (rowsN b k).length) mt) := by
    intro k r
    induction r generalizing k with
    | zero =>
      intro hk
      have e : rowsN b k = R := by rw [hR, show k = 5 by omega]
      rw [e, show sqm 0 = -1 from rfl]
      refine x_iload_n C dX6_show_7 rfl ?_
      refine x_if_lt C 59 dX6_show_8 (by decide) (fun c8 => ?_) (fun c8 => ?_)
      · refine x_aload_n C dX6_show_59 rfl ?_
        refine x_getfield C qk6 15 (by decide) lfX6_172 dX6_show_60 rfl rfl ?_
        exact x_iret E .int dX6_show_63 rfl rfl rfl rfl
      · exact absurd (by decide : (-1 : Int32) < 0) c8
    | succ r ihr =>
      intro hk
      rw [sqm_s]
      have hrl := rowsN_len b k (by omega)
      have L2 : ∀ n c : Nat, c + n = 5 → Ex X MX6_show 13 [(2, .int (nI c)), (1, .int (nI r)), (0, .ref 40)] [] (HH P Hs T L S V (s, bf, sv, past, isv, pm) mr mm (wl ln (rowsN b k ++ colN b r c), (rowsN b k ++ colN b r c).length) mt) := by
        intro n
        induction n with
        | zero =>
          intro c hc
          have e : c = 5 := by omega
          subst e
          have hll : (rowsN b k ++ colN b r 5).length = 6 * k + 5 := by rw [List.length_append, hrl, colN_len]
          by_cases hr0 : r = 0
          · have hnx : rowsN b k ++ colN b r 5 = rowsN b (k + 1) := by rw [rowsN, show 4 - k = r by omega, if_pos (by omega), List.append_nil]
            rw [hnx]
            refine x_iload_n C dX6_show_13 rfl ?_
            refine x_iconst C (v := nI 5) dX6_show_14 (by decide +kernel) ?_
            refine x_icmp_geN C 43 dX6_show_15 (by decide) (by omega) (by omega) (fun c15 => ?_) (fun c15 => ?_)
            · refine x_iload_n C dX6_show_43 rfl ?_
              refine x_if_leN C 53 dX6_show_44 (by decide) (by omega) (fun c44 => ?_) (fun c44 => ?_)
              · refine x_iinc C _ dX6_show_53 rfl (q_decm r) (by decide) [(1, _), (2, _), (0, _)] rfl ?_
                refine x_goto C 7 dX6_show_56 (by decide) ?_
                exact x_sub [0, 2] (ihr (k + 1) (by omega)) rfl
              · exact absurd c44 (by omega)
            · exact absurd c15 (by decide)
          · have hnx : rowsN b k ++ colN b r 5 ++ [47] = rowsN b (k + 1) := by rw [rowsN, show 4 - k = r by omega, if_neg (by omega)]
            refine x_iload_n C dX6_show_13 rfl ?_
            refine x_iconst C (v := nI 5) dX6_show_14 (by decide +kernel) ?_
            refine x_icmp_geN C 43 dX6_show_15 (by decide) (by omega) (by omega) (fun c15 => ?_) (fun c15 => ?_)
            · refine x_iload_n C dX6_show_43 rfl ?_
              refine x_if_leN C 53 dX6_show_44 (by decide) (by omega) (fun c44 => ?_) (fun c44 => ?_)
              · exact absurd c44 (by omega)
              · refine x_aload_n C dX6_show_47 rfl ?_
                refine x_bipush C (v := nI 47) dX6_show_48 (by decide +kernel) ?_
                refine x_callV1v C (okX6_says (by omega) (show 47 < 128 by decide)) lkX6_183 miX6_says msX6_says maX6_says ⟨Nat.le_of_ble_eq_true rfl, Nat.le_of_ble_eq_true rfl⟩ (Nat.le_of_ble_eq_true rfl) rfl rfl dX6_show_50 ?_
                refine x_heap wl_saidH ?_
                rw [hnx]
                refine x_iinc C _ dX6_show_53 rfl (q_decm r) (by decide) [(1, _), (2, _), (0, _)] rfl ?_
                refine x_goto C 7 dX6_show_56 (by decide) ?_
                exact x_sub [0, 2] (ihr (k + 1) (by omega)) rfl
            · exact absurd c15 (by decide)
        | succ n ih =>
          intro c hc
          have hll : (rowsN b k ++ colN b r c).length = 6 * k + c := by rw [List.length_append, hrl, colN_len]
          have hcol : colN b r c ++ [sgC (b (5 * r + c))] = colN b r (c + 1) := rfl
          refine x_iload_n C dX6_show_13 rfl ?_
          refine x_iconst C (v := nI 5) dX6_show_14 (by decide +kernel) ?_
          refine x_icmp_geN C 43 dX6_show_15 (by decide) (by omega) (by omega) (fun c15 => ?_) (fun c15 => ?_)
          · exact absurd c15 (by omega)
          · refine x_aload_n C dX6_show_18 rfl ?_
            refine x_ldcS C (q := 0) (fun _ _ _ _ y => y.2.2.2.2.1.2.2.2) dX6_show_19 ?_
            refine x_aload_n C dX6_show_21 rfl ?_
            refine x_getfield C qk6 0 (by decide) lfX6_9 dX6_show_22 rfl rfl ?_
            refine x_iconst C (v := nI 5) dX6_show_25 (by decide +kernel) ?_
            refine x_iload_n C dX6_show_26 rfl ?_
            refine x_imulN C dX6_show_27 ?_
            refine x_iload_n C dX6_show_28 rfl ?_
            refine x_iaddN C dX6_show_29 ?_
            refine x_iald C dX6_show_30 HM_s (by omega) (by decide) ?_
            refine x_top (congrArg nI (hsb _ (by omega))) ?_
            refine x_callK1i C (okJ0_charAt_5068e (q := 0) hq (show b (5 * r + c) < strN 0 from hb _) _) lkX6_177 miJ0_charAt_5068e msJ0_charAt_5068e maJ0_charAt_5068e ⟨Nat.le_of_ble_eq_true rfl, Nat.le_of_ble_eq_true rfl⟩ (Nat.le_of_ble_eq_true rfl) hq rfl dX6_show_31 ?_
            rw [strC_sg (hb _)]
            refine x_callV1v C (okX6_says (by omega) (sgC_lt (hb _))) lkX6_183 miX6_says msX6_says maX6_says ⟨Nat.le_of_ble_eq_true rfl, Nat.le_of_ble_eq_true rfl⟩ (Nat.le_of_ble_eq_true rfl) rfl rfl dX6_show_34 ?_
            refine x_heap wl_saidH ?_
            rw [List.append_assoc, hcol]
            refine x_iinc C _ dX6_show_37 rfl (q_inc _) (by decide) [(2, _), (1, _), (0, _)] rfl ?_
            refine x_goto C 13 dX6_show_40 (by decide) ?_
            exact ih (c + 1) (by omega)
      refine x_iload_n C dX6_show_7 rfl ?_
      refine x_if_ltN C 59 dX6_show_8 (by decide) (by omega) ?_
      refine x_iconst C (v := nI 0) dX6_show_11 (by decide +kernel) ?_
      refine x_istore_n C dX6_show_12 (by decide) [(2, _), (1, _), (0, _)] rfl ?_
      have h := L2 5 0 (by omega)
      rw [colN, List.append_nil] at h
      exact x_sub [0, 1, 2] h rfl
  refine x_aload_n C dX6_show_0 rfl ?_
  refine x_iconst C (v := nI 0) dX6_show_1 (by decide +kernel) ?_
  refine x_putfield C qk6 15 (by decide) lfX6_172 rfl (ty0 := .int) (by decide +kernel) rfl rfl dX6_show_2 rfl (Nat.le_of_ble_eq_true rfl) ?_
  refine x_heap (h2 := HH P Hs T L S V (s, bf, sv, past, isv, pm) mr mm (ln, 0) mt) (by rfl) ?_
  refine x_heap wl_start ?_
  refine x_iconst C (v := nI 4) dX6_show_5 (by decide +kernel) ?_
  refine x_istore_n C dX6_show_6 (by decide) [(1, _), (0, _)] rfl ?_
  have h := L1 0 5 (by omega)
  rw [rowsN] at h
  exact x_sub [0, 1] h rfl
def lnAt (ln : Nat → Nat) (lm : Nat) (x : Int32) : Int32 := if inB x (nI 0) (nI lm - nI 1) = true then nI (ln x.toNatClampNeg) else -1
set_option maxHeartbeats 4000000 in
set_option maxRecDepth 100000 in
theorem okX6_sign {P : qPs} {Hs : qHs} {T : qTs} {L : qLs} {S : qSs} {V : qVs} {mr : qmr} {mm : qmm} {ln : Nat → Nat} {lm : Nat} {mt : qmt} {ms : qms} (hl : lm ≤ 40) (x : Int32) : Ok MX6_sign [.ref 40, .int x] (HH P Hs T L S V ms mr mm (ln, lm) mt) (some (.int (lnAt ln lm x))) (HH P Hs T L S V ms mr mm (ln, lm) mt) := by
  refine ok_of (by decide +kernel) (Nat.zero_le _) (Nat.le_of_ble_eq_true rfl) ?_
  intro X C E
  show Ex X MX6_sign 0 [(0, .ref 40), (1, .int x)] [] (HH P Hs T L S V ms mr mm (ln, lm) mt)
  cases hin : inB x (nI 0) (nI lm - nI 1) with
  | false =>
    refine x_iload_n C dX6_sign_0 rfl ?_
    refine x_iconst C (v := nI 0) dX6_sign_1 (by decide +kernel) ?_
    refine x_aload_n C dX6_sign_2 rfl ?_
    refine x_getfield C qk6 15 (by decide) lfX6_172 dX6_sign_3 rfl rfl ?_
    refine x_top (v := nI lm) (by rfl) ?_
    refine x_iconst C (v := nI 1) dX6_sign_6 (by decide +kernel) ?_
    refine x_isub C dX6_sign_7 ?_
    refine x_callS3i C (okX6_in _ _ _ _) lkX6_60 miX6_in mtX6_in maX6_in ⟨Nat.le_of_ble_eq_true rfl, Nat.le_of_ble_eq_true rfl⟩ (Nat.le_of_ble_eq_true rfl) dX6_sign_8 ?_
    rw [hin]
    refine x_if_eqB C 23 dX6_sign_11 (by decide) (fun c11 => ?_) (fun c11 => ?_)
    · refine x_iconst C (v := (-1)) dX6_sign_23 (by decide +kernel) ?_
      exact x_iret E .int dX6_sign_24 rfl rfl (by unfold lnAt; rw [if_neg (by rw [hin]; decide)]) rfl
    · cases c11
  | true =>
    obtain ⟨i, hi, rfl⟩ := inB_of (by omega) hin
    refine x_iload_n C dX6_sign_0 rfl ?_
    refine x_iconst C (v := nI 0) dX6_sign_1 (by decide +kernel) ?_
    refine x_aload_n C dX6_sign_2 rfl ?_
    refine x_getfield C qk6 15 (by decide) lfX6_172 dX6_sign_3 rfl rfl ?_
    refine x_top (v := nI lm) (by rfl) ?_
    refine x_iconst C (v := nI 1) dX6_sign_6 (by decide +kernel) ?_
    refine x_isub C dX6_sign_7 ?_
    refine x_callS3i C (okX6_in _ _ _ _) lkX6_60 miX6_in mtX6_in maX6_in ⟨Nat.le_of_ble_eq_true rfl, Nat.le_of_ble_eq_true rfl⟩ (Nat.le_of_ble_eq_true rfl) dX6_sign_8 ?_
    rw [hin]
    refine x_if_eqB C 23 dX6_sign_11 (by decide) (fun c11 => ?_) (fun c11 => ?_)
    · cases c11
    · refine x_aload_n C dX6_sign_14 rfl ?_
      refine x_getfield C qk6 14 (by decide) lfX6_35 dX6_sign_15 rfl rfl ?_
      refine x_iload_n C dX6_sign_18 rfl ?_
      refine x_caldN C dX6_sign_19 HM_ln (by omega) (by decide) ?_
      refine x_goto C 24 dX6_sign_20 (by decide) ?_
      exact x_iret E .int dX6_sign_24 rfl rfl (by unfold lnAt; rw [if_pos hin, nI_clamp (by omega)]) rfl

set_option maxHeartbeats 4000000 in
set_option maxRecDepth 100000 in
theorem okX6_append_out {P : qPs} {Hs : qHs} {T : qTs} {L : qLs} {S : qSs} {V : qVs} {ms : qms} {mr : qmr} {mm : qmm} {ml : qml} {tx od : Nat → Nat} {n a0 o : Nat} {wr : Bool} (hn : n ≤ 70) {x : Int32} (hx : inB x (nI 32) (nI 126) = false ∨ n = 70) : Ok MX6_append [.ref 40, .int x] (HH P Hs T L S V ms mr mm ml (tx, n, a0, wr, od, o)) (some (.int (-2))) (HH P Hs T L S V ms mr mm ml (tx, n, a0, wr, od, o)) := by
  refine ok_of (by decide +kernel) (Nat.zero_le _) (Nat.le_of_ble_eq_true rfl) ?_
  intro X C E
  show Ex X MX6_append 0 [(0, .ref 40), (1, .int x)] [] (HH P Hs T L S V ms mr mm ml (tx, n, a0, wr, od, o))
  refine x_iload_n C dX6_append_0 rfl ?_
  refine x_bipush C (v := nI 32) dX6_append_1 (by decide +kernel) ?_
  refine x_bipush C (v := nI 126) dX6_append_3 (by decide +kernel) ?_
  refine x_callS3i C (okX6_in _ _ _ _) lkX6_60 miX6_in mtX6_in maX6_in ⟨Nat.le_of_ble_eq_true rfl, Nat.le_of_ble_eq_true rfl⟩ (Nat.le_of_ble_eq_true rfl) dX6_append_5 ?_
  refine x_if_eqB C 20 dX6_append_8 (by decide) (fun c8 => ?_) (fun c8 => ?_)
  · refine x_bipush C (v := (-2)) dX6_append_20 (by decide +kernel) ?_
    exact x_iret E .int dX6_append_22 rfl rfl rfl rfl
  · refine x_aload_n C dX6_append_11 rfl ?_
    refine x_getfield C qk6 17 (by decide) lfX6_194 dX6_append_12 rfl rfl ?_
    refine x_top (v := nI n) (by rfl) ?_
    refine x_bipush C (v := nI 70) dX6_append_15 (by decide +kernel) ?_
    refine x_icmp_neN C 23 dX6_append_17 (by decide) (by omega) (by omega) (fun c17 => ?_) (fun c17 => ?_)
    · exact absurd hx (fun z => z.elim (fun q => by rw [q] at c8; cases c8) (fun q => c17 q))
    · refine x_bipush C (v := (-2)) dX6_append_20 (by decide +kernel) ?_
      exact x_iret E .int dX6_append_22 rfl rfl rfl rfl
set_option maxHeartbeats 4000000 in
set_option maxRecDepth 100000 in
theorem okX6_append_in {P : qPs} {Hs : qHs} {T : qTs} {L : qLs} {S : qSs} {V : qVs} {ms : qms} {mr : qmr} {mm : qmm} {ml : qml} {tx od : Nat → Nat} {n a0 o : Nat} {wr : Bool} (hn : n < 70) {k : Nat} (h1 : 32 ≤ k) (h2 : k ≤ 126) : Ok MX6_append [.ref 40, .int (nI k)] (HH P Hs T L S V ms mr mm ml (tx, n, a0, wr, od, o)) (some (.int (nI (n + 1)))) (HH P Hs T L S V ms mr mm ml (up tx n k, n + 1, a0, wr, od, o)) := by
  refine ok_of (by decide +kernel) (Nat.zero_le _) (Nat.le_of_ble_eq_true rfl) ?_
  intro X C E
  show Ex X MX6_append 0 [(0, .ref 40), (1, .int (nI k))] [] (HH P Hs T L S V ms mr mm ml (tx, n, a0, wr, od, o))
  refine x_iload_n C dX6_append_0 rfl ?_
  refine x_bipush C (v := nI 32) dX6_append_1 (by decide +kernel) ?_
  refine x_bipush C (v := nI 126) dX6_append_3 (by decide +kernel) ?_
  refine x_callS3i C (okX6_in _ _ _ _) lkX6_60 miX6_in mtX6_in maX6_in ⟨Nat.le_of_ble_eq_true rfl, Nat.le_of_ble_eq_true rfl⟩ (Nat.le_of_ble_eq_true rfl) dX6_append_5 ?_
  rw [inB_nI (by omega) (by decide) (by decide), decide_eq_true (show 32 ≤ k ∧ k ≤ 126 from ⟨h1, h2⟩)]
  refine x_if_eqB C 20 dX6_append_8 (by decide) (fun c8 => ?_) (fun c8 => ?_)
  · cases c8
  · refine x_aload_n C dX6_append_11 rfl ?_
    refine x_getfield C qk6 17 (by decide) lfX6_194 dX6_append_12 rfl rfl ?_
    refine x_top (v := nI n) (by rfl) ?_
    refine x_bipush C (v := nI 70) dX6_append_15 (by decide +kernel) ?_
    refine x_icmp_neN C 23 dX6_append_17 (by decide) (by omega) (by omega) (fun c17 => ?_) (fun c17 => ?_)
    · refine x_aload_n C dX6_append_23 rfl ?_
      refine x_getfield C qk6 16 (by decide) lfX6_39 dX6_append_24 rfl rfl ?_
      refine x_aload_n C dX6_append_27 rfl ?_
      refine x_getfield C qk6 17 (by decide) lfX6_194 dX6_append_28 rfl rfl ?_
      refine x_top (v := nI n) (by rfl) ?_
      refine x_iload_n C dX6_append_31 rfl ?_
      refine x_i2c C dX6_append_32 ?_
      rw [i2c_c (show k < 128 by omega)]
      refine x_castB C dX6_append_33 HM_tx hn (by decide) (show k < 128 by omega) ?_
      refine x_heap HS_tx ?_
      refine x_aload_n C dX6_append_34 rfl ?_
      refine x_dup C rfl dX6_append_35 ?_
      refine x_getfield C qk6 17 (by decide) lfX6_194 dX6_append_36 rfl rfl ?_
      refine x_top (v := nI n) (by rfl) ?_
      refine x_iconst C (v := nI 1) dX6_append_39 (by decide +kernel) ?_
      refine x_iaddN C dX6_append_40 ?_
      refine x_putfield C qk6 17 (by decide) lfX6_194 rfl (ty0 := .int) (by decide +kernel) rfl rfl dX6_append_41 rfl (Nat.le_of_ble_eq_true rfl) ?_
      refine x_heap (h2 := HH P Hs T L S V ms mr mm ml (up tx n k, n + 1, a0, wr, od, o)) (by rfl) ?_
      refine x_aload_n C dX6_append_44 rfl ?_
      refine x_getfield C qk6 17 (by decide) lfX6_194 dX6_append_45 rfl rfl ?_
      refine x_top (v := nI (n + 1)) (by rfl) ?_
      exact x_iret E .int dX6_append_48 rfl rfl rfl rfl
    · exact absurd c17 (by omega)
def hereB (tx : Nat → Nat) (n a0 : Nat) (wr : Bool) (lo hi : Nat) : Bool := !wr && (decide (a0 < n) && decide (lo ≤ tx a0 ∧ tx a0 ≤ hi))
def sgn (tx : Nat → Nat) (n lo hi a0 : Nat) (wr : Bool) : Nat × Bool × Nat := if hereB tx n a0 wr lo hi = true then (a0 + 1, false, tx a0 - lo) else (a0, true, 0)
def sqr (tx : Nat → Nat) (n a0 : Nat) (wr : Bool) : Nat × Bool × Nat :=
  ((sgn tx n 49 53 (sgn tx n 97 101 a0 wr).1 (sgn tx n 97 101 a0 wr).2.1).1, (sgn tx n 49 53 (sgn tx n 97 101 a0 wr).1 (sgn tx n 97 101 a0 wr).2.1).2.1, 5 * (sgn tx n 49 53 (sgn tx n 97 101 a0 wr).1 (sgn tx n 97 101 a0 wr).2.1).2.2 + (sgn tx n 97 101 a0 wr).2.2)
def ordF (od : Nat → Nat) (o w f s : Nat) : Nat → Nat := up (up (up od (3 * o) w) (3 * o + 1) f) (3 * o + 2) s
set_option maxHeartbeats 4000000 in
set_option maxRecDepth 100000 in
theorem okX6_isHere {P : qPs} {Hs : qHs} {T : qTs} {L : qLs} {S : qSs} {V : qVs} {ms : qms} {mr : qmr} {mm : qmm} {ml : qml} {tx od : Nat → Nat} {n a0 o : Nat} {wr : Bool} (hn : n ≤ 70) (ht : ∀ i, tx i < 128) (ha : a0 ≤ n) {lo hi : Nat} (hlo : lo < 128) (hhi : hi < 128) : Ok MX6_isHere [.ref 40, .int (nI lo), .int (nI hi)] (HH P Hs T L S V ms mr mm ml (tx, n, a0, wr, od, o)) (some (.int (qb (hereB tx n a0 wr lo hi)))) (HH P Hs T L S V ms mr mm ml (tx, n, a0, wr, od, o)) := by
  refine ok_of (by decide +kernel) (Nat.zero_le _) (Nat.le_of_ble_eq_true rfl) ?_
  intro X C E
  show Ex X MX6_isHere 0 [(0, .ref 40), (1, .int (nI lo)), (2, .int (nI hi))] [] (HH P Hs T L S V ms mr mm ml (tx, n, a0, wr, od, o))
  have hta := ht a0
  refine x_aload_n C dX6_isHere_0 rfl ?_
  refine x_getfield C qk6 19 (by decide) lfX6_197 dX6_isHere_1 rfl rfl ?_
  refine x_top (v := qb wr) (by rfl) ?_
  refine x_if_neB C 39 dX6_isHere_4 (by decide) (fun c4 => ?_) (fun c4 => ?_)
  · refine x_iconst C (v := nI 0) dX6_isHere_39 (by decide +kernel) ?_
    exact x_iret E .boolean dX6_isHere_40 rfl rfl (by have e : hereB tx n a0 wr lo hi = false := (by unfold hereB; rw [c4]; rfl); rw [e]; rfl) rfl
  · refine x_aload_n C dX6_isHere_7 rfl ?_
    refine x_getfield C qk6 18 (by decide) lfX6_201 dX6_isHere_8 rfl rfl ?_
    refine x_top (v := nI a0) (by rfl) ?_
    refine x_aload_n C dX6_isHere_11 rfl ?_
    refine x_getfield C qk6 17 (by decide) lfX6_194 dX6_isHere_12 rfl rfl ?_
    refine x_top (v := nI n) (by rfl) ?_
    refine x_icmp_geN C 39 dX6_isHere_15 (by decide) (by omega) (by omega) (fun c15 => ?_) (fun c15 => ?_)
    · refine x_iconst C (v := nI 0) dX6_isHere_39 (by decide +kernel) ?_
      exact x_iret E .boolean dX6_isHere_40 rfl rfl (by have e : hereB tx n a0 wr lo hi = false := (by unfold hereB; rw [decide_eq_false (p := a0 < n) (by omega), Bool.false_and, Bool.and_false]); rw [e]; rfl) rfl
    · refine x_aload_n C dX6_isHere_18 rfl ?_
      refine x_getfield C qk6 16 (by decide) lfX6_39 dX6_isHere_19 rfl rfl ?_
      refine x_aload_n C dX6_isHere_22 rfl ?_
      refine x_getfield C qk6 18 (by decide) lfX6_201 dX6_isHere_23 rfl rfl ?_
      refine x_top (v := nI a0) (by rfl) ?_
      refine x_caldN C dX6_isHere_26 HM_tx (by omega) (by decide) ?_
      refine x_iload_n C dX6_isHere_27 rfl ?_
      refine x_iload_n C dX6_isHere_28 rfl ?_
      refine x_callS3i C (okX6_in _ _ _ _) lkX6_60 miX6_in mtX6_in maX6_in ⟨Nat.le_of_ble_eq_true rfl, Nat.le_of_ble_eq_true rfl⟩ (Nat.le_of_ble_eq_true rfl) dX6_isHere_29 ?_
      rw [inB_nI (by omega) (by omega) (by omega)]
      refine x_if_eqB C 39 dX6_isHere_32 (by decide) (fun c32 => ?_) (fun c32 => ?_)
      · refine x_iconst C (v := nI 0) dX6_isHere_39 (by decide +kernel) ?_
        exact x_iret E .boolean dX6_isHere_40 rfl rfl (by have e : hereB tx n a0 wr lo hi = false := (by unfold hereB; rw [c32, Bool.and_false, Bool.and_false]); rw [e]; rfl) rfl
      · refine x_iconst C (v := nI 1) dX6_isHere_35 (by decide +kernel) ?_
        refine x_goto C 40 dX6_isHere_36 (by decide) ?_
        exact x_iret E .boolean dX6_isHere_40 rfl rfl (by have e : hereB tx n a0 wr lo hi = true := (by unfold hereB; rw [c4, c32, decide_eq_true (p := a0 < n) (by omega)]; rfl); rw [e]; rfl) rfl
set_option maxHeartbeats 4000000 in
set_option maxRecDepth 100000 in
theorem okX6_signAt {P : qPs} {Hs : qHs} {T : qTs} {L : qLs} {S : qSs} {V : qVs} {ms : qms} {mr : qmr} {mm : qmm} {ml : qml} {tx od : Nat → Nat} {n a0 o : Nat} {wr : Bool} (hn : n ≤ 70) (ht : ∀ i, tx i < 128) (ha : a0 ≤ n) {lo hi : Nat} (hlo : lo < 128) (hhi : hi < 128) : Ok MX6_signAt [.ref 40, .int (nI lo), .int (nI hi)] (HH P Hs T L S V ms mr mm ml (tx, n, a0, wr, od, o)) (some (.int (nI (sgn tx n lo hi a0 wr).2.2))) (HH P Hs T L S V ms mr mm ml (tx, n, (sgn tx n lo hi a0 wr).1, (sgn tx n lo hi a0 wr).2.1, od, o)) := by
  refine ok_of (by decide +kernel) (Nat.zero_le _) (Nat.le_of_ble_eq_true rfl) ?_
  intro X C E
  show Ex X MX6_signAt 0 [(0, .ref 40), (1, .int (nI lo)), (2, .int (nI hi))] [] (HH P Hs T L S V ms mr mm ml (tx, n, a0, wr, od, o))
  have hta := ht a0
  cases hh : hereB tx n a0 wr lo hi with
  | false =>
    have e1 : sgn tx n lo hi a0 wr = (a0, true, 0) := by unfold sgn; rw [if_neg (by rw [hh]; decide)]
    rw [e1] at E
    refine x_aload_n C dX6_signAt_0 rfl ?_
    refine x_aload_n C dX6_signAt_1 rfl ?_
    refine x_getfield C qk6 19 (by decide) lfX6_197 dX6_signAt_2 rfl rfl ?_
    refine x_top (v := qb wr) (by rfl) ?_
    refine x_if_neB C 17 dX6_signAt_5 (by decide) (fun c5 => ?_) (fun c5 => ?_)
    · refine x_iconst C (v := nI 1) dX6_signAt_17 (by decide +kernel) ?_
      refine x_goto C 22 dX6_signAt_18 (by decide) ?_
      refine x_putfield C qk6 19 (by decide) lfX6_197 rfl (ty0 := .boolean) (by decide +kernel) rfl rfl dX6_signAt_22 rfl (Nat.le_of_ble_eq_true rfl) ?_
      refine x_heap (h2 := HH P Hs T L S V ms mr mm ml (tx, n, a0, true, od, o)) (by rfl) ?_
      refine x_aload_n C dX6_signAt_25 rfl ?_
      refine x_getfield C qk6 19 (by decide) lfX6_197 dX6_signAt_26 rfl rfl ?_
      refine x_top (v := qb true) (by rfl) ?_
      refine x_if_eqB C 34 dX6_signAt_29 (by decide) (fun c29 => ?_) (fun c29 => ?_)
      · cases c29
      · refine x_iconst C (v := nI 0) dX6_signAt_32 (by decide +kernel) ?_
        exact x_iret E .int dX6_signAt_33 rfl rfl rfl rfl
    · refine x_aload_n C dX6_signAt_8 rfl ?_
      refine x_iload_n C dX6_signAt_9 rfl ?_
      refine x_iload_n C dX6_signAt_10 rfl ?_
      refine x_callV2i C (okX6_isHere hn ht ha hlo hhi) lkX6_204 miX6_isHere msX6_isHere maX6_isHere ⟨Nat.le_of_ble_eq_true rfl, Nat.le_of_ble_eq_true rfl⟩ (Nat.le_of_ble_eq_true rfl) rfl rfl dX6_signAt_11 ?_
      rw [hh]
      refine x_if_neB C 21 dX6_signAt_14 (by decide) (fun c14 => ?_) (fun c14 => ?_)
      · cases c14
      · refine x_iconst C (v := nI 1) dX6_signAt_17 (by decide +kernel) ?_
        refine x_goto C 22 dX6_signAt_18 (by decide) ?_
        refine x_putfield C qk6 19 (by decide) lfX6_197 rfl (ty0 := .boolean) (by decide +kernel) rfl rfl dX6_signAt_22 rfl (Nat.le_of_ble_eq_true rfl) ?_
        refine x_heap (h2 := HH P Hs T L S V ms mr mm ml (tx, n, a0, true, od, o)) (by rfl) ?_
        refine x_aload_n C dX6_signAt_25 rfl ?_
        refine x_getfield C qk6 19 (by decide) lfX6_197 dX6_signAt_26 rfl rfl ?_
        refine x_top (v := qb true) (by rfl) ?_
        refine x_if_eqB C 34 dX6_signAt_29 (by decide) (fun c29 => ?_) (fun c29 => ?_)
        · cases c29
        · refine x_iconst C (v := nI 0) dX6_signAt_32 (by decide +kernel) ?_
          exact x_iret E .int dX6_signAt_33 rfl rfl rfl rfl
  | true =>
    have e1 : sgn tx n lo hi a0 wr = (a0 + 1, false, tx a0 - lo) := by unfold sgn; rw [if_pos hh]
    rw [e1] at E
    obtain ⟨q1, q2, q3, q4⟩ : wr = false ∧ a0 < n ∧ lo ≤ tx a0 ∧ tx a0 ≤ hi := by
      unfold hereB at hh
      rw [Bool.and_eq_true, Bool.and_eq_true, Bool.not_eq_true', decide_eq_true_eq, decide_eq_true_eq] at hh
      exact ⟨hh.1, hh.2.1, hh.2.2.1, hh.2.2.2⟩
    subst q1
    refine x_aload_n C dX6_signAt_0 rfl ?_
    refine x_aload_n C dX6_signAt_1 rfl ?_
    refine x_getfield C qk6 19 (by decide) lfX6_197 dX6_signAt_2 rfl rfl ?_
    refine x_top (v := qb false) (by rfl) ?_
    refine x_if_neB C 17 dX6_signAt_5 (by decide) (fun c5 => ?_) (fun c5 => ?_)
    · cases c5
    · refine x_aload_n C dX6_signAt_8 rfl ?_
      refine x_iload_n C dX6_signAt_9 rfl ?_
      refine x_iload_n C dX6_signAt_10 rfl ?_
      refine x_callV2i C (okX6_isHere hn ht ha hlo hhi) lkX6_204 miX6_isHere msX6_isHere maX6_isHere ⟨Nat.le_of_ble_eq_true rfl, Nat.le_of_ble_eq_true rfl⟩ (Nat.le_of_ble_eq_true rfl) rfl rfl dX6_signAt_11 ?_
      rw [hh]
      refine x_if_neB C 21 dX6_signAt_14 (by decide) (fun c14 => ?_) (fun c14 => ?_)
      · refine x_iconst C (v := nI 0) dX6_signAt_21 (by decide +kernel) ?_
        refine x_putfield C qk6 19 (by decide) lfX6_197 rfl (ty0 := .boolean) (by decide +kernel) rfl rfl dX6_signAt_22 rfl (Nat.le_of_ble_eq_true rfl) ?_
        refine x_heap (h2 := HH P Hs T L S V ms mr mm ml (tx, n, a0, false, od, o)) (by rfl) ?_
        refine x_aload_n C dX6_signAt_25 rfl ?_
        refine x_getfield C qk6 19 (by decide) lfX6_197 dX6_signAt_26 rfl rfl ?_
        refine x_top (v := qb false) (by rfl) ?_
        refine x_if_eqB C 34 dX6_signAt_29 (by decide) (fun c29 => ?_) (fun c29 => ?_)
        · refine x_aload_n C dX6_signAt_34 rfl ?_
          refine x_dup C rfl dX6_signAt_35 ?_
          refine x_getfield C qk6 18 (by decide) lfX6_201 dX6_signAt_36 rfl rfl ?_
          refine x_top (v := nI a0) (by rfl) ?_
          refine x_iconst C (v := nI 1) dX6_signAt_39 (by decide +kernel) ?_
          refine x_iaddN C dX6_signAt_40 ?_
          refine x_putfield C qk6 18 (by decide) lfX6_201 rfl (ty0 := .int) (by decide +kernel) rfl rfl dX6_signAt_41 rfl (Nat.le_of_ble_eq_true rfl) ?_
          refine x_heap (h2 := HH P Hs T L S V ms mr mm ml (tx, n, a0 + 1, false, od, o)) (by rfl) ?_
          refine x_aload_n C dX6_signAt_44 rfl ?_
          refine x_getfield C qk6 16 (by decide) lfX6_39 dX6_signAt_45 rfl rfl ?_
          refine x_aload_n C dX6_signAt_48 rfl ?_
          refine x_getfield C qk6 18 (by decide) lfX6_201 dX6_signAt_49 rfl rfl ?_
          refine x_top (v := nI (a0 + 1)) (by rfl) ?_
          refine x_iconst C (v := nI 1) dX6_signAt_52 (by decide +kernel) ?_
          refine x_isubN C dX6_signAt_53 (by omega) ?_
          refine x_caldN C dX6_signAt_54 HM_tx (show a0 + 1 - 1 < 70 by omega) (by decide) ?_
          refine x_top (v := nI (tx a0)) (by rfl) ?_
          refine x_iload_n C dX6_signAt_55 rfl ?_
          refine x_isubN C dX6_signAt_56 (by omega) ?_
          exact x_iret E .int dX6_signAt_57 rfl rfl rfl rfl
        · cases c29
      · cases c14

theorem sgn_b {tx : Nat → Nat} {n lo hi a0 : Nat} {wr : Bool} (ha : a0 ≤ n) : (sgn tx n lo hi a0 wr).1 ≤ n ∧ a0 ≤ (sgn tx n lo hi a0 wr).1 ∧ (sgn tx n lo hi a0 wr).2.2 ≤ hi - lo := by
  unfold sgn
  by_cases h : hereB tx n a0 wr lo hi = true
  · rw [if_pos h]
    unfold hereB at h
    rw [Bool.and_eq_true, Bool.and_eq_true, Bool.not_eq_true', decide_eq_true_eq, decide_eq_true_eq] at h
    refine ⟨?_, ?_, ?_⟩ <;> simp only [] <;> omega
  · rw [if_neg h]
    exact ⟨ha, Nat.le_refl _, Nat.zero_le _⟩
set_option maxHeartbeats 4000000 in
set_option maxRecDepth 100000 in
theorem okX6_square {P : qPs} {Hs : qHs} {T : qTs} {L : qLs} {S : qSs} {V : qVs} {ms : qms} {mr : qmr} {mm : qmm} {ml : qml} {tx od : Nat → Nat} {n a0 o : Nat} {wr : Bool} (hn : n ≤ 70) (ht : ∀ i, tx i < 128) (ha : a0 ≤ n)  : Ok MX6_square [.ref 40] (HH P Hs T L S V ms mr mm ml (tx, n, a0, wr, od, o)) (some (.int (nI (sqr tx n a0 wr).2.2))) (HH P Hs T L S V ms mr mm ml (tx, n, (sqr tx n a0 wr).1, (sqr tx n a0 wr).2.1, od, o)) := by
  refine ok_of (by decide +kernel) (Nat.zero_le _) (Nat.le_of_ble_eq_true rfl) ?_
  intro X C E
  show Ex X MX6_square 0 [(0, .ref 40)] [] (HH P Hs T L S V ms mr mm ml (tx, n, a0, wr, od, o))
  have h1 := sgn_b (tx := tx) (lo := 97) (hi := 101) (wr := wr) ha
  unfold sqr at E
  have hm1 : Ok MX6_signAt [.ref 40, .int (nI 97), .int (nI 101)] (HH P Hs T L S V ms mr mm ml (tx, n, a0, wr, od, o)) (some (.int (nI (sgn tx n 97 101 a0 wr).2.2))) (HH P Hs T L S V ms mr mm ml (tx, n, (sgn tx n 97 101 a0 wr).1, (sgn tx n 97 101 a0 wr).2.1, od, o)) := by
    exact okX6_signAt hn ht ha (by decide) (by decide)
  refine x_aload_n C dX6_square_0 rfl ?_
  refine x_bipush C (v := nI 97) dX6_square_1 (by decide +kernel) ?_
  refine x_bipush C (v := nI 101) dX6_square_3 (by decide +kernel) ?_
  refine x_callV2i C hm1 lkX6_208 miX6_signAt msX6_signAt maX6_signAt ⟨Nat.le_of_ble_eq_true rfl, Nat.le_of_ble_eq_true rfl⟩ (Nat.le_of_ble_eq_true rfl) rfl rfl dX6_square_5 ?_
  refine x_istore_n C dX6_square_8 (by decide) [(1, _), (0, _)] rfl ?_
  refine x_iconst C (v := nI 5) dX6_square_9 (by decide +kernel) ?_
  refine x_aload_n C dX6_square_10 rfl ?_
  refine x_bipush C (v := nI 49) dX6_square_11 (by decide +kernel) ?_
  refine x_bipush C (v := nI 53) dX6_square_13 (by decide +kernel) ?_
  refine x_callV2i C (okX6_signAt hn ht h1.1 (by decide) (by decide)) lkX6_208 miX6_signAt msX6_signAt maX6_signAt ⟨Nat.le_of_ble_eq_true rfl, Nat.le_of_ble_eq_true rfl⟩ (Nat.le_of_ble_eq_true rfl) rfl rfl dX6_square_15 ?_
  refine x_imulN C dX6_square_18 ?_
  refine x_iload_n C dX6_square_19 rfl ?_
  refine x_iaddN C dX6_square_20 ?_
  exact x_iret E .int dX6_square_21 rfl rfl rfl rfl
set_option maxHeartbeats 4000000 in
set_option maxRecDepth 100000 in
theorem okX6_order {P : qPs} {Hs : qHs} {T : qTs} {L : qLs} {S : qSs} {V : qVs} {ms : qms} {mr : qmr} {mm : qmm} {ml : qml} {tx od : Nat → Nat} {n a0 o : Nat} {wr : Bool} (ho : o < 70) (w f s : Nat) : Ok MX6_order [.ref 40, .int (nI w), .int (nI f), .int (nI s)] (HH P Hs T L S V ms mr mm ml (tx, n, a0, wr, od, o)) (none) (HH P Hs T L S V ms mr mm ml (tx, n, a0, wr, ordF od o w f s, o + 1)) := by
  refine ok_of (by decide +kernel) (Nat.zero_le _) (Nat.le_of_ble_eq_true rfl) ?_
  intro X C E
  show Ex X MX6_order 0 [(0, .ref 40), (1, .int (nI w)), (2, .int (nI f)), (3, .int (nI s))] [] (HH P Hs T L S V ms mr mm ml (tx, n, a0, wr, od, o))
  refine x_aload_n C dX6_order_0 rfl ?_
  refine x_getfield C qk6 20 (by decide) lfX6_42 dX6_order_1 rfl rfl ?_
  refine x_iconst C (v := nI 3) dX6_order_4 (by decide +kernel) ?_
  refine x_aload_n C dX6_order_5 rfl ?_
  refine x_getfield C qk6 21 (by decide) lfX6_212 dX6_order_6 rfl rfl ?_
  refine x_top (v := nI o) (by rfl) ?_
  refine x_imulN C dX6_order_9 ?_
  refine x_iload_n C dX6_order_10 rfl ?_
  refine x_istb C dX6_order_11 HM_od (by omega) (by decide) ?_
  refine x_heap HS_od ?_
  refine x_aload_n C dX6_order_12 rfl ?_
  refine x_getfield C qk6 20 (by decide) lfX6_42 dX6_order_13 rfl rfl ?_
  refine x_iconst C (v := nI 3) dX6_order_16 (by decide +kernel) ?_
  refine x_aload_n C dX6_order_17 rfl ?_
  refine x_getfield C qk6 21 (by decide) lfX6_212 dX6_order_18 rfl rfl ?_
  refine x_top (v := nI o) (by rfl) ?_
  refine x_imulN C dX6_order_21 ?_
  refine x_iconst C (v := nI 1) dX6_order_22 (by decide +kernel) ?_
  refine x_iaddN C dX6_order_23 ?_
  refine x_iload_n C dX6_order_24 rfl ?_
  refine x_istb C dX6_order_25 HM_od (by omega) (by decide) ?_
  refine x_heap HS_od ?_
  refine x_aload_n C dX6_order_26 rfl ?_
  refine x_getfield C qk6 20 (by decide) lfX6_42 dX6_order_27 rfl rfl ?_
  refine x_iconst C (v := nI 3) dX6_order_30 (by decide +kernel) ?_
  refine x_aload_n C dX6_order_31 rfl ?_
  refine x_getfield C qk6 21 (by decide) lfX6_212 dX6_order_32 rfl rfl ?_
  refine x_top (v := nI o) (by rfl) ?_
  refine x_imulN C dX6_order_35 ?_
  refine x_iconst C (v := nI 2) dX6_order_36 (by decide +kernel) ?_
  refine x_iaddN C dX6_order_37 ?_
  refine x_iload_n C dX6_order_38 rfl ?_
  refine x_istb C dX6_order_39 HM_od (by omega) (by decide) ?_
  refine x_heap HS_od ?_
  refine x_aload_n C dX6_order_40 rfl ?_
  refine x_dup C rfl dX6_order_41 ?_
  refine x_getfield C qk6 21 (by decide) lfX6_212 dX6_order_42 rfl rfl ?_
  refine x_top (v := nI o) (by rfl) ?_
  refine x_iconst C (v := nI 1) dX6_order_45 (by decide +kernel) ?_
  refine x_iaddN C dX6_order_46 ?_
  refine x_putfield C qk6 21 (by decide) lfX6_212 rfl (ty0 := .int) (by decide +kernel) rfl rfl dX6_order_47 rfl (Nat.le_of_ble_eq_true rfl) ?_
  refine x_heap (h2 := HH P Hs T L S V ms mr mm ml (tx, n, a0, wr, ordF od o w f s, o + 1)) (by rfl) ?_
  exact x_vret E dX6_order_50 rfl rfl rfl
