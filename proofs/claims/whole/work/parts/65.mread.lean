/-! the reference: read -/
theorem hereB_t {tx : Nat → Nat} {n a0 lo hi : Nat} {wr : Bool} (h : hereB tx n a0 wr lo hi = true) : wr = false ∧ a0 < n ∧ lo ≤ tx a0 ∧ tx a0 ≤ hi := by
  unfold hereB at h
  rw [Bool.and_eq_true, Bool.and_eq_true, Bool.not_eq_true', decide_eq_true_eq, decide_eq_true_eq] at h
  exact ⟨h.1, h.2.1, h.2.2.1, h.2.2.2⟩
theorem hereB_i {tx : Nat → Nat} {n a0 lo hi : Nat} (h1 : a0 < n) (h2 : lo ≤ tx a0) (h3 : tx a0 ≤ hi) : hereB tx n a0 false lo hi = true := by
  unfold hereB
  rw [decide_eq_true h1, decide_eq_true (p := lo ≤ tx a0 ∧ tx a0 ≤ hi) ⟨h2, h3⟩]
  rfl
theorem hereB_w {tx : Nat → Nat} {n a0 lo hi : Nat} : hereB tx n a0 true lo hi = false := rfl
theorem hereB_n {tx : Nat → Nat} {n a0 lo hi : Nat} {wr : Bool} (h : ¬ (a0 < n ∧ lo ≤ tx a0 ∧ tx a0 ≤ hi)) : hereB tx n a0 wr lo hi = false := by
  cases e : hereB tx n a0 wr lo hi with
  | false => rfl
  | true => exact absurd (hereB_t e).2 h
theorem sgn_y {tx : Nat → Nat} {n a0 lo hi : Nat} (h1 : a0 < n) (h2 : lo ≤ tx a0) (h3 : tx a0 ≤ hi) : sgn tx n lo hi a0 false = (a0 + 1, false, tx a0 - lo) := by unfold sgn; rw [if_pos (hereB_i h1 h2 h3)]
theorem sgn_w {tx : Nat → Nat} {n a0 lo hi : Nat} : sgn tx n lo hi a0 true = (a0, true, 0) := by unfold sgn; rw [if_neg (by rw [hereB_w]; decide)]
theorem sgn_n {tx : Nat → Nat} {n a0 lo hi : Nat} {wr : Bool} (h : ¬ (a0 < n ∧ lo ≤ tx a0 ∧ tx a0 ≤ hi)) : sgn tx n lo hi a0 wr = (a0, true, 0) := by unfold sgn; rw [if_neg (by rw [hereB_n h]; decide)]
theorem roF_b {tx : Nat → Nat} {n a0 o : Nat} {od : Nat → Nat} (ha : a0 ≤ n) (ho : o ≤ a0) : (roF tx n a0 od o).1 ≤ n ∧ a0 ≤ (roF tx n a0 od o).1 ∧ (roF tx n a0 od o).2.2.2 ≤ (roF tx n a0 od o).1 := by
  have hcp := chA_pos (tx := tx) (n := n) (a0 := a0)
  unfold roF
  by_cases hm : manI (chA tx n a0) ≠ 0
  · rw [if_pos hm]
    have hlt := (hcp (fun z => hm (by rw [z]; rfl))).1
    have h := sqr_b (tx := tx) (wr := false) (show a0 + 1 ≤ n from hlt)
    refine ⟨h.1, ?_, ?_⟩ <;> simp only [] <;> omega
  · rw [if_neg hm]
    by_cases h45 : chA tx n a0 = 45
    · rw [if_pos h45]
      have hlt := (hcp (by omega)).1
      have h := sqr_b (tx := tx) (wr := false) (show a0 + 1 ≤ n from hlt)
      refine ⟨h.1, ?_, ?_⟩ <;> simp only [] <;> omega
    · rw [if_neg h45]
      by_cases hp : 97 ≤ chA tx n a0 ∧ chA tx n a0 ≤ 101
      · rw [if_pos hp]
        obtain ⟨hlt, hce⟩ := hcp (by omega)
        have hs : (sgn tx n 97 101 a0 false).1 = a0 + 1 := by rw [sgn_y hlt (by omega) (by omega)]
        have hb0 := sgn_b (tx := tx) (lo := 97) (hi := 101) (wr := false) ha
        have hb1 := sgn_b (tx := tx) (lo := 49) (hi := 53) (wr := (sgn tx n 97 101 a0 false).2.1) hb0.1
        have hb2 := sqr_b (tx := tx) (wr := false) ha
        have hb3 := sgn_b (tx := tx) (lo := 45) (hi := 45) (wr := (sqr tx n a0 false).2.1) hb2.1
        have hb4 := sqr_b (tx := tx) (wr := (plyA tx n a0).2.1) (show (plyA tx n a0).1 ≤ n from hb3.1)
        have e1 : a0 + 1 ≤ (sqr tx n a0 false).1 := by rw [← hs]; exact hb1.2.1
        have e2 : (sqr tx n a0 false).1 ≤ (plyA tx n a0).1 := hb3.2.1
        have e3 : (plyA tx n a0).1 ≤ (plyB tx n a0).1 := hb4.2.1
        have e4 : (plyB tx n a0).1 ≤ n := hb4.1
        refine ⟨e4, ?_, ?_⟩ <;> simp only [] <;> omega
      · rw [if_neg hp]
        by_cases h3 : chA tx n a0 = 116 ∨ chA tx n a0 = 109 ∨ chA tx n a0 = 115
        · rw [if_pos h3]
          have hlt := (hcp (by omega)).1
          refine ⟨?_, ?_, ?_⟩ <;> simp only [] <;> omega
        · rw [if_neg h3]
          exact ⟨ha, Nat.le_refl _, ho⟩
def rdS (tx : Nat → Nat) (n : Nat) : Nat → Nat → Bool → (Nat → Nat) → Nat → qO4
  | 0, a0, wr, od, o => (a0, wr, od, o)
  | m + 1, a0, wr, od, o => if hereB tx n a0 wr 59 59 = true then rdS tx n m (roF tx n (a0 + 1) od o).1 (roF tx n (a0 + 1) od o).2.1 (roF tx n (a0 + 1) od o).2.2.1 (roF tx n (a0 + 1) od o).2.2.2 else (a0, wr, od, o)
def pzF (tx : Nat → Nat) (n : Nat) (od : Nat → Nat) : qO4 := rdS tx n (n + 1) (roF tx n 0 od 0).1 (roF tx n 0 od 0).2.1 (roF tx n 0 od 0).2.2.1 (roF tx n 0 od 0).2.2.2
theorem rdS_b {tx : Nat → Nat} {n : Nat} : ∀ m a0 wr od o, a0 ≤ n → o ≤ a0 → (rdS tx n m a0 wr od o).1 ≤ n ∧ (rdS tx n m a0 wr od o).2.2.2 ≤ (rdS tx n m a0 wr od o).1
  | 0, a0, wr, od, o, h1, h2 => ⟨h1, h2⟩
  | m + 1, a0, wr, od, o, h1, h2 => by
    rw [rdS]
    by_cases e : hereB tx n a0 wr 59 59 = true
    · rw [if_pos e]
      have h := roF_b (tx := tx) (od := od) (show a0 + 1 ≤ n from (hereB_t e).2.1) (show o ≤ a0 + 1 by omega)
      exact rdS_b m _ _ _ _ h.1 h.2.2
    · rw [if_neg e]; exact ⟨h1, h2⟩
theorem pzF_b {tx : Nat → Nat} {n : Nat} {od : Nat → Nat} : (pzF tx n od).1 ≤ n ∧ (pzF tx n od).2.2.2 ≤ (pzF tx n od).1 := by
  have h := roF_b (tx := tx) (od := od) (Nat.zero_le n) (Nat.le_refl 0)
  exact rdS_b (n + 1) _ _ _ _ h.1 h.2.2
set_option maxHeartbeats 4000000 in
set_option maxRecDepth 100000 in
theorem read_parse {P : qPs} {Hs : qHs} {T : qTs} {L : qLs} {S : qSs} {V : qVs} {ml : qml} {bf sv past : Nat → Nat} {isv : Bool} {pm : Nat} {tx od : Nat → Nat} {n a0 o : Nat} {wr : Bool} {r1 d1 it : Int32} {tn : Nat → Nat} {w : qW} {a : qP} {X : qX} (C : qC X MX6_read) (hn : n ≤ 70) (ht : ∀ i, tx i < 128) (kk : Ex X MX6_read 47 [(0, .ref 40)] [] (HH P Hs T L S V (sF a, bf, sv, past, isv, pm) (r1, d1, it, w.1) (w.2.1, w.2.2.1, w.2.2.2, tn) ml (tx, n, (pzF tx n od).1, (pzF tx n od).2.1, (pzF tx n od).2.2.1, (pzF tx n od).2.2.2))) : Ex X MX6_read 0 [(0, .ref 40)] [] (HH P Hs T L S V (sF a, bf, sv, past, isv, pm) (r1, d1, it, w.1) (w.2.1, w.2.2.1, w.2.2.2, tn) ml (tx, n, a0, wr, od, o)) := by
  have L19 : ∀ m a1 (wr1 : Bool) (od1 : Nat → Nat) o1, a1 ≤ n → o1 ≤ a1 → n < a1 + m → Ex X MX6_read 47 [(0, .ref 40)] [] (HH P Hs T L S V (sF a, bf, sv, past, isv, pm) (r1, d1, it, w.1) (w.2.1, w.2.2.1, w.2.2.2, tn) ml (tx, n, (rdS tx n m a1 wr1 od1 o1).1, (rdS tx n m a1 wr1 od1 o1).2.1, (rdS tx n m a1 wr1 od1 o1).2.2.1, (rdS tx n m a1 wr1 od1 o1).2.2.2)) → Ex X MX6_read 19 [(0, .ref 40)] [] (HH P Hs T L S V (sF a, bf, sv, past, isv, pm) (r1, d1, it, w.1) (w.2.1, w.2.2.1, w.2.2.2, tn) ml (tx, n, a1, wr1, od1, o1)) := by
    intro m
    induction m with
    | zero => intro a1 wr1 od1 o1 h1 h2 h3 k2; exact absurd h3 (by omega)
    | succ m ih =>
      intro a1 wr1 od1 o1 h1 h2 h3 k2
      cases hh : hereB tx n a1 wr1 59 59 with
      | false =>
        rw [rdS, if_neg (by rw [hh]; decide)] at k2
        refine x_aload_n C dX6_read_19 rfl ?_
        refine x_bipush C (v := nI 59) dX6_read_20 (by decide +kernel) ?_
        refine x_bipush C (v := nI 59) dX6_read_22 (by decide +kernel) ?_
        refine x_callV2i C (okX6_isHere hn ht h1 (by decide) (by decide)) lkX6_204 miX6_isHere msX6_isHere maX6_isHere ⟨Nat.le_of_ble_eq_true rfl, Nat.le_of_ble_eq_true rfl⟩ (Nat.le_of_ble_eq_true rfl) rfl rfl dX6_read_24 ?_
        rw [hh]
        refine x_if_eqB C 47 dX6_read_27 (by decide) (fun c27 => ?_) (fun c27 => ?_)
        · exact k2
        · cases c27
      | true =>
        rw [rdS, if_pos hh] at k2
        obtain ⟨q1, q2, q3, q4⟩ := hereB_t hh
        subst q1
        have hb := roF_b (tx := tx) (od := od1) (show a1 + 1 ≤ n from q2) (show o1 ≤ a1 + 1 by omega)
        refine x_aload_n C dX6_read_19 rfl ?_
        refine x_bipush C (v := nI 59) dX6_read_20 (by decide +kernel) ?_
        refine x_bipush C (v := nI 59) dX6_read_22 (by decide +kernel) ?_
        refine x_callV2i C (okX6_isHere hn ht h1 (by decide) (by decide)) lkX6_204 miX6_isHere msX6_isHere maX6_isHere ⟨Nat.le_of_ble_eq_true rfl, Nat.le_of_ble_eq_true rfl⟩ (Nat.le_of_ble_eq_true rfl) rfl rfl dX6_read_24 ?_
        rw [hh]
        refine x_if_eqB C 47 dX6_read_27 (by decide) (fun c27 => ?_) (fun c27 => ?_)
        · cases c27
        · refine x_aload_n C dX6_read_30 rfl ?_
          refine x_dup C rfl dX6_read_31 ?_
          refine x_getfield C qk6 18 (by decide) lfX6_201 dX6_read_32 rfl rfl ?_
          refine x_top (v := nI a1) (by rfl) ?_
          refine x_iconst C (v := nI 1) dX6_read_35 (by decide +kernel) ?_
          refine x_iaddN C dX6_read_36 ?_
          refine x_putfield C qk6 18 (by decide) lfX6_201 rfl (ty0 := .int) (by decide +kernel) rfl rfl dX6_read_37 rfl (Nat.le_of_ble_eq_true rfl) ?_
          refine x_heap (h2 := HH P Hs T L S V (sF a, bf, sv, past, isv, pm) (r1, d1, it, w.1) (w.2.1, w.2.2.1, w.2.2.2, tn) ml (tx, n, a1 + 1, false, od1, o1)) (by rfl) ?_
          refine x_aload_n C dX6_read_40 rfl ?_
          refine x_callV0v C (okX6_readOrder hn ht (show a1 + 1 ≤ n from q2) (show o1 ≤ a1 + 1 by omega)) lkX6_225 miX6_readOrder msX6_readOrder maX6_readOrder ⟨Nat.le_of_ble_eq_true rfl, Nat.le_of_ble_eq_true rfl⟩ (Nat.le_of_ble_eq_true rfl) rfl rfl dX6_read_41 ?_
          refine x_goto C 19 dX6_read_44 (by decide) ?_
          exact ih _ _ _ _ hb.1 hb.2.2 (by omega) k2
  have hb0 := roF_b (tx := tx) (od := od) (Nat.zero_le n) (Nat.le_refl 0)
  refine x_aload_n C dX6_read_0 rfl ?_
  refine x_iconst C (v := nI 0) dX6_read_1 (by decide +kernel) ?_
  refine x_putfield C qk6 18 (by decide) lfX6_201 rfl (ty0 := .int) (by decide +kernel) rfl rfl dX6_read_2 rfl (Nat.le_of_ble_eq_true rfl) ?_
  refine x_heap (h2 := HH P Hs T L S V (sF a, bf, sv, past, isv, pm) (r1, d1, it, w.1) (w.2.1, w.2.2.1, w.2.2.2, tn) ml (tx, n, 0, wr, od, o)) (by rfl) ?_
  refine x_aload_n C dX6_read_5 rfl ?_
  refine x_iconst C (v := nI 0) dX6_read_6 (by decide +kernel) ?_
  refine x_putfield C qk6 19 (by decide) lfX6_197 rfl (ty0 := .boolean) (by decide +kernel) rfl rfl dX6_read_7 rfl (Nat.le_of_ble_eq_true rfl) ?_
  refine x_heap (h2 := HH P Hs T L S V (sF a, bf, sv, past, isv, pm) (r1, d1, it, w.1) (w.2.1, w.2.2.1, w.2.2.2, tn) ml (tx, n, 0, false, od, o)) (by rfl) ?_
  refine x_aload_n C dX6_read_10 rfl ?_
  refine x_iconst C (v := nI 0) dX6_read_11 (by decide +kernel) ?_
  refine x_putfield C qk6 21 (by decide) lfX6_212 rfl (ty0 := .int) (by decide +kernel) rfl rfl dX6_read_12 rfl (Nat.le_of_ble_eq_true rfl) ?_
  refine x_heap (h2 := HH P Hs T L S V (sF a, bf, sv, past, isv, pm) (r1, d1, it, w.1) (w.2.1, w.2.2.1, w.2.2.2, tn) ml (tx, n, 0, false, od, 0)) (by rfl) ?_
  refine x_aload_n C dX6_read_15 rfl ?_
  refine x_callV0v C (okX6_readOrder hn ht (Nat.zero_le n) (Nat.le_refl 0)) lkX6_225 miX6_readOrder msX6_readOrder maX6_readOrder ⟨Nat.le_of_ble_eq_true rfl, Nat.le_of_ble_eq_true rfl⟩ (Nat.le_of_ble_eq_true rfl) rfl rfl dX6_read_16 ?_
  exact L19 (n + 1) _ _ _ _ hb0.1 hb0.2.2 (by omega) kk
set_option maxHeartbeats 4000000 in
set_option maxRecDepth 100000 in
theorem okX6_read_p0 {P : qPs} {Hs : qHs} {T : qTs} {L : qLs} {S : qSs} {V : qVs} {ml : qml} {bf sv past : Nat → Nat} {isv : Bool} {pm : Nat} {tx od : Nat → Nat} {n a0 o : Nat} {wr : Bool} {r1 d1 it : Int32} {tn : Nat → Nat} {w : qW} {a : qP} (hn : n ≤ 70) (ht : ∀ i, tx i < 128) (hbad : (pzF tx n od).2.1 = true ∨ (pzF tx n od).1 < n) : Ok MX6_read [.ref 40] (HH P Hs T L S V (sF a, bf, sv, past, isv, pm) (r1, d1, it, w.1) (w.2.1, w.2.2.1, w.2.2.2, tn) ml (tx, n, a0, wr, od, o)) (some (.int ((-100) - nI (pzF tx n od).1))) (HH P Hs T L S V (sF a, bf, sv, past, isv, pm) (r1, d1, it, w.1) (w.2.1, w.2.2.1, w.2.2.2, tn) ml (tx, 0, (pzF tx n od).1, (pzF tx n od).2.1, (pzF tx n od).2.2.1, (pzF tx n od).2.2.2)) := by
  refine ok_of (by decide +kernel) (Nat.zero_le _) (Nat.le_of_ble_eq_true rfl) ?_
  intro X C E
  refine read_parse C hn ht ?_
  have hzb := pzF_b (tx := tx) (n := n) (od := od)
  generalize pzF tx n od = z at hbad E hzb ⊢
  refine x_aload_n C dX6_read_47 rfl ?_
  refine x_getfield C qk6 19 (by decide) lfX6_197 dX6_read_48 rfl rfl ?_
  refine x_top (v := qb z.2.1) (by rfl) ?_
  refine x_if_neB C 65 dX6_read_51 (by decide) (fun c51 => ?_) (fun c51 => ?_)
  · refine x_iconst C (v := nI 1) dX6_read_65 (by decide +kernel) ?_
    refine x_goto C 70 dX6_read_66 (by decide) ?_
    refine x_istore_n C dX6_read_70 (by decide) [(1, _), (0, _)] rfl ?_
    refine x_aload_n C dX6_read_71 rfl ?_
    refine x_iconst C (v := nI 0) dX6_read_72 (by decide +kernel) ?_
    refine x_putfield C qk6 17 (by decide) lfX6_194 rfl (ty0 := .int) (by decide +kernel) rfl rfl dX6_read_73 rfl (Nat.le_of_ble_eq_true rfl) ?_
    refine x_heap (h2 := HH P Hs T L S V (sF a, bf, sv, past, isv, pm) (r1, d1, it, w.1) (w.2.1, w.2.2.1, w.2.2.2, tn) ml (tx, 0, z.1, z.2.1, z.2.2.1, z.2.2.2)) (by rfl) ?_
    refine x_iload_n C dX6_read_76 rfl ?_
    refine x_if_eqN C 88 dX6_read_77 (by decide) (by omega) (fun c77 => ?_) (fun c77 => ?_)
    · exact absurd c77 (by decide)
    · refine x_bipush C (v := (-100)) dX6_read_80 (by decide +kernel) ?_
      refine x_aload_n C dX6_read_82 rfl ?_
      refine x_getfield C qk6 18 (by decide) lfX6_201 dX6_read_83 rfl rfl ?_
      refine x_top (v := nI z.1) (by rfl) ?_
      refine x_isub C dX6_read_86 ?_
      exact x_iret E .int dX6_read_87 rfl rfl rfl rfl
  · refine x_aload_n C dX6_read_54 rfl ?_
    refine x_getfield C qk6 18 (by decide) lfX6_201 dX6_read_55 rfl rfl ?_
    refine x_top (v := nI z.1) (by rfl) ?_
    refine x_aload_n C dX6_read_58 rfl ?_
    refine x_getfield C qk6 17 (by decide) lfX6_194 dX6_read_59 rfl rfl ?_
    refine x_top (v := nI n) (by rfl) ?_
    refine x_icmp_geN C 69 dX6_read_62 (by decide) (by omega) (by omega) (fun c62 => ?_) (fun c62 => ?_)
    · exact absurd hbad (fun q => q.elim (fun y => by rw [y] at c51; cases c51) (fun y => absurd c62 (by omega)))
    · refine x_iconst C (v := nI 1) dX6_read_65 (by decide +kernel) ?_
      refine x_goto C 70 dX6_read_66 (by decide) ?_
      refine x_istore_n C dX6_read_70 (by decide) [(1, _), (0, _)] rfl ?_
      refine x_aload_n C dX6_read_71 rfl ?_
      refine x_iconst C (v := nI 0) dX6_read_72 (by decide +kernel) ?_
      refine x_putfield C qk6 17 (by decide) lfX6_194 rfl (ty0 := .int) (by decide +kernel) rfl rfl dX6_read_73 rfl (Nat.le_of_ble_eq_true rfl) ?_
      refine x_heap (h2 := HH P Hs T L S V (sF a, bf, sv, past, isv, pm) (r1, d1, it, w.1) (w.2.1, w.2.2.1, w.2.2.2, tn) ml (tx, 0, z.1, z.2.1, z.2.2.1, z.2.2.2)) (by rfl) ?_
      refine x_iload_n C dX6_read_76 rfl ?_
      refine x_if_eqN C 88 dX6_read_77 (by decide) (by omega) (fun c77 => ?_) (fun c77 => ?_)
      · exact absurd c77 (by decide)
      · refine x_bipush C (v := (-100)) dX6_read_80 (by decide +kernel) ?_
        refine x_aload_n C dX6_read_82 rfl ?_
        refine x_getfield C qk6 18 (by decide) lfX6_201 dX6_read_83 rfl rfl ?_
        refine x_top (v := nI z.1) (by rfl) ?_
        refine x_isub C dX6_read_86 ?_
        exact x_iret E .int dX6_read_87 rfl rfl rfl rfl
def ansR (oN : Nat) (fin : qRd) : Int32 := if fin.1 < 0 then -3 else nI oN
theorem ansR_n {oN : Nat} {fin : qRd} (h : fin.1 < 0) : ansR oN fin = -3 := by unfold ansR; rw [if_pos h]
theorem ansR_p {oN : Nat} {fin : qRd} (h : ¬ fin.1 < 0) : ansR oN fin = nI oN := by unfold ansR; rw [if_neg h]
def posR (a : qP) (fin : qRd) : qP := if fin.1 < 0 then a else fin.2.1
theorem rdR_neg {wh og sq : Nat → Int32} {st : qRd} (h : st.1 < 0) : ∀ m k, rdR wh og sq m k st = st
  | 0, k => rfl
  | m + 1, k => by rw [rdR, if_pos h]
theorem cmdC_Bd {a c : qP} {Tk : Nat → Int32} {x : Int32} (ha : Bd a.1) (hc : Bd c.1) : Bd (cmdC a c Tk x).1 := by
  unfold cmdC
  (repeat' split) <;> first | exact hc | exact ha | exact (thriftF_Bd ha hc).2
/-- the class's command and the reference's order are one -/
def OrdR (x y s : Int32) (f g k : Nat) : Prop := CmV f g k ∧ ∀ (a c : qP) (Tk : Nat → Int32), cmdO a c Tk x y s = cmdN a c Tk f g k
set_option maxHeartbeats 4000000 in
set_option maxRecDepth 100000 in
theorem read_loop {P : qPs} {Hs : qHs} {T : qTs} {L : qLs} {S : qSs} {V : qVs} {ml : qml} {bf sv past : Nat → Nat} {isv : Bool} {pm : Nat} {tx : Nat → Nat} {z : qO4} {a : qP} {wh og sq : Nat → Int32} {oN : Nat} (hoN : z.2.2.2 = oN) (hoN2 : oN ≤ 70) (hp : pm ≤ 8) (hrel : ∀ k, k < oN → OrdR (wh k) (og k) (sq k) (z.2.2.1 (3 * k)) (z.2.2.1 (3 * k + 1)) (z.2.2.1 (3 * k + 2))) :
    ∀ m k, k + m = oN → ∀ (st : qRd) (w : qW) (tn : Nat → Nat), PG st.2.1 → Bd st.2.2.1.1 → ¬ st.1 < 0 → ∃ (w2 : qW) (tn2 : Nat → Nat), ∀ X, qC X MX6_read → qEnd X MX6_read (some (.int (ansR oN (rdR wh og sq m k st)))) (HH P Hs T L S V (sF (posR a (rdR wh og sq m k st)), (cpB (sF a) bf 0 0 29), sv, paO past (cpB (sF a) bf 0 0 29) pm (ansR oN (rdR wh og sq m k st)), isv, pmO pm (ansR oN (rdR wh og sq m k st))) ((rdR wh og sq m k st).2.2.2.2.2.2.1, (rdR wh og sq m k st).2.2.2.2.2.2.2.1, (rdR wh og sq m k st).2.2.2.2.2.2.2.2, w2.1) (w2.2.1, w2.2.2.1, w2.2.2.2, tn2) ml (tx, 0, z.1, z.2.1, z.2.2.1, z.2.2.2)) → Ex X MX6_read 94 [(2, .int (nI k)), (1, .int (nI 0)), (0, .ref 40)] [] (HH P Hs T L S V (sF st.2.1, (cpB (sF a) bf 0 0 29), sv, past, isv, pm) (st.2.2.2.2.2.2.1, st.2.2.2.2.2.2.2.1, st.2.2.2.2.2.2.2.2, w.1) (w.2.1, w.2.2.1, w.2.2.2, tn) ml (tx, 0, z.1, z.2.1, z.2.2.1, z.2.2.2)) := by
  intro m
  induction m with
  | zero =>
    intro k hk st w tn hg hc hs
    refine ⟨w, tn, fun X C E => ?_⟩
    have e : k = oN := by omega
    subst e
    rw [rdR] at E
    have ea := ansR_p (oN := k) hs
    have ep : posR a st = st.2.1 := by unfold posR; rw [if_neg hs]
    rw [ep, ea] at E
    have hkn : ¬ nI k < 0 := nI_pos (by omega)
    refine x_iload_n C dX6_read_94 rfl ?_
    refine x_aload_n C dX6_read_95 rfl ?_
    refine x_getfield C qk6 21 (by decide) lfX6_212 dX6_read_96 rfl rfl ?_
    refine x_top (v := nI k) (congrArg nI hoN) ?_
    refine x_icmp_geN C 130 dX6_read_99 (by decide) (by omega) (by omega) (fun c99 => ?_) (fun c99 => ?_)
    · refine x_aload_n C dX6_read_130 rfl ?_
      refine x_aload_n C dX6_read_131 rfl ?_
      refine x_getfield C qk6 21 (by decide) lfX6_212 dX6_read_132 rfl rfl ?_
      refine x_top (v := nI k) (congrArg nI hoN) ?_
      refine x_callV1i C (okX6_endsF hp _) lkX6_86 miX6_ends msX6_ends maX6_ends ⟨Nat.le_of_ble_eq_true rfl, Nat.le_of_ble_eq_true rfl⟩ (Nat.le_of_ble_eq_true rfl) rfl rfl dX6_read_135 ?_
      rw [if_neg hkn]
      exact x_iret E .int dX6_read_138 rfl rfl rfl rfl
    · exact absurd c99 (by omega)
  | succ m ih =>
    intro k hk st w tn hg hc hs
    have hko : k < oN := by omega
    obtain ⟨hv, hcm⟩ := hrel k hko
    obtain ⟨w1, tn1, hd⟩ := okX6_does (P := P) (Hs := Hs) (T := T) (L := L) (S := S) (V := V) (ml := ml) (bf := (cpB (sF a) bf 0 0 29)) (sv := sv) (past := past) (isv := isv) (pm := pm) (tx := tx) (od := z.2.2.1) (n := 0) (a0 := z.1) (o := z.2.2.2) (wr := z.2.1) (r1 := st.2.2.2.2.2.2.1) (d1 := st.2.2.2.2.2.2.2.1) (it := st.2.2.2.2.2.2.2.2) (tn := tn) (w := w) (a := st.2.1) (c := st.2.2.1) (Tk := st.2.2.2.1) hg (show k < 70 by omega) rfl rfl rfl hv
    have e1 : rdR wh og sq (m + 1) k st = rdR wh og sq m (k + 1) (rd1 wh og sq k st) := by rw [rdR, if_neg hs]
    have e2 : rd1 wh og sq k st = ((cmdN st.2.1 st.2.2.1 st.2.2.2.1 (z.2.2.1 (3 * k)) (z.2.2.1 (3 * k + 1)) (z.2.2.1 (3 * k + 2))).1, (cmdN st.2.1 st.2.2.1 st.2.2.2.1 (z.2.2.1 (3 * k)) (z.2.2.1 (3 * k + 1)) (z.2.2.1 (3 * k + 2))).2.2, cmdC st.2.1 st.2.2.1 st.2.2.2.1 (wh k), cmdK st.2.1 st.2.2.2.1 (wh k), refP (cmdV st.2.2.2.2 k) (cmdN st.2.1 st.2.2.1 st.2.2.2.1 (z.2.2.1 (3 * k)) (z.2.2.1 (3 * k + 1)) (z.2.2.1 (3 * k + 2)))) := by unfold rd1; rw [hcm]
    have hPG := cmdN_PG (c := st.2.2.1) (Tk := st.2.2.2.1) (w := z.2.2.1 (3 * k)) (f := z.2.2.1 (3 * k + 1)) (s := z.2.2.1 (3 * k + 2)) hg hc
    have hwhy := cmdN_why (c := st.2.2.1) (Tk := st.2.2.2.1) hg hv
    have hcB := cmdC_Bd (Tk := st.2.2.2.1) (x := wh k) hg.1 hc
    rw [e1, e2]
    generalize cmdN st.2.1 st.2.2.1 st.2.2.2.1 (z.2.2.1 (3 * k)) (z.2.2.1 (3 * k + 1)) (z.2.2.1 (3 * k + 2)) = oo at hd hPG hwhy ⊢
    generalize cmdC st.2.1 st.2.2.1 st.2.2.2.1 (wh k) = cc at hcB ⊢
    generalize cmdK st.2.1 st.2.2.2.1 (wh k) = kk
    obtain ⟨y1, y2, y3⟩ := oo
    by_cases hneg : y1 < 0
    · obtain ⟨q, hq⟩ := hwhy.1 hneg
      simp only [] at hq
      subst hq
      refine ⟨w1, tn1, fun X C E => ?_⟩
      rw [rdR_neg (show ((y1, y3, cc, kk, refP (cmdV st.2.2.2.2 k) (y1, some q, y3)) : qRd).1 < 0 from hneg)] at E
      have ea := ansR_n (oN := oN) (show ((y1, y3, cc, kk, refP (cmdV st.2.2.2.2 k) (y1, some q, y3)) : qRd).1 < 0 from hneg)
      have ep : posR a ((y1, y3, cc, kk, refP (cmdV st.2.2.2.2 k) (y1, some q, y3)) : qRd) = a := by unfold posR; rw [if_pos hneg]
      rw [ea, ep] at E
      refine x_iload_n C dX6_read_94 rfl ?_
      refine x_aload_n C dX6_read_95 rfl ?_
      refine x_getfield C qk6 21 (by decide) lfX6_212 dX6_read_96 rfl rfl ?_
      refine x_top (v := nI oN) (congrArg nI hoN) ?_
      refine x_icmp_geN C 130 dX6_read_99 (by decide) (by omega) (by omega) (fun c99 => ?_) (fun c99 => ?_)
      · exact absurd c99 (by omega)
      · refine x_aload_n C dX6_read_102 rfl ?_
        refine x_iload_n C dX6_read_103 rfl ?_
        refine x_callV1i C hd lkX6_228 miX6_does msX6_does maX6_does ⟨Nat.le_of_ble_eq_true rfl, Nat.le_of_ble_eq_true rfl⟩ (Nat.le_of_ble_eq_true rfl) rfl rfl dX6_read_104 ?_
        refine x_istore_n C dX6_read_107 (by decide) [(3, _), (2, _), (1, _), (0, _)] rfl ?_
        refine x_iload_n C dX6_read_108 rfl ?_
        refine x_if_ge C 124 dX6_read_109 (by decide) (fun c109 => ?_) (fun c109 => ?_)
        · exact absurd hneg (Int32.not_lt.mpr c109)
        · refine x_aload_n C dX6_read_112 rfl ?_
          refine x_iload_n C dX6_read_113 rfl ?_
          refine x_putfield C qk6 8 (by decide) lfX6_22 rfl (ty0 := .int) (by decide +kernel) rfl rfl dX6_read_114 rfl (Nat.le_of_ble_eq_true rfl) ?_
          refine x_heap (h2 := HH P Hs T L S V (sF y3, (cpB (sF a) bf 0 0 29), sv, past, isv, pm) (q.1, q.2, nI k, w1.1) (w1.2.1, w1.2.2.1, w1.2.2.2, tn1) ml (tx, 0, z.1, z.2.1, z.2.2.1, z.2.2.2)) (by rfl) ?_
          refine x_aload_n C dX6_read_117 rfl ?_
          refine x_bipush C (v := (-3)) dX6_read_118 (by decide +kernel) ?_
          refine x_callV1i C (okX6_endsF hp _) lkX6_86 miX6_ends msX6_ends maX6_ends ⟨Nat.le_of_ble_eq_true rfl, Nat.le_of_ble_eq_true rfl⟩ (Nat.le_of_ble_eq_true rfl) rfl rfl dX6_read_120 ?_
          rw [if_pos (by decide), cp_back (fun i hi => sF_hi hi)]
          exact x_iret E .int dX6_read_123 rfl rfl rfl rfl
    · have hq := hwhy.2 hneg
      simp only [] at hq
      subst hq
      obtain ⟨w2, tn2, h⟩ := ih (k + 1) (by omega) (y1, y3, cc, kk, cmdV st.2.2.2.2 k) w1 tn1 hPG hcB hneg
      refine ⟨w2, tn2, fun X C E => ?_⟩
      refine x_iload_n C dX6_read_94 rfl ?_
      refine x_aload_n C dX6_read_95 rfl ?_
      refine x_getfield C qk6 21 (by decide) lfX6_212 dX6_read_96 rfl rfl ?_
      refine x_top (v := nI oN) (congrArg nI hoN) ?_
      refine x_icmp_geN C 130 dX6_read_99 (by decide) (by omega) (by omega) (fun c99 => ?_) (fun c99 => ?_)
      · exact absurd c99 (by omega)
      · refine x_aload_n C dX6_read_102 rfl ?_
        refine x_iload_n C dX6_read_103 rfl ?_
        refine x_callV1i C hd lkX6_228 miX6_does msX6_does maX6_does ⟨Nat.le_of_ble_eq_true rfl, Nat.le_of_ble_eq_true rfl⟩ (Nat.le_of_ble_eq_true rfl) rfl rfl dX6_read_104 ?_
        refine x_istore_n C dX6_read_107 (by decide) [(3, _), (2, _), (1, _), (0, _)] rfl ?_
        refine x_iload_n C dX6_read_108 rfl ?_
        refine x_if_ge C 124 dX6_read_109 (by decide) (fun c109 => ?_) (fun c109 => ?_)
        · refine x_iinc C _ dX6_read_124 rfl (q_inc _) (by decide) [(2, _), (3, _), (1, _), (0, _)] rfl ?_
          refine x_goto C 94 dX6_read_127 (by decide) ?_
          exact x_sub [0, 2, 3] (h X C E) rfl
        · exact absurd (Int32.not_le.mp c109) hneg
set_option maxHeartbeats 4000000 in
set_option maxRecDepth 100000 in
theorem okX6_read_p1 {P : qPs} {Hs : qHs} {T : qTs} {L : qLs} {S : qSs} {V : qVs} {ml : qml} {bf sv past : Nat → Nat} {isv : Bool} {pm : Nat} {tx od : Nat → Nat} {n a0 o : Nat} {wr : Bool} {r1 d1 it : Int32} {tn : Nat → Nat} {w : qW} {a : qP} {wh og sq : Nat → Int32} {oN : Nat} {c : qP} {Tk : Nat → Int32} {V0 : qVs} (hn : n ≤ 70) (ht : ∀ i, tx i < 128) (hg : PG a) (hc : Bd c.1) (hp : pm ≤ 8) (hV : V0.2.2.1 = r1 ∧ V0.2.2.2.1 = d1 ∧ V0.2.2.2.2 = it) (hok : (pzF tx n od).2.1 = false ∧ ¬ (pzF tx n od).1 < n) (hoN : (pzF tx n od).2.2.2 = oN) (hrel : ∀ k, k < oN → OrdR (wh k) (og k) (sq k) ((pzF tx n od).2.2.1 (3 * k)) ((pzF tx n od).2.2.1 (3 * k + 1)) ((pzF tx n od).2.2.1 (3 * k + 2))) : ∃ (w2 : qW) (tn2 : Nat → Nat), Ok MX6_read [.ref 40] (HH P Hs T L S V (sF a, bf, sv, past, isv, pm) (r1, d1, it, w.1) (w.2.1, w.2.2.1, w.2.2.2, tn) ml (tx, n, a0, wr, od, o)) (some (.int (ansR oN (rdR wh og sq oN 0 (nI 0, a, c, Tk, V0))))) (HH P Hs T L S V (sF (posR a (rdR wh og sq oN 0 (nI 0, a, c, Tk, V0))), (cpB (sF a) bf 0 0 29), sv, paO past (cpB (sF a) bf 0 0 29) pm (ansR oN (rdR wh og sq oN 0 (nI 0, a, c, Tk, V0))), isv, pmO pm (ansR oN (rdR wh og sq oN 0 (nI 0, a, c, Tk, V0)))) ((rdR wh og sq oN 0 (nI 0, a, c, Tk, V0)).2.2.2.2.2.2.1, (rdR wh og sq oN 0 (nI 0, a, c, Tk, V0)).2.2.2.2.2.2.2.1, (rdR wh og sq oN 0 (nI 0, a, c, Tk, V0)).2.2.2.2.2.2.2.2, w2.1) (w2.2.1, w2.2.2.1, w2.2.2.2, tn2) ml (tx, 0, (pzF tx n od).1, (pzF tx n od).2.1, (pzF tx n od).2.2.1, (pzF tx n od).2.2.2)) := by
  have hzb := pzF_b (tx := tx) (n := n) (od := od)
  have hpar := fun (X : qX) (C : qC X MX6_read) => read_parse (P := P) (Hs := Hs) (T := T) (L := L) (S := S) (V := V) (ml := ml) (bf := bf) (sv := sv) (past := past) (isv := isv) (pm := pm) (tx := tx) (od := od) (n := n) (a0 := a0) (o := o) (wr := wr) (r1 := r1) (d1 := d1) (it := it) (tn := tn) (w := w) (a := a) C hn ht
  generalize pzF tx n od = z at hzb hpar hok hoN hrel ⊢
  obtain ⟨hV1, hV2, hV3⟩ := hV
  subst hV1 hV2 hV3
  obtain ⟨w2, tn2, h⟩ := read_loop (P := P) (Hs := Hs) (T := T) (L := L) (S := S) (V := V) (ml := ml) (bf := bf) (sv := sv) (past := past) (isv := isv) (pm := pm) (tx := tx) (z := z) (a := a) (wh := wh) (og := og) (sq := sq) (oN := oN) hoN (by omega) hp hrel oN 0 (by omega) (nI 0, a, c, Tk, V0) w tn hg hc (show ¬ (nI 0 : Int32) < 0 by decide)
  refine ⟨w2, tn2, ?_⟩
  refine ok_of (by decide +kernel) (Nat.zero_le _) (Nat.le_of_ble_eq_true rfl) ?_
  intro X C E
  refine hpar X C ?_
  refine x_aload_n C dX6_read_47 rfl ?_
  refine x_getfield C qk6 19 (by decide) lfX6_197 dX6_read_48 rfl rfl ?_
  refine x_top (v := qb z.2.1) (by rfl) ?_
  refine x_if_neB C 65 dX6_read_51 (by decide) (fun c51 => ?_) (fun c51 => ?_)
  · rw [hok.1] at c51; cases c51
  · refine x_aload_n C dX6_read_54 rfl ?_
    refine x_getfield C qk6 18 (by decide) lfX6_201 dX6_read_55 rfl rfl ?_
    refine x_top (v := nI z.1) (by rfl) ?_
    refine x_aload_n C dX6_read_58 rfl ?_
    refine x_getfield C qk6 17 (by decide) lfX6_194 dX6_read_59 rfl rfl ?_
    refine x_top (v := nI n) (by rfl) ?_
    refine x_icmp_geN C 69 dX6_read_62 (by decide) (by omega) (by omega) (fun c62 => ?_) (fun c62 => ?_)
    · refine x_iconst C (v := nI 0) dX6_read_69 (by decide +kernel) ?_
      refine x_istore_n C dX6_read_70 (by decide) [(1, _), (0, _)] rfl ?_
      refine x_aload_n C dX6_read_71 rfl ?_
      refine x_iconst C (v := nI 0) dX6_read_72 (by decide +kernel) ?_
      refine x_putfield C qk6 17 (by decide) lfX6_194 rfl (ty0 := .int) (by decide +kernel) rfl rfl dX6_read_73 rfl (Nat.le_of_ble_eq_true rfl) ?_
      refine x_heap (h2 := HH P Hs T L S V (sF a, bf, sv, past, isv, pm) (V0.2.2.1, V0.2.2.2.1, V0.2.2.2.2, w.1) (w.2.1, w.2.2.1, w.2.2.2, tn) ml (tx, 0, z.1, z.2.1, z.2.2.1, z.2.2.2)) (by rfl) ?_
      refine x_iload_n C dX6_read_76 rfl ?_
      refine x_if_eqN C 88 dX6_read_77 (by decide) (by omega) (fun c77 => ?_) (fun c77 => ?_)
      · refine x_aload_n C dX6_read_88 rfl ?_
        refine x_callV0v C okX6_keep lkX6_80 miX6_keep msX6_keep maX6_keep ⟨Nat.le_of_ble_eq_true rfl, Nat.le_of_ble_eq_true rfl⟩ (Nat.le_of_ble_eq_true rfl) rfl rfl dX6_read_89 ?_
        refine x_iconst C (v := nI 0) dX6_read_92 (by decide +kernel) ?_
        refine x_istore_n C dX6_read_93 (by decide) [(2, _), (1, _), (0, _)] rfl ?_
        exact x_sub [0, 1, 2] (h X C E) rfl
      · exact absurd rfl c77
    · exact absurd (Nat.not_le.mp c62) hok.2
