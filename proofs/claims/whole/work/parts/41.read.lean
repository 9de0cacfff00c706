/-! the class's call read -/
theorem prs_cm {tx : Nat → Nat} : ∀ (m i d : Nat) (q : qQ) (r : qR), i + m ≤ 70 → r.2.2.2 ≤ 35 → 2 * r.2.2.2 ≤ i + (if d = 5 then 1 else 0) → (prs tx m i d q r).2.2.2.2.2 ≤ 35
  | 0, i, d, q, r, _, hc, _ => hc
  | m + 1, i, d, q, r, hi, hc, h2 => by
    unfold prs
    cases e : (due d (tx i) q).1 with
    | none => exact hc
    | some d2 =>
      have hd2 := due_lt e
      have hk : r.2.2.2 < 35 ∨ r.2.2.2 = 35 := by omega
      by_cases h5 : d2 = 5
      · have hne : ¬ d = 5 := fun z => by have := hd2.2 z; omega
        rw [if_neg hne] at h2
        refine prs_cm m (i + 1) d2 _ _ (by omega) ?_ ?_
        · rw [if_pos h5]
          show r.2.2.2 + 1 ≤ 35
          omega
        · rw [if_pos h5, if_pos h5]
          show 2 * (r.2.2.2 + 1) ≤ _
          omega
      · refine prs_cm m (i + 1) d2 _ _ (by omega) ?_ ?_
        · rw [if_neg h5]
          exact hc
        · rw [if_neg h5, if_neg h5]
          split at h2 <;> omega
def cmdO (a c : qP) (Tk : Nat → Int32) (w o s : Int32) : qOut :=
  if w = nI 8 then liftF a s else if w = nI 9 then playF a o s else if w = nI 10 then turnF dstT a else if w = nI 11 then turnF dstM a else if w = nI 12 then thriftF a c Tk else putF a w s
def cmdC (a c : qP) (Tk : Nat → Int32) (w : Int32) : qP :=
  if w = nI 8 then c else if w = nI 9 then c else if w = nI 10 then a else if w = nI 11 then a else if w = nI 12 then thriftC a c Tk else c
def cmdK (a : qP) (Tk : Nat → Int32) (w : Int32) : Nat → Int32 :=
  if w = nI 8 then Tk else if w = nI 9 then Tk else if w = nI 10 then Tk else if w = nI 11 then Tk else if w = nI 12 then thriftK a Tk else Tk
abbrev qRd : Type := Int32 × qP × qP × (Nat → Int32) × qVs
def cmdV (V : qVs) (i : Nat) : qVs := (V.1, nI i, V.2.2.1, V.2.2.2.1, V.2.2.2.2)
def rd1 (wh og sq : Nat → Int32) (i : Nat) (st : qRd) : qRd :=
  ((cmdO st.2.1 st.2.2.1 st.2.2.2.1 (wh i) (og i) (sq i)).1, (cmdO st.2.1 st.2.2.1 st.2.2.2.1 (wh i) (og i) (sq i)).2.2, cmdC st.2.1 st.2.2.1 st.2.2.2.1 (wh i), cmdK st.2.1 st.2.2.2.1 (wh i), refP (cmdV st.2.2.2.2 i) (cmdO st.2.1 st.2.2.1 st.2.2.2.1 (wh i) (og i) (sq i)))
def rdR (wh og sq : Nat → Int32) : Nat → Nat → qRd → qRd
  | 0, _, st => st
  | m + 1, i, st => if st.1 < 0 then st else rdR wh og sq m (i + 1) (rd1 wh og sq i st)
set_option maxHeartbeats 4000000 in
set_option maxRecDepth 100000 in
theorem okX5_read_p0 {a0 b c0 d : qP} {Hs : qHs} {L : qLs} {V0 : qVs} {ms : qms} {mr : qmr} {mm : qmm} {ml : qml} {mt : qmt} {tx : Nat → Nat} {n : Nat} {q : qQ} {r : qR} {Tm Tk0 : Nat → Int32} {ta mc : Nat → Nat} (hn : n ≤ 70) (htx : ∀ i, tx i < 128) (hf : ¬ (prs tx n 0 0 q (r.1, r.2.1, r.2.2.1, 0)).1 < 0) : Ok MX5_read [.ref 0] (HH (a0, b, c0, d) Hs (Tm, Tk0, ta, mc) L (tx, n, q, r) V0 ms mr mm ml mt) (some (.int ((-100) - (prs tx n 0 0 q (r.1, r.2.1, r.2.2.1, 0)).1))) (HH (a0, b, c0, d) Hs (Tm, Tk0, ta, mc) L (tx, 0, (prs tx n 0 0 q (r.1, r.2.1, r.2.2.1, 0)).2.1, (prs tx n 0 0 q (r.1, r.2.1, r.2.2.1, 0)).2.2) V0 ms mr mm ml mt) := by
  refine ok_of (by decide +kernel) (Nat.zero_le _) (Nat.le_of_ble_eq_true rfl) ?_
  intro X C E
  show Ex X MX5_read 0 [(0, .ref 0)] [] (HH (a0, b, c0, d) Hs (Tm, Tk0, ta, mc) L (tx, n, q, r) V0 ms mr mm ml mt)
  refine x_aload_n C dX5_read_0 rfl ?_
  refine x_getfield C qk5 11 (by decide) lfX5_59 dX5_read_1 rfl rfl ?_
  refine x_callV0i C (okX4_findFault (ScA_HH (q := q) (r := r)) hn htx q (r.1, r.2.1, r.2.2.1, 0) rfl rfl) lkX5_202 miX4_findFault msX4_findFault maX4_findFault ⟨Nat.le_of_ble_eq_true rfl, Nat.le_of_ble_eq_true rfl⟩ (Nat.le_of_ble_eq_true rfl) rfl rfl dX5_read_4 ?_
  refine x_heap (h2 := HH (a0, b, c0, d) Hs (Tm, Tk0, ta, mc) L (tx, n, (prs tx n 0 0 q (r.1, r.2.1, r.2.2.1, 0)).2.1, (prs tx n 0 0 q (r.1, r.2.1, r.2.2.1, 0)).2.2) V0 ms mr mm ml mt) (by rfl) ?_
  refine x_istore_n C dX5_read_7 (by decide) [(1, _), (0, _)] rfl ?_
  refine x_aload_n C dX5_read_8 rfl ?_
  refine x_getfield C qk5 11 (by decide) lfX5_59 dX5_read_9 rfl rfl ?_
  refine x_callV0v C (okX4_clear ScA_HH) lkX5_205 miX4_clear msX4_clear maX4_clear ⟨Nat.le_of_ble_eq_true rfl, Nat.le_of_ble_eq_true rfl⟩ (Nat.le_of_ble_eq_true rfl) rfl rfl dX5_read_12 ?_
  refine x_heap (h2 := HH (a0, b, c0, d) Hs (Tm, Tk0, ta, mc) L (tx, 0, (prs tx n 0 0 q (r.1, r.2.1, r.2.2.1, 0)).2.1, (prs tx n 0 0 q (r.1, r.2.1, r.2.2.1, 0)).2.2) V0 ms mr mm ml mt) (by rfl) ?_
  refine x_iload_n C dX5_read_15 rfl ?_
  refine x_if_lt C 24 dX5_read_16 (by decide) (fun c16 => ?_) (fun c16 => ?_)
  · exact absurd c16 hf
  · refine x_bipush C (v := (-100)) dX5_read_19 (by decide +kernel) ?_
    refine x_iload_n C dX5_read_21 rfl ?_
    refine x_isub C dX5_read_22 ?_
    exact x_iret E .int dX5_read_23 rfl rfl rfl rfl
set_option maxHeartbeats 4000000 in
set_option maxRecDepth 100000 in
theorem okX5_read_p1 {a0 b c0 d : qP} {Hs : qHs} {L : qLs} {V0 : qVs} {ms : qms} {mr : qmr} {mm : qmm} {ml : qml} {mt : qmt} {tx : Nat → Nat} {n : Nat} {q : qQ} {r : qR} {Tm Tk0 : Nat → Int32} {ta mc : Nat → Nat} (hn : n ≤ 70) (htx : ∀ i, tx i < 128) (hf : (prs tx n 0 0 q (r.1, r.2.1, r.2.2.1, 0)).1 < 0) (hcm : (prs tx n 0 0 q (r.1, r.2.1, r.2.2.1, 0)).2.2.2.2.2 ≤ 35) (hab : Bd a0.1) (hb : Bd b.1) (hc0 : Bd c0.1) (hhs : Hs.2.1 < 8 ∧ Hs.2.2 ≤ 8 ∧ ∀ j, j < 8 → Bd (Hs.1 j).1) : Ok MX5_read [.ref 0] (HH (a0, b, c0, d) Hs (Tm, Tk0, ta, mc) L (tx, n, q, r) V0 ms mr mm ml mt) (some (.int (if (rdR (prs tx n 0 0 q (r.1, r.2.1, r.2.2.1, 0)).2.2.1 (prs tx n 0 0 q (r.1, r.2.1, r.2.2.1, 0)).2.2.2.1 (prs tx n 0 0 q (r.1, r.2.1, r.2.2.1, 0)).2.2.2.2.1 (prs tx n 0 0 q (r.1, r.2.1, r.2.2.1, 0)).2.2.2.2.2 0 (nI 0, a0, c0, Tk0, V0)).1 < 0 then (-3 : Int32) else nI (prs tx n 0 0 q (r.1, r.2.1, r.2.2.1, 0)).2.2.2.2.2))) (HH (if (rdR (prs tx n 0 0 q (r.1, r.2.1, r.2.2.1, 0)).2.2.1 (prs tx n 0 0 q (r.1, r.2.1, r.2.2.1, 0)).2.2.2.1 (prs tx n 0 0 q (r.1, r.2.1, r.2.2.1, 0)).2.2.2.2.1 (prs tx n 0 0 q (r.1, r.2.1, r.2.2.1, 0)).2.2.2.2.2 0 (nI 0, a0, c0, Tk0, V0)).1 < 0 then a0 else (rdR (prs tx n 0 0 q (r.1, r.2.1, r.2.2.1, 0)).2.2.1 (prs tx n 0 0 q (r.1, r.2.1, r.2.2.1, 0)).2.2.2.1 (prs tx n 0 0 q (r.1, r.2.1, r.2.2.1, 0)).2.2.2.2.1 (prs tx n 0 0 q (r.1, r.2.1, r.2.2.1, 0)).2.2.2.2.2 0 (nI 0, a0, c0, Tk0, V0)).2.1, a0, (rdR (prs tx n 0 0 q (r.1, r.2.1, r.2.2.1, 0)).2.2.1 (prs tx n 0 0 q (r.1, r.2.1, r.2.2.1, 0)).2.2.2.1 (prs tx n 0 0 q (r.1, r.2.1, r.2.2.1, 0)).2.2.2.2.1 (prs tx n 0 0 q (r.1, r.2.1, r.2.2.1, 0)).2.2.2.2.2 0 (nI 0, a0, c0, Tk0, V0)).2.2.1, d) (if (rdR (prs tx n 0 0 q (r.1, r.2.1, r.2.2.1, 0)).2.2.1 (prs tx n 0 0 q (r.1, r.2.1, r.2.2.1, 0)).2.2.2.1 (prs tx n 0 0 q (r.1, r.2.1, r.2.2.1, 0)).2.2.2.2.1 (prs tx n 0 0 q (r.1, r.2.1, r.2.2.1, 0)).2.2.2.2.2 0 (nI 0, a0, c0, Tk0, V0)).1 < 0 then Hs else (qUR Hs.1 Hs.2.1 a0, nxt Hs.2.1, szt Hs.2.2)) (Tm, (rdR (prs tx n 0 0 q (r.1, r.2.1, r.2.2.1, 0)).2.2.1 (prs tx n 0 0 q (r.1, r.2.1, r.2.2.1, 0)).2.2.2.1 (prs tx n 0 0 q (r.1, r.2.1, r.2.2.1, 0)).2.2.2.2.1 (prs tx n 0 0 q (r.1, r.2.1, r.2.2.1, 0)).2.2.2.2.2 0 (nI 0, a0, c0, Tk0, V0)).2.2.2.1, ta, mc) L (tx, 0, (prs tx n 0 0 q (r.1, r.2.1, r.2.2.1, 0)).2.1, (prs tx n 0 0 q (r.1, r.2.1, r.2.2.1, 0)).2.2) ((rdR (prs tx n 0 0 q (r.1, r.2.1, r.2.2.1, 0)).2.2.1 (prs tx n 0 0 q (r.1, r.2.1, r.2.2.1, 0)).2.2.2.1 (prs tx n 0 0 q (r.1, r.2.1, r.2.2.1, 0)).2.2.2.2.1 (prs tx n 0 0 q (r.1, r.2.1, r.2.2.1, 0)).2.2.2.2.2 0 (nI 0, a0, c0, Tk0, V0)).2.2.2.2.1, -4, (rdR (prs tx n 0 0 q (r.1, r.2.1, r.2.2.1, 0)).2.2.1 (prs tx n 0 0 q (r.1, r.2.1, r.2.2.1, 0)).2.2.2.1 (prs tx n 0 0 q (r.1, r.2.1, r.2.2.1, 0)).2.2.2.2.1 (prs tx n 0 0 q (r.1, r.2.1, r.2.2.1, 0)).2.2.2.2.2 0 (nI 0, a0, c0, Tk0, V0)).2.2.2.2.2.2.1, (rdR (prs tx n 0 0 q (r.1, r.2.1, r.2.2.1, 0)).2.2.1 (prs tx n 0 0 q (r.1, r.2.1, r.2.2.1, 0)).2.2.2.1 (prs tx n 0 0 q (r.1, r.2.1, r.2.2.1, 0)).2.2.2.2.1 (prs tx n 0 0 q (r.1, r.2.1, r.2.2.1, 0)).2.2.2.2.2 0 (nI 0, a0, c0, Tk0, V0)).2.2.2.2.2.2.2.1, (rdR (prs tx n 0 0 q (r.1, r.2.1, r.2.2.1, 0)).2.2.1 (prs tx n 0 0 q (r.1, r.2.1, r.2.2.1, 0)).2.2.2.1 (prs tx n 0 0 q (r.1, r.2.1, r.2.2.1, 0)).2.2.2.2.1 (prs tx n 0 0 q (r.1, r.2.1, r.2.2.1, 0)).2.2.2.2.2 0 (nI 0, a0, c0, Tk0, V0)).2.2.2.2.2.2.2.2) ms mr mm ml mt) := by
  refine ok_of (by decide +kernel) (Nat.zero_le _) (Nat.le_of_ble_eq_true rfl) ?_
  intro X C E
  show Ex X MX5_read 0 [(0, .ref 0)] [] (HH (a0, b, c0, d) Hs (Tm, Tk0, ta, mc) L (tx, n, q, r) V0 ms mr mm ml mt)
  obtain ⟨q1, hq1⟩ : ∃ z, z = (prs tx n 0 0 q (r.1, r.2.1, r.2.2.1, 0)).2.1 := ⟨_, rfl⟩
  obtain ⟨r1, hr1⟩ : ∃ z, z = (prs tx n 0 0 q (r.1, r.2.1, r.2.2.1, 0)).2.2 := ⟨_, rfl⟩
  obtain ⟨x1, hx1⟩ : ∃ z, z = (prs tx n 0 0 q (r.1, r.2.1, r.2.2.1, 0)).1 := ⟨_, rfl⟩
  rw [← hq1, ← hr1] at E
  rw [← hx1] at hf
  rw [← hr1] at hcm
  have L3 : ∀ (ans : Int32) (a c : qP) (Tk : Nat → Int32) (V : qVs), Bd a.1 → Bd c.1 → rdR r1.1 r1.2.1 r1.2.2.1 r1.2.2.2 0 (nI 0, a0, c0, Tk0, V0) = (ans, a, c, Tk, V) → Ex X MX5_read 189 [(0, .ref 0), (1, .int x1), (2, .int ans), (3, .int (nI r1.2.2.2))] [] (HH (a, a0, c, d) Hs (Tm, Tk, ta, mc) L (tx, 0, q1, r1) V ms mr mm ml mt) := by
    intro ans a c Tk V ha hc hE
    refine x_aload_n C dX5_read_189 rfl ?_
    refine x_bipush C (v := (-4)) dX5_read_190 (by decide +kernel) ?_
    refine x_putfield C qk5 12 (by decide) lfX5_63 rfl (ty0 := .int) (by decide +kernel) rfl rfl dX5_read_192 rfl (Nat.le_of_ble_eq_true rfl) ?_
    refine x_heap (h2 := HH (a, a0, c, d) Hs (Tm, Tk, ta, mc) L (tx, 0, q1, r1) (V.1, -4, V.2.2.1, V.2.2.2.1, V.2.2.2.2) ms mr mm ml mt) (by rfl) ?_
    refine x_iload_n C dX5_read_195 rfl ?_
    refine x_if_ge C 213 dX5_read_196 (by decide) (fun c196 => ?_) (fun c196 => ?_)
    · refine x_aload_n C dX5_read_213 rfl ?_
      refine x_getfield C qk5 5 (by decide) lfX5_28 dX5_read_214 rfl rfl ?_
      refine x_aload_n C dX5_read_217 rfl ?_
      refine x_getfield C qk5 1 (by decide) lfX5_16 dX5_read_218 rfl rfl ?_
      refine x_callV1v C (okX0_push HH_hist hhs.1 hhs.2.1 (PosF_before) hhs.2.2 hab (by decide)) lkX5_216 miX0_push msX0_push maX0_push ⟨Nat.le_of_ble_eq_true rfl, Nat.le_of_ble_eq_true rfl⟩ (Nat.le_of_ble_eq_true rfl) rfl rfl dX5_read_221 ?_
      refine x_heap (HH_push Hs.2.1 hhs.1) ?_
      refine x_iload_n C dX5_read_224 rfl ?_
      exact x_iret E .int dX5_read_225 rfl rfl (by rw [hE]; simp only [if_neg (Int32.not_lt.mpr c196)]) (by rw [hE]; simp only [if_neg (Int32.not_lt.mpr c196)])
    · refine x_aload_n C dX5_read_199 rfl ?_
      refine x_getfield C qk5 0 (by decide) lfX5_12 dX5_read_200 rfl rfl ?_
      refine x_aload_n C dX5_read_203 rfl ?_
      refine x_getfield C qk5 1 (by decide) lfX5_16 dX5_read_204 rfl rfl ?_
      refine x_callV1v C (okX3_copyFrom PosF_now PosF_before ha hab (by decide) (by decide) (by decide)) lkX5_67 miX3_copyFrom msX3_copyFrom maX3_copyFrom ⟨Nat.le_of_ble_eq_true rfl, Nat.le_of_ble_eq_true rfl⟩ (Nat.le_of_ble_eq_true rfl) rfl rfl dX5_read_207 ?_
      refine x_heap (h2 := HH (a0, a0, c, d) Hs (Tm, Tk, ta, mc) L (tx, 0, q1, r1) (V.1, -4, V.2.2.1, V.2.2.2.1, V.2.2.2.2) ms mr mm ml mt) (by rfl) ?_
      refine x_bipush C (v := (-3)) dX5_read_210 (by decide +kernel) ?_
      exact x_iret E .int dX5_read_212 rfl rfl (by rw [hE]; simp only [if_pos (Int32.not_le.mp c196)]) (by rw [hE]; simp only [if_pos (Int32.not_le.mp c196)])
  have LP : ∀ (m i : Nat) (ans : Int32) (a c : qP) (Tk : Nat → Int32) (V : qVs), i + m = r1.2.2.2 → Bd a.1 → Bd c.1 → rdR r1.1 r1.2.1 r1.2.2.1 r1.2.2.2 0 (nI 0, a0, c0, Tk0, V0) = rdR r1.1 r1.2.1 r1.2.2.1 m i (ans, a, c, Tk, V) → Ex X MX5_read 48 [(0, .ref 0), (1, .int x1), (2, .int ans), (3, .int (nI r1.2.2.2)), (4, .int (nI i))] [] (HH (a, a0, c, d) Hs (Tm, Tk, ta, mc) L (tx, 0, q1, r1) V ms mr mm ml mt) := by
    intro m
    induction m with
    | zero =>
      intro i ans a c Tk V him ha hc he
      refine x_iload C dX5_read_48 rfl ?_
      refine x_iload_n C dX5_read_50 rfl ?_
      refine x_icmp_geN C 189 dX5_read_51 (by decide) (by omega) (by omega) (fun c51 => ?_) (fun c51 => ?_)
      · exact x_sub [0, 1, 2, 3] (L3 ans a c Tk V ha hc (by rw [he, rdR])) rfl
      · exact absurd c51 (by omega)
    | succ m ih =>
      intro i ans a c Tk V him ha hc he
      refine x_iload C dX5_read_48 rfl ?_
      refine x_iload_n C dX5_read_50 rfl ?_
      refine x_icmp_geN C 189 dX5_read_51 (by decide) (by omega) (by omega) (fun c51 => ?_) (fun c51 => ?_)
      · exact absurd c51 (by omega)
      · refine x_iload_n C dX5_read_54 rfl ?_
        refine x_if_lt C 189 dX5_read_55 (by decide) (fun c55 => ?_) (fun c55 => ?_)
        · exact x_sub [0, 1, 2, 3] (L3 ans a c Tk V ha hc (by rw [he, rdR, if_pos c55])) rfl
        · refine x_aload_n C dX5_read_58 rfl ?_
          refine x_iload C dX5_read_59 rfl ?_
          refine x_putfield C qk5 12 (by decide) lfX5_63 rfl (ty0 := .int) (by decide +kernel) rfl rfl dX5_read_61 rfl (Nat.le_of_ble_eq_true rfl) ?_
          refine x_heap (h2 := HH (a, a0, c, d) Hs (Tm, Tk, ta, mc) L (tx, 0, q1, r1) (V.1, nI i, V.2.2.1, V.2.2.2.1, V.2.2.2.2) ms mr mm ml mt) (by rfl) ?_
          refine x_aload_n C dX5_read_64 rfl ?_
          refine x_getfield C qk5 11 (by decide) lfX5_59 dX5_read_65 rfl rfl ?_
          refine x_iload C dX5_read_68 rfl ?_
          refine x_callV1i C (okX4_whatOf ScA_HH (show i < 35 by omega)) lkX5_209 miX4_whatOf msX4_whatOf maX4_whatOf ⟨Nat.le_of_ble_eq_true rfl, Nat.le_of_ble_eq_true rfl⟩ (Nat.le_of_ble_eq_true rfl) rfl rfl dX5_read_70 ?_
          refine x_istore C dX5_read_73 (by decide) [(5, _), (0, _), (1, _), (2, _), (3, _), (4, _)] rfl ?_
          refine x_aload_n C dX5_read_75 rfl ?_
          refine x_getfield C qk5 11 (by decide) lfX5_59 dX5_read_76 rfl rfl ?_
          refine x_iload C dX5_read_79 rfl ?_
          refine x_callV1i C (okX4_squareOf ScA_HH (show i < 35 by omega)) lkX5_212 miX4_squareOf msX4_squareOf maX4_squareOf ⟨Nat.le_of_ble_eq_true rfl, Nat.le_of_ble_eq_true rfl⟩ (Nat.le_of_ble_eq_true rfl) rfl rfl dX5_read_81 ?_
          refine x_istore C dX5_read_84 (by decide) [(6, _), (5, _), (0, _), (1, _), (2, _), (3, _), (4, _)] rfl ?_
          refine x_iload C dX5_read_86 rfl ?_
          refine x_bipush C (v := nI 8) dX5_read_88 (by decide +kernel) ?_
          refine x_icmp_ne C 103 dX5_read_90 (by decide) (fun c90 => ?_) (fun c90 => ?_)
          · refine x_iload C dX5_read_103 rfl ?_
            refine x_bipush C (v := nI 9) dX5_read_105 (by decide +kernel) ?_
            refine x_icmp_ne C 129 dX5_read_107 (by decide) (fun c107 => ?_) (fun c107 => ?_)
            · refine x_iload C dX5_read_129 rfl ?_
              refine x_bipush C (v := nI 10) dX5_read_131 (by decide +kernel) ?_
              refine x_icmp_ne C 144 dX5_read_133 (by decide) (fun c133 => ?_) (fun c133 => ?_)
              · refine x_iload C dX5_read_144 rfl ?_
                refine x_bipush C (v := nI 11) dX5_read_146 (by decide +kernel) ?_
                refine x_icmp_ne C 159 dX5_read_148 (by decide) (fun c148 => ?_) (fun c148 => ?_)
                · refine x_iload C dX5_read_159 rfl ?_
                  refine x_bipush C (v := nI 12) dX5_read_161 (by decide +kernel) ?_
                  refine x_icmp_ne C 174 dX5_read_163 (by decide) (fun c163 => ?_) (fun c163 => ?_)
                  · refine x_aload_n C dX5_read_174 rfl ?_
                    refine x_iload C dX5_read_175 rfl ?_
                    refine x_iload C dX5_read_177 rfl ?_
                    refine x_callV2i C (okX5_putNow ha.1 _ _) lkX5_71 miX5_putNow msX5_putNow maX5_putNow ⟨Nat.le_of_ble_eq_true rfl, Nat.le_of_ble_eq_true rfl⟩ (Nat.le_of_ble_eq_true rfl) rfl rfl dX5_read_179 ?_
                    refine x_heap (h2 := HH ((putF a (r1.1 i) (r1.2.2.1 i)).2.2, a0, (c), d) Hs (Tm, (Tk), ta, mc) L (tx, 0, q1, r1) (refP (cmdV V i) (putF a (r1.1 i) (r1.2.2.1 i))) ms mr mm ml mt) (by rfl) ?_
                    refine x_istore_n C dX5_read_182 (by decide) [(2, _), (6, _), (5, _), (0, _), (1, _), (3, _), (4, _)] rfl ?_
                    refine x_iinc C _ dX5_read_183 rfl (q_inc _) (by decide) [(4, _), (2, _), (6, _), (5, _), (0, _), (1, _), (3, _)] rfl ?_
                    refine x_goto C 48 dX5_read_186 (by decide) ?_
                    exact x_sub [4, 5, 1, 6, 0] (ih (i + 1) (putF a (r1.1 i) (r1.2.2.1 i)).1 (putF a (r1.1 i) (r1.2.2.1 i)).2.2 (c) (Tk) (refP (cmdV V i) (putF a (r1.1 i) (r1.2.2.1 i))) (by omega) (putF_Bd ha) (hc) (by rw [he, rdR, if_neg c55]; simp only [rd1, cmdO, cmdC, cmdK, if_neg c90, if_neg c107, if_neg c133, if_neg c148, if_neg c163])) rfl
                  · refine x_aload_n C dX5_read_166 rfl ?_
                    refine x_callV0i C (okX5_thriftNow ha hc) lkX5_92 miX5_thriftNow msX5_thriftNow maX5_thriftNow ⟨Nat.le_of_ble_eq_true rfl, Nat.le_of_ble_eq_true rfl⟩ (Nat.le_of_ble_eq_true rfl) rfl rfl dX5_read_167 ?_
                    refine x_heap (h2 := HH ((thriftF a c Tk).2.2, a0, (thriftC a c Tk), d) Hs (Tm, (thriftK a Tk), ta, mc) L (tx, 0, q1, r1) (refP (cmdV V i) (thriftF a c Tk)) ms mr mm ml mt) (by rfl) ?_
                    refine x_istore_n C dX5_read_170 (by decide) [(2, _), (6, _), (5, _), (0, _), (1, _), (3, _), (4, _)] rfl ?_
                    refine x_goto C 183 dX5_read_171 (by decide) ?_
                    refine x_iinc C _ dX5_read_183 rfl (q_inc _) (by decide) [(4, _), (2, _), (6, _), (5, _), (0, _), (1, _), (3, _)] rfl ?_
                    refine x_goto C 48 dX5_read_186 (by decide) ?_
                    exact x_sub [4, 5, 1, 6, 0] (ih (i + 1) (thriftF a c Tk).1 (thriftF a c Tk).2.2 (thriftC a c Tk) (thriftK a Tk) (refP (cmdV V i) (thriftF a c Tk)) (by omega) ((thriftF_Bd ha hc).1) ((thriftF_Bd ha hc).2) (by rw [he, rdR, if_neg c55]; simp only [rd1, cmdO, cmdC, cmdK, if_neg c90, if_neg c107, if_neg c133, if_neg c148, if_pos c163])) rfl
                · refine x_aload_n C dX5_read_151 rfl ?_
                  refine x_callV0i C (okX5_mirrorNow ha ⟨hc, ha⟩) lkX5_89 miX5_mirrorNow msX5_mirrorNow maX5_mirrorNow ⟨Nat.le_of_ble_eq_true rfl, Nat.le_of_ble_eq_true rfl⟩ (Nat.le_of_ble_eq_true rfl) rfl rfl dX5_read_152 ?_
                  refine x_heap (h2 := HH ((turnF dstM a).2.2, a0, (a), d) Hs (Tm, (Tk), ta, mc) L (tx, 0, q1, r1) (refP (cmdV V i) (turnF dstM a)) ms mr mm ml mt) (by rfl) ?_
                  refine x_istore_n C dX5_read_155 (by decide) [(2, _), (6, _), (5, _), (0, _), (1, _), (3, _), (4, _)] rfl ?_
                  refine x_goto C 183 dX5_read_156 (by decide) ?_
                  refine x_iinc C _ dX5_read_183 rfl (q_inc _) (by decide) [(4, _), (2, _), (6, _), (5, _), (0, _), (1, _), (3, _)] rfl ?_
                  refine x_goto C 48 dX5_read_186 (by decide) ?_
                  exact x_sub [4, 5, 1, 6, 0] (ih (i + 1) (turnF dstM a).1 (turnF dstM a).2.2 (a) (Tk) (refP (cmdV V i) (turnF dstM a)) (by omega) (trR_Bd (fun _ h => dstM_lt h) ha ha 25 (Nat.le_refl _)) (ha) (by rw [he, rdR, if_neg c55]; simp only [rd1, cmdO, cmdC, cmdK, if_neg c90, if_neg c107, if_neg c133, if_pos c148])) rfl
              · refine x_aload_n C dX5_read_136 rfl ?_
                refine x_callV0i C (okX5_turnNow ha ⟨hc, ha⟩) lkX5_85 miX5_turnNow msX5_turnNow maX5_turnNow ⟨Nat.le_of_ble_eq_true rfl, Nat.le_of_ble_eq_true rfl⟩ (Nat.le_of_ble_eq_true rfl) rfl rfl dX5_read_137 ?_
                refine x_heap (h2 := HH ((turnF dstT a).2.2, a0, (a), d) Hs (Tm, (Tk), ta, mc) L (tx, 0, q1, r1) (refP (cmdV V i) (turnF dstT a)) ms mr mm ml mt) (by rfl) ?_
                refine x_istore_n C dX5_read_140 (by decide) [(2, _), (6, _), (5, _), (0, _), (1, _), (3, _), (4, _)] rfl ?_
                refine x_goto C 183 dX5_read_141 (by decide) ?_
                refine x_iinc C _ dX5_read_183 rfl (q_inc _) (by decide) [(4, _), (2, _), (6, _), (5, _), (0, _), (1, _), (3, _)] rfl ?_
                refine x_goto C 48 dX5_read_186 (by decide) ?_
                exact x_sub [4, 5, 1, 6, 0] (ih (i + 1) (turnF dstT a).1 (turnF dstT a).2.2 (a) (Tk) (refP (cmdV V i) (turnF dstT a)) (by omega) (trR_Bd (fun _ h => dstT_lt h) ha ha 25 (Nat.le_refl _)) (ha) (by rw [he, rdR, if_neg c55]; simp only [rd1, cmdO, cmdC, cmdK, if_neg c90, if_neg c107, if_pos c133])) rfl
            · refine x_aload_n C dX5_read_110 rfl ?_
              refine x_aload_n C dX5_read_111 rfl ?_
              refine x_getfield C qk5 11 (by decide) lfX5_59 dX5_read_112 rfl rfl ?_
              refine x_iload C dX5_read_115 rfl ?_
              refine x_callV1i C (okX4_originOf ScA_HH (show i < 35 by omega)) lkX5_213 miX4_originOf msX4_originOf maX4_originOf ⟨Nat.le_of_ble_eq_true rfl, Nat.le_of_ble_eq_true rfl⟩ (Nat.le_of_ble_eq_true rfl) rfl rfl dX5_read_117 ?_
              refine x_iload C dX5_read_120 rfl ?_
              refine x_callV2i C (okX5_playNow ha.1 _ _) lkX5_82 miX5_playNow msX5_playNow maX5_playNow ⟨Nat.le_of_ble_eq_true rfl, Nat.le_of_ble_eq_true rfl⟩ (Nat.le_of_ble_eq_true rfl) rfl rfl dX5_read_122 ?_
              refine x_heap (h2 := HH ((playF a (r1.2.1 i) (r1.2.2.1 i)).2.2, a0, (c), d) Hs (Tm, (Tk), ta, mc) L (tx, 0, q1, r1) (refP (cmdV V i) (playF a (r1.2.1 i) (r1.2.2.1 i))) ms mr mm ml mt) (by rfl) ?_
              refine x_istore_n C dX5_read_125 (by decide) [(2, _), (6, _), (5, _), (0, _), (1, _), (3, _), (4, _)] rfl ?_
              refine x_goto C 183 dX5_read_126 (by decide) ?_
              refine x_iinc C _ dX5_read_183 rfl (q_inc _) (by decide) [(4, _), (2, _), (6, _), (5, _), (0, _), (1, _), (3, _)] rfl ?_
              refine x_goto C 48 dX5_read_186 (by decide) ?_
              exact x_sub [4, 5, 1, 6, 0] (ih (i + 1) (playF a (r1.2.1 i) (r1.2.2.1 i)).1 (playF a (r1.2.1 i) (r1.2.2.1 i)).2.2 (c) (Tk) (refP (cmdV V i) (playF a (r1.2.1 i) (r1.2.2.1 i))) (by omega) (playF_Bd ha) (hc) (by rw [he, rdR, if_neg c55]; simp only [rd1, cmdO, cmdC, cmdK, if_neg c90, if_pos c107])) rfl
          · refine x_aload_n C dX5_read_93 rfl ?_
            refine x_iload C dX5_read_94 rfl ?_
            refine x_callV1i C (okX5_liftNow ha.1 _) lkX5_79 miX5_liftNow msX5_liftNow maX5_liftNow ⟨Nat.le_of_ble_eq_true rfl, Nat.le_of_ble_eq_true rfl⟩ (Nat.le_of_ble_eq_true rfl) rfl rfl dX5_read_96 ?_
            refine x_heap (h2 := HH ((liftF a (r1.2.2.1 i)).2.2, a0, (c), d) Hs (Tm, (Tk), ta, mc) L (tx, 0, q1, r1) (refP (cmdV V i) (liftF a (r1.2.2.1 i))) ms mr mm ml mt) (by rfl) ?_
            refine x_istore_n C dX5_read_99 (by decide) [(2, _), (6, _), (5, _), (0, _), (1, _), (3, _), (4, _)] rfl ?_
            refine x_goto C 183 dX5_read_100 (by decide) ?_
            refine x_iinc C _ dX5_read_183 rfl (q_inc _) (by decide) [(4, _), (2, _), (6, _), (5, _), (0, _), (1, _), (3, _)] rfl ?_
            refine x_goto C 48 dX5_read_186 (by decide) ?_
            exact x_sub [4, 5, 1, 6, 0] (ih (i + 1) (liftF a (r1.2.2.1 i)).1 (liftF a (r1.2.2.1 i)).2.2 (c) (Tk) (refP (cmdV V i) (liftF a (r1.2.2.1 i))) (by omega) (liftF_Bd ha) (hc) (by rw [he, rdR, if_neg c55]; simp only [rd1, cmdO, cmdC, cmdK, if_pos c90])) rfl
  refine x_aload_n C dX5_read_0 rfl ?_
  refine x_getfield C qk5 11 (by decide) lfX5_59 dX5_read_1 rfl rfl ?_
  refine x_callV0i C (okX4_findFault (ScA_HH (q := q) (r := r)) hn htx q (r.1, r.2.1, r.2.2.1, 0) rfl rfl) lkX5_202 miX4_findFault msX4_findFault maX4_findFault ⟨Nat.le_of_ble_eq_true rfl, Nat.le_of_ble_eq_true rfl⟩ (Nat.le_of_ble_eq_true rfl) rfl rfl dX5_read_4 ?_
  refine x_heap (h2 := HH (a0, b, c0, d) Hs (Tm, Tk0, ta, mc) L (tx, n, (prs tx n 0 0 q (r.1, r.2.1, r.2.2.1, 0)).2.1, (prs tx n 0 0 q (r.1, r.2.1, r.2.2.1, 0)).2.2) V0 ms mr mm ml mt) (by rfl) ?_
  refine x_istore_n C dX5_read_7 (by decide) [(1, _), (0, _)] rfl ?_
  refine x_aload_n C dX5_read_8 rfl ?_
  refine x_getfield C qk5 11 (by decide) lfX5_59 dX5_read_9 rfl rfl ?_
  refine x_callV0v C (okX4_clear ScA_HH) lkX5_205 miX4_clear msX4_clear maX4_clear ⟨Nat.le_of_ble_eq_true rfl, Nat.le_of_ble_eq_true rfl⟩ (Nat.le_of_ble_eq_true rfl) rfl rfl dX5_read_12 ?_
  refine x_heap (h2 := HH (a0, b, c0, d) Hs (Tm, Tk0, ta, mc) L (tx, 0, (prs tx n 0 0 q (r.1, r.2.1, r.2.2.1, 0)).2.1, (prs tx n 0 0 q (r.1, r.2.1, r.2.2.1, 0)).2.2) V0 ms mr mm ml mt) (by rfl) ?_
  rw [← hq1, ← hr1, ← hx1]
  refine x_iload_n C dX5_read_15 rfl ?_
  refine x_if_lt C 24 dX5_read_16 (by decide) (fun c16 => ?_) (fun c16 => ?_)
  · refine x_aload_n C dX5_read_24 rfl ?_
    refine x_getfield C qk5 1 (by decide) lfX5_16 dX5_read_25 rfl rfl ?_
    refine x_aload_n C dX5_read_28 rfl ?_
    refine x_getfield C qk5 0 (by decide) lfX5_12 dX5_read_29 rfl rfl ?_
    refine x_callV1v C (okX3_copyFrom PosF_before PosF_now hb hab (by decide) (by decide) (by decide)) lkX5_67 miX3_copyFrom msX3_copyFrom maX3_copyFrom ⟨Nat.le_of_ble_eq_true rfl, Nat.le_of_ble_eq_true rfl⟩ (Nat.le_of_ble_eq_true rfl) rfl rfl dX5_read_32 ?_
    refine x_heap (h2 := HH (a0, a0, c0, d) Hs (Tm, Tk0, ta, mc) L (tx, 0, q1, r1) V0 ms mr mm ml mt) (by rfl) ?_
    refine x_iconst C (v := nI 0) dX5_read_35 (by decide +kernel) ?_
    refine x_istore_n C dX5_read_36 (by decide) [(2, _), (1, _), (0, _)] rfl ?_
    refine x_aload_n C dX5_read_37 rfl ?_
    refine x_getfield C qk5 11 (by decide) lfX5_59 dX5_read_38 rfl rfl ?_
    refine x_getfield C qk4 5 (by decide) lfX5_206 dX5_read_41 rfl rfl ?_
    refine x_istore_n C dX5_read_44 (by decide) [(3, _), (2, _), (1, _), (0, _)] rfl ?_
    refine x_iconst C (v := nI 0) dX5_read_45 (by decide +kernel) ?_
    refine x_istore C dX5_read_46 (by decide) [(4, _), (3, _), (2, _), (1, _), (0, _)] rfl ?_
    exact x_sub [4, 3, 2, 1, 0] (LP r1.2.2.2 0 (nI 0) a0 c0 Tk0 V0 (by omega) hab hc0 rfl) rfl
  · exact absurd hf c16
