/-! the whole heap: the class's cells (0 to 39), the reference's (40 to 50) -/
abbrev qPs : Type := qP × qP × qP × qP
abbrev qHs : Type := (Nat → qP) × Nat × Nat
abbrev qTs : Type := (Nat → Int32) × (Nat → Int32) × (Nat → Nat) × (Nat → Nat)
abbrev qLs : Type := (Nat → Int32) × Nat
abbrev qSs : Type := (Nat → Nat) × Nat × qQ × qR
abbrev qVs : Type := Bool × Int32 × Int32 × Int32 × Int32
abbrev qms : Type := (Nat → Nat) × (Nat → Nat) × (Nat → Nat) × (Nat → Nat) × Bool × Nat
abbrev qmr : Type := Int32 × Int32 × Int32 × Int32
abbrev qmm : Type := (Nat → Nat) × Nat × (Nat → Nat) × (Nat → Nat)
abbrev qml : Type := (Nat → Nat) × Nat
abbrev qmt : Type := (Nat → Nat) × Nat × Nat × Bool × (Nat → Nat) × Nat
abbrev qB0 (n : Nat) (f : Nat → Nat) : qE := .inl (0, n, .inl (nb f))
abbrev qB1 (n : Nat) (f : Nat → Nat) : qE := .inl (1, n, .inl (nb f))
def HH (P : qPs) (Hs : qHs) (T : qTs) (L : qLs) (S : qSs) (V : qVs) (ms : qms) (mr : qmr) (mm : qmm) (ml : qml) (mt : qmt) : qH :=
  [.inr (5, [.ref 1, .ref 3, .ref 5, .ref 7, .int (qb V.1), .ref 9, .ref 27, .ref 29, .ref 31, .ref 32, .ref 33, .ref 35, .int V.2.1, .int V.2.2.1, .int V.2.2.2.1, .int V.2.2.2.2]),
   qO 1 P.1, qA P.1.1, qO 3 P.2.1, qA P.2.1.1, qO 5 P.2.2.1, qA P.2.2.1.1, qO 7 P.2.2.2, qA P.2.2.2.1,
   qHi Hs.2.1 Hs.2.2, .inl (2, 8, .inr (.inr (.inr (.inr qRows)))),
   qO 11 (Hs.1 0), qA (Hs.1 0).1, qO 13 (Hs.1 1), qA (Hs.1 1).1, qO 15 (Hs.1 2), qA (Hs.1 2).1, qO 17 (Hs.1 3), qA (Hs.1 3).1, qO 19 (Hs.1 4), qA (Hs.1 4).1, qO 21 (Hs.1 5), qA (Hs.1 5).1, qO 23 (Hs.1 6), qA (Hs.1 6).1, qO 25 (Hs.1 7), qA (Hs.1 7).1,
   .inr (2, [.ref 28]), qI 25 T.1, .inr (2, [.ref 30]), qI 25 T.2.1, qB0 4 T.2.2.1, qB0 25 T.2.2.2,
   qL L.2, qLc L.1,
   qSq S.2.1 S.2.2.2.2.2.2 S.2.2.1, qI 70 (nb S.1), qI 35 S.2.2.2.1, qI 35 S.2.2.2.2.1, qI 35 S.2.2.2.2.2.1,
   .inr (6, [.ref 41, .ref 42, .ref 43, .int (qb ms.2.2.2.2.1), .ref 44, .int (nI ms.2.2.2.2.2), .int mr.1, .int mr.2.1, .int mr.2.2.1, .int mr.2.2.2, .ref 45, .int (nI mm.2.1), .ref 46, .ref 47, .ref 48, .int (nI ml.2), .ref 49, .int (nI mt.2.1), .int (nI mt.2.2.1), .int (qb mt.2.2.2.1), .ref 50, .int (nI mt.2.2.2.2.2)]),
   qB0 29 ms.1, qB0 29 ms.2.1, qB0 29 ms.2.2.1, qB0 232 ms.2.2.2.1, qB0 300 mm.1, qB0 300 mm.2.2.1, qB0 25 mm.2.2.2, qB1 40 ml.1, qB1 70 mt.1, qB0 210 mt.2.2.2.2.1]
abbrev qUR (R : Nat → qP) (n : Nat) (p : qP) : Nat → qP := fun j => if j = n then p else R j
theorem HH_R {P : qPs} {Hs : qHs} {T : qTs} {L : qLs} {S : qSs} {V : qVs} {ms : qms} {mr : qmr} {mm : qmm} {ml : qml} {mt : qmt} : ∀ j, j < 8 → PosF (HH P Hs T L S V ms mr mm ml mt) (11 + 2 * j) (Hs.1 j)
  | 0, _ => ⟨rfl, rfl⟩
  | 1, _ => ⟨rfl, rfl⟩
  | 2, _ => ⟨rfl, rfl⟩
  | 3, _ => ⟨rfl, rfl⟩
  | 4, _ => ⟨rfl, rfl⟩
  | 5, _ => ⟨rfl, rfl⟩
  | 6, _ => ⟨rfl, rfl⟩
  | 7, _ => ⟨rfl, rfl⟩
  | j + 8, h => absurd h (by omega)
theorem HH_push {P : qPs} {R : Nat → qP} {sz : Nat} {T : qTs} {L : qLs} {S : qSs} {V : qVs} {ms : qms} {mr : qmr} {mm : qmm} {ml : qml} {mt : qmt} {p : qP} {n2 s2 : Nat} : ∀ nx, nx < 8 → (setP (HH P (R, nx, sz) T L S V ms mr mm ml mt) (11 + 2 * nx) p).set 9 (qHi n2 s2) = HH P (qUR R nx p, n2, s2) T L S V ms mr mm ml mt
  | 0, _ => rfl
  | 1, _ => rfl
  | 2, _ => rfl
  | 3, _ => rfl
  | 4, _ => rfl
  | 5, _ => rfl
  | 6, _ => rfl
  | 7, _ => rfl
  | j + 8, h => absurd h (by omega)
theorem HH_hist {P : qPs} {R : Nat → qP} {nx sz : Nat} {T : qTs} {L : qLs} {S : qSs} {V : qVs} {ms : qms} {mr : qmr} {mm : qmm} {ml : qml} {mt : qmt} : HistA (HH P (R, nx, sz) T L S V ms mr mm ml mt) R nx sz := ⟨rfl, rfl, fun j hj => HH_R (Hs := (R, nx, sz)) j hj⟩
set_option maxHeartbeats 4000000 in
set_option maxRecDepth 100000 in
theorem okX5_refuse {a b c d : qP} {Hs : qHs} {T : qTs} {L : qLs} {S : qSs} {ms : qms} {mr : qmr} {mm : qmm} {ml : qml} {mt : qmt} {sv : Bool} {cm r1 d1 f1 : Int32} (x y : Int32) : Ok MX5_refuse [.ref 0, .int x, .int y] (HH (a, b, c, d) Hs T L S (sv, cm, r1, d1, f1) ms mr mm ml mt) (some (.int (-3))) (HH (a, b, c, d) Hs T L S (sv, cm, x, y, cm) ms mr mm ml mt) := by
  refine ok_of (by decide +kernel) (Nat.zero_le _) (Nat.le_of_ble_eq_true rfl) ?_
  intro X C E
  show Ex X MX5_refuse 0 [(0, .ref 0), (1, .int x), (2, .int y)] [] (HH (a, b, c, d) Hs T L S (sv, cm, r1, d1, f1) ms mr mm ml mt)
  refine x_aload_n C dX5_refuse_0 rfl ?_
  refine x_iload_n C dX5_refuse_1 rfl ?_
  refine x_putfield C qk5 13 (by decide) lfX5_219 rfl (ty0 := .int) (by decide +kernel) rfl rfl dX5_refuse_2 rfl (Nat.le_of_ble_eq_true rfl) ?_
  refine x_aload_n C dX5_refuse_5 rfl ?_
  refine x_iload_n C dX5_refuse_6 rfl ?_
  refine x_putfield C qk5 14 (by decide) lfX5_222 rfl (ty0 := .int) (by decide +kernel) rfl rfl dX5_refuse_7 rfl (Nat.le_of_ble_eq_true rfl) ?_
  refine x_aload_n C dX5_refuse_10 rfl ?_
  refine x_aload_n C dX5_refuse_11 rfl ?_
  refine x_getfield C qk5 12 (by decide) lfX5_63 dX5_refuse_12 rfl rfl ?_
  refine x_putfield C qk5 15 (by decide) lfX5_225 rfl (ty0 := .int) (by decide +kernel) rfl rfl dX5_refuse_15 rfl (Nat.le_of_ble_eq_true rfl) ?_
  refine x_bipush C (v := (-3)) dX5_refuse_18 (by decide +kernel) ?_
  exact x_iret E .int dX5_refuse_20 rfl rfl rfl rfl
set_option maxHeartbeats 4000000 in
set_option maxRecDepth 100000 in
theorem okX5_keep_n {a b c d : qP} {Hs : qHs} {T : qTs} {L : qLs} {S : qSs} {V : qVs} {ms : qms} {mr : qmr} {mm : qmm} {ml : qml} {mt : qmt} {x : Int32} (hx : x < 0) : Ok MX5_keep [.ref 0, .int x] (HH (a, b, c, d) Hs T L S V ms mr mm ml mt) (some (.int x)) (HH (a, b, c, d) Hs T L S V ms mr mm ml mt) := by
  refine ok_of (by decide +kernel) (Nat.zero_le _) (Nat.le_of_ble_eq_true rfl) ?_
  intro X C E
  show Ex X MX5_keep 0 [(0, .ref 0), (1, .int x)] [] (HH (a, b, c, d) Hs T L S V ms mr mm ml mt)
  refine x_iload_n C dX5_keep_0 rfl ?_
  refine x_if_lt C 15 dX5_keep_1 (by decide) (fun c1 => ?_) (fun c1 => ?_)
  · refine x_iload_n C dX5_keep_15 rfl ?_
    exact x_iret E .int dX5_keep_16 rfl rfl rfl rfl
  · exact absurd hx c1
set_option maxHeartbeats 4000000 in
set_option maxRecDepth 100000 in
theorem okX5_keep {a b c d : qP} {T : qTs} {L : qLs} {S : qSs} {V : qVs} {ms : qms} {mr : qmr} {mm : qmm} {ml : qml} {mt : qmt} {R : Nat → qP} {nx sz : Nat} (hn : nx < 8) (hsz : sz ≤ 8) (hR : ∀ j, j < 8 → Bd (R j).1) (hb : Bd b.1) {n : Nat} (hn2 : n < 2147483648) : Ok MX5_keep [.ref 0, .int (nI n)] (HH (a, b, c, d) (R, nx, sz) T L S V ms mr mm ml mt) (some (.int (nI n))) (HH (a, b, c, d) (qUR R nx b, nxt nx, szt sz) T L S V ms mr mm ml mt) := by
  refine ok_of (by decide +kernel) (Nat.zero_le _) (Nat.le_of_ble_eq_true rfl) ?_
  intro X C E
  show Ex X MX5_keep 0 [(0, .ref 0), (1, .int (nI n))] [] (HH (a, b, c, d) (R, nx, sz) T L S V ms mr mm ml mt)
  refine x_iload_n C dX5_keep_0 rfl ?_
  refine x_if_ltN C 15 dX5_keep_1 (by decide) (by omega) ?_
  refine x_aload_n C dX5_keep_4 rfl ?_
  refine x_getfield C qk5 5 (by decide) lfX5_28 dX5_keep_5 rfl rfl ?_
  refine x_aload_n C dX5_keep_8 rfl ?_
  refine x_getfield C qk5 1 (by decide) lfX5_16 dX5_keep_9 rfl rfl ?_
  refine x_callV1v C (okX0_push HH_hist hn hsz (show PosF _ 3 b from ⟨rfl, rfl⟩) hR hb (by decide)) lkX5_216 miX0_push msX0_push maX0_push ⟨Nat.le_of_ble_eq_true rfl, Nat.le_of_ble_eq_true rfl⟩ (Nat.le_of_ble_eq_true rfl) rfl rfl dX5_keep_12 ?_
  refine x_heap (HH_push nx hn) ?_
  refine x_iload_n C dX5_keep_15 rfl ?_
  exact x_iret E .int dX5_keep_16 rfl rfl rfl rfl
set_option maxHeartbeats 4000000 in
set_option maxRecDepth 100000 in
theorem okX5_countKind {a b c d : qP} {Hs : qHs} {L : qLs} {S : qSs} {V : qVs} {ms : qms} {mr : qmr} {mm : qmm} {ml : qml} {mt : qmt} {Tm Tk : Nat → Int32} {ta mc : Nat → Nat} {k : Nat} (hk : k ≤ 3) : Ok MX5_countKind [.ref 0, .int (nI k)] (HH (a, b, c, d) Hs (Tm, Tk, ta, mc) L S V ms mr mm ml mt) (none) (HH (a, b, c, d) Hs (Tm, Tk, up ta k (ta k + 1), mc) L S V ms mr mm ml mt) := by
  refine ok_of (by decide +kernel) (Nat.zero_le _) (Nat.le_of_ble_eq_true rfl) ?_
  intro X C E
  show Ex X MX5_countKind 0 [(0, .ref 0), (1, .int (nI k))] [] (HH (a, b, c, d) Hs (Tm, Tk, ta, mc) L S V ms mr mm ml mt)
  refine x_iload_n C dX5_countKind_0 rfl ?_
  refine x_if_ltN C 19 dX5_countKind_1 (by decide) (by omega) ?_
  refine x_iload_n C dX5_countKind_4 rfl ?_
  refine x_iconst C (v := nI 4) dX5_countKind_5 (by decide +kernel) ?_
  refine x_icmp_geN C 19 dX5_countKind_6 (by decide) (by omega) (by omega) (fun c6 => ?_) (fun c6 => ?_)
  · exact absurd c6 (by omega)
  · refine x_aload_n C dX5_countKind_9 rfl ?_
    refine x_getfield C qk5 8 (by decide) lfX5_42 dX5_countKind_10 rfl rfl ?_
    refine x_iload_n C dX5_countKind_13 rfl ?_
    refine x_dup2 C rfl rfl dX5_countKind_14 ?_
    refine x_iald C dX5_countKind_15 rfl (by omega) (by decide) ?_
    refine x_iconst C (v := nI 1) dX5_countKind_16 (by decide +kernel) ?_
    refine x_iaddN C dX5_countKind_17 ?_
    refine x_istb C dX5_countKind_18 rfl (by omega) (by decide) ?_
    exact x_vret E dX5_countKind_19 rfl rfl rfl
def zt (ta : Nat → Nat) (n : Nat) : Nat → Nat := fun k => if k < n then 0 else ta k
theorem zt_0 (ta : Nat → Nat) : zt ta 0 = ta := by funext k; simp [zt]
theorem zt_s (ta : Nat → Nat) (n : Nat) : up (zt ta n) n 0 = zt ta (n + 1) := by
  funext k
  by_cases h : k = n
  · subst h; simp [up, zt]
  · by_cases h2 : k < n
    · have : k < n + 1 := by omega
      simp [up, zt, h, h2, this]
    · have : ¬ k < n + 1 := by omega
      simp [up, zt, h, h2, this]
def tlI (b : Nat → Nat) (f : Nat) : Nat → (Nat → Nat) → (Nat → Nat)
  | 0, u => u
  | n + 1, u => if movP b f n = true then up (tlI b f n u) (kindB (aft b f n)) (tlI b f n u (kindB (aft b f n)) + 1) else tlI b f n u
def tlO (b : Nat → Nat) : Nat → (Nat → Nat) → (Nat → Nat)
  | 0, u => u
  | n + 1, u => tlI b n 25 (tlO b n u)
theorem PosA_now {a b c d : qP} {Hs : qHs} {T : qTs} {L : qLs} {S : qSs} {V : qVs} {ms : qms} {mr : qmr} {mm : qmm} {ml : qml} {mt : qmt} : PosA (HH (a, b, c, d) Hs T L S V ms mr mm ml mt) 1 a.1 := ⟨⟨_, _, _, _, rfl⟩, rfl⟩
theorem PosA_trial {a b c d : qP} {Hs : qHs} {T : qTs} {L : qLs} {S : qSs} {V : qVs} {ms : qms} {mr : qmr} {mm : qmm} {ml : qml} {mt : qmt} : PosA (HH (a, b, c, d) Hs T L S V ms mr mm ml mt) 5 c.1 := ⟨⟨_, _, _, _, rfl⟩, rfl⟩
set_option maxHeartbeats 4000000 in
set_option maxRecDepth 100000 in
theorem okX5_fillTally {a b c d : qP} {Hs : qHs} {L : qLs} {S : qSs} {V : qVs} {ms : qms} {mr : qmr} {mm : qmm} {ml : qml} {mt : qmt} {Tm Tk : Nat → Int32} {ta mc : Nat → Nat} (ha : ∀ i, a.1 i < 8) : Ok MX5_fillTally [.ref 0] (HH (a, b, c, d) Hs (Tm, Tk, ta, mc) L S V ms mr mm ml mt) (none) (HH (a, b, c, d) Hs (Tm, Tk, tlO a.1 25 (zt ta 4), mc) L S V ms mr mm ml mt) := by
  refine ok_of (by decide +kernel) (Nat.zero_le _) (Nat.le_of_ble_eq_true rfl) ?_
  intro X C E
  show Ex X MX5_fillTally 0 [(0, .ref 0)] [] (HH (a, b, c, d) Hs (Tm, Tk, ta, mc) L S V ms mr mm ml mt)
  have L1 : ∀ n f : Nat, f + n = 25 → Ex X MX5_fillTally 22 [(0, .ref 0), (1, .int (nI f))] [] (HH (a, b, c, d) Hs (Tm, Tk, tlO a.1 f (zt ta 4), mc) L S V ms mr mm ml mt) := by
    intro n
    induction n with
    | zero =>
      intro f hf
      have e : f = 25 := by omega
      subst e
      refine x_iload_n C dX5_fillTally_22 rfl ?_
      refine x_bipush C (v := nI 25) dX5_fillTally_23 (by decide +kernel) ?_
      refine x_icmp_geN C 78 dX5_fillTally_25 (by decide) (by omega) (by omega) (fun c25 => ?_) (fun c25 => ?_)
      · exact x_vret E dX5_fillTally_78 rfl rfl rfl
      · exact absurd c25 (by omega)
    | succ n ih =>
      intro f hf
      have hfl : f < 25 := by omega
      have L2 : ∀ j t : Nat, t + j = 25 → Ex X MX5_fillTally 39 [(0, .ref 0), (1, .int (nI f)), (2, .int (mask (movP a.1 f))), (3, .int (nI t))] [] (HH (a, b, c, d) Hs (Tm, Tk, tlI a.1 f t (tlO a.1 f (zt ta 4)), mc) L S V ms mr mm ml mt) := by
        intro j
        induction j with
        | zero =>
          intro t ht
          have e : t = 25 := by omega
          subst e
          refine x_iload_n C dX5_fillTally_39 rfl ?_
          refine x_bipush C (v := nI 25) dX5_fillTally_40 (by decide +kernel) ?_
          refine x_icmp_geN C 72 dX5_fillTally_42 (by decide) (by omega) (by omega) (fun c42 => ?_) (fun c42 => ?_)
          · refine x_iinc C _ dX5_fillTally_72 rfl (q_inc _) (by decide) [(1, _), (0, _), (2, _), (3, _)] rfl ?_
            refine x_goto C 22 dX5_fillTally_75 (by decide) ?_
            exact x_sub [1, 0] (ih (f + 1) (by omega)) rfl
          · exact absurd c42 (by omega)
        | succ j ih2 =>
          intro t ht
          have htl : t < 25 := by omega
          have hk3 := kindB_le (aft a.1 f t)
          refine x_iload_n C dX5_fillTally_39 rfl ?_
          refine x_bipush C (v := nI 25) dX5_fillTally_40 (by decide +kernel) ?_
          refine x_icmp_geN C 72 dX5_fillTally_42 (by decide) (by omega) (by omega) (fun c42 => ?_) (fun c42 => ?_)
          · exact absurd c42 (by omega)
          · refine x_iload_n C dX5_fillTally_45 rfl ?_
            refine x_iload_n C dX5_fillTally_46 rfl ?_
            refine x_callS2i C (okX5_hasSquare _ htl _) lkX5_278 miX5_hasSquare mtX5_hasSquare maX5_hasSquare ⟨Nat.le_of_ble_eq_true rfl, Nat.le_of_ble_eq_true rfl⟩ (Nat.le_of_ble_eq_true rfl) dX5_fillTally_47 ?_
            refine x_if_eqB C 66 dX5_fillTally_50 (by decide) (fun c50 => ?_) (fun c50 => ?_)
            · rw [show tlI a.1 f t (tlO a.1 f (zt ta 4)) = tlI a.1 f (t + 1) (tlO a.1 f (zt ta 4)) by simp only [tlI]; rw [if_neg (by rw [c50]; decide)]]
              refine x_iinc C _ dX5_fillTally_66 rfl (q_inc _) (by decide) [(3, _), (0, _), (1, _), (2, _)] rfl ?_
              refine x_goto C 39 dX5_fillTally_69 (by decide) ?_
              exact x_sub [1, 2, 3, 0] (ih2 (t + 1) (by omega)) rfl
            · refine x_aload_n C dX5_fillTally_53 rfl ?_
              refine x_aload_n C dX5_fillTally_54 rfl ?_
              refine x_getfield C qk5 0 (by decide) lfX5_12 dX5_fillTally_55 rfl rfl ?_
              refine x_iload_n C dX5_fillTally_58 rfl ?_
              refine x_iload_n C dX5_fillTally_59 rfl ?_
              refine x_callV2i C (okX3_kindOfMove PosA_now ha hfl htl) lkX5_149 miX3_kindOfMove msX3_kindOfMove maX3_kindOfMove ⟨Nat.le_of_ble_eq_true rfl, Nat.le_of_ble_eq_true rfl⟩ (Nat.le_of_ble_eq_true rfl) rfl rfl dX5_fillTally_60 ?_
              refine x_callV1v C (okX5_countKind hk3) lkX5_281 miX5_countKind msX5_countKind maX5_countKind ⟨Nat.le_of_ble_eq_true rfl, Nat.le_of_ble_eq_true rfl⟩ (Nat.le_of_ble_eq_true rfl) rfl rfl dX5_fillTally_63 ?_
              refine x_heap (h2 := HH (a, b, c, d) Hs (Tm, Tk, tlI a.1 f (t + 1) (tlO a.1 f (zt ta 4)), mc) L S V ms mr mm ml mt) (by rw [show tlI a.1 f (t + 1) (tlO a.1 f (zt ta 4)) = _ by simp only [tlI]; rw [if_pos c50]]) ?_
              refine x_iinc C _ dX5_fillTally_66 rfl (q_inc _) (by decide) [(3, _), (0, _), (1, _), (2, _)] rfl ?_
              refine x_goto C 39 dX5_fillTally_69 (by decide) ?_
              exact x_sub [1, 2, 3, 0] (ih2 (t + 1) (by omega)) rfl
      refine x_iload_n C dX5_fillTally_22 rfl ?_
      refine x_bipush C (v := nI 25) dX5_fillTally_23 (by decide +kernel) ?_
      refine x_icmp_geN C 78 dX5_fillTally_25 (by decide) (by omega) (by omega) (fun c25 => ?_) (fun c25 => ?_)
      · exact absurd c25 (by omega)
      · refine x_aload_n C dX5_fillTally_28 rfl ?_
        refine x_getfield C qk5 0 (by decide) lfX5_12 dX5_fillTally_29 rfl rfl ?_
        refine x_iload_n C dX5_fillTally_32 rfl ?_
        refine x_callV1i C (okX3_movesFrom PosA_now ha hfl) lkX5_114 miX3_movesFrom msX3_movesFrom maX3_movesFrom ⟨Nat.le_of_ble_eq_true rfl, Nat.le_of_ble_eq_true rfl⟩ (Nat.le_of_ble_eq_true rfl) rfl rfl dX5_fillTally_33 ?_
        refine x_istore_n C dX5_fillTally_36 (by decide) [(2, _), (0, _), (1, _)] rfl ?_
        refine x_iconst C (v := nI 0) dX5_fillTally_37 (by decide +kernel) ?_
        refine x_istore_n C dX5_fillTally_38 (by decide) [(3, _), (2, _), (0, _), (1, _)] rfl ?_
        exact x_sub [2, 3, 1, 0] (L2 25 0 (by omega)) rfl
  have L0 : ∀ n i : Nat, i + n = 4 → Ex X MX5_fillTally 2 [(0, .ref 0), (1, .int (nI i))] [] (HH (a, b, c, d) Hs (Tm, Tk, zt ta i, mc) L S V ms mr mm ml mt) := by
    intro n
    induction n with
    | zero =>
      intro i hi
      have e : i = 4 := by omega
      subst e
      refine x_iload_n C dX5_fillTally_2 rfl ?_
      refine x_iconst C (v := nI 4) dX5_fillTally_3 (by decide +kernel) ?_
      refine x_icmp_geN C 20 dX5_fillTally_4 (by decide) (by omega) (by omega) (fun c4 => ?_) (fun c4 => ?_)
      · refine x_iconst C (v := nI 0) dX5_fillTally_20 (by decide +kernel) ?_
        refine x_istore_n C dX5_fillTally_21 (by decide) [(1, _), (0, _)] rfl ?_
        exact x_sub [1, 0] (L1 25 0 (by omega)) rfl
      · exact absurd c4 (by omega)
    | succ n ih =>
      intro i hi
      have hil : i < 4 := by omega
      refine x_iload_n C dX5_fillTally_2 rfl ?_
      refine x_iconst C (v := nI 4) dX5_fillTally_3 (by decide +kernel) ?_
      refine x_icmp_geN C 20 dX5_fillTally_4 (by decide) (by omega) (by omega) (fun c4 => ?_) (fun c4 => ?_)
      · exact absurd c4 (by omega)
      · refine x_aload_n C dX5_fillTally_7 rfl ?_
        refine x_getfield C qk5 8 (by decide) lfX5_42 dX5_fillTally_8 rfl rfl ?_
        refine x_iload_n C dX5_fillTally_11 rfl ?_
        refine x_iconst C (v := nI 0) dX5_fillTally_12 (by decide +kernel) ?_
        refine x_istb C dX5_fillTally_13 rfl (by omega) (by decide) ?_
        rw [zt_s]
        refine x_heap (h2 := HH (a, b, c, d) Hs (Tm, Tk, zt ta (i + 1), mc) L S V ms mr mm ml mt) (by rfl) ?_
        refine x_iinc C _ dX5_fillTally_14 rfl (q_inc _) (by decide) [(1, _), (0, _)] rfl ?_
        refine x_goto C 2 dX5_fillTally_17 (by decide) ?_
        exact x_sub [1, 0] (ih (i + 1) (by omega)) rfl
  refine x_iconst C (v := nI 0) dX5_fillTally_0 (by decide +kernel) ?_
  refine x_istore_n C dX5_fillTally_1 (by decide) [(1, _), (0, _)] rfl ?_
  have h0 := L0 4 0 (by omega)
  rw [zt_0] at h0
  exact x_sub [1, 0] h0 rfl
