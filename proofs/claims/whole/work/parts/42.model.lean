/-! the reference: small things, copies -/
abbrev yAC : MethodName := ⟨"java/lang/System", "arraycopy", "(Ljava/lang/Object;ILjava/lang/Object;II)V"⟩
theorem lkX6_45 : Cond.methodLink RX6 45 yAC ∈ qT := qT_in 845 (by decide +kernel) rfl
theorem ntAC : Cond.native yAC ∈ qT := qT_in 847 (by decide +kernel) rfl
theorem mtAC : Cond.static yAC ∈ qT := qT_in 846 (by decide +kernel) rfl
theorem inAC : Cond.initialized "java/lang/System" ∈ qT := qT_in 62 (by decide +kernel) rfl
def cpB (f g : Nat → Nat) (sp dp n : Nat) : Nat → Nat := fun k => if dp ≤ k ∧ k < dp + n then f (sp + (k - dp)) else g k
theorem cpB_nb (f g : Nat → Nat) (sp dp n : Nat) : va_cpy (nb f) (nb g) sp dp n = nb (cpB f g sp dp n) := by
  funext k
  simp only [va_cpy, nb, cpB]
  split <;> rfl
theorem x_copy {X : qX} {M : qM} (C : qC X M) {pc : Nat} {loc : List (Nat × Value)} {st : List Value} {h : qH} {idx a0 a1 n0 n1 sp dp n : Nat} {f g : Nat → Nat} (hlk : Cond.methodLink M.1.cls idx yAC ∈ qT) (hR : 1 ≤ M.2.2.2.2.frames ∧ 8 + 18 ≤ M.2.2.2.2.locals) (hw : (st.map fun v => v.category).sum ≤ 8) (h0 : h[a0]? = some (.inl (0, n0, .inl (nb f)))) (h1 : h[a1]? = some (.inl (0, n1, .inl (nb g)))) (hs : sp + n ≤ n0) (hd1 : dp + n ≤ n1) (hn0 : n0 < 2147483648) (hn1 : n1 < 2147483648) (hd : decode M.2.1 pc = .ok (.invokestatic idx, 3)) (kk : Ex X M (pc + 3) loc st (h.set a1 (.inl (0, n1, .inl (nb (cpB f g sp dp n)))))) : Ex X M pc loc (.int (nI n) :: .int (nI dp) :: .ref a1 :: .int (nI sp) :: .ref a0 :: st) h := by
  obtain ⟨p, l, e, s, m, args, below, meth, c, ad, cy, D, A, cells, slots, len, Q⟩ := X
  obtain ⟨hx, hb, hml, hown, hts, hA, hG, hce, hso⟩ := C
  intro H locs ls hlen hP hD hS hl
  refine va_copyi hx hb (hml.trans hl.1.symm) hown (hts _ hlk) (hts _ ntAC) (hts _ mtAC) (hts _ inAC) hG.1 hP hD hS a0 a1 0 0 (q_w_get h0) (q_w_get h1) rfl rfl rfl (nI_pos (by omega)) (nI_pos (by omega)) (nI_pos (by omega)) (by rw [nI_clamp (by omega), nI_clamp (by omega)]; exact hs) (by rw [nI_clamp (by omega), nI_clamp (by omega)]; exact hd1) (fun _ _ => rfl) hR.1 (q_cats (n := 18) hw hR.2) hd (fun H1 locs1 hP1 hD1 hS1 => ?_)
  rw [nI_clamp (by omega), nI_clamp (by omega), nI_clamp (by omega), cpB_nb] at hP1 hD1
  have e : (ad a1, (Sum.inl (cy 0, n1, Sum.inl (nb (cpB f g sp dp n))) : va_E)) = (ad a1, q_e ad cy (.inl (0, n1, .inl (nb (cpB f g sp dp n))))) := rfl
  rw [e, q_w_set] at hP1 hD1
  exact kk H1 locs1 ls (by rw [List.length_set]; exact hlen) hP1 hD1 hS1 hl
def inB (x lo hi : Int32) : Bool := !decide (x < lo) && !decide (hi < x)
set_option maxHeartbeats 4000000 in
set_option maxRecDepth 100000 in
theorem okX6_in (x lo hi : Int32) (h : qH) : Ok MX6_in [.int x, .int lo, .int hi] (h) (some (.int (qb (inB x lo hi)))) (h) := by
  refine ok_of (by decide +kernel) (Nat.zero_le _) (Nat.le_of_ble_eq_true rfl) ?_
  intro X C E
  show Ex X MX6_in 0 [(0, .int x), (1, .int lo), (2, .int hi)] [] (h)
  refine x_iload_n C dX6_in_0 rfl ?_
  refine x_iload_n C dX6_in_1 rfl ?_
  refine x_icmp_lt C 14 dX6_in_2 (by decide) (fun c2 => ?_) (fun c2 => ?_)
  · refine x_iconst C (v := nI 0) dX6_in_14 (by decide +kernel) ?_
    exact x_iret E .boolean dX6_in_15 rfl rfl (by simp only [inB, c2, decide_true, Bool.not_true, Bool.false_and]; rfl) rfl
  · refine x_iload_n C dX6_in_5 rfl ?_
    refine x_iload_n C dX6_in_6 rfl ?_
    refine x_icmp_gt C 14 dX6_in_7 (by decide) (fun c7 => ?_) (fun c7 => ?_)
    · refine x_iconst C (v := nI 0) dX6_in_14 (by decide +kernel) ?_
      exact x_iret E .boolean dX6_in_15 rfl rfl (by simp only [inB, c2, c7, decide_true, decide_false, Bool.not_true, Bool.not_false, Bool.and_false]; rfl) rfl
    · refine x_iconst C (v := nI 1) dX6_in_10 (by decide +kernel) ?_
      refine x_goto C 15 dX6_in_11 (by decide) ?_
      exact x_iret E .boolean dX6_in_15 rfl rfl (by simp only [inB, c2, c7, decide_true, decide_false, Bool.not_true, Bool.not_false, Bool.and_self]; rfl) rfl
theorem i32_lt1 {x : Int32} {n : Nat} (hn : n + 1 < 2147483648) : nI n < x ↔ nI (n + 1) ≤ x := by
  rw [Int32.lt_iff_toInt_lt, Int32.le_iff_toInt_le, nI_toInt (by omega), nI_toInt (by omega)]
  omega
theorem inB_sq (x : Int32) : inB x (nI 0) (nI 24) = isSq x := by
  unfold inB isSq
  rw [decide_eq_decide.mpr (i32_lt1 (x := x) (n := 24) (by decide))]
  rfl
theorem inB_nI {m a b : Nat} (hm : m < 2147483648) (ha : a < 2147483648) (hb : b < 2147483648) : inB (nI m) (nI a) (nI b) = decide (a ≤ m ∧ m ≤ b) := by
  unfold inB
  rw [show decide (nI m < nI a) = decide (m < a) from decide_eq_decide.mpr (nI_ltI hm ha), show decide (nI b < nI m) = decide (b < m) from decide_eq_decide.mpr (nI_ltI hb hm)]
  by_cases h1 : m < a <;> by_cases h2 : b < m <;> simp [h1, h2] <;> omega
set_option maxHeartbeats 4000000 in
set_option maxRecDepth 100000 in
theorem okX6_isSquare (x : Int32) (h : qH) : Ok MX6_isSquare [.int x] (h) (some (.int (qb (isSq x)))) (h) := by
  refine ok_of (by decide +kernel) (Nat.zero_le _) (Nat.le_of_ble_eq_true rfl) ?_
  intro X C E
  show Ex X MX6_isSquare 0 [(0, .int x)] [] (h)
  refine x_iload_n C dX6_isSquare_0 rfl ?_
  refine x_iconst C (v := nI 0) dX6_isSquare_1 (by decide +kernel) ?_
  refine x_bipush C (v := nI 24) dX6_isSquare_2 (by decide +kernel) ?_
  refine x_callS3i C (okX6_in _ _ _ _) lkX6_60 miX6_in mtX6_in maX6_in ⟨Nat.le_of_ble_eq_true rfl, Nat.le_of_ble_eq_true rfl⟩ (Nat.le_of_ble_eq_true rfl) dX6_isSquare_4 ?_
  rw [inB_sq]
  exact x_iret E .boolean dX6_isSquare_7 rfl (qb_nar _) rfl rfl
set_option maxHeartbeats 4000000 in
set_option maxRecDepth 100000 in
theorem okX6_isWhite (m : Nat) (hm : m < 2147483648) (h : qH) : Ok MX6_isWhite [.int (nI m)] (h) (some (.int (qb (isW m)))) (h) := by
  refine ok_of (by decide +kernel) (Nat.zero_le _) (Nat.le_of_ble_eq_true rfl) ?_
  intro X C E
  show Ex X MX6_isWhite 0 [(0, .int (nI m))] [] (h)
  refine x_iload_n C dX6_isWhite_0 rfl ?_
  refine x_iconst C (v := nI 1) dX6_isWhite_1 (by decide +kernel) ?_
  refine x_iconst C (v := nI 5) dX6_isWhite_2 (by decide +kernel) ?_
  refine x_callS3i C (okX6_in _ _ _ _) lkX6_60 miX6_in mtX6_in maX6_in ⟨Nat.le_of_ble_eq_true rfl, Nat.le_of_ble_eq_true rfl⟩ (Nat.le_of_ble_eq_true rfl) dX6_isWhite_3 ?_
  rw [inB_nI hm (by decide) (by decide), show decide (1 ≤ m ∧ m ≤ 5) = isW m by unfold isW; simp]
  exact x_iret E .boolean dX6_isWhite_6 rfl (qb_nar _) rfl rfl
theorem HM_s {P : qPs} {Hs : qHs} {T : qTs} {L : qLs} {S : qSs} {V : qVs} {s bf sv past : Nat → Nat} {isv : Bool} {pm : Nat} {mr : qmr} {mm : qmm} {ml : qml} {mt : qmt} : (HH P Hs T L S V (s, bf, sv, past, isv, pm) mr mm ml mt)[41]? = some (qB0 29 s) := rfl
theorem HM_bf {P : qPs} {Hs : qHs} {T : qTs} {L : qLs} {S : qSs} {V : qVs} {s bf sv past : Nat → Nat} {isv : Bool} {pm : Nat} {mr : qmr} {mm : qmm} {ml : qml} {mt : qmt} : (HH P Hs T L S V (s, bf, sv, past, isv, pm) mr mm ml mt)[42]? = some (qB0 29 bf) := rfl
theorem HM_sv {P : qPs} {Hs : qHs} {T : qTs} {L : qLs} {S : qSs} {V : qVs} {s bf sv past : Nat → Nat} {isv : Bool} {pm : Nat} {mr : qmr} {mm : qmm} {ml : qml} {mt : qmt} : (HH P Hs T L S V (s, bf, sv, past, isv, pm) mr mm ml mt)[43]? = some (qB0 29 sv) := rfl
theorem HM_past {P : qPs} {Hs : qHs} {T : qTs} {L : qLs} {S : qSs} {V : qVs} {s bf sv past : Nat → Nat} {isv : Bool} {pm : Nat} {mr : qmr} {mm : qmm} {ml : qml} {mt : qmt} : (HH P Hs T L S V (s, bf, sv, past, isv, pm) mr mm ml mt)[44]? = some (qB0 232 past) := rfl
theorem HM_mv {P : qPs} {Hs : qHs} {T : qTs} {L : qLs} {S : qSs} {V : qVs} {ms : qms} {mr : qmr} {mv ks tn : Nat → Nat} {mn : Nat} {ml : qml} {mt : qmt} : (HH P Hs T L S V ms mr (mv, mn, ks, tn) ml mt)[45]? = some (qB0 300 mv) := rfl
theorem HM_ks {P : qPs} {Hs : qHs} {T : qTs} {L : qLs} {S : qSs} {V : qVs} {ms : qms} {mr : qmr} {mv ks tn : Nat → Nat} {mn : Nat} {ml : qml} {mt : qmt} : (HH P Hs T L S V ms mr (mv, mn, ks, tn) ml mt)[46]? = some (qB0 300 ks) := rfl
theorem HM_tn {P : qPs} {Hs : qHs} {T : qTs} {L : qLs} {S : qSs} {V : qVs} {ms : qms} {mr : qmr} {mv ks tn : Nat → Nat} {mn : Nat} {ml : qml} {mt : qmt} : (HH P Hs T L S V ms mr (mv, mn, ks, tn) ml mt)[47]? = some (qB0 25 tn) := rfl
theorem HM_ln {P : qPs} {Hs : qHs} {T : qTs} {L : qLs} {S : qSs} {V : qVs} {ms : qms} {mr : qmr} {mm : qmm} {ln : Nat → Nat} {lm : Nat} {mt : qmt} : (HH P Hs T L S V ms mr mm (ln, lm) mt)[48]? = some (qB1 40 ln) := rfl
theorem HM_tx {P : qPs} {Hs : qHs} {T : qTs} {L : qLs} {S : qSs} {V : qVs} {ms : qms} {mr : qmr} {mm : qmm} {ml : qml} {tx od : Nat → Nat} {n a o : Nat} {wr : Bool} : (HH P Hs T L S V ms mr mm ml (tx, n, a, wr, od, o))[49]? = some (qB1 70 tx) := rfl
theorem HM_od {P : qPs} {Hs : qHs} {T : qTs} {L : qLs} {S : qSs} {V : qVs} {ms : qms} {mr : qmr} {mm : qmm} {ml : qml} {tx od : Nat → Nat} {n a o : Nat} {wr : Bool} : (HH P Hs T L S V ms mr mm ml (tx, n, a, wr, od, o))[50]? = some (qB0 210 od) := rfl
/-- the last place of a kind among the first n -/
def whR (s : Nat → Nat) (v : Nat) : Nat → Int32
  | 0 => -1
  | n + 1 => if s n = v then nI n else whR s v n
set_option maxHeartbeats 4000000 in
set_option maxRecDepth 100000 in
theorem okX6_where {P : qPs} {Hs : qHs} {T : qTs} {L : qLs} {S : qSs} {V : qVs} {mr : qmr} {mm : qmm} {ml : qml} {mt : qmt} {s bf sv past : Nat → Nat} {isv : Bool} {pm : Nat} (hs : ∀ i, i < 25 → s i < 8) (v : Nat) (hv : v < 100) : Ok MX6_where [.ref 40, .int (nI v)] (HH P Hs T L S V (s, bf, sv, past, isv, pm) mr mm ml mt) (some (.int (whR s v 25))) (HH P Hs T L S V (s, bf, sv, past, isv, pm) mr mm ml mt) := by
  refine ok_of (by decide +kernel) (Nat.zero_le _) (Nat.le_of_ble_eq_true rfl) ?_
  intro X C E
  show Ex X MX6_where 0 [(0, .ref 40), (1, .int (nI v))] [] (HH P Hs T L S V (s, bf, sv, past, isv, pm) mr mm ml mt)
  have LP : ∀ n i : Nat, i + n = 25 → Ex X MX6_where 4 [(0, .ref 40), (1, .int (nI v)), (2, .int (whR s v i)), (3, .int (nI i))] [] (HH P Hs T L S V (s, bf, sv, past, isv, pm) mr mm ml mt) := by
    intro n
    induction n with
    | zero =>
      intro i hin 
      have e : i = 25 := by omega
      subst e
      refine x_iload_n C dX6_where_4 rfl ?_
      refine x_bipush C (v := nI 25) dX6_where_5 (by decide +kernel) ?_
      refine x_icmp_geN C 32 dX6_where_7 (by decide) (by omega) (by omega) (fun c7 => ?_) (fun c7 => ?_)
      · refine x_iload_n C dX6_where_32 rfl ?_
        exact x_iret E .int dX6_where_33 rfl rfl rfl rfl
      · exact absurd c7 (by omega)
    | succ n ih =>
      intro i hin 
      have hlt : i < 25 := by omega
      have hsi := hs i hlt
      refine x_iload_n C dX6_where_4 rfl ?_
      refine x_bipush C (v := nI 25) dX6_where_5 (by decide +kernel) ?_
      refine x_icmp_geN C 32 dX6_where_7 (by decide) (by omega) (by omega) (fun c7 => ?_) (fun c7 => ?_)
      · exact absurd c7 (by omega)
      · refine x_aload_n C dX6_where_10 rfl ?_
        refine x_getfield C qk6 0 (by decide) lfX6_9 dX6_where_11 rfl rfl ?_
        refine x_iload_n C dX6_where_14 rfl ?_
        refine x_iald C dX6_where_15 HM_s (by omega) (by decide) ?_
        refine x_iload_n C dX6_where_16 rfl ?_
        refine x_icmp_neN C 24 dX6_where_17 (by decide) (by omega) (by omega) (fun c17 => ?_) (fun c17 => ?_)
        · have e2 : whR s v i = whR s v (i + 1) := by rw [whR, if_neg c17]
          refine x_iload_n C dX6_where_24 rfl ?_
          refine x_top e2 ?_
          refine x_istore_n C dX6_where_25 (by decide) [(2, _), (0, _), (1, _), (3, _)] rfl ?_
          refine x_iinc C _ dX6_where_26 rfl (q_inc _) (by decide) [(3, _), (2, _), (0, _), (1, _)] rfl ?_
          refine x_goto C 4 dX6_where_29 (by decide) ?_
          exact x_sub [2, 3, 1, 0] (ih (i + 1) (by omega)) rfl
        · have e2 : nI i = whR s v (i + 1) := by rw [whR, if_pos c17]
          refine x_iload_n C dX6_where_20 rfl ?_
          refine x_goto C 25 dX6_where_21 (by decide) ?_
          refine x_top e2 ?_
          refine x_istore_n C dX6_where_25 (by decide) [(2, _), (0, _), (1, _), (3, _)] rfl ?_
          refine x_iinc C _ dX6_where_26 rfl (q_inc _) (by decide) [(3, _), (2, _), (0, _), (1, _)] rfl ?_
          refine x_goto C 4 dX6_where_29 (by decide) ?_
          exact x_sub [2, 3, 1, 0] (ih (i + 1) (by omega)) rfl
  refine x_iconst C (v := (-1)) dX6_where_0 (by decide +kernel) ?_
  refine x_istore_n C dX6_where_1 (by decide) [(2, _), (0, _), (1, _)] rfl ?_
  refine x_iconst C (v := nI 0) dX6_where_2 (by decide +kernel) ?_
  refine x_istore_n C dX6_where_3 (by decide) [(3, _), (2, _), (0, _), (1, _)] rfl ?_
  exact x_sub [2, 3, 1, 0] (LP 25 0 (by omega)) rfl
def mnS (s : Nat → Nat) (i : Nat) : Bool := decide (s i ≠ 0)
set_option maxHeartbeats 4000000 in
set_option maxRecDepth 100000 in
theorem okX6_men {P : qPs} {Hs : qHs} {T : qTs} {L : qLs} {S : qSs} {V : qVs} {mr : qmr} {mm : qmm} {ml : qml} {mt : qmt} {s bf sv past : Nat → Nat} {isv : Bool} {pm : Nat} (hs : ∀ i, i < 25 → s i < 8) : Ok MX6_men [.ref 40] (HH P Hs T L S V (s, bf, sv, past, isv, pm) mr mm ml mt) (some (.int (nI (cnt (mnS s) 25)))) (HH P Hs T L S V (s, bf, sv, past, isv, pm) mr mm ml mt) := by
  refine ok_of (by decide +kernel) (Nat.zero_le _) (Nat.le_of_ble_eq_true rfl) ?_
  intro X C E
  show Ex X MX6_men 0 [(0, .ref 40)] [] (HH P Hs T L S V (s, bf, sv, past, isv, pm) mr mm ml mt)
  have LP : ∀ n i : Nat, i + n = 25 → Ex X MX6_men 4 [(0, .ref 40), (1, .int (nI (cnt (mnS s) i))), (2, .int (nI i))] [] (HH P Hs T L S V (s, bf, sv, past, isv, pm) mr mm ml mt) := by
    intro n
    induction n with
    | zero =>
      intro i hin 
      have e : i = 25 := by omega
      subst e
      refine x_iload_n C dX6_men_4 rfl ?_
      refine x_bipush C (v := nI 25) dX6_men_5 (by decide +kernel) ?_
      refine x_icmp_geN C 33 dX6_men_7 (by decide) (by omega) (by omega) (fun c7 => ?_) (fun c7 => ?_)
      · refine x_iload_n C dX6_men_33 rfl ?_
        exact x_iret E .int dX6_men_34 rfl rfl rfl rfl
      · exact absurd c7 (by omega)
    | succ n ih =>
      intro i hin 
      have hlt : i < 25 := by omega
      have hsi := hs i hlt
      refine x_iload_n C dX6_men_4 rfl ?_
      refine x_bipush C (v := nI 25) dX6_men_5 (by decide +kernel) ?_
      refine x_icmp_geN C 33 dX6_men_7 (by decide) (by omega) (by omega) (fun c7 => ?_) (fun c7 => ?_)
      · exact absurd c7 (by omega)
      · refine x_iload_n C dX6_men_10 rfl ?_
        refine x_aload_n C dX6_men_11 rfl ?_
        refine x_getfield C qk6 0 (by decide) lfX6_9 dX6_men_12 rfl rfl ?_
        refine x_iload_n C dX6_men_15 rfl ?_
        refine x_iald C dX6_men_16 HM_s (by omega) (by decide) ?_
        refine x_if_leN C 24 dX6_men_17 (by decide) (by omega) (fun c17 => ?_) (fun c17 => ?_)
        · have e1 : cnt (mnS s) i + 0 = cnt (mnS s) (i + 1) := by simp [cnt, mnS, c17]
          refine x_iconst C (v := nI 0) dX6_men_24 (by decide +kernel) ?_
          refine x_iaddN C dX6_men_25 ?_
          rw [e1]
          refine x_istore_n C dX6_men_26 (by decide) [(1, _), (0, _), (2, _)] rfl ?_
          refine x_iinc C _ dX6_men_27 rfl (q_inc _) (by decide) [(2, _), (1, _), (0, _)] rfl ?_
          refine x_goto C 4 dX6_men_30 (by decide) ?_
          exact x_sub [2, 1, 0] (ih (i + 1) (by omega)) rfl
        · have e1 : cnt (mnS s) i + 1 = cnt (mnS s) (i + 1) := by simp [cnt, mnS, c17]
          refine x_iconst C (v := nI 1) dX6_men_20 (by decide +kernel) ?_
          refine x_goto C 25 dX6_men_21 (by decide) ?_
          refine x_iaddN C dX6_men_25 ?_
          rw [e1]
          refine x_istore_n C dX6_men_26 (by decide) [(1, _), (0, _), (2, _)] rfl ?_
          refine x_iinc C _ dX6_men_27 rfl (q_inc _) (by decide) [(2, _), (1, _), (0, _)] rfl ?_
          refine x_goto C 4 dX6_men_30 (by decide) ?_
          exact x_sub [2, 1, 0] (ih (i + 1) (by omega)) rfl
  refine x_iconst C (v := nI 0) dX6_men_0 (by decide +kernel) ?_
  refine x_istore_n C dX6_men_1 (by decide) [(1, _), (0, _)] rfl ?_
  refine x_iconst C (v := nI 0) dX6_men_2 (by decide +kernel) ?_
  refine x_istore_n C dX6_men_3 (by decide) [(2, _), (1, _), (0, _)] rfl ?_
  exact x_sub [2, 1, 0] (LP 25 0 (by omega)) rfl
set_option maxHeartbeats 4000000 in
set_option maxRecDepth 100000 in
theorem okX6_refuse {P : qPs} {Hs : qHs} {T : qTs} {L : qLs} {S : qSs} {V : qVs} {mm : qmm} {ml : qml} {mt : qmt} {s bf sv past : Nat → Nat} {isv : Bool} {pm : Nat} {r1 d1 it lo : Int32} (x y : Int32) : Ok MX6_refuse [.ref 40, .int x, .int y] (HH P Hs T L S V (s, bf, sv, past, isv, pm) (r1, d1, it, lo) mm ml mt) (some (.int (-3))) (HH P Hs T L S V (s, bf, sv, past, isv, pm) (x, y, -4, lo) mm ml mt) := by
  refine ok_of (by decide +kernel) (Nat.zero_le _) (Nat.le_of_ble_eq_true rfl) ?_
  intro X C E
  show Ex X MX6_refuse 0 [(0, .ref 40), (1, .int x), (2, .int y)] [] (HH P Hs T L S V (s, bf, sv, past, isv, pm) (r1, d1, it, lo) mm ml mt)
  refine x_aload_n C dX6_refuse_0 rfl ?_
  refine x_iload_n C dX6_refuse_1 rfl ?_
  refine x_putfield C qk6 6 (by decide) lfX6_54 rfl (ty0 := .int) (by decide +kernel) rfl rfl dX6_refuse_2 rfl (Nat.le_of_ble_eq_true rfl) ?_
  refine x_aload_n C dX6_refuse_5 rfl ?_
  refine x_iload_n C dX6_refuse_6 rfl ?_
  refine x_putfield C qk6 7 (by decide) lfX6_57 rfl (ty0 := .int) (by decide +kernel) rfl rfl dX6_refuse_7 rfl (Nat.le_of_ble_eq_true rfl) ?_
  refine x_aload_n C dX6_refuse_10 rfl ?_
  refine x_bipush C (v := (-4)) dX6_refuse_11 (by decide +kernel) ?_
  refine x_putfield C qk6 8 (by decide) lfX6_22 rfl (ty0 := .int) (by decide +kernel) rfl rfl dX6_refuse_13 rfl (Nat.le_of_ble_eq_true rfl) ?_
  refine x_bipush C (v := (-3)) dX6_refuse_16 (by decide +kernel) ?_
  exact x_iret E .int dX6_refuse_18 rfl rfl rfl rfl
