/-! the line and the text -/
theorem x_tsw {X : qX} {M : qM} (C : qC X M) {pc : Nat} {loc : List (Nat × Value)} {st : List Value} {h : qH} {dflt lo hi : Int} {offs : Array Int} {n : Nat} {x : Int32} {off : Int} (tgt : Nat) (hd : decode M.2.1 pc = .ok (.tableswitch dflt lo hi offs, n)) (h1 : ¬ x.toInt < lo) (h2 : ¬ hi < x.toInt) (ho : offs[(x.toInt - lo).toNat]? = some off) (ht : (pc : Int) + off = (tgt : Int)) (kk : Ex X M tgt loc st h) : Ex X M pc loc (.int x :: st) h := by
  obtain ⟨p, l, e, s, m, args, below, meth, c, ad, cy, D, A, cells, slots, len, Q⟩ := X
  obtain ⟨hx, hb, hml, hown, hts, hA, hG, hce, hso⟩ := C
  intro H locs ls hlen hP hD hS hl
  exact lv_tableIn hx hb hd h1 h2 ho ht (kk H locs ls hlen hP hD hS hl)
theorem x_tswOut {X : qX} {M : qM} (C : qC X M) {pc : Nat} {loc : List (Nat × Value)} {st : List Value} {h : qH} {dflt lo hi : Int} {offs : Array Int} {n : Nat} {x : Int32} (tgt : Nat) (hd : decode M.2.1 pc = .ok (.tableswitch dflt lo hi offs, n)) (h1 : x.toInt < lo ∨ hi < x.toInt) (ht : (pc : Int) + dflt = (tgt : Int)) (kk : Ex X M tgt loc st h) : Ex X M pc loc (.int x :: st) h := by
  obtain ⟨p, l, e, s, m, args, below, meth, c, ad, cy, D, A, cells, slots, len, Q⟩ := X
  obtain ⟨hx, hb, hml, hown, hts, hA, hG, hce, hso⟩ := C
  intro H locs ls hlen hP hD hS hl
  exact lv_tableOut hx hb hd h1 ht (kk H locs ls hlen hP hD hS hl)
abbrev qL (n : Nat) : qE := .inr (1, [.ref 34, .int (nI n)])
abbrev qLc (g : Nat → Int32) : qE := .inl (0, 29, .inl g)
def LineA (h : qH) (g : Nat → Int32) (n : Nat) : Prop := h[33]? = some (qL n) ∧ h[34]? = some (qLc g)
def setL (h : qH) (g : Nat → Int32) (n : Nat) : qH := (h.set 34 (qLc g)).set 33 (qL n)
theorem LineA.set {h : qH} {g g2 : Nat → Int32} {n n2 : Nat} (p : LineA h g n) : LineA (setL h g2 n2) g2 n2 := by
  unfold setL
  exact ⟨q_gss ((q_gso (by decide)).trans p.1), (q_gso (by decide)).trans (q_gss p.2)⟩
theorem setL_setL (h : qH) (g g2 : Nat → Int32) (n n2 : Nat) : setL (setL h g n) g2 n2 = setL h g2 n2 := by
  unfold setL
  rw [List.set_comm (i := 33) (j := 34) _ _ (by decide), List.set_set, List.set_set]
theorem setL_same {h : qH} {g : Nat → Int32} {n : Nat} (p : LineA h g n) : setL h g n = h := by
  unfold setL
  rw [q_same p.2, q_same p.1]
set_option maxHeartbeats 4000000 in
set_option maxRecDepth 100000 in
theorem okX1_clear {h : qH} {g : Nat → Int32} {n : Nat} (hl : LineA h g n) : Ok MX1_clear [.ref 33] (h) (none) (setL h g 0) := by
  refine ok_of (by decide +kernel) (Nat.zero_le _) (Nat.le_of_ble_eq_true rfl) ?_
  intro X C E
  show Ex X MX1_clear 0 [(0, .ref 33)] [] (h)
  obtain ⟨h0, h1⟩ := hl
  refine x_aload_n C dX1_clear_0 rfl ?_
  refine x_iconst C (v := nI 0) dX1_clear_1 (by decide +kernel) ?_
  refine x_putfield C qk1 1 (by decide) lfX1_15 rfl (ty0 := .int) (by decide +kernel) rfl rfl dX1_clear_2 h0 (Nat.le_of_ble_eq_true rfl) ?_
  exact x_vret E dX1_clear_5 rfl rfl (by unfold setL; rw [q_same h1]; rfl)
set_option maxHeartbeats 4000000 in
set_option maxRecDepth 100000 in
theorem okX1_write {h : qH} {g : Nat → Int32} {n : Nat} (hl : LineA h g n) (hn : n < 29) (x : Int32) : Ok MX1_write [.ref 33, .int x] (h) (none) (setL h (upd g n x) (n + 1)) := by
  refine ok_of (by decide +kernel) (Nat.zero_le _) (Nat.le_of_ble_eq_true rfl) ?_
  intro X C E
  show Ex X MX1_write 0 [(0, .ref 33), (1, .int x)] [] (h)
  obtain ⟨h0, h1⟩ := hl
  refine x_aload_n C dX1_write_0 rfl ?_
  refine x_getfield C qk1 1 (by decide) lfX1_15 dX1_write_1 h0 rfl ?_
  refine x_if_ltN C 36 dX1_write_4 (by decide) (by omega) ?_
  refine x_aload_n C dX1_write_7 rfl ?_
  refine x_getfield C qk1 1 (by decide) lfX1_15 dX1_write_8 h0 rfl ?_
  refine x_bipush C (v := nI 29) dX1_write_11 (by decide +kernel) ?_
  refine x_icmp_geN C 36 dX1_write_13 (by decide) (by omega) (by omega) (fun c13 => ?_) (fun c13 => ?_)
  · exact absurd c13 (by omega)
  · refine x_aload_n C dX1_write_16 rfl ?_
    refine x_getfield C qk1 0 (by decide) lfX1_9 dX1_write_17 h0 rfl ?_
    refine x_aload_n C dX1_write_20 rfl ?_
    refine x_getfield C qk1 1 (by decide) lfX1_15 dX1_write_21 h0 rfl ?_
    refine x_iload_n C dX1_write_24 rfl ?_
    refine x_iast C dX1_write_25 h1 (by omega) (by decide) ?_
    refine x_aload_n C dX1_write_26 rfl ?_
    refine x_dup C rfl dX1_write_27 ?_
    refine x_getfield C qk1 1 (by decide) lfX1_15 dX1_write_28 ((q_gso (by decide)).trans h0) rfl ?_
    refine x_iconst C (v := nI 1) dX1_write_31 (by decide +kernel) ?_
    refine x_iaddN C dX1_write_32 ?_
    refine x_putfield C qk1 1 (by decide) lfX1_15 rfl (ty0 := .int) (by decide +kernel) rfl rfl dX1_write_33 ((q_gso (by decide)).trans h0) (Nat.le_of_ble_eq_true rfl) ?_
    exact x_vret E dX1_write_36 rfl rfl rfl
set_option maxHeartbeats 4000000 in
set_option maxRecDepth 100000 in
theorem okX1_writeMan {h : qH} {g : Nat → Int32} {n : Nat} (hl : LineA h g n) (hn : n < 29) {m : Nat} (hm : m < 8) : Ok MX1_writeMan [.ref 33, .int (nI m)] (h) (none) (setL h (upd g n (strC 0 m)) (n + 1)) := by
  refine ok_of (by decide +kernel) (Nat.zero_le _) (Nat.le_of_ble_eq_true rfl) ?_
  intro X C E
  show Ex X MX1_writeMan 0 [(0, .ref 33), (1, .int (nI m))] [] (h)
  have hq : 0 < 2 := by decide
  refine x_iload_n C dX1_writeMan_0 rfl ?_
  refine x_if_ltN C 23 dX1_writeMan_1 (by decide) (by omega) ?_
  refine x_iload_n C dX1_writeMan_4 rfl ?_
  refine x_ldcS C (q := 0) (fun _ _ _ _ y => y.2.2.2.2.1.1) dX1_writeMan_5 ?_
  refine x_callK0i C (okJ0_length_8abf5 hq _) lkX1_21 miJ0_length_8abf5 msJ0_length_8abf5 maJ0_length_8abf5 ⟨Nat.le_of_ble_eq_true rfl, Nat.le_of_ble_eq_true rfl⟩ (Nat.le_of_ble_eq_true rfl) hq rfl dX1_writeMan_7 ?_
  refine x_icmp_geN C 23 dX1_writeMan_10 (by decide) (by first | omega | decide) (by first | omega | decide) (fun c10 => ?_) (fun c10 => ?_)
  · exact absurd c10 (by have : strN 0 = 8 := rfl; omega)
  · refine x_aload_n C dX1_writeMan_13 rfl ?_
    refine x_ldcS C (q := 0) (fun _ _ _ _ y => y.2.2.2.2.1.1) dX1_writeMan_14 ?_
    refine x_iload_n C dX1_writeMan_16 rfl ?_
    refine x_callK1i C (okJ0_charAt_5068e hq (show m < strN 0 from hm) _) lkX1_26 miJ0_charAt_5068e msJ0_charAt_5068e maJ0_charAt_5068e ⟨Nat.le_of_ble_eq_true rfl, Nat.le_of_ble_eq_true rfl⟩ (Nat.le_of_ble_eq_true rfl) hq rfl dX1_writeMan_17 ?_
    refine x_callV1v C (okX1_write hl hn _) lkX1_30 miX1_write msX1_write maX1_write ⟨Nat.le_of_ble_eq_true rfl, Nat.le_of_ble_eq_true rfl⟩ (Nat.le_of_ble_eq_true rfl) hl.1 rfl dX1_writeMan_20 ?_
    exact x_vret E dX1_writeMan_23 rfl rfl rfl
set_option maxHeartbeats 4000000 in
set_option maxRecDepth 100000 in
theorem okX1_writeSquare {h : qH} {g : Nat → Int32} {n : Nat} (hl : LineA h g n) (hn : n + 1 < 29) {i : Nat} (hi : i < 25) : Ok MX1_writeSquare [.ref 33, .int (nI i)] (h) (none) (setL h (upd (upd g n (nI (97 + i % 5))) (n + 1) (nI (49 + i / 5))) (n + 2)) := by
  refine ok_of (by decide +kernel) (Nat.zero_le _) (Nat.le_of_ble_eq_true rfl) ?_
  intro X C E
  show Ex X MX1_writeSquare 0 [(0, .ref 33), (1, .int (nI i))] [] (h)
  refine x_aload_n C dX1_writeSquare_0 rfl ?_
  refine x_bipush C (v := nI 97) dX1_writeSquare_1 (by decide +kernel) ?_
  refine x_iload_n C dX1_writeSquare_3 rfl ?_
  refine x_iconst C (v := nI 5) dX1_writeSquare_4 (by decide +kernel) ?_
  refine x_iremN C dX1_writeSquare_5 (by omega) (by decide) (by decide) ?_
  refine x_iaddN C dX1_writeSquare_6 ?_
  refine x_callV1v C (okX1_write hl (by omega) _) lkX1_30 miX1_write msX1_write maX1_write ⟨Nat.le_of_ble_eq_true rfl, Nat.le_of_ble_eq_true rfl⟩ (Nat.le_of_ble_eq_true rfl) hl.1 rfl dX1_writeSquare_7 ?_
  refine x_aload_n C dX1_writeSquare_10 rfl ?_
  refine x_bipush C (v := nI 49) dX1_writeSquare_11 (by decide +kernel) ?_
  refine x_iload_n C dX1_writeSquare_13 rfl ?_
  refine x_iconst C (v := nI 5) dX1_writeSquare_14 (by decide +kernel) ?_
  refine x_idivN C dX1_writeSquare_15 (by omega) (by decide) (by decide) ?_
  refine x_iaddN C dX1_writeSquare_16 ?_
  refine x_callV1v C (okX1_write (LineA.set hl) (by omega) _) lkX1_30 miX1_write msX1_write maX1_write ⟨Nat.le_of_ble_eq_true rfl, Nat.le_of_ble_eq_true rfl⟩ (Nat.le_of_ble_eq_true rfl) (LineA.set hl).1 rfl dX1_writeSquare_17 ?_
  exact x_vret E dX1_writeSquare_20 rfl rfl (setL_setL ..)
def sgnL (g : Nat → Int32) (n k : Nat) : Nat → Int32 := if k = 0 then g else upd g n (strC 1 k)
def sgnN (n k : Nat) : Nat := if k = 0 then n else n + 1
set_option maxHeartbeats 4000000 in
set_option maxRecDepth 100000 in
theorem okX1_writeMoveSign {h : qH} {g : Nat → Int32} {n : Nat} (hl : LineA h g n) (hn : n < 29) {k : Nat} (hk : k ≤ 3) : Ok MX1_writeMoveSign [.ref 33, .int (nI k)] (h) (none) (setL h (sgnL g n k) (sgnN n k)) := by
  refine ok_of (by decide +kernel) (Nat.zero_le _) (Nat.le_of_ble_eq_true rfl) ?_
  intro X C E
  show Ex X MX1_writeMoveSign 0 [(0, .ref 33), (1, .int (nI k))] [] (h)
  have hq : 1 < 2 := by decide
  refine x_iload_n C dX1_writeMoveSign_0 rfl ?_
  refine x_if_leN C 23 dX1_writeMoveSign_1 (by decide) (by omega) (fun c1 => ?_) (fun c1 => ?_)
  · exact x_vret E dX1_writeMoveSign_23 rfl rfl (by unfold sgnL sgnN; rw [if_pos c1, if_pos c1, setL_same hl])
  · refine x_iload_n C dX1_writeMoveSign_4 rfl ?_
    refine x_ldcS C (q := 1) (fun _ _ _ _ y => y.2.2.2.2.1.2.1) dX1_writeMoveSign_5 ?_
    refine x_callK0i C (okJ0_length_8abf5 hq _) lkX1_21 miJ0_length_8abf5 msJ0_length_8abf5 maJ0_length_8abf5 ⟨Nat.le_of_ble_eq_true rfl, Nat.le_of_ble_eq_true rfl⟩ (Nat.le_of_ble_eq_true rfl) hq rfl dX1_writeMoveSign_7 ?_
    refine x_icmp_geN C 23 dX1_writeMoveSign_10 (by decide) (by first | omega | decide) (by first | omega | decide) (fun c10 => ?_) (fun c10 => ?_)
    · exact absurd c10 (by have : strN 1 = 4 := rfl; omega)
    · refine x_aload_n C dX1_writeMoveSign_13 rfl ?_
      refine x_ldcS C (q := 1) (fun _ _ _ _ y => y.2.2.2.2.1.2.1) dX1_writeMoveSign_14 ?_
      refine x_iload_n C dX1_writeMoveSign_16 rfl ?_
      refine x_callK1i C (okJ0_charAt_5068e hq (show k < strN 1 by have : strN 1 = 4 := rfl; omega) _) lkX1_26 miJ0_charAt_5068e msJ0_charAt_5068e maJ0_charAt_5068e ⟨Nat.le_of_ble_eq_true rfl, Nat.le_of_ble_eq_true rfl⟩ (Nat.le_of_ble_eq_true rfl) hq rfl dX1_writeMoveSign_17 ?_
      refine x_callV1v C (okX1_write hl hn _) lkX1_30 miX1_write msX1_write maX1_write ⟨Nat.le_of_ble_eq_true rfl, Nat.le_of_ble_eq_true rfl⟩ (Nat.le_of_ble_eq_true rfl) hl.1 rfl dX1_writeMoveSign_20 ?_
      exact x_vret E dX1_writeMoveSign_23 rfl rfl (by unfold sgnL sgnN; rw [if_neg c1, if_neg c1])
def lineAt (g : Nat → Int32) (n : Nat) (x : Int32) : Int32 := if x < 0 then -1 else if nI n ≤ x then -1 else g x.toNatClampNeg
set_option maxHeartbeats 4000000 in
set_option maxRecDepth 100000 in
theorem okX1_codeAt {h : qH} {g : Nat → Int32} {n : Nat} (hl : LineA h g n) (hn : n ≤ 29) (x : Int32) : Ok MX1_codeAt [.ref 33, .int x] (h) (some (.int (lineAt g n x))) (h) := by
  refine ok_of (by decide +kernel) (Nat.zero_le _) (Nat.le_of_ble_eq_true rfl) ?_
  intro X C E
  show Ex X MX1_codeAt 0 [(0, .ref 33), (1, .int x)] [] (h)
  obtain ⟨h0, h1⟩ := hl
  refine x_iload_n C dX1_codeAt_0 rfl ?_
  refine x_if_lt C 27 dX1_codeAt_1 (by decide) (fun c1 => ?_) (fun c1 => ?_)
  · refine x_iconst C (v := (-1)) dX1_codeAt_27 (by decide +kernel) ?_
    exact x_iret E .int dX1_codeAt_28 rfl rfl (by unfold lineAt; rw [if_pos c1]) rfl
  · obtain ⟨j, hj, rfl⟩ := nI_of c1
    refine x_iload_n C dX1_codeAt_4 rfl ?_
    refine x_aload_n C dX1_codeAt_5 rfl ?_
    refine x_getfield C qk1 1 (by decide) lfX1_15 dX1_codeAt_6 h0 rfl ?_
    refine x_icmp_geN C 27 dX1_codeAt_9 (by decide) (by omega) (by omega) (fun c9 => ?_) (fun c9 => ?_)
    · refine x_iconst C (v := (-1)) dX1_codeAt_27 (by decide +kernel) ?_
      exact x_iret E .int dX1_codeAt_28 rfl rfl (by unfold lineAt; rw [if_neg c1, if_pos ((nI_leI (by omega) hj).mpr c9)]) rfl
    · refine x_iload_n C dX1_codeAt_12 rfl ?_
      refine x_bipush C (v := nI 29) dX1_codeAt_13 (by decide +kernel) ?_
      refine x_icmp_geN C 27 dX1_codeAt_15 (by decide) (by omega) (by omega) (fun c15 => ?_) (fun c15 => ?_)
      · exact absurd c15 (by omega)
      · refine x_aload_n C dX1_codeAt_18 rfl ?_
        refine x_getfield C qk1 0 (by decide) lfX1_9 dX1_codeAt_19 h0 rfl ?_
        refine x_iload_n C dX1_codeAt_22 rfl ?_
        refine x_iald C dX1_codeAt_23 h1 (by omega) (by decide) ?_
        refine x_goto C 28 dX1_codeAt_24 (by decide) ?_
        exact x_iret E .int dX1_codeAt_28 rfl rfl (by unfold lineAt; rw [if_neg c1, if_neg (fun q => c9 ((nI_leI (by omega) hj).mp q)), nI_clamp hj]) rfl
abbrev qS (n cm : Nat) (w co o s : Int32) : qE := .inr (4, [.ref 36, .int (nI n), .ref 37, .ref 38, .ref 39, .int (nI cm), .int w, .int co, .int o, .int s])
abbrev qI (n : Nat) (f : Nat → Int32) : qE := .inl (0, n, .inl f)
def ScA (h : qH) (tx : Nat → Nat) (n : Nat) (wh og sq : Nat → Int32) (cm : Nat) (w co o s : Int32) : Prop := h[35]? = some (qS n cm w co o s) ∧ h[36]? = some (qI 70 (nb tx)) ∧ h[37]? = some (qI 35 wh) ∧ h[38]? = some (qI 35 og) ∧ h[39]? = some (qI 35 sq)
theorem ScA.s35 {h : qH} {tx : Nat → Nat} {n : Nat} {wh og sq : Nat → Int32} {cm : Nat} {w co o s : Int32} (p : ScA h tx n wh og sq cm w co o s) (n2 cm2 : Nat) (w2 co2 o2 s2 : Int32) : ScA (h.set 35 (qS n2 cm2 w2 co2 o2 s2)) tx n2 wh og sq cm2 w2 co2 o2 s2 :=
  ⟨q_gss p.1, (q_gso (by decide)).trans p.2.1, (q_gso (by decide)).trans p.2.2.1, (q_gso (by decide)).trans p.2.2.2.1, (q_gso (by decide)).trans p.2.2.2.2⟩
def isL (x : Int32) : Bool := !decide (x < 0) && !decide (nI 5 ≤ x)
set_option maxHeartbeats 4000000 in
set_option maxRecDepth 100000 in
theorem okX4_isLine (x : Int32) (h : qH) : Ok MX4_isLine [.int x] (h) (some (.int (qb (isL x)))) (h) := by
  refine ok_of (by decide +kernel) (Nat.zero_le _) (Nat.le_of_ble_eq_true rfl) ?_
  intro X C E
  show Ex X MX4_isLine 0 [(0, .int x)] [] (h)
  refine x_iload_n C dX4_isLine_0 rfl ?_
  refine x_if_lt C 13 dX4_isLine_1 (by decide) (fun c1 => ?_) (fun c1 => ?_)
  · refine x_iconst C (v := nI 0) dX4_isLine_13 (by decide +kernel) ?_
    exact x_iret E .boolean dX4_isLine_14 rfl rfl (by simp only [isL, c1, decide_true, Bool.not_true, Bool.false_and]; rfl) rfl
  · refine x_iload_n C dX4_isLine_4 rfl ?_
    refine x_iconst C (v := nI 5) dX4_isLine_5 (by decide +kernel) ?_
    refine x_icmp_ge C 13 dX4_isLine_6 (by decide) (fun c6 => ?_) (fun c6 => ?_)
    · refine x_iconst C (v := nI 0) dX4_isLine_13 (by decide +kernel) ?_
      exact x_iret E .boolean dX4_isLine_14 rfl rfl (by simp only [isL, c1, c6, decide_true, decide_false, Bool.not_true, Bool.not_false, Bool.and_false]; rfl) rfl
    · refine x_iconst C (v := nI 1) dX4_isLine_9 (by decide +kernel) ?_
      refine x_goto C 14 dX4_isLine_10 (by decide) ?_
      exact x_iret E .boolean dX4_isLine_14 rfl rfl (by simp only [isL, c1, c6, decide_true, decide_false, Bool.not_true, Bool.not_false, Bool.and_self]; rfl) rfl
def sqIn (co : Int32) (c : Nat) : Int32 := if isL (nI c - nI 49) = true then (nI c - nI 49) * nI 5 + co else -1
theorem isL_of {x : Int32} (h : isL x = true) : ∃ i : Nat, i < 5 ∧ x = nI i := by
  simp only [isL, Bool.and_eq_true, Bool.not_eq_true', decide_eq_false_iff_not] at h
  obtain ⟨j, hj, rfl⟩ := nI_of h.1
  exact ⟨j, Nat.lt_of_not_le (fun q => h.2 ((nI_leI (by decide) hj).mpr q)), rfl⟩
set_option maxHeartbeats 4000000 in
set_option maxRecDepth 100000 in
theorem okX4_squareIn {h : qH} {tx : Nat → Nat} {n : Nat} {wh og sq : Nat → Int32} {cm : Nat} {w co o s : Int32} (hs : ScA h tx n wh og sq cm w co o s) (c : Nat) : Ok MX4_squareIn [.ref 35, .int (nI c)] (h) (some (.int (sqIn co c))) (h) := by
  refine ok_of (by decide +kernel) (Nat.zero_le _) (Nat.le_of_ble_eq_true rfl) ?_
  intro X C E
  show Ex X MX4_squareIn 0 [(0, .ref 35), (1, .int (nI c))] [] (h)
  obtain ⟨h0, h1, h2, h3, h4⟩ := id hs
  refine x_iload_n C dX4_squareIn_0 rfl ?_
  refine x_bipush C (v := nI 49) dX4_squareIn_1 (by decide +kernel) ?_
  refine x_isub C dX4_squareIn_3 ?_
  refine x_istore_n C dX4_squareIn_4 (by decide) [(2, _), (0, _), (1, _)] rfl ?_
  refine x_iload_n C dX4_squareIn_5 rfl ?_
  refine x_callS1i C (okX4_isLine _ _) lkX4_57 miX4_isLine mtX4_isLine maX4_isLine ⟨Nat.le_of_ble_eq_true rfl, Nat.le_of_ble_eq_true rfl⟩ (Nat.le_of_ble_eq_true rfl) dX4_squareIn_6 ?_
  refine x_if_eqB C 23 dX4_squareIn_9 (by decide) (fun c9 => ?_) (fun c9 => ?_)
  · refine x_iconst C (v := (-1)) dX4_squareIn_23 (by decide +kernel) ?_
    exact x_iret E .int dX4_squareIn_24 rfl rfl (by unfold sqIn; rw [if_neg (by rw [c9]; decide)]) rfl
  · refine x_iload_n C dX4_squareIn_12 rfl ?_
    refine x_iconst C (v := nI 5) dX4_squareIn_13 (by decide +kernel) ?_
    refine x_imul C dX4_squareIn_14 ?_
    refine x_aload_n C dX4_squareIn_15 rfl ?_
    refine x_getfield C qk4 7 (by decide) lfX4_54 dX4_squareIn_16 h0 rfl ?_
    refine x_iadd C dX4_squareIn_19 ?_
    refine x_goto C 24 dX4_squareIn_20 (by decide) ?_
    exact x_iret E .int dX4_squareIn_24 rfl rfl (by unfold sqIn; rw [if_pos c9]) rfl
set_option maxHeartbeats 4000000 in
set_option maxRecDepth 100000 in
theorem okX4_whatOf {h : qH} {tx : Nat → Nat} {n : Nat} {wh og sq : Nat → Int32} {cm : Nat} {w co o s : Int32} (hs : ScA h tx n wh og sq cm w co o s) {j : Nat} (hj : j < 35) : Ok MX4_whatOf [.ref 35, .int (nI j)] (h) (some (.int (wh j))) (h) := by
  refine ok_of (by decide +kernel) (Nat.zero_le _) (Nat.le_of_ble_eq_true rfl) ?_
  intro X C E
  show Ex X MX4_whatOf 0 [(0, .ref 35), (1, .int (nI j))] [] (h)
  obtain ⟨h0, h1, h2, h3, h4⟩ := id hs
  refine x_iload_n C dX4_whatOf_0 rfl ?_
  refine x_if_ltN C 19 dX4_whatOf_1 (by decide) (by omega) ?_
  refine x_iload_n C dX4_whatOf_4 rfl ?_
  refine x_bipush C (v := nI 35) dX4_whatOf_5 (by decide +kernel) ?_
  refine x_icmp_geN C 19 dX4_whatOf_7 (by decide) (by omega) (by omega) (fun c7 => ?_) (fun c7 => ?_)
  · exact absurd c7 (by omega)
  · refine x_aload_n C dX4_whatOf_10 rfl ?_
    refine x_getfield C qk4 2 (by decide) lfX4_15 dX4_whatOf_11 h0 rfl ?_
    refine x_iload_n C dX4_whatOf_14 rfl ?_
    refine x_iald C dX4_whatOf_15 h2 (by omega) (by decide) ?_
    refine x_goto C 20 dX4_whatOf_16 (by decide) ?_
    exact x_iret E .int dX4_whatOf_20 rfl rfl rfl rfl
set_option maxHeartbeats 4000000 in
set_option maxRecDepth 100000 in
theorem okX4_originOf {h : qH} {tx : Nat → Nat} {n : Nat} {wh og sq : Nat → Int32} {cm : Nat} {w co o s : Int32} (hs : ScA h tx n wh og sq cm w co o s) {j : Nat} (hj : j < 35) : Ok MX4_originOf [.ref 35, .int (nI j)] (h) (some (.int (og j))) (h) := by
  refine ok_of (by decide +kernel) (Nat.zero_le _) (Nat.le_of_ble_eq_true rfl) ?_
  intro X C E
  show Ex X MX4_originOf 0 [(0, .ref 35), (1, .int (nI j))] [] (h)
  obtain ⟨h0, h1, h2, h3, h4⟩ := id hs
  refine x_iload_n C dX4_originOf_0 rfl ?_
  refine x_if_ltN C 19 dX4_originOf_1 (by decide) (by omega) ?_
  refine x_iload_n C dX4_originOf_4 rfl ?_
  refine x_bipush C (v := nI 35) dX4_originOf_5 (by decide +kernel) ?_
  refine x_icmp_geN C 19 dX4_originOf_7 (by decide) (by omega) (by omega) (fun c7 => ?_) (fun c7 => ?_)
  · exact absurd c7 (by omega)
  · refine x_aload_n C dX4_originOf_10 rfl ?_
    refine x_getfield C qk4 3 (by decide) lfX4_18 dX4_originOf_11 h0 rfl ?_
    refine x_iload_n C dX4_originOf_14 rfl ?_
    refine x_iald C dX4_originOf_15 h3 (by omega) (by decide) ?_
    refine x_goto C 20 dX4_originOf_16 (by decide) ?_
    exact x_iret E .int dX4_originOf_20 rfl rfl rfl rfl
set_option maxHeartbeats 4000000 in
set_option maxRecDepth 100000 in
theorem okX4_squareOf {h : qH} {tx : Nat → Nat} {n : Nat} {wh og sq : Nat → Int32} {cm : Nat} {w co o s : Int32} (hs : ScA h tx n wh og sq cm w co o s) {j : Nat} (hj : j < 35) : Ok MX4_squareOf [.ref 35, .int (nI j)] (h) (some (.int (sq j))) (h) := by
  refine ok_of (by decide +kernel) (Nat.zero_le _) (Nat.le_of_ble_eq_true rfl) ?_
  intro X C E
  show Ex X MX4_squareOf 0 [(0, .ref 35), (1, .int (nI j))] [] (h)
  obtain ⟨h0, h1, h2, h3, h4⟩ := id hs
  refine x_iload_n C dX4_squareOf_0 rfl ?_
  refine x_if_ltN C 19 dX4_squareOf_1 (by decide) (by omega) ?_
  refine x_iload_n C dX4_squareOf_4 rfl ?_
  refine x_bipush C (v := nI 35) dX4_squareOf_5 (by decide +kernel) ?_
  refine x_icmp_geN C 19 dX4_squareOf_7 (by decide) (by omega) (by omega) (fun c7 => ?_) (fun c7 => ?_)
  · exact absurd c7 (by omega)
  · refine x_aload_n C dX4_squareOf_10 rfl ?_
    refine x_getfield C qk4 4 (by decide) lfX4_21 dX4_squareOf_11 h0 rfl ?_
    refine x_iload_n C dX4_squareOf_14 rfl ?_
    refine x_iald C dX4_squareOf_15 h4 (by omega) (by decide) ?_
    refine x_goto C 20 dX4_squareOf_16 (by decide) ?_
    exact x_iret E .int dX4_squareOf_20 rfl rfl rfl rfl
set_option maxHeartbeats 4000000 in
set_option maxRecDepth 100000 in
theorem okX4_clear {h : qH} {tx : Nat → Nat} {n : Nat} {wh og sq : Nat → Int32} {cm : Nat} {w co o s : Int32} (hs : ScA h tx n wh og sq cm w co o s) : Ok MX4_clear [.ref 35] (h) (none) (h.set 35 (qS 0 cm w co o s)) := by
  refine ok_of (by decide +kernel) (Nat.zero_le _) (Nat.le_of_ble_eq_true rfl) ?_
  intro X C E
  show Ex X MX4_clear 0 [(0, .ref 35)] [] (h)
  obtain ⟨h0, h1, h2, h3, h4⟩ := id hs
  refine x_aload_n C dX4_clear_0 rfl ?_
  refine x_iconst C (v := nI 0) dX4_clear_1 (by decide +kernel) ?_
  refine x_putfield C qk4 1 (by decide) lfX4_24 rfl (ty0 := .int) (by decide +kernel) rfl rfl dX4_clear_2 h0 (Nat.le_of_ble_eq_true rfl) ?_
  exact x_vret E dX4_clear_5 rfl rfl rfl
set_option maxHeartbeats 4000000 in
set_option maxRecDepth 100000 in
theorem okX4_add {h : qH} {tx : Nat → Nat} {n : Nat} {wh og sq : Nat → Int32} {cm : Nat} {w co o s : Int32} (hs : ScA h tx n wh og sq cm w co o s) (hn : n < 70) {c : Nat} (hc : 32 ≤ c) (hc2 : c ≤ 126) : Ok MX4_add [.ref 35, .int (nI c)] (h) (some (.int (nI (n + 1)))) ((h.set 36 (qI 70 (nb (up tx n c)))).set 35 (qS (n + 1) cm w co o s)) := by
  refine ok_of (by decide +kernel) (Nat.zero_le _) (Nat.le_of_ble_eq_true rfl) ?_
  intro X C E
  show Ex X MX4_add 0 [(0, .ref 35), (1, .int (nI c))] [] (h)
  obtain ⟨h0, h1, h2, h3, h4⟩ := id hs
  refine x_iload_n C dX4_add_0 rfl ?_
  refine x_bipush C (v := nI 32) dX4_add_1 (by decide +kernel) ?_
  refine x_icmp_ltN C 28 dX4_add_3 (by decide) (by omega) (by omega) (fun c3 => ?_) (fun c3 => ?_)
  · exact absurd c3 (by omega)
  · refine x_iload_n C dX4_add_6 rfl ?_
    refine x_bipush C (v := nI 126) dX4_add_7 (by decide +kernel) ?_
    refine x_icmp_gtN C 28 dX4_add_9 (by decide) (by omega) (by omega) (fun c9 => ?_) (fun c9 => ?_)
    · exact absurd c9 (by omega)
    · refine x_aload_n C dX4_add_12 rfl ?_
      refine x_getfield C qk4 1 (by decide) lfX4_24 dX4_add_13 h0 rfl ?_
      refine x_if_ltN C 28 dX4_add_16 (by decide) (by omega) ?_
      refine x_aload_n C dX4_add_19 rfl ?_
      refine x_getfield C qk4 1 (by decide) lfX4_24 dX4_add_20 h0 rfl ?_
      refine x_bipush C (v := nI 70) dX4_add_23 (by decide +kernel) ?_
      refine x_icmp_ltN C 31 dX4_add_25 (by decide) (by omega) (by omega) (fun c25 => ?_) (fun c25 => ?_)
      · refine x_aload_n C dX4_add_31 rfl ?_
        refine x_getfield C qk4 0 (by decide) lfX4_9 dX4_add_32 h0 rfl ?_
        refine x_aload_n C dX4_add_35 rfl ?_
        refine x_getfield C qk4 1 (by decide) lfX4_24 dX4_add_36 h0 rfl ?_
        refine x_iload_n C dX4_add_39 rfl ?_
        refine x_istb C dX4_add_40 h1 (by omega) (by decide) ?_
        refine x_aload_n C dX4_add_41 rfl ?_
        refine x_dup C rfl dX4_add_42 ?_
        refine x_getfield C qk4 1 (by decide) lfX4_24 dX4_add_43 ((q_gso (by decide)).trans h0) rfl ?_
        refine x_iconst C (v := nI 1) dX4_add_46 (by decide +kernel) ?_
        refine x_iaddN C dX4_add_47 ?_
        refine x_putfield C qk4 1 (by decide) lfX4_24 rfl (ty0 := .int) (by decide +kernel) rfl rfl dX4_add_48 ((q_gso (by decide)).trans h0) (Nat.le_of_ble_eq_true rfl) ?_
        refine x_aload_n C dX4_add_51 rfl ?_
        refine x_getfield C qk4 1 (by decide) lfX4_24 dX4_add_52 (q_gss ((q_gso (by decide)).trans h0)) rfl ?_
        exact x_iret E .int dX4_add_55 rfl rfl rfl rfl
      · exact absurd hn c25
set_option maxHeartbeats 4000000 in
set_option maxRecDepth 100000 in
theorem okX4_add_out {h : qH} {tx : Nat → Nat} {n : Nat} {wh og sq : Nat → Int32} {cm : Nat} {w co o s : Int32} (hs : ScA h tx n wh og sq cm w co o s) (hn : n ≤ 70) {x : Int32} (hx : x < nI 32 ∨ nI 126 < x ∨ n = 70) : Ok MX4_add [.ref 35, .int x] (h) (some (.int (-2))) (h) := by
  refine ok_of (by decide +kernel) (Nat.zero_le _) (Nat.le_of_ble_eq_true rfl) ?_
  intro X C E
  show Ex X MX4_add 0 [(0, .ref 35), (1, .int x)] [] (h)
  obtain ⟨h0, h1, h2, h3, h4⟩ := id hs
  refine x_iload_n C dX4_add_0 rfl ?_
  refine x_bipush C (v := nI 32) dX4_add_1 (by decide +kernel) ?_
  refine x_icmp_lt C 28 dX4_add_3 (by decide) (fun c3 => ?_) (fun c3 => ?_)
  · refine x_bipush C (v := (-2)) dX4_add_28 (by decide +kernel) ?_
    exact x_iret E .int dX4_add_30 rfl rfl rfl rfl
  · refine x_iload_n C dX4_add_6 rfl ?_
    refine x_bipush C (v := nI 126) dX4_add_7 (by decide +kernel) ?_
    refine x_icmp_gt C 28 dX4_add_9 (by decide) (fun c9 => ?_) (fun c9 => ?_)
    · refine x_bipush C (v := (-2)) dX4_add_28 (by decide +kernel) ?_
      exact x_iret E .int dX4_add_30 rfl rfl rfl rfl
    · refine x_aload_n C dX4_add_12 rfl ?_
      refine x_getfield C qk4 1 (by decide) lfX4_24 dX4_add_13 h0 rfl ?_
      refine x_if_ltN C 28 dX4_add_16 (by decide) (by omega) ?_
      refine x_aload_n C dX4_add_19 rfl ?_
      refine x_getfield C qk4 1 (by decide) lfX4_24 dX4_add_20 h0 rfl ?_
      refine x_bipush C (v := nI 70) dX4_add_23 (by decide +kernel) ?_
      refine x_icmp_ltN C 31 dX4_add_25 (by decide) (by omega) (by omega) (fun c25 => ?_) (fun c25 => ?_)
      · rcases hx with q | q | q
        · exact absurd q c3
        · exact absurd q c9
        · omega
      · refine x_bipush C (v := (-2)) dX4_add_28 (by decide +kernel) ?_
        exact x_iret E .int dX4_add_30 rfl rfl rfl rfl
set_option maxHeartbeats 4000000 in
set_option maxRecDepth 100000 in
theorem okX4_keepCommand {h : qH} {tx : Nat → Nat} {n : Nat} {wh og sq : Nat → Int32} {cm : Nat} {w co o s : Int32} (hs : ScA h tx n wh og sq cm w co o s) (hc : cm < 35) : Ok MX4_keepCommand [.ref 35] (h) (none) ((((h.set 37 (qI 35 (upd wh cm w))).set 38 (qI 35 (upd og cm o))).set 39 (qI 35 (upd sq cm s))).set 35 (qS n (cm + 1) w co o s)) := by
  refine ok_of (by decide +kernel) (Nat.zero_le _) (Nat.le_of_ble_eq_true rfl) ?_
  intro X C E
  show Ex X MX4_keepCommand 0 [(0, .ref 35)] [] (h)
  obtain ⟨h0, h1, h2, h3, h4⟩ := id hs
  refine x_aload_n C dX4_keepCommand_0 rfl ?_
  refine x_getfield C qk4 5 (by decide) lfX4_28 dX4_keepCommand_1 h0 rfl ?_
  refine x_if_ltN C 65 dX4_keepCommand_4 (by decide) (by omega) ?_
  refine x_aload_n C dX4_keepCommand_7 rfl ?_
  refine x_getfield C qk4 5 (by decide) lfX4_28 dX4_keepCommand_8 h0 rfl ?_
  refine x_bipush C (v := nI 35) dX4_keepCommand_11 (by decide +kernel) ?_
  refine x_icmp_geN C 65 dX4_keepCommand_13 (by decide) (by omega) (by omega) (fun c13 => ?_) (fun c13 => ?_)
  · exact absurd c13 (by omega)
  · refine x_aload_n C dX4_keepCommand_16 rfl ?_
    refine x_getfield C qk4 2 (by decide) lfX4_15 dX4_keepCommand_17 h0 rfl ?_
    refine x_aload_n C dX4_keepCommand_20 rfl ?_
    refine x_getfield C qk4 5 (by decide) lfX4_28 dX4_keepCommand_21 h0 rfl ?_
    refine x_aload_n C dX4_keepCommand_24 rfl ?_
    refine x_getfield C qk4 6 (by decide) lfX4_38 dX4_keepCommand_25 h0 rfl ?_
    refine x_iast C dX4_keepCommand_28 h2 (by omega) (by decide) ?_
    refine x_aload_n C dX4_keepCommand_29 rfl ?_
    refine x_getfield C qk4 3 (by decide) lfX4_18 dX4_keepCommand_30 ((q_gso (by decide)).trans h0) rfl ?_
    refine x_aload_n C dX4_keepCommand_33 rfl ?_
    refine x_getfield C qk4 5 (by decide) lfX4_28 dX4_keepCommand_34 ((q_gso (by decide)).trans h0) rfl ?_
    refine x_aload_n C dX4_keepCommand_37 rfl ?_
    refine x_getfield C qk4 8 (by decide) lfX4_41 dX4_keepCommand_38 ((q_gso (by decide)).trans h0) rfl ?_
    refine x_iast C dX4_keepCommand_41 ((q_gso (by decide)).trans h3) (by omega) (by decide) ?_
    refine x_aload_n C dX4_keepCommand_42 rfl ?_
    refine x_getfield C qk4 4 (by decide) lfX4_21 dX4_keepCommand_43 ((q_gso (by decide)).trans ((q_gso (by decide)).trans h0)) rfl ?_
    refine x_aload_n C dX4_keepCommand_46 rfl ?_
    refine x_getfield C qk4 5 (by decide) lfX4_28 dX4_keepCommand_47 ((q_gso (by decide)).trans ((q_gso (by decide)).trans h0)) rfl ?_
    refine x_aload_n C dX4_keepCommand_50 rfl ?_
    refine x_getfield C qk4 9 (by decide) lfX4_44 dX4_keepCommand_51 ((q_gso (by decide)).trans ((q_gso (by decide)).trans h0)) rfl ?_
    refine x_iast C dX4_keepCommand_54 ((q_gso (by decide)).trans ((q_gso (by decide)).trans h4)) (by omega) (by decide) ?_
    refine x_aload_n C dX4_keepCommand_55 rfl ?_
    refine x_dup C rfl dX4_keepCommand_56 ?_
    refine x_getfield C qk4 5 (by decide) lfX4_28 dX4_keepCommand_57 ((q_gso (by decide)).trans ((q_gso (by decide)).trans ((q_gso (by decide)).trans h0))) rfl ?_
    refine x_iconst C (v := nI 1) dX4_keepCommand_60 (by decide +kernel) ?_
    refine x_iaddN C dX4_keepCommand_61 ?_
    refine x_putfield C qk4 5 (by decide) lfX4_28 rfl (ty0 := .int) (by decide +kernel) rfl rfl dX4_keepCommand_62 ((q_gso (by decide)).trans ((q_gso (by decide)).trans ((q_gso (by decide)).trans h0))) (Nat.le_of_ble_eq_true rfl) ?_
    exact x_vret E dX4_keepCommand_65 rfl rfl rfl
