/-! the law's calls, one by one: both answer the same and keep what holds -/
def CaseOk (N5 N6 : qM) (xs : List Value) : Prop := ∀ h, Inv h → ∃ (v : Int32) (h1 h2 : qH), Ok N5 (.ref 0 :: xs) h (some (.int v)) h1 ∧ Ok N6 (.ref 40 :: xs) h1 (some (.int v)) h2 ∧ Inv h2 ∧ ∃ fs, h1[40]? = some (.inr (6, fs))
theorem case_mk {N5 N6 : qM} {xs : List Value} {h h1 h2 : qH} {v w : Int32} (h5 : Ok N5 (.ref 0 :: xs) h (some (.int v)) h1) (e : v = w) (h6 : Ok N6 (.ref 40 :: xs) h1 (some (.int w)) h2) (hI : Inv h2) (hk : ∃ fs, h1[40]? = some (.inr (6, fs)) := by exact ⟨_, rfl⟩) : ∃ (v : Int32) (h1 h2 : qH), Ok N5 (.ref 0 :: xs) h (some (.int v)) h1 ∧ Ok N6 (.ref 40 :: xs) h1 (some (.int v)) h2 ∧ Inv h2 ∧ ∃ fs, h1[40]? = some (.inr (6, fs)) := by
  subst e
  exact ⟨v, h1, h2, h5, h6, hI, hk⟩
set_option maxHeartbeats 4000000 in
set_option maxRecDepth 100000 in
theorem case_put (x y : Int32) : CaseOk MX5_put MX6_put [.int x, .int y] := by
  intro h hi
  obtain ⟨a, b, c, d, R, nx, sz, Tm, Tk, ta, mc, g, n, tx, len, q, r, ⟨vs, cm, v1, v2, v3⟩, bf, sv, past, isv, pm, ⟨r1, d1, it, lo⟩, ⟨mv, mn, ks, tn⟩, ln, lm, a0, wr, od, o, rfl, i1, i2, i3, i4, i5, i6, i7⟩ := hi
  have hg := i1.1
  have ha := hg.1
  have hu := hg.2.2.1
  have hw := hg.w
  have hp : pm ≤ 8 := by rw [i2.2.2.2.1]; exact i2.2.1
  refine case_mk (okX5_put x y (i1.kp i2)) rfl (okX6_put hg hp x y) ?_
  have jP := putF_PG (x := x) (y := y) hg
  have j2 := ring_kp (bf := bf) i2 hg (putF a x y).1
  have j6 : G6 (refP (vs, cm, v1, v2, v3) (putF a x y)) (refR (r1, d1, it, lo) (putF a x y).2.1) := G6_ref i6 (putF a x y).2.1
  have j7 : G7 (refP (vs, cm, v1, v2, v3) (putF a x y)) isv sv d := G7_ref i7 (putF a x y).2.1
  generalize (putF a x y) = oo at jP j2 j6 j7 ⊢
  exact Inv.of ⟨jP, ha, i1.2.2.1, i1.2.2.2⟩ j2 i3 i4 i5 j6 j7
set_option maxHeartbeats 4000000 in
set_option maxRecDepth 100000 in
theorem case_lift (y : Int32) : CaseOk MX5_lift MX6_lift [.int y] := by
  intro h hi
  obtain ⟨a, b, c, d, R, nx, sz, Tm, Tk, ta, mc, g, n, tx, len, q, r, ⟨vs, cm, v1, v2, v3⟩, bf, sv, past, isv, pm, ⟨r1, d1, it, lo⟩, ⟨mv, mn, ks, tn⟩, ln, lm, a0, wr, od, o, rfl, i1, i2, i3, i4, i5, i6, i7⟩ := hi
  have hg := i1.1
  have ha := hg.1
  have hu := hg.2.2.1
  have hw := hg.w
  have hp : pm ≤ 8 := by rw [i2.2.2.2.1]; exact i2.2.1
  refine case_mk (okX5_lift y (i1.kp i2)) rfl (okX6_lift hg hp y) ?_
  have jP := liftF_PG (y := y) hg
  have j2 := ring_kp (bf := bf) i2 hg (liftF a y).1
  have j6 : G6 (refP (vs, cm, v1, v2, v3) (liftF a y)) (refR (r1, d1, it, lo) (liftF a y).2.1) := G6_ref i6 (liftF a y).2.1
  have j7 : G7 (refP (vs, cm, v1, v2, v3) (liftF a y)) isv sv d := G7_ref i7 (liftF a y).2.1
  generalize (liftF a y) = oo at jP j2 j6 j7 ⊢
  exact Inv.of ⟨jP, ha, i1.2.2.1, i1.2.2.2⟩ j2 i3 i4 i5 j6 j7
set_option maxHeartbeats 4000000 in
set_option maxRecDepth 100000 in
theorem case_play (x y : Int32) : CaseOk MX5_play MX6_play [.int x, .int y] := by
  intro h hi
  obtain ⟨a, b, c, d, R, nx, sz, Tm, Tk, ta, mc, g, n, tx, len, q, r, ⟨vs, cm, v1, v2, v3⟩, bf, sv, past, isv, pm, ⟨r1, d1, it, lo⟩, ⟨mv, mn, ks, tn⟩, ln, lm, a0, wr, od, o, rfl, i1, i2, i3, i4, i5, i6, i7⟩ := hi
  have hg := i1.1
  have ha := hg.1
  have hu := hg.2.2.1
  have hw := hg.w
  have hp : pm ≤ 8 := by rw [i2.2.2.2.1]; exact i2.2.1
  refine case_mk (okX5_play x y (i1.kp i2)) rfl (okX6_play hg hp x y) ?_
  have jP := playF_PG (x := x) (y := y) hg
  have j2 := ring_kp (bf := bf) i2 hg (playF a x y).1
  have j6 : G6 (refP (vs, cm, v1, v2, v3) (playF a x y)) (refR (r1, d1, it, lo) (playF a x y).2.1) := G6_ref i6 (playF a x y).2.1
  have j7 : G7 (refP (vs, cm, v1, v2, v3) (playF a x y)) isv sv d := G7_ref i7 (playF a x y).2.1
  generalize (playF a x y) = oo at jP j2 j6 j7 ⊢
  exact Inv.of ⟨jP, ha, i1.2.2.1, i1.2.2.2⟩ j2 i3 i4 i5 j6 j7
set_option maxHeartbeats 4000000 in
set_option maxRecDepth 100000 in
theorem case_turn : CaseOk MX5_turn MX6_turn [] := by
  intro h hi
  obtain ⟨a, b, c, d, R, nx, sz, Tm, Tk, ta, mc, g, n, tx, len, q, r, ⟨vs, cm, v1, v2, v3⟩, bf, sv, past, isv, pm, ⟨r1, d1, it, lo⟩, ⟨mv, mn, ks, tn⟩, ln, lm, a0, wr, od, o, rfl, i1, i2, i3, i4, i5, i6, i7⟩ := hi
  have hg := i1.1
  have ha := hg.1
  have hu := hg.2.2.1
  have hw := hg.w
  have hp : pm ≤ 8 := by rw [i2.2.2.2.1]; exact i2.2.1
  refine case_mk (okX5_turn (i1.kp i2)) rfl (okX6_turn hg hp) ?_
  have jP := turnF_PG hg (fun _ h => dstT_lt h) dstT_on dstT_inj
  have j2 := ring_kp (bf := bf) i2 hg (turnF dstT a).1
  generalize (turnF dstT a) = oo at jP j2 ⊢
  exact Inv.of ⟨jP, ha, ha, i1.2.2.2⟩ j2 i3 i4 i5 i6 i7
set_option maxHeartbeats 4000000 in
set_option maxRecDepth 100000 in
theorem case_mirror : CaseOk MX5_mirror MX6_mirror [] := by
  intro h hi
  obtain ⟨a, b, c, d, R, nx, sz, Tm, Tk, ta, mc, g, n, tx, len, q, r, ⟨vs, cm, v1, v2, v3⟩, bf, sv, past, isv, pm, ⟨r1, d1, it, lo⟩, ⟨mv, mn, ks, tn⟩, ln, lm, a0, wr, od, o, rfl, i1, i2, i3, i4, i5, i6, i7⟩ := hi
  have hg := i1.1
  have ha := hg.1
  have hu := hg.2.2.1
  have hw := hg.w
  have hp : pm ≤ 8 := by rw [i2.2.2.2.1]; exact i2.2.1
  refine case_mk (okX5_mirror (i1.kp i2)) rfl (okX6_mirror hg hp) ?_
  have jP := turnF_PG hg (fun _ h => dstM_lt h) dstM_on dstM_inj
  have j2 := ring_kp (bf := bf) i2 hg (turnF dstM a).1
  generalize (turnF dstM a) = oo at jP j2 ⊢
  exact Inv.of ⟨jP, ha, ha, i1.2.2.2⟩ j2 i3 i4 i5 i6 i7
set_option maxHeartbeats 4000000 in
set_option maxRecDepth 100000 in
theorem case_thrift : CaseOk MX5_thrift MX6_thrift [] := by
  intro h hi
  obtain ⟨a, b, c, d, R, nx, sz, Tm, Tk, ta, mc, g, n, tx, len, q, r, ⟨vs, cm, v1, v2, v3⟩, bf, sv, past, isv, pm, ⟨r1, d1, it, lo⟩, ⟨mv, mn, ks, tn⟩, ln, lm, a0, wr, od, o, rfl, i1, i2, i3, i4, i5, i6, i7⟩ := hi
  have hg := i1.1
  have ha := hg.1
  have hu := hg.2.2.1
  have hw := hg.w
  have hp : pm ≤ 8 := by rw [i2.2.2.2.1]; exact i2.2.1
  obtain ⟨w2, h6⟩ := okX6_thriftF (P := ((thriftF a c Tk).2.2, a, thriftC a c Tk, d)) (Hs := kpF (R, nx, sz) a (thriftF a c Tk).1) (T := (Tm, thriftK a Tk, ta, mc)) (L := (g, n)) (S := (tx, len, q, r)) (V := refP (vs, cm, v1, v2, v3) (thriftF a c Tk)) (ml := (ln, lm)) (mt := (tx, len, a0, wr, od, o)) (bf := bf) (sv := sv) (past := past) (isv := isv) (pm := pm) (r1 := r1) (d1 := d1) (it := it) (tn := tn) (w := (lo, mv, mn, ks)) (a := a) (c := c) (Tk := Tk) hg hp thr_lt
  refine case_mk (okX5_thrift (i1.kp i2)) rfl h6 ?_
  have jP := thriftF_PG (Tk := Tk) hg i1.2.2.1
  have jB := (thriftF_Bd (Tk := Tk) ha i1.2.2.1).2
  have j2 := ring_kp (bf := bf) i2 hg (thriftF a c Tk).1
  have j6 : G6 (refP (vs, cm, v1, v2, v3) (thriftF a c Tk)) (refR (r1, d1, it, w2.1) (thriftF a c Tk).2.1) := G6_ref (i6.lo (lo2 := w2.1)) (thriftF a c Tk).2.1
  have j7 : G7 (refP (vs, cm, v1, v2, v3) (thriftF a c Tk)) isv sv d := G7_ref i7 (thriftF a c Tk).2.1
  clear h6
  generalize thriftF a c Tk = oo at jP j2 j6 j7 ⊢
  generalize thriftC a c Tk = cc at jB ⊢
  generalize thriftK a Tk = kk
  exact Inv.of ⟨jP, ha, jB, i1.2.2.2⟩ j2 i3 i4 i5 j6 j7
set_option maxHeartbeats 4000000 in
set_option maxRecDepth 100000 in
theorem case_at (x : Int32) : CaseOk MX5_at MX6_at [.int x] := by
  intro h hi
  obtain ⟨a, b, c, d, R, nx, sz, Tm, Tk, ta, mc, g, n, tx, len, q, r, ⟨vs, cm, v1, v2, v3⟩, bf, sv, past, isv, pm, ⟨r1, d1, it, lo⟩, ⟨mv, mn, ks, tn⟩, ln, lm, a0, wr, od, o, rfl, i1, i2, i3, i4, i5, i6, i7⟩ := hi
  have hg := i1.1
  have ha := hg.1
  have hu := hg.2.2.1
  have hw := hg.w
  have hp : pm ≤ 8 := by rw [i2.2.2.2.1]; exact i2.2.1
  rcases isSq_cases x with hx | ⟨i, hi, rfl⟩
  · exact case_mk (okX5_at_out hx) rfl (okX6_at_out hx) (Inv.of i1 i2 i3 i4 i5 i6 i7)
  · exact case_mk (okX5_at_in hi ha) rfl (okX6_at_in ha.1 (sF_ag a) hi) (Inv.of i1 i2 i3 i4 i5 i6 i7)
set_option maxHeartbeats 4000000 in
set_option maxRecDepth 100000 in
theorem case_attackers (x : Int32) : CaseOk MX5_attackers MX6_attackers [.int x] := by
  intro h hi
  obtain ⟨a, b, c, d, R, nx, sz, Tm, Tk, ta, mc, g, n, tx, len, q, r, ⟨vs, cm, v1, v2, v3⟩, bf, sv, past, isv, pm, ⟨r1, d1, it, lo⟩, ⟨mv, mn, ks, tn⟩, ln, lm, a0, wr, od, o, rfl, i1, i2, i3, i4, i5, i6, i7⟩ := hi
  have hg := i1.1
  have ha := hg.1
  have hu := hg.2.2.1
  have hw := hg.w
  have hp : pm ≤ 8 := by rw [i2.2.2.2.1]; exact i2.2.1
  rcases isSq_cases x with hx | ⟨i, hi, rfl⟩
  · exact case_mk (okX5_attackers_out hx) rfl (okX6_attackers_out hx) (Inv.of i1 i2 i3 i4 i5 i6 i7)
  · exact case_mk (okX5_attackers_in hi ha) (congrArg nI (line_eq hi).symm) (okX6_attackers_in ha.1 (sF_ag a) hi) (Inv.of i1 i2 i3 i4 i5 i6 i7)
set_option maxHeartbeats 4000000 in
set_option maxRecDepth 100000 in
theorem case_attackersAgain (x : Int32) : CaseOk MX5_attackersAgain MX6_attackersAgain [.int x] := by
  intro h hi
  obtain ⟨a, b, c, d, R, nx, sz, Tm, Tk, ta, mc, g, n, tx, len, q, r, ⟨vs, cm, v1, v2, v3⟩, bf, sv, past, isv, pm, ⟨r1, d1, it, lo⟩, ⟨mv, mn, ks, tn⟩, ln, lm, a0, wr, od, o, rfl, i1, i2, i3, i4, i5, i6, i7⟩ := hi
  have hg := i1.1
  have ha := hg.1
  have hu := hg.2.2.1
  have hw := hg.w
  have hp : pm ≤ 8 := by rw [i2.2.2.2.1]; exact i2.2.1
  rcases isSq_cases x with hx | ⟨i, hi, rfl⟩
  · exact case_mk (okX5_attackersAgain_out hx) rfl (okX6_attackersAgain_out hx) (Inv.of i1 i2 i3 i4 i5 i6 i7)
  · exact case_mk (okX5_attackersAgain_in hi ha) rfl (okX6_attackersAgain_in ha.1 (sF_ag a) hi) (Inv.of i1 i2 i3 i4 i5 i6 i7)
set_option maxHeartbeats 4000000 in
set_option maxRecDepth 100000 in
theorem case_manOf (x y : Int32) : CaseOk MX5_manOf MX6_manOf [.int x, .int y] := by
  intro h hi
  obtain ⟨a, b, c, d, R, nx, sz, Tm, Tk, ta, mc, g, n, tx, len, q, r, ⟨vs, cm, v1, v2, v3⟩, bf, sv, past, isv, pm, ⟨r1, d1, it, lo⟩, ⟨mv, mn, ks, tn⟩, ln, lm, a0, wr, od, o, rfl, i1, i2, i3, i4, i5, i6, i7⟩ := hi
  have hg := i1.1
  have ha := hg.1
  have hu := hg.2.2.1
  have hw := hg.w
  have hp : pm ≤ 8 := by rw [i2.2.2.2.1]; exact i2.2.1
  rcases isSq_cases x with hx | ⟨i, hi, rfl⟩
  · exact case_mk (okX5_manOf_p0 hx) rfl (okX6_manOf_p0 y hx) (Inv.of i1 i2 i3 i4 i5 i6 i7)
  · rcases in_cases y 3 (by decide) with hy | ⟨k, hk, rfl⟩
    · exact case_mk (okX5_manOf_p1 hi hy) rfl (okX6_manOf_p1 hi ((inB0_out (by decide)).mpr hy)) (Inv.of i1 i2 i3 i4 i5 i6 i7)
    · by_cases h0 : a.1 i = 0
      · have hX : ¬ manOfX a.1 k i := fun z => z.2.1 h0
        have e : manOfF a.1 Tk i k = -4 := by unfold manOfF; rw [if_pos h0]
        exact case_mk (okX5_manOf_p2 (Tk := Tk) ha hi hk hX) e (okX6_manOf_z ha.1 (sF_ag a) hi hk h0) (Inv.of i1 i2 i3 i4 i5 i6 i7)
      · have q0 : manOfF a.1 Tk i 0 = nI (cnt (reachP a.1 i) 25) := by unfold manOfF; rw [if_neg h0, if_pos rfl]
        have q1 : manOfF a.1 Tk i 1 = nI (cnt (movP a.1 i) 25) := by unfold manOfF; rw [if_neg h0, if_neg (by decide), if_pos rfl]
        by_cases hf : fitsB a.1 = true
        · have h4 : k = 0 ∨ k = 1 ∨ k = 2 ∨ k = 3 := by omega
          rcases h4 with rfl | rfl | rfl | rfl
          · exact case_mk (okX5_manOf_p2 (Tk := Tk) ha hi (by decide) (fun z => by cases z.1)) q0 (okX6_manOf_a ha.1 (sF_ag a) hu hi h0) (Inv.of i1 i2 i3 i4 i5 i6 i7)
          · exact case_mk (okX5_manOf_p2 (Tk := Tk) ha hi (by decide) (fun z => by cases z.1)) q1 (okX6_manOf_b ha.1 (sF_ag a) hu hi h0) (Inv.of i1 i2 i3 i4 i5 i6 i7)
          · have q2 : manOfF a.1 Tk i 2 = nI (preL (selC (selB a.1 3) i) 25).length := by rw [selC_len hi]; unfold manOfF; rw [if_neg h0, if_neg (by decide), if_neg (by decide), if_neg (by rw [hf]; decide), if_pos rfl]
            exact case_mk (okX5_manOf_p2 (Tk := Tk) ha hi (by decide) (fun z => by cases z.1)) q2 (okX6_manOf_c ha.1 (sF_ag a) hu hw hi h0 hf) ((Inv.of i1 i2 i3 i4 i5 (i6.lo (lo2 := loAll (selC (movP a.1) i) a.1 lo 25)) i7))
          · have hX : manOfX a.1 3 i := ⟨rfl, h0, hf⟩
            have q3 : manOfF a.1 Tk i 3 = qb (spR a.1 i) := by unfold manOfF; rw [if_neg h0, if_neg (by decide), if_neg (by decide), if_neg (by rw [hf]; decide), if_neg (by decide), thrift_any (c := c) (Tk := Tk) hg i hf]
            have h6 := okX6_manOf_d (P := (a, b, csT a c (keyP a.1) i, d)) (Hs := (R, nx, sz)) (T := (Tm, tkF a.1 Tk, ta, mc)) (L := (g, n)) (S := (tx, len, q, r)) (V := (vs, cm, v1, v2, v3)) (ml := (ln, lm)) (mt := (tx, len, a0, wr, od, o)) (bf := bf) (sv := sv) (past := past) (isv := isv) (pm := pm) (r1 := r1) (d1 := d1) (it := it) (tn := tn) (w := (lo, mv, mn, ks)) ha.1 (sF_ag a) hu hw hi h0 hf
            refine case_mk (okX5_manOf_p3 (Tk := Tk) ha i1.2.2.1 hi hX) q3 h6 ?_
            have jB := csT_Bd (keyP a.1) i ha i1.2.2.1 hi
            clear h6
            generalize csT a c (keyP a.1) i = cc at jB ⊢
            generalize tkF a.1 Tk = kk
            generalize spW a.1 i (lo, mv, mn, ks) = ww
            exact Inv.of ⟨hg, i1.2.1, jB, i1.2.2.2⟩ i2 i3 i4 i5 (i6.lo (lo2 := ww.1)) i7
        · have hf2 : fitsB a.1 = false := by cases e : fitsB a.1; rfl; exact absurd e hf
          have hX : ¬ manOfX a.1 k i := fun z => hf z.2.2
          have h4 : k = 0 ∨ k = 1 ∨ (2 ≤ k ∧ ¬ k = 0 ∧ ¬ k = 1) := by omega
          rcases h4 with rfl | rfl | ⟨h2, h21, h22⟩
          · exact case_mk (okX5_manOf_p2 (Tk := Tk) ha hi hk hX) q0 (okX6_manOf_a ha.1 (sF_ag a) hu hi h0) (Inv.of i1 i2 i3 i4 i5 i6 i7)
          · exact case_mk (okX5_manOf_p2 (Tk := Tk) ha hi hk hX) q1 (okX6_manOf_b ha.1 (sF_ag a) hu hi h0) (Inv.of i1 i2 i3 i4 i5 i6 i7)
          · have e : manOfF a.1 Tk i k = -4 := by unfold manOfF; rw [if_neg h0, if_neg h21, if_neg h22, if_pos hf2]
            exact case_mk (okX5_manOf_p2 (Tk := Tk) ha hi hk hX) e (okX6_manOf_n ha.1 (sF_ag a) hu hi hk h2 h0 hf2) (Inv.of i1 i2 i3 i4 i5 i6 i7)
set_option maxHeartbeats 4000000 in
set_option maxRecDepth 100000 in
theorem case_move (x : Int32) : CaseOk MX5_move MX6_move [.int x] := by
  intro h hi
  obtain ⟨a, b, c, d, R, nx, sz, Tm, Tk, ta, mc, g, n, tx, len, q, r, ⟨vs, cm, v1, v2, v3⟩, bf, sv, past, isv, pm, ⟨r1, d1, it, lo⟩, ⟨mv, mn, ks, tn⟩, ln, lm, a0, wr, od, o, rfl, i1, i2, i3, i4, i5, i6, i7⟩ := hi
  have hg := i1.1
  have ha := hg.1
  have hu := hg.2.2.1
  have hw := hg.w
  have hp : pm ≤ 8 := by rw [i2.2.2.2.1]; exact i2.2.1
  refine case_mk (okX5_move ha x) (by rw [← preL_all]) (okX6_move ha.1 (sF_ag a) hu hw x) ?_
  generalize preL (movP a.1) 25 = u0
  generalize tmF a.1 Tm = u1
  generalize loAll (fun _ _ => false) a.1 lo 25 = u2
  exact (Inv.of i1 i2 i3 i4 i5 (i6.lo (lo2 := u2)) i7)
set_option maxHeartbeats 4000000 in
set_option maxRecDepth 100000 in
theorem case_escapes : CaseOk MX5_escapes MX6_escapes [] := by
  intro h hi
  obtain ⟨a, b, c, d, R, nx, sz, Tm, Tk, ta, mc, g, n, tx, len, q, r, ⟨vs, cm, v1, v2, v3⟩, bf, sv, past, isv, pm, ⟨r1, d1, it, lo⟩, ⟨mv, mn, ks, tn⟩, ln, lm, a0, wr, od, o, rfl, i1, i2, i3, i4, i5, i6, i7⟩ := hi
  have hg := i1.1
  have ha := hg.1
  have hu := hg.2.2.1
  have hw := hg.w
  have hp : pm ≤ 8 := by rw [i2.2.2.2.1]; exact i2.2.1
  exact case_mk (okX5_escapes ha) rfl (okX6_escapes ha.1 (sF_ag a) hu) (Inv.of i1 i2 i3 i4 i5 i6 i7)
set_option maxHeartbeats 4000000 in
set_option maxRecDepth 100000 in
theorem case_isFit : CaseOk MX5_isFit MX6_isFit [] := by
  intro h hi
  obtain ⟨a, b, c, d, R, nx, sz, Tm, Tk, ta, mc, g, n, tx, len, q, r, ⟨vs, cm, v1, v2, v3⟩, bf, sv, past, isv, pm, ⟨r1, d1, it, lo⟩, ⟨mv, mn, ks, tn⟩, ln, lm, a0, wr, od, o, rfl, i1, i2, i3, i4, i5, i6, i7⟩ := hi
  have hg := i1.1
  have ha := hg.1
  have hu := hg.2.2.1
  have hw := hg.w
  have hp : pm ≤ 8 := by rw [i2.2.2.2.1]; exact i2.2.1
  exact case_mk (okX5_isFit ha) rfl (okX6_isFit ha.1 (sF_ag a) hu) (Inv.of i1 i2 i3 i4 i5 i6 i7)
set_option maxHeartbeats 4000000 in
set_option maxRecDepth 100000 in
theorem case_key (x : Int32) : CaseOk MX5_key MX6_key [.int x] := by
  intro h hi
  obtain ⟨a, b, c, d, R, nx, sz, Tm, Tk, ta, mc, g, n, tx, len, q, r, ⟨vs, cm, v1, v2, v3⟩, bf, sv, past, isv, pm, ⟨r1, d1, it, lo⟩, ⟨mv, mn, ks, tn⟩, ln, lm, a0, wr, od, o, rfl, i1, i2, i3, i4, i5, i6, i7⟩ := hi
  have hg := i1.1
  have ha := hg.1
  have hu := hg.2.2.1
  have hw := hg.w
  have hp : pm ≤ 8 := by rw [i2.2.2.2.1]; exact i2.2.1
  cases hf : fitsB a.1 with
  | false => exact case_mk (okX5_key_p0 ha hf x) rfl (okX6_key_p0 ha.1 (sF_ag a) hu hf x) (Inv.of i1 i2 i3 i4 i5 i6 i7)
  | true =>
    refine case_mk (okX5_key_p1 ha hf x) (by rw [← keyL_all]; rfl) (okX6_key_p1 ha.1 (sF_ag a) hu hw hf x) ?_
    generalize preL (selB a.1 3) 25 = u0
    generalize tkF a.1 Tk = u1
    generalize loAll (movP a.1) a.1 lo 25 = u2
    exact (Inv.of i1 i2 i3 i4 i5 (i6.lo (lo2 := u2)) i7)
set_option maxHeartbeats 4000000 in
set_option maxRecDepth 100000 in
theorem case_kind (x y : Int32) : CaseOk MX5_kind MX6_kind [.int x, .int y] := by
  intro h hi
  obtain ⟨a, b, c, d, R, nx, sz, Tm, Tk, ta, mc, g, n, tx, len, q, r, ⟨vs, cm, v1, v2, v3⟩, bf, sv, past, isv, pm, ⟨r1, d1, it, lo⟩, ⟨mv, mn, ks, tn⟩, ln, lm, a0, wr, od, o, rfl, i1, i2, i3, i4, i5, i6, i7⟩ := hi
  have hg := i1.1
  have ha := hg.1
  have hu := hg.2.2.1
  have hw := hg.w
  have hp : pm ≤ 8 := by rw [i2.2.2.2.1]; exact i2.2.1
  rcases isSq_cases x with hx | ⟨i, hi, rfl⟩
  · exact case_mk (okX5_kind_out ha (Or.inl hx)) rfl (okX6_kind_out (Or.inl hx)) (Inv.of i1 i2 i3 i4 i5 i6 i7)
  · rcases isSq_cases y with hy | ⟨j, hj, rfl⟩
    · exact case_mk (okX5_kind_out ha (Or.inr hy)) rfl (okX6_kind_out (Or.inr hy)) (Inv.of i1 i2 i3 i4 i5 i6 i7)
    · refine case_mk (okX5_kind_in ha hi hj) rfl (okX6_kind_in ha.1 (sF_ag a) hu hi hj) ?_
      generalize kindL a.1 lo i j = u0
      exact (Inv.of i1 i2 i3 i4 i5 (i6.lo (lo2 := u0)) i7)
set_option maxHeartbeats 4000000 in
set_option maxRecDepth 100000 in
theorem case_refutation (x y : Int32) : CaseOk MX5_refutation MX6_refutation [.int x, .int y] := by
  intro h hi
  obtain ⟨a, b, c, d, R, nx, sz, Tm, Tk, ta, mc, g, n, tx, len, q, r, ⟨vs, cm, v1, v2, v3⟩, bf, sv, past, isv, pm, ⟨r1, d1, it, lo⟩, ⟨mv, mn, ks, tn⟩, ln, lm, a0, wr, od, o, rfl, i1, i2, i3, i4, i5, i6, i7⟩ := hi
  have hg := i1.1
  have ha := hg.1
  have hu := hg.2.2.1
  have hw := hg.w
  have hp : pm ≤ 8 := by rw [i2.2.2.2.1]; exact i2.2.1
  rcases isSq_cases x with hx | ⟨i, hi, rfl⟩
  · exact case_mk (okX5_refutation_out (Or.inl hx)) rfl (okX6_refutation_out (Or.inl hx)) (Inv.of i1 i2 i3 i4 i5 i6 i7)
  · rcases isSq_cases y with hy | ⟨j, hj, rfl⟩
    · exact case_mk (okX5_refutation_out (Or.inr hy)) rfl (okX6_refutation_out (Or.inr hy)) (Inv.of i1 i2 i3 i4 i5 i6 i7)
    · refine case_mk (okX5_refutation_in ha hi hj) rfl (okX6_refutation_in ha.1 (sF_ag a) hu hi hj) ?_
      generalize refuL a.1 lo i j = u0
      exact (Inv.of i1 i2 i3 i4 i5 (i6.lo (lo2 := u0)) i7)
set_option maxHeartbeats 4000000 in
set_option maxRecDepth 100000 in
theorem case_many (x : Int32) : CaseOk MX5_many MX6_many [.int x] := by
  intro h hi
  obtain ⟨a, b, c, d, R, nx, sz, Tm, Tk, ta, mc, g, n, tx, len, q, r, ⟨vs, cm, v1, v2, v3⟩, bf, sv, past, isv, pm, ⟨r1, d1, it, lo⟩, ⟨mv, mn, ks, tn⟩, ln, lm, a0, wr, od, o, rfl, i1, i2, i3, i4, i5, i6, i7⟩ := hi
  have hg := i1.1
  have ha := hg.1
  have hu := hg.2.2.1
  have hw := hg.w
  have hp : pm ≤ 8 := by rw [i2.2.2.2.1]; exact i2.2.1
  rcases in_cases x 3 (by decide) with hx | ⟨k, hk, rfl⟩
  · exact case_mk (okX5_many_out (hx.imp id (fun z => (lt_le1 (n := 3) (by decide)).mpr z))) rfl (okX6_many_out ((inB0_out (by decide)).mpr hx)) (Inv.of i1 i2 i3 i4 i5 i6 i7)
  · cases hf : fitsB a.1 with
    | false => exact case_mk (okX5_many_p0 ha hk hf) rfl (okX6_many_p0 ha.1 (sF_ag a) hu hk hf) (Inv.of i1 i2 i3 i4 i5 i6 i7)
    | true =>
      refine case_mk (okX5_many_p1 ha hk hf) (by rw [tally_at a.1 ta hk, ← preL_len]) (okX6_many_p1 ha.1 (sF_ag a) hu hw hk hf) ?_
      generalize preL (selB a.1 k) 25 = u0
      generalize tlO a.1 25 (zt ta 4) = u1
      generalize loAll (movP a.1) a.1 lo 25 = u2
      exact (Inv.of i1 i2 i3 i4 i5 (i6.lo (lo2 := u2)) i7)
set_option maxHeartbeats 4000000 in
set_option maxRecDepth 100000 in
theorem case_duals : CaseOk MX5_duals MX6_duals [] := by
  intro h hi
  obtain ⟨a, b, c, d, R, nx, sz, Tm, Tk, ta, mc, g, n, tx, len, q, r, ⟨vs, cm, v1, v2, v3⟩, bf, sv, past, isv, pm, ⟨r1, d1, it, lo⟩, ⟨mv, mn, ks, tn⟩, ln, lm, a0, wr, od, o, rfl, i1, i2, i3, i4, i5, i6, i7⟩ := hi
  have hg := i1.1
  have ha := hg.1
  have hu := hg.2.2.1
  have hw := hg.w
  have hp : pm ≤ 8 := by rw [i2.2.2.2.1]; exact i2.2.1
  cases hf : fitsB a.1 with
  | false => exact case_mk (okX5_duals_p0 ha hf) rfl (okX6_duals_p0 ha.1 (sF_ag a) hu hf) (Inv.of i1 i2 i3 i4 i5 i6 i7)
  | true =>
    refine case_mk (okX5_duals_p1 ha hf) (by rw [← keyL_len]; rfl) (okX6_duals_p1 ha.1 (sF_ag a) hu hw hf) ?_
    generalize preL (selB a.1 3) 25 = u0
    generalize tkF a.1 Tk = u1
    generalize loAll (movP a.1) a.1 lo 25 = u2
    exact (Inv.of i1 i2 i3 i4 i5 (i6.lo (lo2 := u2)) i7)
set_option maxHeartbeats 4000000 in
set_option maxRecDepth 100000 in
theorem case_would (x y : Int32) : CaseOk MX5_would MX6_would [.int x, .int y] := by
  intro h hi
  obtain ⟨a, b, c, d, R, nx, sz, Tm, Tk, ta, mc, g, n, tx, len, q, r, ⟨vs, cm, v1, v2, v3⟩, bf, sv, past, isv, pm, ⟨r1, d1, it, lo⟩, ⟨mv, mn, ks, tn⟩, ln, lm, a0, wr, od, o, rfl, i1, i2, i3, i4, i5, i6, i7⟩ := hi
  have hg := i1.1
  have ha := hg.1
  have hu := hg.2.2.1
  have hw := hg.w
  have hp : pm ≤ 8 := by rw [i2.2.2.2.1]; exact i2.2.1
  rcases isSq_cases y with hy | ⟨i, hi, rfl⟩
  · exact case_mk (okX5_would_p0 x hy) rfl (okX6_would_p0 x hy) (Inv.of i1 i2 i3 i4 i5 i6 i7)
  · cases hK : isK (a.1 i) with
    | true => exact case_mk (okX5_would_p1 ha x hi hK) rfl (okX6_would_p1 ha.1 (sF_ag a) x hi (isK_or.mp hK)) (Inv.of i1 i2 i3 i4 i5 i6 i7)
    | false =>
      have hK2 : ¬ (a.1 i = 1 ∨ a.1 i = 7) := fun z => by rw [isK_or.mpr z] at hK; cases hK
      rcases in_cases x 6 (by decide) with hx | ⟨k, hk, rfl⟩
      · exact case_mk (okX5_would_p2 ha hx hi hK) rfl (okX6_would_p2 ha.1 (sF_ag a) ((inB0_out (by decide)).mpr hx) hi hK2) (Inv.of i1 i2 i3 i4 i5 i6 i7)
      · by_cases h1 : k = 1 ∧ loc7 a.1 1 ≠ none
        · obtain ⟨rfl, h1⟩ := h1
          exact case_mk (okX5_would_p3 ha hi hK h1) rfl (okX6_would_p3 ha.1 (sF_ag a) hg.2.1 hi hK2 h1) (Inv.of i1 i2 i3 i4 i5 i6 i7)
        · have hl : k = 1 → loc7 a.1 1 = none := fun e => Classical.byContradiction fun z => h1 ⟨e, z⟩
          have hu2 : Uq (up a.1 i k) 7 := Uq_up hu (by omega)
          have hc2 : Bd (up a.1 i k) := ha.up hi (by omega)
          cases hf : fitsB (up a.1 i k) with
          | false =>
            refine case_mk (okX5_would_p4 ha i1.2.2.1 hk hi hK hl hf) rfl (okX6_would_p4 ha.1 (sF_ag a) hg.2.1 hk hi hK2 hl hu2 hf) ?_
            exact Inv.of ⟨hg, i1.2.1, hc2, i1.2.2.2⟩ i2 i3 i4 i5 i6 i7
          | true =>
            refine case_mk (okX5_would_p5 ha i1.2.2.1 hk hi hK hl hf) (by rw [← keyL_len]; rfl) (okX6_would_p5 ha.1 (sF_ag a) hg.2.1 hk hi hK2 hl hu2 hf (would_w hg hf)) ?_
            generalize preL (selB (up a.1 i k) 3) 25 = u0
            generalize tkF (up a.1 i k) Tk = u1
            generalize loAll (movP (up a.1 i k)) (up a.1 i k) lo 25 = u2
            exact Inv.of ⟨hg, i1.2.1, hc2, i1.2.2.2⟩ i2 i3 i4 i5 (i6.lo (lo2 := u2)) i7
set_option maxHeartbeats 4000000 in
set_option maxRecDepth 100000 in
theorem case_ranked (x : Int32) : CaseOk MX5_ranked MX6_ranked [.int x] := by
  intro h hi
  obtain ⟨a, b, c, d, R, nx, sz, Tm, Tk, ta, mc, g, n, tx, len, q, r, ⟨vs, cm, v1, v2, v3⟩, bf, sv, past, isv, pm, ⟨r1, d1, it, lo⟩, ⟨mv, mn, ks, tn⟩, ln, lm, a0, wr, od, o, rfl, i1, i2, i3, i4, i5, i6, i7⟩ := hi
  have hg := i1.1
  have ha := hg.1
  have hu := hg.2.2.1
  have hw := hg.w
  have hp : pm ≤ 8 := by rw [i2.2.2.2.1]; exact i2.2.1
  refine case_mk (okX5_ranked ha i3 x) rank_eq (okX6_ranked ha.1 hu x) ?_
  have j3 := mcR_lt (b := a.1) i3 25
  generalize mcR a.1 mc 25 = u0 at j3 ⊢
  exact Inv.of i1 i2 j3 i4 i5 i6 i7
set_option maxHeartbeats 4000000 in
set_option maxRecDepth 100000 in
theorem case_show : CaseOk MX5_show MX6_show [] := by
  intro h hi
  obtain ⟨a, b, c, d, R, nx, sz, Tm, Tk, ta, mc, g, n, tx, len, q, r, ⟨vs, cm, v1, v2, v3⟩, bf, sv, past, isv, pm, ⟨r1, d1, it, lo⟩, ⟨mv, mn, ks, tn⟩, ln, lm, a0, wr, od, o, rfl, i1, i2, i3, i4, i5, i6, i7⟩ := hi
  have hg := i1.1
  have ha := hg.1
  have hu := hg.2.2.1
  have hw := hg.w
  have hp : pm ≤ 8 := by rw [i2.2.2.2.1]; exact i2.2.1
  have j4 := line_G4 (g := g) (ln := ln) (rowsL_N a.1 ha.1) (Nat.le_of_eq (rowsN_5 a.1))
  have e : nI (rowsL a.1 5).length = nI (rowsN a.1 5).length := by rw [rowsL_N a.1 ha.1, List.length_map]
  have h5 := okX5_show (a := a) (b := b) (c := c) (d := d) (Hs := (R, nx, sz)) (T := (Tm, Tk, ta, mc)) (S := (tx, len, q, r)) (V := (vs, cm, v1, v2, v3)) (ms := (sF a, bf, sv, past, isv, pm)) (mr := (r1, d1, it, lo)) (mm := (mv, mn, ks, tn)) (ml := (ln, lm)) (mt := (tx, len, a0, wr, od, o)) (g := g) (n := n) ha
  have h6 := fun g2 n2 => okX6_show (P := (a, b, c, d)) (Hs := (R, nx, sz)) (T := (Tm, Tk, ta, mc)) (L := (g2, n2)) (S := (tx, len, q, r)) (V := (vs, cm, v1, v2, v3)) (mr := (r1, d1, it, lo)) (mm := (mv, mn, ks, tn)) (ln := ln) (lm := lm) (mt := (tx, len, a0, wr, od, o)) (bf := bf) (sv := sv) (past := past) (isv := isv) (pm := pm) ha.1 (sF_ag a)
  generalize rowsL a.1 5 = u0 at j4 e h5
  generalize rowsN a.1 5 = u1 at j4 e h6
  exact case_mk h5 e (h6 _ _) (Inv.of i1 i2 i3 j4 i5 i6 i7)
set_option maxHeartbeats 4000000 in
set_option maxRecDepth 100000 in
theorem case_tell (x y : Int32) : CaseOk MX5_tell MX6_tell [.int x, .int y] := by
  intro h hi
  obtain ⟨a, b, c, d, R, nx, sz, Tm, Tk, ta, mc, g, n, tx, len, q, r, ⟨vs, cm, v1, v2, v3⟩, bf, sv, past, isv, pm, ⟨r1, d1, it, lo⟩, ⟨mv, mn, ks, tn⟩, ln, lm, a0, wr, od, o, rfl, i1, i2, i3, i4, i5, i6, i7⟩ := hi
  have hg := i1.1
  have ha := hg.1
  have hu := hg.2.2.1
  have hw := hg.w
  have hp : pm ≤ 8 := by rw [i2.2.2.2.1]; exact i2.2.1
  rcases isSq_cases x with hx | ⟨i, hi, rfl⟩
  · exact case_mk (okX5_tell_out ha (Or.inl hx)) rfl (okX6_tell_out (Or.inl hx)) (Inv.of i1 i2 i3 i4 i5 i6 i7)
  · rcases isSq_cases y with hy | ⟨j, hj, rfl⟩
    · exact case_mk (okX5_tell_out ha (Or.inr hy)) rfl (okX6_tell_out (Or.inr hy)) (Inv.of i1 i2 i3 i4 i5 i6 i7)
    · cases hm : movP a.1 i j with
      | false =>
        refine case_mk (okX5_tell_p0 ha hi hj hm) rfl (okX6_tell_p0 ha.1 (sF_ag a) hu hi hj hm) ?_
        generalize kindL a.1 lo i j = u0
        exact (Inv.of i1 i2 i3 i4 i5 (i6.lo (lo2 := u0)) i7)
      | true =>
        cases hf : fitsB a.1 with
        | false =>
          refine case_mk (okX5_tell_p1 ha hi hj hm hf) rfl (okX6_tell_p1 ha.1 (sF_ag a) hu hi hj hm hf) ?_
          generalize kindL a.1 lo i j = u0
          exact (Inv.of i1 i2 i3 i4 i5 (i6.lo (lo2 := u0)) i7)
        | true =>
          have j4 := line_G4 (g := g) (ln := ln) (tellL_N ha.1 i j) (telN_len a.1 i j)
          have e : nI (tellL a.1 i j).length = nI (telN a.1 i j).length := by rw [tellL_N ha.1 i j, List.length_map]
          refine case_mk (okX5_tell_p2 ha hi hj hm hf) e (okX6_tell_p2 ha.1 (sF_ag a) hu hi hj hm hf) ?_
          generalize tellL a.1 i j = u0 at j4 ⊢
          generalize telN a.1 i j = u1 at j4 ⊢
          generalize kindL a.1 lo i j = u2
          exact Inv.of i1 i2 i3 j4 i5 (i6.lo (lo2 := u2)) i7
set_option maxHeartbeats 4000000 in
set_option maxRecDepth 100000 in
theorem case_sign (x : Int32) : CaseOk MX5_sign MX6_sign [.int x] := by
  intro h hi
  obtain ⟨a, b, c, d, R, nx, sz, Tm, Tk, ta, mc, g, n, tx, len, q, r, ⟨vs, cm, v1, v2, v3⟩, bf, sv, past, isv, pm, ⟨r1, d1, it, lo⟩, ⟨mv, mn, ks, tn⟩, ln, lm, a0, wr, od, o, rfl, i1, i2, i3, i4, i5, i6, i7⟩ := hi
  have hg := i1.1
  have ha := hg.1
  have hu := hg.2.2.1
  have hw := hg.w
  have hp : pm ≤ 8 := by rw [i2.2.2.2.1]; exact i2.2.1
  have hlm : lm ≤ 40 := by have := i4.1; have := i4.2.1; omega
  exact case_mk (okX5_sign i4.1 x) (lnAt_eq i4 x) (okX6_sign hlm x) (Inv.of i1 i2 i3 i4 i5 i6 i7)
set_option maxHeartbeats 4000000 in
set_option maxRecDepth 100000 in
theorem case_append (x : Int32) : CaseOk MX5_append MX6_append [.int x] := by
  intro h hi
  obtain ⟨a, b, c, d, R, nx, sz, Tm, Tk, ta, mc, g, n, tx, len, q, r, ⟨vs, cm, v1, v2, v3⟩, bf, sv, past, isv, pm, ⟨r1, d1, it, lo⟩, ⟨mv, mn, ks, tn⟩, ln, lm, a0, wr, od, o, rfl, i1, i2, i3, i4, i5, i6, i7⟩ := hi
  have hg := i1.1
  have ha := hg.1
  have hu := hg.2.2.1
  have hw := hg.w
  have hp : pm ≤ 8 := by rw [i2.2.2.2.1]; exact i2.2.1
  have hl := i5.1
  rcases in_cases x 126 (by decide) with hx | ⟨k, hk, rfl⟩
  · have h6 : inB x (nI 32) (nI 126) = false := by
      unfold inB
      rcases hx with z | z
      · rw [decide_eq_true (Int32.lt_trans z (by decide) : x < nI 32)]; rfl
      · rw [decide_eq_true z, Bool.not_true, Bool.and_false]
    exact case_mk (okX5_append_out hl (hx.elim (fun z => Or.inl (Int32.lt_trans z (by decide))) (fun z => Or.inr (Or.inl z)))) rfl (okX6_append_out hl (Or.inl h6)) (Inv.of i1 i2 i3 i4 i5 i6 i7)
  · by_cases h32 : 32 ≤ k
    · by_cases h70 : len = 70
      · exact case_mk (okX5_append_out hl (Or.inr (Or.inr h70))) rfl (okX6_append_out hl (Or.inr h70)) (Inv.of i1 i2 i3 i4 i5 i6 i7)
      · refine case_mk (okX5_append_in (by omega) h32 hk) rfl (okX6_append_in (by omega) h32 hk) ?_
        refine Inv.of i1 i2 i3 i4 ⟨by omega, fun j => ?_⟩ i6 i7
        unfold up
        split
        · omega
        · exact i5.2 j
    · have h6 : inB (nI k) (nI 32) (nI 126) = false := by rw [inB_nI (by omega) (by decide) (by decide), decide_eq_false (by omega)]
      exact case_mk (okX5_append_out hl (Or.inl ((nI_ltI (by omega) (by decide)).mpr (by omega)))) rfl (okX6_append_out hl (Or.inl h6)) (Inv.of i1 i2 i3 i4 i5 i6 i7)
set_option maxHeartbeats 4000000 in
set_option maxRecDepth 100000 in
theorem case_refusal (x : Int32) : CaseOk MX5_refusal MX6_refusal [.int x] := by
  intro h hi
  obtain ⟨a, b, c, d, R, nx, sz, Tm, Tk, ta, mc, g, n, tx, len, q, r, ⟨vs, cm, v1, v2, v3⟩, bf, sv, past, isv, pm, ⟨r1, d1, it, lo⟩, ⟨mv, mn, ks, tn⟩, ln, lm, a0, wr, od, o, rfl, i1, i2, i3, i4, i5, i6, i7⟩ := hi
  have hg := i1.1
  have ha := hg.1
  have hu := hg.2.2.1
  have hw := hg.w
  have hp : pm ≤ 8 := by rw [i2.2.2.2.1]; exact i2.2.1
  obtain ⟨j1, j2, j3, j4⟩ := id i6
  simp only [] at j2 j3 j4
  subst j2 j3
  exact case_mk (okX5_refusal x) (rsn_eq j4) (okX6_refusal x) (Inv.of i1 i2 i3 i4 i5 i6 i7)
set_option maxHeartbeats 4000000 in
set_option maxRecDepth 100000 in
theorem case_account (x : Int32) : CaseOk MX5_account MX6_account [.int x] := by
  intro h hi
  obtain ⟨a, b, c, d, R, nx, sz, Tm, Tk, ta, mc, g, n, tx, len, q, r, ⟨vs, cm, v1, v2, v3⟩, bf, sv, past, isv, pm, ⟨r1, d1, it, lo⟩, ⟨mv, mn, ks, tn⟩, ln, lm, a0, wr, od, o, rfl, i1, i2, i3, i4, i5, i6, i7⟩ := hi
  have hg := i1.1
  have ha := hg.1
  have hu := hg.2.2.1
  have hw := hg.w
  have hp : pm ≤ 8 := by rw [i2.2.2.2.1]; exact i2.2.1
  by_cases hx : x.toInt < 0 ∨ 11 < x.toInt
  · exact case_mk (okX5_account_out hx) rfl (okX6_account_out hx) (Inv.of i1 i2 i3 i4 i5 i6 i7)
  · have h0 : ¬ x < 0 := fun z => hx (Or.inl (by rw [Int32.lt_iff_toInt_lt] at z; exact z))
    obtain ⟨k, hk, rfl⟩ := nI_of h0
    rw [nI_toInt hk] at hx
    have h12 : k = 0 ∨ k = 1 ∨ k = 2 ∨ k = 3 ∨ k = 4 ∨ k = 5 ∨ k = 6 ∨ k = 7 ∨ k = 8 ∨ k = 9 ∨ k = 10 ∨ k = 11 := by omega
    rcases h12 with rfl | rfl | rfl | rfl | rfl | rfl | rfl | rfl | rfl | rfl | rfl | rfl
    · exact case_mk (okX5_account_p0 ha) rfl (okX6_account_p0 ha.1) (Inv.of i1 i2 i3 i4 i5 i6 i7)
    · exact case_mk (okX5_account_p1 ha) rfl (okX6_account_p1 ha.1) (Inv.of i1 i2 i3 i4 i5 i6 i7)
    · exact case_mk (okX5_account_p2 ha) rfl (okX6_account_p2 ha.1) (Inv.of i1 i2 i3 i4 i5 i6 i7)
    · exact case_mk (okX5_account_p3 ha) rfl (okX6_account_p3 ha.1 hu) (Inv.of i1 i2 i3 i4 i5 i6 i7)
    · refine case_mk (okX5_account_p4 ha) rfl (okX6_account_p4 ha.1 hu hw) ?_
      generalize preL (movP a.1) 25 = u0
      generalize tmF a.1 Tm = u1
      generalize loAll (fun _ _ => false) a.1 lo 25 = u2
      exact (Inv.of i1 i2 i3 i4 i5 (i6.lo (lo2 := u2)) i7)
    · exact case_mk (okX5_account_p5 ha) rfl (okX6_account_p5 ha.1) (Inv.of i1 i2 i3 i4 i5 i6 i7)
    · exact case_mk (okX5_account_p6 ha) rfl (okX6_account_p6) (Inv.of i1 i2 i3 i4 i5 i6 i7)
    · exact case_mk (okX5_account_p7 ha) rfl (okX6_account_p7) (Inv.of i1 i2 i3 i4 i5 i6 i7)
    · exact case_mk (okX5_account_p8 ha) rfl (okX6_account_p8) (Inv.of i1 i2 i3 i4 i5 i6 i7)
    · exact case_mk (okX5_account_p9 ha) rfl (okX6_account_p9) (Inv.of i1 i2 i3 i4 i5 i6 i7)
    · exact case_mk (okX5_account_p10 ha) rfl (okX6_account_p10) (Inv.of i1 i2 i3 i4 i5 i6 i7)
    · obtain ⟨j1, j2, j3, rfl, j5⟩ := id i2
      exact case_mk (okX5_account_p11 ha) rfl (okX6_account_p11) (Inv.of i1 i2 i3 i4 i5 i6 i7)
set_option maxHeartbeats 4000000 in
set_option maxRecDepth 100000 in
theorem case_isWell : CaseOk MX5_isWell MX6_isWell [] := by
  intro h hi
  obtain ⟨a, b, c, d, R, nx, sz, Tm, Tk, ta, mc, g, n, tx, len, q, r, ⟨vs, cm, v1, v2, v3⟩, bf, sv, past, isv, pm, ⟨r1, d1, it, lo⟩, ⟨mv, mn, ks, tn⟩, ln, lm, a0, wr, od, o, rfl, i1, i2, i3, i4, i5, i6, i7⟩ := hi
  have hg := i1.1
  have ha := hg.1
  have hu := hg.2.2.1
  have hw := hg.w
  have hp : pm ≤ 8 := by rw [i2.2.2.2.1]; exact i2.2.1
  have hatt : ∀ i, i < 25 → cnt (attR a.1 i) 25 = lineN a.1 i := fun i hi => (line_eq hi).symm
  cases hf : fitsB a.1 with
  | false => exact case_mk (okX5_isWell_p0 ha hatt hf) rfl (okX6_isWell) (Inv.of i1 i2 i3 i4 i5 i6 i7)
  | true =>
    refine case_mk (okX5_isWell_p1 ha hatt hf (tally_tot a.1 ta)) rfl okX6_isWell ?_
    generalize tmF a.1 Tm = u0
    generalize tkF a.1 Tk = u1
    generalize tlO a.1 25 (zt ta 4) = u2
    exact Inv.of i1 i2 i3 i4 i5 i6 i7
set_option maxHeartbeats 4000000 in
set_option maxRecDepth 100000 in
theorem case_share : CaseOk MX5_share MX6_share [] := by
  intro h hi
  obtain ⟨a, b, c, d, R, nx, sz, Tm, Tk, ta, mc, g, n, tx, len, q, r, ⟨vs, cm, v1, v2, v3⟩, bf, sv, past, isv, pm, ⟨r1, d1, it, lo⟩, ⟨mv, mn, ks, tn⟩, ln, lm, a0, wr, od, o, rfl, i1, i2, i3, i4, i5, i6, i7⟩ := hi
  have hg := i1.1
  have ha := hg.1
  have hu := hg.2.2.1
  have hw := hg.w
  have hp : pm ≤ 8 := by rw [i2.2.2.2.1]; exact i2.2.1
  exact case_mk (okX5_share ha) rfl (okX6_share ha.1) (Inv.of i1 i2 i3 i4 i5 i6 i7)
set_option maxHeartbeats 4000000 in
set_option maxRecDepth 100000 in
theorem case_undo : CaseOk MX5_undo MX6_undo [] := by
  intro h hi
  obtain ⟨a, b, c, d, R, nx, sz, Tm, Tk, ta, mc, g, n, tx, len, q, r, ⟨vs, cm, v1, v2, v3⟩, bf, sv, past, isv, pm, ⟨r1, d1, it, lo⟩, ⟨mv, mn, ks, tn⟩, ln, lm, a0, wr, od, o, rfl, i1, i2, i3, i4, i5, i6, i7⟩ := hi
  have hg := i1.1
  have ha := hg.1
  have hu := hg.2.2.1
  have hw := hg.w
  have hp : pm ≤ 8 := by rw [i2.2.2.2.1]; exact i2.2.1
  obtain ⟨j1, j2, j3, rfl, j5⟩ := id i2
  cases pm with
  | zero => exact case_mk (okX5_undo_p0) rfl (okX6_undo_p0 rfl) (Inv.of i1 i2 i3 i4 i5 i6 i7)
  | succ m =>
    obtain ⟨k1, k2⟩ := ring_undo i2
    have e1 : cpB past (sF a) (29 * m) 0 29 = sF (R (prv nx)) := by
      funext t
      unfold cpB
      by_cases ht : t < 29
      · rw [if_pos ⟨Nat.zero_le _, by omega⟩, Nat.sub_zero, j5 m t (by omega) ht, k2]
      · rw [if_neg (by omega), sF_hi (by omega), sF_hi (by omega)]
    have h6 := okX6_undo_p1 (P := (R (prv nx), b, c, d)) (Hs := (R, prv nx, m)) (T := (Tm, Tk, ta, mc)) (L := (g, n)) (S := (tx, len, q, r)) (V := (vs, cm, v1, v2, v3)) (ml := (ln, lm)) (mt := (tx, len, a0, wr, od, o)) (bf := bf) (sv := sv) (past := past) (isv := isv) (mr := (r1, d1, it, lo)) (mm := (mv, mn, ks, tn)) (a := a) (pm := m + 1) rfl j2
    rw [e1] at h6
    have h5 := okX5_undo_p1 (a := a) (b := b) (c := c) (d := d) (T := (Tm, Tk, ta, mc)) (L := (g, n)) (S := (tx, len, q, r)) (V := (vs, cm, v1, v2, v3)) (ms := (sF a, bf, sv, past, isv, m + 1)) (mr := (r1, d1, it, lo)) (mm := (mv, mn, ks, tn)) (ml := (ln, lm)) (mt := (tx, len, a0, wr, od, o)) (R := R) (nx := nx) (sz := m + 1) j1 (Nat.succ_pos m) j2 (fun j hj => (j3 j hj).1) ha
    rw [Nat.add_sub_cancel] at h5
    exact case_mk h5 rfl h6 (Inv.of ⟨j3 _ (prv_lt j1), i1.2.1, i1.2.2.1, i1.2.2.2⟩ k1 i3 i4 i5 i6 i7)
set_option maxHeartbeats 4000000 in
set_option maxRecDepth 100000 in
theorem case_save : CaseOk MX5_save MX6_save [] := by
  intro h hi
  obtain ⟨a, b, c, d, R, nx, sz, Tm, Tk, ta, mc, g, n, tx, len, q, r, ⟨vs, cm, v1, v2, v3⟩, bf, sv, past, isv, pm, ⟨r1, d1, it, lo⟩, ⟨mv, mn, ks, tn⟩, ln, lm, a0, wr, od, o, rfl, i1, i2, i3, i4, i5, i6, i7⟩ := hi
  have hg := i1.1
  have ha := hg.1
  have hu := hg.2.2.1
  have hw := hg.w
  have hp : pm ≤ 8 := by rw [i2.2.2.2.1]; exact i2.2.1
  exact case_mk (okX5_save ha i1.2.2.2.1) rfl (okX6_save ha.1) (Inv.of ⟨hg, i1.2.1, i1.2.2.1, hg⟩ i2 i3 i4 i5 i6 ⟨rfl, fun _ i hi => cpB_at hi⟩)
set_option maxHeartbeats 4000000 in
set_option maxRecDepth 100000 in
theorem case_restore : CaseOk MX5_restore MX6_restore [] := by
  intro h hi
  obtain ⟨a, b, c, d, R, nx, sz, Tm, Tk, ta, mc, g, n, tx, len, q, r, ⟨vs, cm, v1, v2, v3⟩, bf, sv, past, isv, pm, ⟨r1, d1, it, lo⟩, ⟨mv, mn, ks, tn⟩, ln, lm, a0, wr, od, o, rfl, i1, i2, i3, i4, i5, i6, i7⟩ := hi
  have hg := i1.1
  have ha := hg.1
  have hu := hg.2.2.1
  have hw := hg.w
  have hp : pm ≤ 8 := by rw [i2.2.2.2.1]; exact i2.2.1
  obtain ⟨j1, j2⟩ := id i7
  simp only [] at j1
  subst j1
  cases vs with
  | false => exact case_mk (okX5_restore_p0) rfl (okX6_restore_p0 rfl) (Inv.of i1 i2 i3 i4 i5 i6 i7)
  | true => exact case_mk (okX5_restore_p1 ha i1.2.2.2.1) rfl (okX6_restore_p1 i1.2.2.2.1.1 rfl (j2 rfl)) (Inv.of ⟨i1.2.2.2, i1.2.1, i1.2.2.1, i1.2.2.2⟩ ⟨by decide, by decide, i2.2.2.1, rfl, fun j k hj _ => absurd hj (by omega)⟩ i3 i4 i5 i6 i7)
