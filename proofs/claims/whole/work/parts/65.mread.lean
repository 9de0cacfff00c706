/-! the reference: read -/
theorem hereB_t {tx : Nat → Nat} {n a0 lo hi : Nat} {wr : Bool} (h : hereB tx n a0 wr lo hi = true) : wr = false ∧ a0 < n ∧ lo ≤ tx a0 ∧ tx a0 ≤ hi := by
  unfold hereB at h
  rw [Bool.and_eq_true, Bool.and_eq_true, Bool.not_eq_true', decide_eq_true_eq, decide_eq_true_eq] at h
  exact ⟨h.1, h.2.1, h.2.2.1, h.2.2.2⟩
theorem hereB_i {tx : Nat → Nat} {n a0 lo hi : Nat} (h1 : a0 < n) (h2 : lo ≤ tx a0) (h3 : tx a0 ≤ hi) : hereB tx n a0 false lo hi = true := by
  unfold hereB
  rw [decide_eq_true h1, decide_eq_true (p := lo ≤ tx a0 ∧ tx a0 ≤ hi) ⟨h2, h3⟩]
  rfl
theorem hereB_w {tx : Nat → Nat} {n a0 lo hi : Nat} : hereB tx n a0 true lo hi = false := rfl
theorem hereB_n {tx : Nat → Nat} {n a0 lo hi : Nat} {wr : Bool} (h : ¬ (a0 < n ∧ lo ≤ tx a0 ∧ tx a0 ≤ hi)) : hereB tx n a0 wr lo hi = false := by
  cases e : hereB tx n a0 wr lo hi with
  | false => rfl
  | true => exact absurd (hereB_t e).2 h
theorem sgn_y {tx : Nat → Nat} {n a0 lo hi : Nat} (h1 : a0 < n) (h2 : lo ≤ tx a0) (h3 : tx a0 ≤ hi) : sgn tx n lo hi a0 false = (a0 + 1, false, tx a0 - lo) := by unfold sgn; rw [if_pos (hereB_i h1 h2 h3)]
theorem sgn_w {tx : Nat → Nat} {n a0 lo hi : Nat} : sgn tx n lo hi a0 true = (a0, true, 0) := by unfold sgn; rw [if_neg (by rw [hereB_w]; decide)]
theorem sgn_n {tx : Nat → Nat} {n a0 lo hi : Nat} {wr : Bool} (h : ¬ (a0 < n ∧ lo ≤ tx a0 ∧ tx a0 ≤ hi)) : sgn tx n lo hi a0 wr = (a0, true, 0) := by unfold sgn; rw [if_neg (by rw [hereB_n h]; decide)]
theorem roF_b {tx : Nat → Nat} {n a0 o : Nat} {od : Nat → Nat} (ha : a0 ≤ n) (ho : o ≤ a0) : (roF tx n a0 od o).1 ≤ n ∧ a0 ≤ (roF tx n a0 od o).1 ∧ (roF tx n a0 od o).2.2.2 ≤ (roF tx n a0 od o).1 := by
  have hcp := chA_pos (tx := tx) (n := n) (a0 := a0)
  unfold roF
  by_cases hm : manI (chA tx n a0) ≠ 0
  · rw [if_pos hm]
    have hlt := (hcp (fun z => hm (by rw [z]; rfl))).1
    have h := sqr_b (tx := tx) (wr := false) (show a0 + 1 ≤ n from hlt)
    refine ⟨h.1, ?_, ?_⟩ <;> simp only [] <;> omega
  · rw [if_neg hm]
    by_cases h45 : chA tx n a0 = 45
    · rw [if_pos h45]
      have hlt := (hcp (by omega)).1
      have h := sqr_b (tx := tx) (wr := false) (show a0 + 1 ≤ n from hlt)
      refine ⟨h.1, ?_, ?_⟩ <;> simp only [] <;> omega
    · rw [if_neg h45]
      by_cases hp : 97 ≤ chA tx n a0 ∧ chA tx n a0 ≤ 101
      · rw [if_pos hp]
        obtain ⟨hlt, hce⟩ := hcp (by omega)
        have hs : (sgn tx n 97 101 a0 false).1 = a0 + 1 := by rw [sgn_y hlt (by omega) (by omega)]
        have hb0 := sgn_b (tx := tx) (lo := 97) (hi := 101) (wr := false) ha
        have hb1 := sgn_b (tx := tx) (lo := 49) (hi := 53) (wr := (sgn tx n 97 101 a0 false).2.1) hb0.1
        have hb2 := sqr_b (tx := tx) (wr := false) ha
        have hb3 := sgn_b (tx := tx) (lo := 45) (hi := 45) (wr := (sqr tx n a0 false).2.1) hb2.1
        have hb4 := sqr_b (tx := tx) (wr := (plyA tx n a0).2.1) (show (plyA tx n a0).1 ≤ n from hb3.1)
        have e1 : a0 + 1 ≤ (sqr tx n a0 false).1 := by rw [← hs]; exact hb1.2.1
        have e2 : (sqr tx n a0 false).1 ≤ (plyA tx n a0).1 := hb3.2.1
        have e3 : (plyA tx n a0).1 ≤ (plyB tx n a0).1 := hb4.2.1
        have e4 : (plyB tx n a0).1 ≤ n := hb4.1
        refine ⟨e4, ?_, ?_⟩ <;> simp only [] <;> omega
      · rw [if_neg hp]
        by_cases h3 : chA tx n a0 = 116 ∨ chA tx n a0 = 109 ∨ chA tx n a0 = 115
        · rw [if_pos h3]
          have hlt := (hcp (by omega)).1
          refine ⟨?_, ?_, ?_⟩ <;> simp only [] <;> omega
        · rw [if_neg h3]
          exact ⟨ha, Nat.le_refl _, ho⟩
def rdS (tx : Nat → Nat) (n : Nat) : Nat → Nat → Bool → (Nat → Nat) → Nat → qO4
  | 0, a0, wr, od, o => (a0, wr, od, o)
  | m + 1, a0, wr, od, o => if hereB tx n a0 wr 59 59 = true then rdS tx n m (roF tx n (a0 + 1) od o).1 (roF tx n (a0 + 1) od o).2.1 (roF tx n (a0 + 1) od o).2.2.1 (roF tx n (a0 + 1) od o).2.2.2 else (a0, wr, od, o)
def pzF (tx : Nat → Nat) (n : Nat) (od : Nat → Nat) : qO4 := rdS tx n (n + 1) (roF tx n 0 od 0).1 (roF tx n 0 od 0).2.1 (roF tx n 0 od 0).2.2.1 (roF tx n 0 od 0).2.2.2
theorem rdS_b {tx : Nat → Nat} {n : Nat} : ∀ m a0 wr od o, a0 ≤ n → o ≤ a0 → (rdS tx n m a0 wr od o).1 ≤ n ∧ (rdS tx n m a0 wr od o).2.2.2 ≤ (rdS tx n m a0 wr od o).1
  | 0, a0, wr, od, o, h1, h2 => ⟨h1, h2⟩
  | m + 1, a0, wr, od, o, h1, h2 => by
    rw [rdS]
    by_cases e : hereB tx n a0 wr 59 59 = true
    · rw [if_pos e]
      have h := roF_b (tx := tx) (od := od) (show a0 + 1 ≤ n from (hereB_t e).2.1) (show o ≤ a0 + 1 by omega)
      exact rdS_b m _ _ _ _ h.1 h.2.2
    · rw [if_neg e]; exact ⟨h1, h2⟩
theorem pzF_b {tx : Nat → Nat} {n : Nat} {od : Nat → Nat} : (pzF tx n od).1 ≤ n ∧ (pzF tx n od).2.2.2 ≤ (pzF tx n od).1 := by
  have h := roF_b (tx := tx) (od := od) (Nat.zero_le n) (Nat.le_refl 0)
  exact rdS_b (n + 1) _ _ _ _ h.1 h.2.2
set_option maxHeartbeats 4000000 in
set_option maxRecDepth 100000 in
theorem read_parse {P : qPs} {Hs : qHs} {T : qTs} {L : qLs} {S : qSs} {V : qVs} {ml : qml} {bf sv past : Nat → Nat} {isv : Bool} {pm : Nat} {tx od : Nat → Nat} {n a0 o : Nat} {wr : Bool} {r1 d1 it : Int32} {tn : Nat → Nat} {w : qW} {a : qP} {X : qX} (C : qC X MX6_read) (hn : n ≤ 70) (ht : ∀ i, tx i < 128) (kk : Ex X MX6_read 47 [(0, .ref 40)] [] (HH P Hs T L S V (sF a, bf, sv, past, isv, pm) (r1, d1, it, w.1) (w.2.1, w.2.2.1, w.2.2.2, tn) ml (tx, n, (pzF tx n od).1, (pzF tx n od).2.1, (pzF tx n od).2.2.1, (pzF tx n od).2.2.2))) : Ex X MX6_read 0 [(0, .ref 40)] [] (HH P Hs T L S V (sF a, bf, sv, past, isv, pm) (r1, d1, it, w.1) (w.2.1, w.2.2.1, w.2.2.2, tn) ml (tx, n, a0, wr, od, o)) := by
  sorry
set_option maxHeartbeats 4000000 in
set_option maxRecDepth 100000 in
theorem okX6_read_p0 {P : qPs} {Hs : qHs} {T : qTs} {L : qLs} {S : qSs} {V : qVs} {ml : qml} {bf sv past : Nat → Nat} {isv : Bool} {pm : Nat} {tx od : Nat → Nat} {n a0 o : Nat} {wr : Bool} {r1 d1 it : Int32} {tn : Nat → Nat} {w : qW} {a : qP} (hn : n ≤ 70) (ht : ∀ i, tx i < 128) (hbad : (pzF tx n od).2.1 = true ∨ (pzF tx n od).1 < n) : Ok MX6_read [.ref 40] (HH P Hs T L S V (sF a, bf, sv, past, isv, pm) (r1, d1, it, w.1) (w.2.1, w.2.2.1, w.2.2.2, tn) ml (tx, n, a0, wr, od, o)) (some (.int ((-100) - nI (pzF tx n od).1))) (HH P Hs T L S V (sF a, bf, sv, past, isv, pm) (r1, d1, it, w.1) (w.2.1, w.2.2.1, w.2.2.2, tn) ml (tx, 0, (pzF tx n od).1, (pzF tx n od).2.1, (pzF tx n od).2.2.1, (pzF tx n od).2.2.2)) := by
  sorry
def ansR (oN : Nat) (fin : qRd) : Int32 := if fin.1 < 0 then -3 else nI oN
theorem ansR_n {oN : Nat} {fin : qRd} (h : fin.1 < 0) : ansR oN fin = -3 := by unfold ansR; rw [if_pos h]
theorem ansR_p {oN : Nat} {fin : qRd} (h : ¬ fin.1 < 0) : ansR oN fin = nI oN := by unfold ansR; rw [if_neg h]
def posR (a : qP) (fin : qRd) : qP := if fin.1 < 0 then a else fin.2.1
theorem rdR_neg {wh og sq : Nat → Int32} {st : qRd} (h : st.1 < 0) : ∀ m k, rdR wh og sq m k st = st
  | 0, k => rfl
  | m + 1, k => by rw [rdR, if_pos h]
theorem cmdC_Bd {a c : qP} {Tk : Nat → Int32} {x : Int32} (ha : Bd a.1) (hc : Bd c.1) : Bd (cmdC a c Tk x).1 := by
  unfold cmdC
  (repeat' split) <;> first | exact hc | exact ha | exact (thriftF_Bd ha hc).2
/-- the class's command and the reference's order are one -/
def OrdR (x y s : Int32) (f g k : Nat) : Prop := CmV f g k ∧ ∀ (a c : qP) (Tk : Nat → Int32), cmdO a c Tk x y s = cmdN a c Tk f g k
set_option maxHeartbeats 4000000 in
set_option maxRecDepth 100000 in
theorem read_loop {P : qPs} {Hs : qHs} {T : qTs} {L : qLs} {S : qSs} {V : qVs} {ml : qml} {bf sv past : Nat → Nat} {isv : Bool} {pm : Nat} {tx : Nat → Nat} {z : qO4} {a : qP} {wh og sq : Nat → Int32} {oN : Nat} (hoN : z.2.2.2 = oN) (hoN2 : oN ≤ 70) (hp : pm ≤ 8) (hrel : ∀ k, k < oN → OrdR (wh k) (og k) (sq k) (z.2.2.1 (3 * k)) (z.2.2.1 (3 * k + 1)) (z.2.2.1 (3 * k + 2))) :
    ∀ m k, k + m = oN → ∀ (st : qRd) (w : qW) (tn : Nat → Nat), PG st.2.1 → Bd st.2.2.1.1 → ¬ st.1 < 0 → ∃ (w2 : qW) (tn2 : Nat → Nat), ∀ X, qC X MX6_read → qEnd X MX6_read (some (.int (ansR oN (rdR wh og sq m k st)))) (HH P Hs T L S V (sF (posR a (rdR wh og sq m k st)), (cpB (sF a) bf 0 0 29), sv, paO past (cpB (sF a) bf 0 0 29) pm (ansR oN (rdR wh og sq m k st)), isv, pmO pm (ansR oN (rdR wh og sq m k st))) ((rdR wh og sq m k st).2.2.2.2.2.2.1, (rdR wh og sq m k st).2.2.2.2.2.2.2.1, (rdR wh og sq m k st).2.2.2.2.2.2.2.2, w2.1) (w2.2.1, w2.2.2.1, w2.2.2.2, tn2) ml (tx, 0, z.1, z.2.1, z.2.2.1, z.2.2.2)) → Ex X MX6_read 94 [(2, .int (nI k)), (1, .int (nI 0)), (0, .ref 40)] [] (HH P Hs T L S V (sF st.2.1, (cpB (sF a) bf 0 0 29), sv, past, isv, pm) (st.2.2.2.2.2.2.1, st.2.2.2.2.2.2.2.1, st.2.2.2.2.2.2.2.2, w.1) (w.2.1, w.2.2.1, w.2.2.2, tn) ml (tx, 0, z.1, z.2.1, z.2.2.1, z.2.2.2)) := by
  sorry
set_option maxHeartbeats 4000000 in
set_option maxRecDepth 100000 in
theorem okX6_read_p1 {P : qPs} {Hs : qHs} {T : qTs} {L : qLs} {S : qSs} {V : qVs} {ml : qml} {bf sv past : Nat → Nat} {isv : Bool} {pm : Nat} {tx od : Nat → Nat} {n a0 o : Nat} {wr : Bool} {r1 d1 it : Int32} {tn : Nat → Nat} {w : qW} {a : qP} {wh og sq : Nat → Int32} {oN : Nat} {c : qP} {Tk : Nat → Int32} {V0 : qVs} (hn : n ≤ 70) (ht : ∀ i, tx i < 128) (hg : PG a) (hc : Bd c.1) (hp : pm ≤ 8) (hV : V0.2.2.1 = r1 ∧ V0.2.2.2.1 = d1 ∧ V0.2.2.2.2 = it) (hok : (pzF tx n od).2.1 = false ∧ ¬ (pzF tx n od).1 < n) (hoN : (pzF tx n od).2.2.2 = oN) (hrel : ∀ k, k < oN → OrdR (wh k) (og k) (sq k) ((pzF tx n od).2.2.1 (3 * k)) ((pzF tx n od).2.2.1 (3 * k + 1)) ((pzF tx n od).2.2.1 (3 * k + 2))) : ∃ (w2 : qW) (tn2 : Nat → Nat), Ok MX6_read [.ref 40] (HH P Hs T L S V (sF a, bf, sv, past, isv, pm) (r1, d1, it, w.1) (w.2.1, w.2.2.1, w.2.2.2, tn) ml (tx, n, a0, wr, od, o)) (some (.int (ansR oN (rdR wh og sq oN 0 (nI 0, a, c, Tk, V0))))) (HH P Hs T L S V (sF (posR a (rdR wh og sq oN 0 (nI 0, a, c, Tk, V0))), (cpB (sF a) bf 0 0 29), sv, paO past (cpB (sF a) bf 0 0 29) pm (ansR oN (rdR wh og sq oN 0 (nI 0, a, c, Tk, V0))), isv, pmO pm (ansR oN (rdR wh og sq oN 0 (nI 0, a, c, Tk, V0)))) ((rdR wh og sq oN 0 (nI 0, a, c, Tk, V0)).2.2.2.2.2.2.1, (rdR wh og sq oN 0 (nI 0, a, c, Tk, V0)).2.2.2.2.2.2.2.1, (rdR wh og sq oN 0 (nI 0, a, c, Tk, V0)).2.2.2.2.2.2.2.2, w2.1) (w2.2.1, w2.2.2.1, w2.2.2.2, tn2) ml (tx, 0, (pzF tx n od).1, (pzF tx n od).2.1, (pzF tx n od).2.2.1, (pzF tx n od).2.2.2)) := by
  sorry
