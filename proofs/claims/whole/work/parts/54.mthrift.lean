/-! the reference: thrift -/
def scW (b : Nat → Nat) : Nat → qW → Option Nat × qW
  | 0, w => (none, w)
  | n + 1, w => if spR b n = true then (some n, spW b n w) else scW b n (spW b n w)
theorem scW_some {b : Nat → Nat} : ∀ n w i, (scW b n w).1 = some i → i < n ∧ spR b i = true
  | 0, w, i, h => by cases h
  | n + 1, w, i, h => by
    rw [scW] at h
    by_cases e : spR b n = true
    · rw [if_pos e] at h; cases h; exact ⟨by omega, e⟩
    · rw [if_neg e] at h
      have := scW_some n _ i h
      exact ⟨by omega, this.2⟩
abbrev qZ : Type := Nat × (Nat → Nat) × (Nat → Nat) × qW
def thW : Nat → Nat → (Nat → Nat) → (Nat → Nat) → qW → qZ
  | 0, off, b, s, w => (off, b, s, w)
  | m + 1, off, b, s, w => match (scW b 25 w).1 with
    | none => (off, b, s, (scW b 25 w).2)
    | some i => thW m (off + 1) (up b i 0) (up s i 0) (scW b 25 w).2
theorem spR_q {b : Nat → Nat} {i : Nat} (h : spR b i = true) : 2 ≤ b i ∧ b i ≤ 6 := by
  unfold spR spQ at h
  simp only [Bool.and_eq_true, decide_eq_true_eq] at h
  exact h.1.1.1
theorem spR_f {b : Nat → Nat} {i : Nat} (h : spR b i = true) : fitsB (up b i 0) = true := by
  unfold spR at h
  simp only [Bool.and_eq_true] at h
  exact h.2.1
/-- what thrift keeps -/
def ThG (s b : Nat → Nat) : Prop := (∀ i, b i < 8) ∧ Ag s b ∧ Uq b 7 ∧ wNo b ≤ 12 ∧ fitsB b = true
theorem ThG.up {s b : Nat → Nat} (h : ThG s b) {i : Nat} (hr : spR b i = true) : ThG (up s i 0) (up b i 0) :=
  ⟨up_lt h.1 (by decide), h.2.1.up i 0, Uq_up h.2.2.1 (by decide), Nat.le_trans wNo_up0 h.2.2.2.1, spR_f hr⟩
theorem thW_ok {m off : Nat} {b s : Nat → Nat} {w : qW} (h : ThG s b) : ThG (thW m off b s w).2.2.1 (thW m off b s w).2.1 ∧ (thW m off b s w).1 ≤ off + m := by
  induction m generalizing off b s w with
  | zero => exact ⟨h, Nat.le_refl _⟩
  | succ m ih =>
    rw [thW]
    cases e : (scW b 25 w).1 with
    | none => exact ⟨h, by simp only []; omega⟩
    | some i =>
      have h2 := ih (off := off + 1) (w := (scW b 25 w).2) (h.up (scW_some 25 w i e).2)
      exact ⟨h2.1, by have := h2.2; simp only []; omega⟩
def thZ (b s : Nat → Nat) (w : qW) : qZ := thW 26 0 b s w
set_option maxHeartbeats 4000000 in
set_option maxRecDepth 100000 in
theorem okX6_doThrift_p0 {P : qPs} {Hs : qHs} {T : qTs} {L : qLs} {S : qSs} {V : qVs} {mm : qmm} {ml : qml} {mt : qmt} {s bf sv past : Nat → Nat} {isv : Bool} {pm : Nat} {r1 d1 it lo : Int32} {b : Nat → Nat} (hb : ∀ i, b i < 8) (hsb : Ag s b) (hu : Uq b 7) (hf : fitsB b = false) : Ok MX6_doThrift [.ref 40] (HH P Hs T L S V (s, bf, sv, past, isv, pm) (r1, d1, it, lo) mm ml mt) (some (.int (-3))) (HH P Hs T L S V (s, bf, sv, past, isv, pm) (nI 7, (match loc7 b 7 with | none => nI 0 | some j => nI (lineN b j)), -4, lo) mm ml mt) := by
  sorry
set_option maxHeartbeats 4000000 in
set_option maxRecDepth 100000 in
theorem okX6_doThrift_p1 {P : qPs} {Hs : qHs} {T : qTs} {L : qLs} {S : qSs} {V : qVs} {ml : qml} {mt : qmt} {s bf sv past tn : Nat → Nat} {isv : Bool} {pm : Nat} {r1 d1 it : Int32} {w : qW} {b : Nat → Nat} (hb : ∀ i, b i < 8) (hsb : Ag s b) (hu : Uq b 7) (hw : wNo b ≤ 12) (hf : fitsB b = true) (h0 : (thZ b s w).1 = 0) : Ok MX6_doThrift [.ref 40] (HH P Hs T L S V (s, bf, sv, past, isv, pm) (r1, d1, it, (w).1) ((w).2.1, (w).2.2.1, (w).2.2.2, tn) ml mt) (some (.int (-3))) (HH P Hs T L S V (up (thZ b s w).2.2.1 27 ((thZ b s w).2.2.1 27 + (thZ b s w).1), bf, sv, past, isv, pm) (nI 6, nI (menN (thZ b s w).2.1), -4, (thZ b s w).2.2.2.1) ((thZ b s w).2.2.2.2.1, (thZ b s w).2.2.2.2.2.1, (thZ b s w).2.2.2.2.2.2, tn) ml mt) := by
  sorry
set_option maxHeartbeats 4000000 in
set_option maxRecDepth 100000 in
theorem okX6_doThrift_p2 {P : qPs} {Hs : qHs} {T : qTs} {L : qLs} {S : qSs} {V : qVs} {ml : qml} {mt : qmt} {s bf sv past tn : Nat → Nat} {isv : Bool} {pm : Nat} {r1 d1 it : Int32} {w : qW} {b : Nat → Nat} (hb : ∀ i, b i < 8) (hsb : Ag s b) (hu : Uq b 7) (hw : wNo b ≤ 12) (hf : fitsB b = true) (h0 : ¬ (thZ b s w).1 = 0) : Ok MX6_doThrift [.ref 40] (HH P Hs T L S V (s, bf, sv, past, isv, pm) (r1, d1, it, (w).1) ((w).2.1, (w).2.2.1, (w).2.2.2, tn) ml mt) (some (.int (nI (thZ b s w).1))) (HH P Hs T L S V (up (thZ b s w).2.2.1 27 ((thZ b s w).2.2.1 27 + (thZ b s w).1), bf, sv, past, isv, pm) (r1, d1, it, (thZ b s w).2.2.2.1) ((thZ b s w).2.2.2.2.1, (thZ b s w).2.2.2.2.2.1, (thZ b s w).2.2.2.2.2.2, tn) ml mt) := by
  sorry
set_option maxHeartbeats 4000000 in
set_option maxRecDepth 100000 in
theorem okX6_manOf_p0 {P : qPs} {Hs : qHs} {T : qTs} {L : qLs} {S : qSs} {V : qVs} {mr : qmr} {mm : qmm} {ml : qml} {mt : qmt} {s bf sv past : Nat → Nat} {isv : Bool} {pm : Nat} (y : Int32) {x : Int32} (hx : isSq x = false) : Ok MX6_manOf [.ref 40, .int x, .int y] (HH P Hs T L S V (s, bf, sv, past, isv, pm) mr mm ml mt) (some (.int (-1))) (HH P Hs T L S V (s, bf, sv, past, isv, pm) mr mm ml mt) := by
  sorry
set_option maxHeartbeats 4000000 in
set_option maxRecDepth 100000 in
theorem okX6_manOf_p1 {P : qPs} {Hs : qHs} {T : qTs} {L : qLs} {S : qSs} {V : qVs} {mr : qmr} {mm : qmm} {ml : qml} {mt : qmt} {s bf sv past : Nat → Nat} {isv : Bool} {pm : Nat} {i : Nat} (hi : i < 25) {y : Int32} (hy : inB y (nI 0) (nI 3) = false) : Ok MX6_manOf [.ref 40, .int (nI i), .int y] (HH P Hs T L S V (s, bf, sv, past, isv, pm) mr mm ml mt) (some (.int (-2))) (HH P Hs T L S V (s, bf, sv, past, isv, pm) mr mm ml mt) := by
  sorry
set_option maxHeartbeats 4000000 in
set_option maxRecDepth 100000 in
theorem okX6_manOf_z {P : qPs} {Hs : qHs} {T : qTs} {L : qLs} {S : qSs} {V : qVs} {mr : qmr} {mm : qmm} {ml : qml} {mt : qmt} {s bf sv past : Nat → Nat} {isv : Bool} {pm : Nat} {b : Nat → Nat} (hb : ∀ i, b i < 8) (hsb : Ag s b) {i : Nat} (hi : i < 25) {k : Nat} (hk : k ≤ 3) (h0 : b i = 0) : Ok MX6_manOf [.ref 40, .int (nI i), .int (nI k)] (HH P Hs T L S V (s, bf, sv, past, isv, pm) mr mm ml mt) (some (.int (-4))) (HH P Hs T L S V (s, bf, sv, past, isv, pm) mr mm ml mt) := by
  sorry
set_option maxHeartbeats 4000000 in
set_option maxRecDepth 100000 in
theorem okX6_manOf_n {P : qPs} {Hs : qHs} {T : qTs} {L : qLs} {S : qSs} {V : qVs} {mr : qmr} {mm : qmm} {ml : qml} {mt : qmt} {s bf sv past : Nat → Nat} {isv : Bool} {pm : Nat} {b : Nat → Nat} (hb : ∀ i, b i < 8) (hsb : Ag s b) (hu : Uq b 7) {i : Nat} (hi : i < 25) {k : Nat} (hk : k ≤ 3) (hk2 : 2 ≤ k) (h0 : ¬ b i = 0) (hf : fitsB b = false) : Ok MX6_manOf [.ref 40, .int (nI i), .int (nI k)] (HH P Hs T L S V (s, bf, sv, past, isv, pm) mr mm ml mt) (some (.int (-4))) (HH P Hs T L S V (s, bf, sv, past, isv, pm) mr mm ml mt) := by
  sorry
set_option maxHeartbeats 4000000 in
set_option maxRecDepth 100000 in
theorem okX6_manOf_a {P : qPs} {Hs : qHs} {T : qTs} {L : qLs} {S : qSs} {V : qVs} {mr : qmr} {mm : qmm} {ml : qml} {mt : qmt} {s bf sv past : Nat → Nat} {isv : Bool} {pm : Nat} {b : Nat → Nat} (hb : ∀ i, b i < 8) (hsb : Ag s b) (hu : Uq b 7) {i : Nat} (hi : i < 25) (h0 : ¬ b i = 0) : Ok MX6_manOf [.ref 40, .int (nI i), .int (nI 0)] (HH P Hs T L S V (s, bf, sv, past, isv, pm) mr mm ml mt) (some (.int (nI (cnt (reachP b i) 25)))) (HH P Hs T L S V (s, bf, sv, past, isv, pm) mr mm ml mt) := by
  sorry
set_option maxHeartbeats 4000000 in
set_option maxRecDepth 100000 in
theorem okX6_manOf_b {P : qPs} {Hs : qHs} {T : qTs} {L : qLs} {S : qSs} {V : qVs} {mr : qmr} {mm : qmm} {ml : qml} {mt : qmt} {s bf sv past : Nat → Nat} {isv : Bool} {pm : Nat} {b : Nat → Nat} (hb : ∀ i, b i < 8) (hsb : Ag s b) (hu : Uq b 7) {i : Nat} (hi : i < 25) (h0 : ¬ b i = 0) : Ok MX6_manOf [.ref 40, .int (nI i), .int (nI 1)] (HH P Hs T L S V (s, bf, sv, past, isv, pm) mr mm ml mt) (some (.int (nI (cnt (movP b i) 25)))) (HH P Hs T L S V (s, bf, sv, past, isv, pm) mr mm ml mt) := by
  sorry
set_option maxHeartbeats 4000000 in
set_option maxRecDepth 100000 in
theorem okX6_manOf_c {P : qPs} {Hs : qHs} {T : qTs} {L : qLs} {S : qSs} {V : qVs} {ml : qml} {mt : qmt} {s bf sv past : Nat → Nat} {isv : Bool} {pm : Nat} {r1 d1 it lo : Int32} {mv ks tn : Nat → Nat} {mn : Nat} {b : Nat → Nat} (hb : ∀ i, b i < 8) (hsb : Ag s b) (hu : Uq b 7) (hw : wNo b ≤ 12) {i : Nat} (hi : i < 25) (h0 : ¬ b i = 0) (hf : fitsB b = true) : Ok MX6_manOf [.ref 40, .int (nI i), .int (nI 2)] (HH P Hs T L S V (s, bf, sv, past, isv, pm) (r1, d1, it, lo) (mv, mn, ks, tn) ml mt) (some (.int (nI (preL (selC (selB b 3) i) 25).length))) (HH P Hs T L S V (s, bf, sv, past, isv, pm) (r1, d1, it, loAll (selC (movP b) i) b lo 25) (wl mv (preL (selC (selB b 3) i) 25), (preL (selC (selB b 3) i) 25).length, ks, tn) ml mt) := by
  sorry
set_option maxHeartbeats 4000000 in
set_option maxRecDepth 100000 in
theorem okX6_manOf_d {P : qPs} {Hs : qHs} {T : qTs} {L : qLs} {S : qSs} {V : qVs} {ml : qml} {mt : qmt} {s bf sv past tn : Nat → Nat} {isv : Bool} {pm : Nat} {r1 d1 it : Int32} {w : qW} {b : Nat → Nat} (hb : ∀ i, b i < 8) (hsb : Ag s b) (hu : Uq b 7) (hw : wNo b ≤ 12) {i : Nat} (hi : i < 25) (h0 : ¬ b i = 0) (hf : fitsB b = true) : Ok MX6_manOf [.ref 40, .int (nI i), .int (nI 3)] (HH P Hs T L S V (s, bf, sv, past, isv, pm) (r1, d1, it, (w).1) ((w).2.1, (w).2.2.1, (w).2.2.2, tn) ml mt) (some (.int (qb (spR b i)))) (HH P Hs T L S V (s, bf, sv, past, isv, pm) (r1, d1, it, (spW b i w).1) ((spW b i w).2.1, (spW b i w).2.2.1, (spW b i w).2.2.2, tn) ml mt) := by
  sorry
