/-! the reference: accounts, the order, undo, the snapshot -/
def mcB (b : Nat → Nat) (k : Nat) : Nat := cnt (movP b k) 25
theorem mcB_le (b : Nat → Nat) (k : Nat) : mcB b k ≤ 25 := cnt_le _ 25
theorem by_pos {p q : Nat} (hp : p ≤ 25) (hq : q ≤ 25) : 0 < nI p - nI q ↔ q < p := by
  rw [Int32.lt_iff_toInt_lt, pk_sub_toInt (by omega) (by omega)]
  show (0 : Int) < _ ↔ _
  omega
theorem by_0 {p q : Nat} (hp : p ≤ 25) (hq : q ≤ 25) : nI p - nI q = 0 ↔ p = q := by
  constructor
  · intro h
    have e := congrArg Int32.toInt h
    rw [pk_sub_toInt (by omega) (by omega)] at e
    have : (0 : Int32).toInt = 0 := rfl
    omega
  · intro h
    subst h
    exact Int32.sub_self _
set_option maxHeartbeats 4000000 in
set_option maxRecDepth 100000 in
theorem okX6_ranked {P : qPs} {Hs : qHs} {T : qTs} {L : qLs} {S : qSs} {V : qVs} {ml : qml} {mt : qmt} {bf sv past : Nat → Nat} {isv : Bool} {pm : Nat} {mm : qmm} {mr : qmr} {a : qP} (ha : ∀ i, a.1 i < 8) (hu : Uq a.1 7) (x : Int32) : Ok MX6_ranked [.ref 40, .int x] (HH P Hs T L S V (sF a, bf, sv, past, isv, pm) mr mm ml mt) (some (.int (low (rkS a.1 (mcB a.1) x) 25 0))) (HH P Hs T L S V (sF a, bf, sv, past, isv, pm) mr mm ml mt) := by
  sorry
theorem cov_b {b : Nat → Nat} {t : Nat} (ht : t < 25) : covR b 25 t = decide (0 < lineN b t) := cov_line ht
set_option maxHeartbeats 4000000 in
set_option maxRecDepth 100000 in
theorem okX6_attacked {P : qPs} {Hs : qHs} {T : qTs} {L : qLs} {S : qSs} {V : qVs} {ml : qml} {mt : qmt} {bf sv past : Nat → Nat} {isv : Bool} {pm : Nat} {mm : qmm} {mr : qmr} {a : qP} (ha : ∀ i, a.1 i < 8) : Ok MX6_attacked [.ref 40] (HH P Hs T L S V (sF a, bf, sv, past, isv, pm) mr mm ml mt) (some (.int (nI (cnt (covR a.1 25) 25)))) (HH P Hs T L S V (sF a, bf, sv, past, isv, pm) mr mm ml mt) := by
  sorry
theorem ck15 (b : Nat → Nat) (k : Nat) : ckS b 1 5 k = isW (b k) := by
  unfold ckS isW
  by_cases h1 : 1 ≤ b k <;> by_cases h2 : b k ≤ 5 <;> simp [h1, h2]
theorem ck66 (b : Nat → Nat) (k : Nat) : ckS b 6 6 k = decide (b k = 6) := by
  unfold ckS
  exact decide_eq_decide.mpr ⟨fun h => by omega, fun h => by omega⟩
set_option maxHeartbeats 4000000 in
set_option maxRecDepth 100000 in
theorem okX6_count_a {P : qPs} {Hs : qHs} {T : qTs} {L : qLs} {S : qSs} {V : qVs} {ml : qml} {mt : qmt} {bf sv past : Nat → Nat} {isv : Bool} {pm : Nat} {mm : qmm} {mr : qmr} {a : qP} (ha : ∀ i, a.1 i < 8) : Ok MX6_count [.ref 40, .int (nI 0)] (HH P Hs T L S V (sF a, bf, sv, past, isv, pm) mr mm ml mt) (some (.int (nI (cnt (ckS a.1 1 5) 25)))) (HH P Hs T L S V (sF a, bf, sv, past, isv, pm) mr mm ml mt) := by
  sorry
set_option maxHeartbeats 4000000 in
set_option maxRecDepth 100000 in
theorem okX6_count_b {P : qPs} {Hs : qHs} {T : qTs} {L : qLs} {S : qSs} {V : qVs} {ml : qml} {mt : qmt} {bf sv past : Nat → Nat} {isv : Bool} {pm : Nat} {mm : qmm} {mr : qmr} {a : qP} (ha : ∀ i, a.1 i < 8) : Ok MX6_count [.ref 40, .int (nI 1)] (HH P Hs T L S V (sF a, bf, sv, past, isv, pm) mr mm ml mt) (some (.int (nI (cnt (ckS a.1 6 6) 25)))) (HH P Hs T L S V (sF a, bf, sv, past, isv, pm) mr mm ml mt) := by
  sorry
set_option maxHeartbeats 4000000 in
set_option maxRecDepth 100000 in
theorem okX6_account_p0 {P : qPs} {Hs : qHs} {T : qTs} {L : qLs} {S : qSs} {V : qVs} {ml : qml} {mt : qmt} {bf sv past : Nat → Nat} {isv : Bool} {pm : Nat} {mm : qmm} {mr : qmr} {a : qP} (ha : ∀ i, a.1 i < 8)  : Ok MX6_account [.ref 40, .int (nI 0)] (HH P Hs T L S V (sF a, bf, sv, past, isv, pm) mr mm ml mt) (some (.int (nI (menN a.1)))) (HH P Hs T L S V (sF a, bf, sv, past, isv, pm) mr mm ml mt) := by
  sorry
set_option maxHeartbeats 4000000 in
set_option maxRecDepth 100000 in
theorem okX6_account_p1 {P : qPs} {Hs : qHs} {T : qTs} {L : qLs} {S : qSs} {V : qVs} {ml : qml} {mt : qmt} {bf sv past : Nat → Nat} {isv : Bool} {pm : Nat} {mm : qmm} {mr : qmr} {a : qP} (ha : ∀ i, a.1 i < 8)  : Ok MX6_account [.ref 40, .int (nI 1)] (HH P Hs T L S V (sF a, bf, sv, past, isv, pm) mr mm ml mt) (some (.int (nI (cnt (ckS a.1 1 5) 25)))) (HH P Hs T L S V (sF a, bf, sv, past, isv, pm) mr mm ml mt) := by
  sorry
set_option maxHeartbeats 4000000 in
set_option maxRecDepth 100000 in
theorem okX6_account_p2 {P : qPs} {Hs : qHs} {T : qTs} {L : qLs} {S : qSs} {V : qVs} {ml : qml} {mt : qmt} {bf sv past : Nat → Nat} {isv : Bool} {pm : Nat} {mm : qmm} {mr : qmr} {a : qP} (ha : ∀ i, a.1 i < 8)  : Ok MX6_account [.ref 40, .int (nI 2)] (HH P Hs T L S V (sF a, bf, sv, past, isv, pm) mr mm ml mt) (some (.int (nI (cnt (ckS a.1 6 6) 25)))) (HH P Hs T L S V (sF a, bf, sv, past, isv, pm) mr mm ml mt) := by
  sorry
set_option maxHeartbeats 4000000 in
set_option maxRecDepth 100000 in
theorem okX6_account_p3 {P : qPs} {Hs : qHs} {T : qTs} {L : qLs} {S : qSs} {V : qVs} {ml : qml} {mt : qmt} {bf sv past : Nat → Nat} {isv : Bool} {pm : Nat} {mm : qmm} {mr : qmr} {a : qP} (ha : ∀ i, a.1 i < 8) (hu : Uq a.1 7) : Ok MX6_account [.ref 40, .int (nI 3)] (HH P Hs T L S V (sF a, bf, sv, past, isv, pm) mr mm ml mt) (some (.int (kngF a.1))) (HH P Hs T L S V (sF a, bf, sv, past, isv, pm) mr mm ml mt) := by
  sorry
set_option maxHeartbeats 4000000 in
set_option maxRecDepth 100000 in
theorem okX6_account_p4 {P : qPs} {Hs : qHs} {T : qTs} {L : qLs} {S : qSs} {V : qVs} {ml : qml} {mt : qmt} {bf sv past : Nat → Nat} {isv : Bool} {pm : Nat} {mv ks tn : Nat → Nat} {mn : Nat} {r1 d1 it lo : Int32} {a : qP} (ha : ∀ i, a.1 i < 8) (hu : Uq a.1 7) (hw : wNo a.1 ≤ 12) : Ok MX6_account [.ref 40, .int (nI 4)] (HH P Hs T L S V (sF a, bf, sv, past, isv, pm) (r1, d1, it, lo) (mv, mn, ks, tn) ml mt) (some (.int (nI (sumc (movP a.1) 25)))) (HH P Hs T L S V (sF a, bf, sv, past, isv, pm) (r1, d1, it, loAll (fun _ _ => false) a.1 lo 25) (wl mv (preL (movP a.1) 25), (preL (movP a.1) 25).length, ks, tn) ml mt) := by
  sorry
set_option maxHeartbeats 4000000 in
set_option maxRecDepth 100000 in
theorem okX6_account_p5 {P : qPs} {Hs : qHs} {T : qTs} {L : qLs} {S : qSs} {V : qVs} {ml : qml} {mt : qmt} {bf sv past : Nat → Nat} {isv : Bool} {pm : Nat} {mm : qmm} {mr : qmr} {a : qP} (ha : ∀ i, a.1 i < 8)  : Ok MX6_account [.ref 40, .int (nI 5)] (HH P Hs T L S V (sF a, bf, sv, past, isv, pm) mr mm ml mt) (some (.int (nI (cnt (covR a.1 25) 25)))) (HH P Hs T L S V (sF a, bf, sv, past, isv, pm) mr mm ml mt) := by
  sorry
set_option maxHeartbeats 4000000 in
set_option maxRecDepth 100000 in
theorem okX6_account_p6 {P : qPs} {Hs : qHs} {T : qTs} {L : qLs} {S : qSs} {V : qVs} {ml : qml} {mt : qmt} {bf sv past : Nat → Nat} {isv : Bool} {pm : Nat} {mm : qmm} {mr : qmr} {a : qP}  : Ok MX6_account [.ref 40, .int (nI 6)] (HH P Hs T L S V (sF a, bf, sv, past, isv, pm) mr mm ml mt) (some (.int (nI a.2.1))) (HH P Hs T L S V (sF a, bf, sv, past, isv, pm) mr mm ml mt) := by
  sorry
set_option maxHeartbeats 4000000 in
set_option maxRecDepth 100000 in
theorem okX6_account_p7 {P : qPs} {Hs : qHs} {T : qTs} {L : qLs} {S : qSs} {V : qVs} {ml : qml} {mt : qmt} {bf sv past : Nat → Nat} {isv : Bool} {pm : Nat} {mm : qmm} {mr : qmr} {a : qP}  : Ok MX6_account [.ref 40, .int (nI 7)] (HH P Hs T L S V (sF a, bf, sv, past, isv, pm) mr mm ml mt) (some (.int (nI a.2.2.1))) (HH P Hs T L S V (sF a, bf, sv, past, isv, pm) mr mm ml mt) := by
  sorry
set_option maxHeartbeats 4000000 in
set_option maxRecDepth 100000 in
theorem okX6_account_p8 {P : qPs} {Hs : qHs} {T : qTs} {L : qLs} {S : qSs} {V : qVs} {ml : qml} {mt : qmt} {bf sv past : Nat → Nat} {isv : Bool} {pm : Nat} {mm : qmm} {mr : qmr} {a : qP}  : Ok MX6_account [.ref 40, .int (nI 8)] (HH P Hs T L S V (sF a, bf, sv, past, isv, pm) mr mm ml mt) (some (.int (nI a.2.2.2.1))) (HH P Hs T L S V (sF a, bf, sv, past, isv, pm) mr mm ml mt) := by
  sorry
set_option maxHeartbeats 4000000 in
set_option maxRecDepth 100000 in
theorem okX6_account_p9 {P : qPs} {Hs : qHs} {T : qTs} {L : qLs} {S : qSs} {V : qVs} {ml : qml} {mt : qmt} {bf sv past : Nat → Nat} {isv : Bool} {pm : Nat} {mm : qmm} {mr : qmr} {a : qP}  : Ok MX6_account [.ref 40, .int (nI 9)] (HH P Hs T L S V (sF a, bf, sv, past, isv, pm) mr mm ml mt) (some (.int (nI a.2.2.2.2))) (HH P Hs T L S V (sF a, bf, sv, past, isv, pm) mr mm ml mt) := by
  sorry
set_option maxHeartbeats 4000000 in
set_option maxRecDepth 100000 in
theorem okX6_account_p10 {P : qPs} {Hs : qHs} {T : qTs} {L : qLs} {S : qSs} {V : qVs} {ml : qml} {bf sv past : Nat → Nat} {isv : Bool} {pm : Nat} {mm : qmm} {mr : qmr} {a : qP} {tx od : Nat → Nat} {n at0 o : Nat} {wr : Bool}  : Ok MX6_account [.ref 40, .int (nI 10)] (HH P Hs T L S V (sF a, bf, sv, past, isv, pm) mr mm ml (tx, n, at0, wr, od, o)) (some (.int (nI n))) (HH P Hs T L S V (sF a, bf, sv, past, isv, pm) mr mm ml (tx, n, at0, wr, od, o)) := by
  sorry
set_option maxHeartbeats 4000000 in
set_option maxRecDepth 100000 in
theorem okX6_account_p11 {P : qPs} {Hs : qHs} {T : qTs} {L : qLs} {S : qSs} {V : qVs} {ml : qml} {mt : qmt} {bf sv past : Nat → Nat} {isv : Bool} {pm : Nat} {mm : qmm} {mr : qmr} {a : qP}  : Ok MX6_account [.ref 40, .int (nI 11)] (HH P Hs T L S V (sF a, bf, sv, past, isv, pm) mr mm ml mt) (some (.int (nI pm))) (HH P Hs T L S V (sF a, bf, sv, past, isv, pm) mr mm ml mt) := by
  sorry
set_option maxHeartbeats 4000000 in
set_option maxRecDepth 100000 in
theorem okX6_account_out {P : qPs} {Hs : qHs} {T : qTs} {L : qLs} {S : qSs} {V : qVs} {ml : qml} {mt : qmt} {bf sv past : Nat → Nat} {isv : Bool} {pm : Nat} {mm : qmm} {mr : qmr} {a : qP} {x : Int32} (hx : x.toInt < 0 ∨ 11 < x.toInt) : Ok MX6_account [.ref 40, .int x] (HH P Hs T L S V (sF a, bf, sv, past, isv, pm) mr mm ml mt) (some (.int (-2))) (HH P Hs T L S V (sF a, bf, sv, past, isv, pm) mr mm ml mt) := by
  sorry
set_option maxHeartbeats 4000000 in
set_option maxRecDepth 100000 in
theorem okX6_isWell {P : qPs} {Hs : qHs} {T : qTs} {L : qLs} {S : qSs} {V : qVs} {ml : qml} {mt : qmt} {bf sv past : Nat → Nat} {isv : Bool} {pm : Nat} {mm : qmm} {mr : qmr} {a : qP}  : Ok MX6_isWell [.ref 40] (HH P Hs T L S V (sF a, bf, sv, past, isv, pm) mr mm ml mt) (some (.int (nI 1))) (HH P Hs T L S V (sF a, bf, sv, past, isv, pm) mr mm ml mt) := by
  sorry
set_option maxHeartbeats 4000000 in
set_option maxRecDepth 100000 in
theorem okX6_undo_p0 {P : qPs} {Hs : qHs} {T : qTs} {L : qLs} {S : qSs} {V : qVs} {ml : qml} {mt : qmt} {bf sv past : Nat → Nat} {isv : Bool} {pm : Nat} {mm : qmm} {mr : qmr} {a : qP} (h0 : pm = 0) : Ok MX6_undo [.ref 40] (HH P Hs T L S V (sF a, bf, sv, past, isv, pm) mr mm ml mt) (some (.int (-4))) (HH P Hs T L S V (sF a, bf, sv, past, isv, pm) mr mm ml mt) := by
  sorry
set_option maxHeartbeats 4000000 in
set_option maxRecDepth 100000 in
theorem okX6_undo_p1 {P : qPs} {Hs : qHs} {T : qTs} {L : qLs} {S : qSs} {V : qVs} {ml : qml} {mt : qmt} {bf sv past : Nat → Nat} {isv : Bool} {pm : Nat} {mm : qmm} {mr : qmr} {a : qP} {n : Nat} (h0 : pm = n + 1) (h8 : n + 1 ≤ 8) : Ok MX6_undo [.ref 40] (HH P Hs T L S V (sF a, bf, sv, past, isv, pm) mr mm ml mt) (some (.int (nI n))) (HH P Hs T L S V (cpB past (sF a) (29 * n) 0 29, bf, sv, past, isv, n) mr mm ml mt) := by
  sorry
set_option maxHeartbeats 4000000 in
set_option maxRecDepth 100000 in
theorem okX6_save {P : qPs} {Hs : qHs} {T : qTs} {L : qLs} {S : qSs} {V : qVs} {ml : qml} {mt : qmt} {bf sv past : Nat → Nat} {isv : Bool} {pm : Nat} {mm : qmm} {mr : qmr} {a : qP} (ha : ∀ i, a.1 i < 8) : Ok MX6_save [.ref 40] (HH P Hs T L S V (sF a, bf, sv, past, isv, pm) mr mm ml mt) (some (.int (nI (menN a.1)))) (HH P Hs T L S V (sF a, bf, cpB (sF a) sv 0 0 29, past, true, pm) mr mm ml mt) := by
  sorry
set_option maxHeartbeats 4000000 in
set_option maxRecDepth 100000 in
theorem okX6_restore_p0 {P : qPs} {Hs : qHs} {T : qTs} {L : qLs} {S : qSs} {V : qVs} {ml : qml} {mt : qmt} {bf sv past : Nat → Nat} {isv : Bool} {pm : Nat} {mm : qmm} {mr : qmr} {a : qP} (h0 : isv = false) : Ok MX6_restore [.ref 40] (HH P Hs T L S V (sF a, bf, sv, past, isv, pm) mr mm ml mt) (some (.int (-4))) (HH P Hs T L S V (sF a, bf, sv, past, isv, pm) mr mm ml mt) := by
  sorry
set_option maxHeartbeats 4000000 in
set_option maxRecDepth 100000 in
theorem okX6_restore_p1 {P : qPs} {Hs : qHs} {T : qTs} {L : qLs} {S : qSs} {V : qVs} {ml : qml} {mt : qmt} {bf sv past : Nat → Nat} {isv : Bool} {pm : Nat} {mm : qmm} {mr : qmr} {a : qP} {d : qP} (hd : ∀ i, d.1 i < 8) (h0 : isv = true) (hs : ∀ i, i < 29 → sv i = sF d i) : Ok MX6_restore [.ref 40] (HH P Hs T L S V (sF a, bf, sv, past, isv, pm) mr mm ml mt) (some (.int (nI (menN d.1)))) (HH P Hs T L S V (sF d, bf, sv, past, isv, 0) mr mm ml mt) := by
  sorry
theorem inB02 {x : Int32} : inB x (nI 0) (nI 2) = false ↔ x < 0 ∨ nI 2 < x := by
  unfold inB
  show (!decide (x < 0) && !decide (nI 2 < x)) = false ↔ _
  by_cases h1 : x < 0 <;> by_cases h2 : nI 2 < x <;> simp [h1, h2]
set_option maxHeartbeats 4000000 in
set_option maxRecDepth 100000 in
theorem okX6_refusal {P : qPs} {Hs : qHs} {T : qTs} {L : qLs} {S : qSs} {V : qVs} {ml : qml} {mt : qmt} {bf sv past : Nat → Nat} {isv : Bool} {pm : Nat} {mm : qmm} {r1 d1 it lo : Int32} {a : qP} (x : Int32) : Ok MX6_refusal [.ref 40, .int x] (HH P Hs T L S V (sF a, bf, sv, past, isv, pm) (r1, d1, it, lo) mm ml mt) (some (.int (rsnF r1 d1 it x))) (HH P Hs T L S V (sF a, bf, sv, past, isv, pm) (r1, d1, it, lo) mm ml mt) := by
  sorry
