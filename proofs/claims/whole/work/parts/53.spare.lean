/-! the reference: what can be spared, thrift -/
abbrev qW : Type := Int32 × (Nat → Nat) × Nat × (Nat → Nat)
def keyL (b : Nat → Nat) : List Nat := preL (selB b 3) 25
def spL (b : Nat → Nat) (lo : Int32) : Int32 := loAll (movP b) b lo 25
def spA (b : Nat → Nat) (w : qW) : qW := (spL b w.1, wl w.2.1 (keyL b), (keyL b).length, cpB (wl w.2.1 (keyL b)) w.2.2.2 0 0 (keyL b).length)
def spQ (b : Nat → Nat) (i : Nat) : Bool := decide (2 ≤ b i ∧ b i ≤ 6) && decide ((keyL b).length ≠ 0) && decide ((keyL b).getD 0 0 / 100 ≠ i)
def spW (b : Nat → Nat) (i : Nat) (w : qW) : qW :=
  if spQ b i = true then
    if fitsB (up b i 0) = true then (spL (up b i 0) (spL b w.1), wl (wl w.2.1 (keyL b)) (keyL (up b i 0)), (keyL (up b i 0)).length, cpB (wl w.2.1 (keyL b)) w.2.2.2 0 0 (keyL b).length)
    else spA b w
  else spA b w
def spE (b : Nat → Nat) (i : Nat) : Bool := allB (fun j => decide ((keyL (up b i 0)).getD j 0 = (keyL b).getD j 0)) (keyL b).length
def spR (b : Nat → Nat) (i : Nat) : Bool := spQ b i && (fitsB (up b i 0) && (decide ((keyL (up b i 0)).length = (keyL b).length) && spE b i))
theorem spW_a {b : Nat → Nat} {i : Nat} {w : qW} (h : spQ b i = false) : spW b i w = spA b w := by unfold spW; rw [if_neg (by rw [h]; decide)]
theorem spW_b {b : Nat → Nat} {i : Nat} {w : qW} (h : fitsB (up b i 0) = false) : spW b i w = spA b w := by
  unfold spW
  by_cases e : spQ b i = true
  · rw [if_pos e, if_neg (by rw [h]; decide)]
  · rw [if_neg e]
theorem spW_c {b : Nat → Nat} {i : Nat} {w : qW} (h : spQ b i = true) (hf : fitsB (up b i 0) = true) : spW b i w = (spL (up b i 0) (spL b w.1), wl (wl w.2.1 (keyL b)) (keyL (up b i 0)), (keyL (up b i 0)).length, cpB (wl w.2.1 (keyL b)) w.2.2.2 0 0 (keyL b).length) := by unfold spW; rw [if_pos h, if_pos hf]
theorem allB_mono {p : Nat → Bool} {k : Nat} (h : allB p k = false) : ∀ m, k ≤ m → allB p m = false
  | 0, hm => by rw [← h, show k = 0 by omega]
  | m + 1, hm => by
    by_cases e : k = m + 1
    · rw [← e]; exact h
    · rw [allB, allB_mono h m (by omega)]; rfl
theorem cpB_at {f g : Nat → Nat} {n k : Nat} (h : k < n) : cpB f g 0 0 n k = f k := by
  unfold cpB
  rw [if_pos ⟨Nat.zero_le _, by omega⟩, Nat.sub_zero, Nat.zero_add]
theorem keyL_le {b : Nat → Nat} (hw : wNo b ≤ 12) : (keyL b).length ≤ 300 := pre_le (S := selB b 3) (fun f t h => sel_w h) hw
theorem Uq_up {b : Nat → Nat} {v q i : Nat} (h : Uq b v) (hq : q ≠ v) : Uq (up b i q) v := by
  intro x y hx hy e1 e2
  by_cases a : x = i
  · subst a; rw [up_at] at e1; exact absurd e1 hq
  · by_cases c : y = i
    · subst c; rw [up_at] at e2; exact absurd e2 hq
    · rw [up_ne _ a] at e1; rw [up_ne _ c] at e2; exact h x y hx hy e1 e2
theorem cnt_leq {p q : Nat → Bool} : ∀ n, (∀ k, k < n → p k = true → q k = true) → cnt p n ≤ cnt q n
  | 0, _ => Nat.le_refl _
  | n + 1, h => by
    have h1 := cnt_leq n (fun k hk => h k (by omega))
    have h2 := h n (by omega)
    rw [cnt, cnt]
    by_cases e : p n = true
    · rw [if_pos e, if_pos (h2 e)]; omega
    · rw [if_neg e]; omega
theorem cnt_ltq {p q : Nat → Bool} {i : Nat} : ∀ n, (∀ k, k < n → p k = true → q k = true) → i < n → p i = false → q i = true → cnt p n < cnt q n
  | 0, _, h, _, _ => absurd h (by omega)
  | n + 1, h, hi, h1, h2 => by
    rw [cnt, cnt]
    by_cases e : i = n
    · subst e
      have := cnt_leq i (fun k hk => h k (by omega))
      rw [if_neg (by rw [h1]; decide), if_pos h2]
      omega
    · have := cnt_ltq n (fun k hk => h k (by omega)) (by omega) h1 h2
      have h3 := h n (by omega)
      by_cases z : p n = true
      · rw [if_pos z, if_pos (h3 z)]; omega
      · rw [if_neg z]; omega
theorem wNo_up0 {b : Nat → Nat} {i : Nat} : wNo (up b i 0) ≤ wNo b := by
  refine cnt_leq 25 fun k hk h => ?_
  by_cases e : k = i
  · subst e; rw [up_at] at h; cases h
  · rw [up_ne _ e] at h; exact h
theorem menN_up0 {b : Nat → Nat} {i : Nat} (hb : ∀ i, b i < 8) (hi : i < 25) (h : b i ≠ 0) : menN (up b i 0) < menN b := by
  refine cnt_ltq (i := i) 25 (fun k hk h => ?_) hi ?_ ?_
  · by_cases e : k = i
    · subst e; unfold ckS at h; rw [up_at] at h; cases h
    · unfold ckS at h ⊢; rw [up_ne _ e] at h; exact h
  · unfold ckS; rw [up_at]; rfl
  · unfold ckS; have := hb i; exact decide_eq_true ⟨by omega, by omega⟩
theorem HS_ks {P : qPs} {Hs : qHs} {T : qTs} {L : qLs} {S : qSs} {V : qVs} {ms : qms} {mr : qmr} {mv ks tn k2 : Nat → Nat} {mn : Nat} {ml : qml} {mt : qmt} : (HH P Hs T L S V ms mr (mv, mn, ks, tn) ml mt).set 46 (qB0 300 k2) = HH P Hs T L S V ms mr (mv, mn, k2, tn) ml mt := rfl
theorem preRow_lt (S : Nat → Nat → Bool) (f : Nat) : ∀ t, ∀ x ∈ preRow S f t, x < 100 * f + t
  | 0, x, h => by cases h
  | t + 1, x, h => by
    rw [preRow, List.mem_append] at h
    rcases h with h | h
    · have := preRow_lt S f t x h; omega
    · split at h
      · rw [List.mem_singleton] at h; omega
      · cases h
theorem preL_lt (S : Nat → Nat → Bool) : ∀ f, ∀ x ∈ preL S f, x < 100 * f
  | 0, x, h => by cases h
  | f + 1, x, h => by
    rw [preL, List.mem_append] at h
    rcases h with h | h
    · have := preL_lt S f x h; omega
    · have := preRow_lt S f 25 x h; omega
theorem getD_lt {l : List Nat} {m : Nat} (h : ∀ x ∈ l, x < m) (hm : 0 < m) (k : Nat) : l.getD k 0 < m := by
  rw [List.getD_eq_getElem?_getD]
  cases e : l[k]? with
  | none => exact hm
  | some v => exact h v (List.mem_of_getElem? e)
theorem keyL_lt (b : Nat → Nat) (k : Nat) : (keyL b).getD k 0 < 2500 := getD_lt (preL_lt (selB b 3) 25) (by decide) k
set_option maxHeartbeats 4000000 in
set_option maxRecDepth 100000 in
theorem okX6_canSpare {P : qPs} {Hs : qHs} {T : qTs} {L : qLs} {S : qSs} {V : qVs} {ml : qml} {mt : qmt} {s bf sv past tn : Nat → Nat} {isv : Bool} {pm : Nat} {r1 d1 it : Int32} {w : qW} {b : Nat → Nat} (hb : ∀ i, b i < 8) (hsb : Ag s b) (hu : Uq b 7) {i k : Nat} (hi : i < 25) (hl : loc7 b 7 = some k) (hw : wNo b ≤ 12)  : Ok MX6_canSpare [.ref 40, .int (nI i)] (HH P Hs T L S V (s, bf, sv, past, isv, pm) (r1, d1, it, (w).1) ((w).2.1, (w).2.2.1, (w).2.2.2, tn) ml mt) (some (.int (qb (spR b i)))) (HH P Hs T L S V (s, bf, sv, past, isv, pm) (r1, d1, it, (spW b i w).1) ((spW b i w).2.1, (spW b i w).2.2.1, (spW b i w).2.2.2, tn) ml mt) := by
  refine ok_of (by decide +kernel) (Nat.zero_le _) (Nat.le_of_ble_eq_true rfl) ?_
  intro X C E
  show Ex X MX6_canSpare 0 [(0, .ref 40), (1, .int (nI i))] [] (HH P Hs T L S V (s, bf, sv, past, isv, pm) (r1, d1, it, (w).1) ((w).2.1, (w).2.2.1, (w).2.2.2, tn) ml mt)
  have hs := hsb.lt hb
  have hbi := hb i
  have hsi := hsb i hi
  have hb2 := up_lt hb (k := i) (v := 0) (by decide)
  have hsb2 := hsb.up i 0
  have hu2 : Uq (up b i 0) 7 := Uq_up hu (by decide)
  have hw2 : wNo (up b i 0) ≤ 12 := Nat.le_trans wNo_up0 hw
  have hkl := keyL_le hw
  have hv0 := keyL_lt b 0
  have hkl2 := keyL_le hw2
  have hm1 : Ok MX6_manyOf [.ref 40, .int (nI 3)] (HH P Hs T L S V (s, bf, sv, past, isv, pm) (r1, d1, it, (w).1) ((w).2.1, (w).2.2.1, (w).2.2.2, tn) ml mt) (some (.int (nI (keyL b).length))) (HH P Hs T L S V (s, bf, sv, past, isv, pm) (r1, d1, it, spL b w.1) (wl w.2.1 (keyL b), (keyL b).length, w.2.2.2, tn) ml mt) := okX6_manyOf_b hb hsb hu hw (by decide) hl
  have T130 : ∀ (v : Bool) (l2 : Int32) (m2 : Nat → Nat) (n2 : Nat) (k2 : Nat → Nat) (k : Nat), spR b i = v → spW b i w = (l2, m2, n2, k2) → Ex X MX6_canSpare 130 [(5, .int (nI k)), (4, .int (qb v)), (3, .int (nI (keyL b).length)), (2, .int (nI (s i))), (0, .ref 40), (1, .int (nI i))] [] (HH P Hs T L S V ((up s i 0), bf, sv, past, isv, pm) (r1, d1, it, l2) (m2, n2, k2, tn) ml mt) := by
    intro v l2 m2 n2 k2 k hv hw2
    subst hv
    refine x_aload_n C dX6_canSpare_130 rfl ?_
    refine x_getfield C qk6 0 (by decide) lfX6_9 dX6_canSpare_131 rfl rfl ?_
    refine x_iload_n C dX6_canSpare_134 rfl ?_
    refine x_iload_n C dX6_canSpare_135 rfl ?_
    refine x_istb C dX6_canSpare_136 HM_s (by omega) (by decide) ?_
    refine x_heap (h2 := HH P Hs T L S V (s, bf, sv, past, isv, pm) (r1, d1, it, (spW b i w).1) ((spW b i w).2.1, (spW b i w).2.2.1, (spW b i w).2.2.2, tn) ml mt) (by rw [HS_s, up_back, hw2]) ?_
    refine x_iload C dX6_canSpare_137 rfl ?_
    exact x_iret E .boolean dX6_canSpare_139 rfl (qb_nar _) rfl rfl
  have Z89 : ∀ (l2 : Int32) (m2 : Nat → Nat) (n2 : Nat) (k2 : Nat → Nat), spR b i = false → spW b i w = (l2, m2, n2, k2) → Ex X MX6_canSpare 89 [(5, .int (nI 0)), (4, .int (qb false)), (3, .int (nI (keyL b).length)), (2, .int (nI (s i))), (0, .ref 40), (1, .int (nI i))] [] (HH P Hs T L S V ((up s i 0), bf, sv, past, isv, pm) (r1, d1, it, l2) (m2, n2, k2, tn) ml mt) := by
    intro l2 m2 n2 k2 hv hw2
    refine x_iload C dX6_canSpare_89 rfl ?_
    refine x_iload_n C dX6_canSpare_91 rfl ?_
    refine x_icmp_geN C 130 dX6_canSpare_92 (by decide) (by omega) (by omega) (fun c92 => ?_) (fun c92 => ?_)
    · exact T130 false l2 m2 n2 k2 0 hv hw2
    · refine x_iload C dX6_canSpare_95 rfl ?_
      refine x_if_eqB C 130 dX6_canSpare_97 (by decide) (fun c97 => ?_) (fun c97 => ?_)
      · exact T130 false l2 m2 n2 k2 0 hv hw2
      · cases c97
  have K56 : spQ b i = true → Ex X MX6_canSpare 56 [(3, .int (nI (keyL b).length)), (2, .int (nI (s i))), (0, .ref 40), (1, .int (nI i))] [] (HH P Hs T L S V (s, bf, sv, past, isv, pm) (r1, d1, it, (spL b w.1)) ((wl w.2.1 (keyL b)), (keyL b).length, (cpB (wl w.2.1 (keyL b)) w.2.2.2 0 0 (keyL b).length), tn) ml mt) := by
    intro hQ
    cases hf : fitsB (up b i 0) with
    | false =>
      have hR : spR b i = false := by unfold spR; rw [hf, Bool.false_and, Bool.and_false]
      refine x_aload_n C dX6_canSpare_56 rfl ?_
      refine x_getfield C qk6 0 (by decide) lfX6_9 dX6_canSpare_57 rfl rfl ?_
      refine x_iload_n C dX6_canSpare_60 rfl ?_
      refine x_iconst C (v := nI 0) dX6_canSpare_61 (by decide +kernel) ?_
      refine x_istb C dX6_canSpare_62 HM_s (by omega) (by decide) ?_
      refine x_heap (h2 := HH P Hs T L S V ((up s i 0), bf, sv, past, isv, pm) (r1, d1, it, (spL b w.1)) ((wl w.2.1 (keyL b)), (keyL b).length, (cpB (wl w.2.1 (keyL b)) w.2.2.2 0 0 (keyL b).length), tn) ml mt) (by rfl) ?_
      refine x_aload_n C dX6_canSpare_63 rfl ?_
      refine x_callV0i C (okX6_fits (b := up b i 0) hb2 hsb2 hu2) lkX6_132 miX6_fits msX6_fits maX6_fits ⟨Nat.le_of_ble_eq_true rfl, Nat.le_of_ble_eq_true rfl⟩ (Nat.le_of_ble_eq_true rfl) rfl rfl dX6_canSpare_64 ?_
      rw [hf]
      refine x_if_eqB C 83 dX6_canSpare_67 (by decide) (fun c67 => ?_) (fun c67 => ?_)
      · refine x_iconst C (v := nI 0) dX6_canSpare_83 (by decide +kernel) ?_
        refine x_top (show nI 0 = qb false from rfl) ?_
        refine x_istore C dX6_canSpare_84 (by decide) [(4, _), (3, _), (2, _), (0, _), (1, _)] rfl ?_
        refine x_iconst C (v := nI 0) dX6_canSpare_86 (by decide +kernel) ?_
        refine x_istore C dX6_canSpare_87 (by decide) [(5, _), (4, _), (3, _), (2, _), (0, _), (1, _)] rfl ?_
        exact Z89 _ _ _ _ hR (spW_b hf)
      · cases c67
    | true =>
      obtain ⟨k2, hl2⟩ := fits_loc hf
      have hW := spW_c (w := w) hQ hf
      have hm2 : Ok MX6_manyOf [.ref 40, .int (nI 3)] (HH P Hs T L S V ((up s i 0), bf, sv, past, isv, pm) (r1, d1, it, (spL b w.1)) ((wl w.2.1 (keyL b)), (keyL b).length, (cpB (wl w.2.1 (keyL b)) w.2.2.2 0 0 (keyL b).length), tn) ml mt) (some (.int (nI (keyL (up b i 0)).length))) (HH P Hs T L S V ((up s i 0), bf, sv, past, isv, pm) (r1, d1, it, (spL (up b i 0) (spL b w.1))) ((wl (wl w.2.1 (keyL b)) (keyL (up b i 0))), (keyL (up b i 0)).length, (cpB (wl w.2.1 (keyL b)) w.2.2.2 0 0 (keyL b).length), tn) ml mt) := okX6_manyOf_b hb2 hsb2 hu2 hw2 (by decide) hl2
      have hR : spR b i = (decide ((keyL (up b i 0)).length = (keyL b).length) && spE b i) := by unfold spR; rw [hQ, hf, Bool.true_and, Bool.true_and]
      obtain ⟨ED, hED⟩ : ∃ ED : Nat → Bool, ED = fun j => decide ((keyL (up b i 0)).getD j 0 = (keyL b).getD j 0) := ⟨_, rfl⟩
      have hsE : spE b i = allB ED (keyL b).length := by rw [hED]; rfl
      have LP : (keyL (up b i 0)).length = (keyL b).length → ∀ n k : Nat, k + n = (keyL b).length → Ex X MX6_canSpare 89 [(5, .int (nI k)), (4, .int (qb (allB ED k))), (3, .int (nI (keyL b).length)), (2, .int (nI (s i))), (0, .ref 40), (1, .int (nI i))] [] (HH P Hs T L S V ((up s i 0), bf, sv, past, isv, pm) (r1, d1, it, (spL (up b i 0) (spL b w.1))) ((wl (wl w.2.1 (keyL b)) (keyL (up b i 0))), (keyL (up b i 0)).length, (cpB (wl w.2.1 (keyL b)) w.2.2.2 0 0 (keyL b).length), tn) ml mt) := by
        intro hle n
        have hR2 : spR b i = allB ED (keyL b).length := by rw [hR, decide_eq_true hle, Bool.true_and, hsE]
        induction n with
        | zero =>
          intro k hk
          have e : k = (keyL b).length := by omega
          rw [e]
          refine x_iload C dX6_canSpare_89 rfl ?_
          refine x_iload_n C dX6_canSpare_91 rfl ?_
          refine x_icmp_ge C 130 dX6_canSpare_92 (by decide) (fun c92 => ?_) (fun c92 => ?_)
          · exact T130 _ _ _ _ _ _ hR2 hW
          · exact absurd (Int32.le_refl _) c92
        | succ n ih =>
          intro k hk
          have hk1 : k < (keyL b).length := by omega
          have hk2 : k < (keyL (up b i 0)).length := by omega
          have hEk : ED k = decide ((keyL (up b i 0)).getD k 0 = (keyL b).getD k 0) := by rw [hED]
          have hv1 := keyL_lt b k
          have hv2 := keyL_lt (up b i 0) k
          cases hc : allB ED k with
          | false =>
            refine x_iload C dX6_canSpare_89 rfl ?_
            refine x_iload_n C dX6_canSpare_91 rfl ?_
            refine x_icmp_geN C 130 dX6_canSpare_92 (by decide) (by omega) (by omega) (fun c92 => ?_) (fun c92 => ?_)
            · exact absurd c92 (by omega)
            · refine x_iload C dX6_canSpare_95 rfl ?_
              refine x_if_eqB C 130 dX6_canSpare_97 (by decide) (fun c97 => ?_) (fun c97 => ?_)
              · exact T130 false _ _ _ _ k (hR2.trans (allB_mono hc _ (by omega))) hW
              · cases c97
          | true =>
            refine x_iload C dX6_canSpare_89 rfl ?_
            refine x_iload_n C dX6_canSpare_91 rfl ?_
            refine x_icmp_geN C 130 dX6_canSpare_92 (by decide) (by omega) (by omega) (fun c92 => ?_) (fun c92 => ?_)
            · exact absurd c92 (by omega)
            · refine x_iload C dX6_canSpare_95 rfl ?_
              refine x_if_eqB C 130 dX6_canSpare_97 (by decide) (fun c97 => ?_) (fun c97 => ?_)
              · cases c97
              · refine x_aload_n C dX6_canSpare_100 rfl ?_
                refine x_getfield C qk6 10 (by decide) lfX6_26 dX6_canSpare_101 rfl rfl ?_
                refine x_iload C dX6_canSpare_104 rfl ?_
                refine x_iald C dX6_canSpare_106 HM_mv (by omega) (by decide) ?_
                refine x_top (congrArg nI (wl_at hk2)) ?_
                refine x_aload_n C dX6_canSpare_107 rfl ?_
                refine x_getfield C qk6 12 (by decide) lfX6_29 dX6_canSpare_108 rfl rfl ?_
                refine x_iload C dX6_canSpare_111 rfl ?_
                refine x_iald C dX6_canSpare_113 HM_ks (by omega) (by decide) ?_
                refine x_top (congrArg nI ((cpB_at hk1).trans (wl_at hk1))) ?_
                refine x_icmp_neN C 121 dX6_canSpare_114 (by decide) (by omega) (by omega) (fun c114 => ?_) (fun c114 => ?_)
                · have e1 : nI 0 = qb (allB ED (k + 1)) := by rw [allB, hEk, decide_eq_false c114, Bool.and_false]; rfl
                  refine x_iconst C (v := nI 0) dX6_canSpare_121 (by decide +kernel) ?_
                  refine x_top e1 ?_
                  refine x_istore C dX6_canSpare_122 (by decide) [(4, _), (5, _), (3, _), (2, _), (0, _), (1, _)] rfl ?_
                  refine x_iinc C _ dX6_canSpare_124 rfl (q_inc _) (by decide) [(5, _), (4, _), (3, _), (2, _), (0, _), (1, _)] rfl ?_
                  refine x_goto C 89 dX6_canSpare_127 (by decide) ?_
                  exact ih (k + 1) (by omega)
                · have e1 : nI 1 = qb (allB ED (k + 1)) := by rw [allB, hEk, decide_eq_true c114, hc]; rfl
                  refine x_iconst C (v := nI 1) dX6_canSpare_117 (by decide +kernel) ?_
                  refine x_goto C 122 dX6_canSpare_118 (by decide) ?_
                  refine x_top e1 ?_
                  refine x_istore C dX6_canSpare_122 (by decide) [(4, _), (5, _), (3, _), (2, _), (0, _), (1, _)] rfl ?_
                  refine x_iinc C _ dX6_canSpare_124 rfl (q_inc _) (by decide) [(5, _), (4, _), (3, _), (2, _), (0, _), (1, _)] rfl ?_
                  refine x_goto C 89 dX6_canSpare_127 (by decide) ?_
                  exact ih (k + 1) (by omega)
      refine x_aload_n C dX6_canSpare_56 rfl ?_
      refine x_getfield C qk6 0 (by decide) lfX6_9 dX6_canSpare_57 rfl rfl ?_
      refine x_iload_n C dX6_canSpare_60 rfl ?_
      refine x_iconst C (v := nI 0) dX6_canSpare_61 (by decide +kernel) ?_
      refine x_istb C dX6_canSpare_62 HM_s (by omega) (by decide) ?_
      refine x_heap (h2 := HH P Hs T L S V ((up s i 0), bf, sv, past, isv, pm) (r1, d1, it, (spL b w.1)) ((wl w.2.1 (keyL b)), (keyL b).length, (cpB (wl w.2.1 (keyL b)) w.2.2.2 0 0 (keyL b).length), tn) ml mt) (by rfl) ?_
      refine x_aload_n C dX6_canSpare_63 rfl ?_
      refine x_callV0i C (okX6_fits (b := up b i 0) hb2 hsb2 hu2) lkX6_132 miX6_fits msX6_fits maX6_fits ⟨Nat.le_of_ble_eq_true rfl, Nat.le_of_ble_eq_true rfl⟩ (Nat.le_of_ble_eq_true rfl) rfl rfl dX6_canSpare_64 ?_
      rw [hf]
      refine x_if_eqB C 83 dX6_canSpare_67 (by decide) (fun c67 => ?_) (fun c67 => ?_)
      · cases c67
      · refine x_aload_n C dX6_canSpare_70 rfl ?_
        refine x_iconst C (v := nI 3) dX6_canSpare_71 (by decide +kernel) ?_
        refine x_callV1i C hm2 lkX6_152 miX6_manyOf msX6_manyOf maX6_manyOf ⟨Nat.le_of_ble_eq_true rfl, Nat.le_of_ble_eq_true rfl⟩ (Nat.le_of_ble_eq_true rfl) rfl rfl dX6_canSpare_72 ?_
        refine x_heap (h2 := HH P Hs T L S V ((up s i 0), bf, sv, past, isv, pm) (r1, d1, it, (spL (up b i 0) (spL b w.1))) ((wl (wl w.2.1 (keyL b)) (keyL (up b i 0))), (keyL (up b i 0)).length, (cpB (wl w.2.1 (keyL b)) w.2.2.2 0 0 (keyL b).length), tn) ml mt) (by rfl) ?_
        refine x_iload_n C dX6_canSpare_75 rfl ?_
        refine x_icmp_neN C 83 dX6_canSpare_76 (by decide) (by omega) (by omega) (fun c76 => ?_) (fun c76 => ?_)
        · have e1 : nI 0 = qb false := rfl
          refine x_iconst C (v := nI 0) dX6_canSpare_83 (by decide +kernel) ?_
          refine x_top e1 ?_
          refine x_istore C dX6_canSpare_84 (by decide) [(4, _), (3, _), (2, _), (0, _), (1, _)] rfl ?_
          refine x_iconst C (v := nI 0) dX6_canSpare_86 (by decide +kernel) ?_
          refine x_istore C dX6_canSpare_87 (by decide) [(5, _), (4, _), (3, _), (2, _), (0, _), (1, _)] rfl ?_
          exact Z89 _ _ _ _ (by rw [hR, decide_eq_false c76, Bool.false_and]) hW
        · have e1 : nI 1 = qb (allB ED 0) := rfl
          refine x_iconst C (v := nI 1) dX6_canSpare_79 (by decide +kernel) ?_
          refine x_goto C 84 dX6_canSpare_80 (by decide) ?_
          refine x_top e1 ?_
          refine x_istore C dX6_canSpare_84 (by decide) [(4, _), (3, _), (2, _), (0, _), (1, _)] rfl ?_
          refine x_iconst C (v := nI 0) dX6_canSpare_86 (by decide +kernel) ?_
          refine x_istore C dX6_canSpare_87 (by decide) [(5, _), (4, _), (3, _), (2, _), (0, _), (1, _)] rfl ?_
          exact LP c76 (keyL b).length 0 (by omega)
  refine x_aload_n C dX6_canSpare_0 rfl ?_
  refine x_getfield C qk6 0 (by decide) lfX6_9 dX6_canSpare_1 rfl rfl ?_
  refine x_iload_n C dX6_canSpare_4 rfl ?_
  refine x_iald C dX6_canSpare_5 HM_s (by omega) (by decide) ?_
  refine x_top (show nb s i = nI (s i) from rfl) ?_
  refine x_istore_n C dX6_canSpare_6 (by decide) [(2, _), (0, _), (1, _)] rfl ?_
  refine x_aload_n C dX6_canSpare_7 rfl ?_
  refine x_iconst C (v := nI 3) dX6_canSpare_8 (by decide +kernel) ?_
  refine x_callV1i C hm1 lkX6_152 miX6_manyOf msX6_manyOf maX6_manyOf ⟨Nat.le_of_ble_eq_true rfl, Nat.le_of_ble_eq_true rfl⟩ (Nat.le_of_ble_eq_true rfl) rfl rfl dX6_canSpare_9 ?_
  refine x_heap (h2 := HH P Hs T L S V (s, bf, sv, past, isv, pm) (r1, d1, it, spL b w.1) (wl w.2.1 (keyL b), (keyL b).length, w.2.2.2, tn) ml mt) (by rfl) ?_
  refine x_istore_n C dX6_canSpare_12 (by decide) [(3, _), (2, _), (0, _), (1, _)] rfl ?_
  refine x_aload_n C dX6_canSpare_13 rfl ?_
  refine x_getfield C qk6 10 (by decide) lfX6_26 dX6_canSpare_14 rfl rfl ?_
  refine x_iconst C (v := nI 0) dX6_canSpare_17 (by decide +kernel) ?_
  refine x_aload_n C dX6_canSpare_18 rfl ?_
  refine x_getfield C qk6 12 (by decide) lfX6_29 dX6_canSpare_19 rfl rfl ?_
  refine x_iconst C (v := nI 0) dX6_canSpare_22 (by decide +kernel) ?_
  refine x_iload_n C dX6_canSpare_23 rfl ?_
  refine x_copy C lkX6_45 ⟨Nat.le_of_ble_eq_true rfl, Nat.le_of_ble_eq_true rfl⟩ (Nat.le_of_ble_eq_true rfl) HM_mv HM_ks (by omega) (by omega) (by decide) (by decide) dX6_canSpare_24 ?_
  refine x_heap HS_ks ?_
  refine x_iload_n C dX6_canSpare_27 rfl ?_
  refine x_iconst C (v := nI 2) dX6_canSpare_28 (by decide +kernel) ?_
  refine x_bipush C (v := nI 6) dX6_canSpare_29 (by decide +kernel) ?_
  refine x_callS3i C (okX6_in _ _ _ _) lkX6_60 miX6_in mtX6_in maX6_in ⟨Nat.le_of_ble_eq_true rfl, Nat.le_of_ble_eq_true rfl⟩ (Nat.le_of_ble_eq_true rfl) dX6_canSpare_31 ?_
  rw [inB_nI (by omega) (by decide) (by decide)]
  refine x_if_eqB C 54 dX6_canSpare_34 (by decide) (fun c34 => ?_) (fun c34 => ?_)
  · refine x_iconst C (v := nI 0) dX6_canSpare_54 (by decide +kernel) ?_
    exact x_iret E .boolean dX6_canSpare_55 rfl rfl (by have e : spR b i = false := (by unfold spR; rw [show spQ b i = false by unfold spQ; rw [← hsi]; rw [decide_eq_false (fun z => absurd (decide_eq_true z) (by rw [c34]; decide))]; rfl]; rfl); rw [e]; rfl) (by rw [spW_a (w := w) (show spQ b i = false by unfold spQ; rw [← hsi]; rw [decide_eq_false (fun z => absurd (decide_eq_true z) (by rw [c34]; decide))]; rfl), spA])
  · refine x_iload_n C dX6_canSpare_37 rfl ?_
    refine x_if_eqN C 54 dX6_canSpare_38 (by decide) (by omega) (fun c38 => ?_) (fun c38 => ?_)
    · refine x_iconst C (v := nI 0) dX6_canSpare_54 (by decide +kernel) ?_
      exact x_iret E .boolean dX6_canSpare_55 rfl rfl (by have e : spR b i = false := (by unfold spR; rw [show spQ b i = false by unfold spQ; rw [← hsi]; rw [decide_eq_false (p := (keyL b).length ≠ 0) (fun z => z c38), Bool.and_false]; rfl]; rfl); rw [e]; rfl) (by rw [spW_a (w := w) (show spQ b i = false by unfold spQ; rw [← hsi]; rw [decide_eq_false (p := (keyL b).length ≠ 0) (fun z => z c38), Bool.and_false]; rfl), spA])
    · refine x_aload_n C dX6_canSpare_41 rfl ?_
      refine x_getfield C qk6 12 (by decide) lfX6_29 dX6_canSpare_42 rfl rfl ?_
      refine x_iconst C (v := nI 0) dX6_canSpare_45 (by decide +kernel) ?_
      refine x_iald C dX6_canSpare_46 HM_ks (by omega) (by decide) ?_
      refine x_top (congrArg nI ((cpB_at (by omega)).trans (wl_at (by omega)))) ?_
      refine x_bipush C (v := nI 100) dX6_canSpare_47 (by decide +kernel) ?_
      refine x_idivN C dX6_canSpare_49 (by omega) (by decide) (by decide) ?_
      refine x_iload_n C dX6_canSpare_50 rfl ?_
      refine x_icmp_neN C 56 dX6_canSpare_51 (by decide) (by omega) (by omega) (fun c51 => ?_) (fun c51 => ?_)
      · have hQ : spQ b i = true := by unfold spQ; rw [← hsi]; simp only [Bool.and_eq_true, decide_eq_true_eq]; exact ⟨⟨of_decide_eq_true c34, c38⟩, c51⟩
        exact K56 hQ
      · refine x_iconst C (v := nI 0) dX6_canSpare_54 (by decide +kernel) ?_
        exact x_iret E .boolean dX6_canSpare_55 rfl rfl (by have e : spR b i = false := (by unfold spR; rw [show spQ b i = false by unfold spQ; rw [← hsi]; rw [decide_eq_false (p := (keyL b).getD 0 0 / 100 ≠ i) (fun z => z c51), Bool.and_false]]; rfl); rw [e]; rfl) (by rw [spW_a (w := w) (show spQ b i = false by unfold spQ; rw [← hsi]; rw [decide_eq_false (p := (keyL b).getD 0 0 / 100 ≠ i) (fun z => z c51), Bool.and_false]), spA])
