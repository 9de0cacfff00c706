/-! the reference: thrift -/
def scW (b : Nat → Nat) : Nat → qW → Option Nat × qW
  | 0, w => (none, w)
  | n + 1, w => if spR b n = true then (some n, spW b n w) else scW b n (spW b n w)
theorem scW_some {b : Nat → Nat} : ∀ n w i, (scW b n w).1 = some i → i < n ∧ spR b i = true
  | 0, w, i, h => by cases h
  | n + 1, w, i, h => by
    rw [scW] at h
    by_cases e : spR b n = true
    · rw [if_pos e] at h; cases h; exact ⟨by omega, e⟩
    · rw [if_neg e] at h
      have := scW_some n _ i h
      exact ⟨by omega, this.2⟩
abbrev qZ : Type := Nat × (Nat → Nat) × (Nat → Nat) × qW
def thW : Nat → Nat → (Nat → Nat) → (Nat → Nat) → qW → qZ
  | 0, off, b, s, w => (off, b, s, w)
  | m + 1, off, b, s, w => match (scW b 25 w).1 with
    | none => (off, b, s, (scW b 25 w).2)
    | some i => thW m (off + 1) (up b i 0) (up s i 0) (scW b 25 w).2
theorem spR_q {b : Nat → Nat} {i : Nat} (h : spR b i = true) : 2 ≤ b i ∧ b i ≤ 6 := by
  unfold spR spQ at h
  simp only [Bool.and_eq_true, decide_eq_true_eq] at h
  exact h.1.1.1
theorem spR_f {b : Nat → Nat} {i : Nat} (h : spR b i = true) : fitsB (up b i 0) = true := by
  unfold spR at h
  simp only [Bool.and_eq_true] at h
  exact h.2.1
/-- what thrift keeps -/
def ThG (s b : Nat → Nat) : Prop := (∀ i, b i < 8) ∧ Ag s b ∧ Uq b 7 ∧ wNo b ≤ 12 ∧ fitsB b = true
theorem ThG.up {s b : Nat → Nat} (h : ThG s b) {i : Nat} (hr : spR b i = true) : ThG (up s i 0) (up b i 0) :=
  ⟨up_lt h.1 (by decide), h.2.1.up i 0, Uq_up h.2.2.1 (by decide), Nat.le_trans wNo_up0 h.2.2.2.1, spR_f hr⟩
theorem thW_ok {m off : Nat} {b s : Nat → Nat} {w : qW} (h : ThG s b) : ThG (thW m off b s w).2.2.1 (thW m off b s w).2.1 ∧ (thW m off b s w).1 ≤ off + m := by
  induction m generalizing off b s w with
  | zero => exact ⟨h, Nat.le_refl _⟩
  | succ m ih =>
    rw [thW]
    cases e : (scW b 25 w).1 with
    | none => exact ⟨h, by simp only []; omega⟩
    | some i =>
      have h2 := ih (off := off + 1) (w := (scW b 25 w).2) (h.up (scW_some 25 w i e).2)
      exact ⟨h2.1, by have := h2.2; simp only []; omega⟩
def thZ (b s : Nat → Nat) (w : qW) : qZ := thW 26 0 b s w
set_option maxHeartbeats 4000000 in
set_option maxRecDepth 100000 in
theorem okX6_doThrift_p0 {P : qPs} {Hs : qHs} {T : qTs} {L : qLs} {S : qSs} {V : qVs} {mm : qmm} {ml : qml} {mt : qmt} {s bf sv past : Nat → Nat} {isv : Bool} {pm : Nat} {r1 d1 it lo : Int32} {b : Nat → Nat} (hb : ∀ i, b i < 8) (hsb : Ag s b) (hu : Uq b 7) (hf : fitsB b = false) : Ok MX6_doThrift [.ref 40] (HH P Hs T L S V (s, bf, sv, past, isv, pm) (r1, d1, it, lo) mm ml mt) (some (.int (-3))) (HH P Hs T L S V (s, bf, sv, past, isv, pm) (nI 7, (match loc7 b 7 with | none => nI 0 | some j => nI (lineN b j)), -4, lo) mm ml mt) := by
  refine ok_of (by decide +kernel) (Nat.zero_le _) (Nat.le_of_ble_eq_true rfl) ?_
  intro X C E
  show Ex X MX6_doThrift 0 [(0, .ref 40)] [] (HH P Hs T L S V (s, bf, sv, past, isv, pm) (r1, d1, it, lo) mm ml mt)
  have hs := hsb.lt hb
  cases hl : loc7 b 7 with
  | none =>
    refine x_aload_n C dX6_doThrift_0 rfl ?_
    refine x_callV0i C (okX6_fits hb hsb hu) lkX6_132 miX6_fits msX6_fits maX6_fits ⟨Nat.le_of_ble_eq_true rfl, Nat.le_of_ble_eq_true rfl⟩ (Nat.le_of_ble_eq_true rfl) rfl rfl dX6_doThrift_1 ?_
    rw [hf]
    refine x_if_neB C 37 dX6_doThrift_4 (by decide) (fun c4 => ?_) (fun c4 => ?_)
    · cases c4
    · refine x_aload_n C dX6_doThrift_7 rfl ?_
      refine x_bipush C (v := nI 7) dX6_doThrift_8 (by decide +kernel) ?_
      refine x_aload_n C dX6_doThrift_10 rfl ?_
      refine x_bipush C (v := nI 7) dX6_doThrift_11 (by decide +kernel) ?_
      refine x_callV1i C (okX6_where hs 7 (by decide)) lkX6_72 miX6_where msX6_where maX6_where ⟨Nat.le_of_ble_eq_true rfl, Nat.le_of_ble_eq_true rfl⟩ (Nat.le_of_ble_eq_true rfl) rfl rfl dX6_doThrift_13 ?_
      rw [whS hsb hu, hl]
      refine x_if_ge C 23 dX6_doThrift_16 (by decide) (fun c16 => ?_) (fun c16 => ?_)
      · exact absurd c16 (by decide)
      · refine x_iconst C (v := nI 0) dX6_doThrift_19 (by decide +kernel) ?_
        refine x_goto C 33 dX6_doThrift_20 (by decide) ?_
        refine x_callV2i C (okX6_refuse _ _) lkX6_68 miX6_refuse msX6_refuse maX6_refuse ⟨Nat.le_of_ble_eq_true rfl, Nat.le_of_ble_eq_true rfl⟩ (Nat.le_of_ble_eq_true rfl) rfl rfl dX6_doThrift_33 ?_
        exact x_iret E .int dX6_doThrift_36 rfl rfl rfl (by rw [hl])
  | some k =>
    obtain ⟨hk, hk7⟩ := loc7_some hl
    refine x_aload_n C dX6_doThrift_0 rfl ?_
    refine x_callV0i C (okX6_fits hb hsb hu) lkX6_132 miX6_fits msX6_fits maX6_fits ⟨Nat.le_of_ble_eq_true rfl, Nat.le_of_ble_eq_true rfl⟩ (Nat.le_of_ble_eq_true rfl) rfl rfl dX6_doThrift_1 ?_
    rw [hf]
    refine x_if_neB C 37 dX6_doThrift_4 (by decide) (fun c4 => ?_) (fun c4 => ?_)
    · cases c4
    · refine x_aload_n C dX6_doThrift_7 rfl ?_
      refine x_bipush C (v := nI 7) dX6_doThrift_8 (by decide +kernel) ?_
      refine x_aload_n C dX6_doThrift_10 rfl ?_
      refine x_bipush C (v := nI 7) dX6_doThrift_11 (by decide +kernel) ?_
      refine x_callV1i C (okX6_where hs 7 (by decide)) lkX6_72 miX6_where msX6_where maX6_where ⟨Nat.le_of_ble_eq_true rfl, Nat.le_of_ble_eq_true rfl⟩ (Nat.le_of_ble_eq_true rfl) rfl rfl dX6_doThrift_13 ?_
      rw [whS hsb hu, hl]
      show Ex X MX6_doThrift _ _ (.int (nI k) :: _) _
      refine x_if_geN C 23 dX6_doThrift_16 (by decide) (by omega) ?_
      refine x_aload_n C dX6_doThrift_23 rfl ?_
      refine x_aload_n C dX6_doThrift_24 rfl ?_
      refine x_bipush C (v := nI 7) dX6_doThrift_25 (by decide +kernel) ?_
      refine x_callV1i C (okX6_where hs 7 (by decide)) lkX6_72 miX6_where msX6_where maX6_where ⟨Nat.le_of_ble_eq_true rfl, Nat.le_of_ble_eq_true rfl⟩ (Nat.le_of_ble_eq_true rfl) rfl rfl dX6_doThrift_27 ?_
      rw [whS hsb hu, hl]
      show Ex X MX6_doThrift _ _ (.int (nI k) :: _) _
      refine x_callV1i C (okX6_attackersOf hs hk) lkX6_120 miX6_attackersOf msX6_attackersOf maX6_attackersOf ⟨Nat.le_of_ble_eq_true rfl, Nat.le_of_ble_eq_true rfl⟩ (Nat.le_of_ble_eq_true rfl) rfl rfl dX6_doThrift_30 ?_
      rw [attS hsb hb hk]
      refine x_callV2i C (okX6_refuse _ _) lkX6_68 miX6_refuse msX6_refuse maX6_refuse ⟨Nat.le_of_ble_eq_true rfl, Nat.le_of_ble_eq_true rfl⟩ (Nat.le_of_ble_eq_true rfl) rfl rfl dX6_doThrift_33 ?_
      exact x_iret E .int dX6_doThrift_36 rfl rfl rfl (by rw [hl])

set_option maxHeartbeats 4000000 in
set_option maxRecDepth 100000 in
theorem okX6_doThrift_p1 {P : qPs} {Hs : qHs} {T : qTs} {L : qLs} {S : qSs} {V : qVs} {ml : qml} {mt : qmt} {s bf sv past tn : Nat → Nat} {isv : Bool} {pm : Nat} {r1 d1 it : Int32} {w : qW} {b : Nat → Nat} (hb : ∀ i, b i < 8) (hsb : Ag s b) (hu : Uq b 7) (hw : wNo b ≤ 12) (hf : fitsB b = true) (h0 : (thZ b s w).1 = 0) : Ok MX6_doThrift [.ref 40] (HH P Hs T L S V (s, bf, sv, past, isv, pm) (r1, d1, it, (w).1) ((w).2.1, (w).2.2.1, (w).2.2.2, tn) ml mt) (some (.int (-3))) (HH P Hs T L S V (up (thZ b s w).2.2.1 27 ((thZ b s w).2.2.1 27 + (thZ b s w).1), bf, sv, past, isv, pm) (nI 6, nI (menN (thZ b s w).2.1), -4, (thZ b s w).2.2.2.1) ((thZ b s w).2.2.2.2.1, (thZ b s w).2.2.2.2.2.1, (thZ b s w).2.2.2.2.2.2, tn) ml mt) := by
  refine ok_of (by decide +kernel) (Nat.zero_le _) (Nat.le_of_ble_eq_true rfl) ?_
  intro X C E
  show Ex X MX6_doThrift 0 [(0, .ref 40)] [] (HH P Hs T L S V (s, bf, sv, past, isv, pm) (r1, d1, it, (w).1) ((w).2.1, (w).2.2.1, (w).2.2.2, tn) ml mt)
  have hg : ThG s b := ⟨hb, hsb, hu, hw, hf⟩
  obtain ⟨hg2, ho2⟩ := thW_ok (m := 26) (off := 0) (w := w) hg
  have hmn := menN_le b
  obtain ⟨z, hz⟩ : ∃ z, z = thZ b s w := ⟨_, rfl⟩
  rw [← hz] at h0 E
  rw [show thW 26 0 b s w = z from hz.symm] at hg2 ho2
  have L2 : ∀ (b s : Nat → Nat) (off : Nat), ThG s b → ∀ n, n ≤ 25 → ∀ w : qW, ((scW b n w).1 = none → Ex X MX6_doThrift 73 [(2, .int (-1)), (1, .int (nI (off))), (0, .ref 40)] [] (HH P Hs T L S V (s, bf, sv, past, isv, pm) (r1, d1, it, ((scW b n w).2).1) (((scW b n w).2).2.1, ((scW b n w).2).2.2.1, ((scW b n w).2).2.2.2, tn) ml mt)) → (∀ i, (scW b n w).1 = some i → Ex X MX6_doThrift 42 [(2, .int (nI 24)), (1, .int (nI (off + 1))), (0, .ref 40)] [] (HH P Hs T L S V ((up s i 0), bf, sv, past, isv, pm) (r1, d1, it, ((scW b n w).2).1) (((scW b n w).2).2.1, ((scW b n w).2).2.2.1, ((scW b n w).2).2.2.2, tn) ml mt)) → Ex X MX6_doThrift 42 [(2, .int (sqm n)), (1, .int (nI (off))), (0, .ref 40)] [] (HH P Hs T L S V (s, bf, sv, past, isv, pm) (r1, d1, it, (w).1) ((w).2.1, (w).2.2.1, (w).2.2.2, tn) ml mt) := by
    intro b s off hg n
    obtain ⟨hb, hsb, hu, hw, hf⟩ := id hg
    obtain ⟨k, hl⟩ := fits_loc hf
    induction n with
    | zero =>
      intro hn w kn ks
      rw [show sqm 0 = -1 from rfl]
      have kn := kn rfl
      rw [scW] at kn
      refine x_iload_n C dX6_doThrift_42 rfl ?_
      refine x_if_lt C 73 dX6_doThrift_43 (by decide) (fun c43 => ?_) (fun c43 => ?_)
      · exact kn
      · exact absurd (by decide : (-1 : Int32) < 0) c43
    | succ n ih =>
      intro hn w kn ks
      rw [sqm_s]
      have hn25 : n < 25 := by omega
      cases hR : spR b n with
      | false =>
        rw [scW, if_neg (by rw [hR]; decide)] at kn ks
        refine x_iload_n C dX6_doThrift_42 rfl ?_
        refine x_if_ltN C 73 dX6_doThrift_43 (by decide) (by omega) ?_
        refine x_aload_n C dX6_doThrift_46 rfl ?_
        refine x_iload_n C dX6_doThrift_47 rfl ?_
        refine x_callV1i C (okX6_canSpare hb hsb hu hn25 hl hw) lkX6_155 miX6_canSpare msX6_canSpare maX6_canSpare ⟨Nat.le_of_ble_eq_true rfl, Nat.le_of_ble_eq_true rfl⟩ (Nat.le_of_ble_eq_true rfl) rfl rfl dX6_doThrift_48 ?_
        rw [hR]
        refine x_if_eqB C 67 dX6_doThrift_51 (by decide) (fun c51 => ?_) (fun c51 => ?_)
        · refine x_iinc C _ dX6_doThrift_67 rfl (q_decm n) (by decide) [(2, _), (1, _), (0, _)] rfl ?_
          refine x_goto C 42 dX6_doThrift_70 (by decide) ?_
          exact ih (by omega) _ kn ks
        · cases c51
      | true =>
        rw [scW, if_pos hR] at kn ks
        refine x_iload_n C dX6_doThrift_42 rfl ?_
        refine x_if_ltN C 73 dX6_doThrift_43 (by decide) (by omega) ?_
        refine x_aload_n C dX6_doThrift_46 rfl ?_
        refine x_iload_n C dX6_doThrift_47 rfl ?_
        refine x_callV1i C (okX6_canSpare hb hsb hu hn25 hl hw) lkX6_155 miX6_canSpare msX6_canSpare maX6_canSpare ⟨Nat.le_of_ble_eq_true rfl, Nat.le_of_ble_eq_true rfl⟩ (Nat.le_of_ble_eq_true rfl) rfl rfl dX6_doThrift_48 ?_
        rw [hR]
        refine x_if_eqB C 67 dX6_doThrift_51 (by decide) (fun c51 => ?_) (fun c51 => ?_)
        · cases c51
        · refine x_aload_n C dX6_doThrift_54 rfl ?_
          refine x_getfield C qk6 0 (by decide) lfX6_9 dX6_doThrift_55 rfl rfl ?_
          refine x_iload_n C dX6_doThrift_58 rfl ?_
          refine x_iconst C (v := nI 0) dX6_doThrift_59 (by decide +kernel) ?_
          refine x_istb C dX6_doThrift_60 HM_s (by omega) (by decide) ?_
          refine x_heap (h2 := HH P Hs T L S V ((up s n 0), bf, sv, past, isv, pm) (r1, d1, it, (spW b n w).1) ((spW b n w).2.1, (spW b n w).2.2.1, (spW b n w).2.2.2, tn) ml mt) (by rfl) ?_
          refine x_iinc C _ dX6_doThrift_61 rfl (q_inc _) (by decide) [(1, _), (2, _), (0, _)] rfl ?_
          refine x_bipush C (v := nI 25) dX6_doThrift_64 (by decide +kernel) ?_
          refine x_istore_n C dX6_doThrift_66 (by decide) [(2, _), (1, _), (0, _)] rfl ?_
          refine x_iinc C _ dX6_doThrift_67 rfl (q_dec 24) (by decide) [(2, _), (1, _), (0, _)] rfl ?_
          refine x_goto C 42 dX6_doThrift_70 (by decide) ?_
          exact ks n rfl
  have L1 : ∀ m off (b s : Nat → Nat) (w : qW), ThG s b → menN b < m → Ex X MX6_doThrift 73 [(2, .int (-1)), (1, .int (nI ((thW m off b s w).1))), (0, .ref 40)] [] (HH P Hs T L S V ((thW m off b s w).2.2.1, bf, sv, past, isv, pm) (r1, d1, it, ((thW m off b s w).2.2.2).1) (((thW m off b s w).2.2.2).2.1, ((thW m off b s w).2.2.2).2.2.1, ((thW m off b s w).2.2.2).2.2.2, tn) ml mt) → Ex X MX6_doThrift 42 [(2, .int (nI 24)), (1, .int (nI (off))), (0, .ref 40)] [] (HH P Hs T L S V (s, bf, sv, past, isv, pm) (r1, d1, it, (w).1) ((w).2.1, (w).2.2.1, (w).2.2.2, tn) ml mt) := by
    intro m
    induction m with
    | zero => intro off b s w hg hm; exact absurd hm (by omega)
    | succ m ih =>
      intro off b s w hg hm kk
      refine L2 b s off hg 25 (Nat.le_refl _) w (fun e => ?_) (fun i e => ?_)
      · rw [thW, e] at kk
        exact kk
      · rw [thW, e] at kk
        obtain ⟨h1, h2⟩ := scW_some 25 w i e
        refine ih (off + 1) (up b i 0) (up s i 0) _ (hg.up h2) ?_ kk
        have := menN_up0 hg.1 h1 (by have := spR_q h2; omega)
        omega
  have K73 : Ex X MX6_doThrift 73 [(2, .int (-1)), (1, .int (nI (z.1))), (0, .ref 40)] [] (HH P Hs T L S V (z.2.2.1, bf, sv, past, isv, pm) (r1, d1, it, (z.2.2.2).1) ((z.2.2.2).2.1, (z.2.2.2).2.2.1, (z.2.2.2).2.2.2, tn) ml mt) := by
    have hsb3 : Ag (up z.2.2.1 27 (z.2.2.1 27 + z.1)) z.2.1 := fun i hi => by rw [up_ne _ (by omega)]; exact hg2.2.1 i hi
    refine x_aload_n C dX6_doThrift_73 rfl ?_
    refine x_getfield C qk6 0 (by decide) lfX6_9 dX6_doThrift_74 rfl rfl ?_
    refine x_bipush C (v := nI 27) dX6_doThrift_77 (by decide +kernel) ?_
    refine x_dup2 C rfl rfl dX6_doThrift_79 ?_
    refine x_iald C dX6_doThrift_80 HM_s (by decide) (by decide) ?_
    refine x_top (show nb z.2.2.1 27 = nI (z.2.2.1 27) from rfl) ?_
    refine x_iload_n C dX6_doThrift_81 rfl ?_
    refine x_iaddN C dX6_doThrift_82 ?_
    refine x_istb C dX6_doThrift_83 HM_s (by decide) (by decide) ?_
    refine x_heap (h2 := HH P Hs T L S V ((up z.2.2.1 27 (z.2.2.1 27 + z.1)), bf, sv, past, isv, pm) (r1, d1, it, (z.2.2.2).1) ((z.2.2.2).2.1, (z.2.2.2).2.2.1, (z.2.2.2).2.2.2, tn) ml mt) (by rfl) ?_
    refine x_iload_n C dX6_doThrift_84 rfl ?_
    refine x_if_neN C 101 dX6_doThrift_85 (by decide) (by omega) (fun c85 => ?_) (fun c85 => ?_)
    · exact absurd h0 c85
    · refine x_aload_n C dX6_doThrift_88 rfl ?_
      refine x_bipush C (v := nI 6) dX6_doThrift_89 (by decide +kernel) ?_
      refine x_aload_n C dX6_doThrift_91 rfl ?_
      refine x_callV0i C (okX6_men (hsb3.lt hg2.1)) lkX6_76 miX6_men msX6_men maX6_men ⟨Nat.le_of_ble_eq_true rfl, Nat.le_of_ble_eq_true rfl⟩ (Nat.le_of_ble_eq_true rfl) rfl rfl dX6_doThrift_92 ?_
      rw [menS hsb3 hg2.1]
      refine x_callV2i C (okX6_refuse _ _) lkX6_68 miX6_refuse msX6_refuse maX6_refuse ⟨Nat.le_of_ble_eq_true rfl, Nat.le_of_ble_eq_true rfl⟩ (Nat.le_of_ble_eq_true rfl) rfl rfl dX6_doThrift_95 ?_
      refine x_goto C 102 dX6_doThrift_98 (by decide) ?_
      exact x_iret E .int dX6_doThrift_102 rfl rfl rfl rfl
  refine x_aload_n C dX6_doThrift_0 rfl ?_
  refine x_callV0i C (okX6_fits hb hsb hu) lkX6_132 miX6_fits msX6_fits maX6_fits ⟨Nat.le_of_ble_eq_true rfl, Nat.le_of_ble_eq_true rfl⟩ (Nat.le_of_ble_eq_true rfl) rfl rfl dX6_doThrift_1 ?_
  rw [hf]
  refine x_if_neB C 37 dX6_doThrift_4 (by decide) (fun c4 => ?_) (fun c4 => ?_)
  · refine x_iconst C (v := nI 0) dX6_doThrift_37 (by decide +kernel) ?_
    refine x_istore_n C dX6_doThrift_38 (by decide) [(1, _), (0, _)] rfl ?_
    refine x_bipush C (v := nI 24) dX6_doThrift_39 (by decide +kernel) ?_
    refine x_istore_n C dX6_doThrift_41 (by decide) [(2, _), (1, _), (0, _)] rfl ?_
    exact L1 26 0 b s w hg (by omega) (by rw [show thW 26 0 b s w = z from hz.symm]; exact K73)
  · cases c4
set_option maxHeartbeats 4000000 in
set_option maxRecDepth 100000 in
theorem okX6_doThrift_p2 {P : qPs} {Hs : qHs} {T : qTs} {L : qLs} {S : qSs} {V : qVs} {ml : qml} {mt : qmt} {s bf sv past tn : Nat → Nat} {isv : Bool} {pm : Nat} {r1 d1 it : Int32} {w : qW} {b : Nat → Nat} (hb : ∀ i, b i < 8) (hsb : Ag s b) (hu : Uq b 7) (hw : wNo b ≤ 12) (hf : fitsB b = true) (h0 : ¬ (thZ b s w).1 = 0) : Ok MX6_doThrift [.ref 40] (HH P Hs T L S V (s, bf, sv, past, isv, pm) (r1, d1, it, (w).1) ((w).2.1, (w).2.2.1, (w).2.2.2, tn) ml mt) (some (.int (nI (thZ b s w).1))) (HH P Hs T L S V (up (thZ b s w).2.2.1 27 ((thZ b s w).2.2.1 27 + (thZ b s w).1), bf, sv, past, isv, pm) (r1, d1, it, (thZ b s w).2.2.2.1) ((thZ b s w).2.2.2.2.1, (thZ b s w).2.2.2.2.2.1, (thZ b s w).2.2.2.2.2.2, tn) ml mt) := by
  refine ok_of (by decide +kernel) (Nat.zero_le _) (Nat.le_of_ble_eq_true rfl) ?_
  intro X C E
  show Ex X MX6_doThrift 0 [(0, .ref 40)] [] (HH P Hs T L S V (s, bf, sv, past, isv, pm) (r1, d1, it, (w).1) ((w).2.1, (w).2.2.1, (w).2.2.2, tn) ml mt)
  have hg : ThG s b := ⟨hb, hsb, hu, hw, hf⟩
  obtain ⟨hg2, ho2⟩ := thW_ok (m := 26) (off := 0) (w := w) hg
  have hmn := menN_le b
  obtain ⟨z, hz⟩ : ∃ z, z = thZ b s w := ⟨_, rfl⟩
  rw [← hz] at h0 E
  rw [show thW 26 0 b s w = z from hz.symm] at hg2 ho2
  have L2 : ∀ (b s : Nat → Nat) (off : Nat), ThG s b → ∀ n, n ≤ 25 → ∀ w : qW, ((scW b n w).1 = none → Ex X MX6_doThrift 73 [(2, .int (-1)), (1, .int (nI (off))), (0, .ref 40)] [] (HH P Hs T L S V (s, bf, sv, past, isv, pm) (r1, d1, it, ((scW b n w).2).1) (((scW b n w).2).2.1, ((scW b n w).2).2.2.1, ((scW b n w).2).2.2.2, tn) ml mt)) → (∀ i, (scW b n w).1 = some i → Ex X MX6_doThrift 42 [(2, .int (nI 24)), (1, .int (nI (off + 1))), (0, .ref 40)] [] (HH P Hs T L S V ((up s i 0), bf, sv, past, isv, pm) (r1, d1, it, ((scW b n w).2).1) (((scW b n w).2).2.1, ((scW b n w).2).2.2.1, ((scW b n w).2).2.2.2, tn) ml mt)) → Ex X MX6_doThrift 42 [(2, .int (sqm n)), (1, .int (nI (off))), (0, .ref 40)] [] (HH P Hs T L S V (s, bf, sv, past, isv, pm) (r1, d1, it, (w).1) ((w).2.1, (w).2.2.1, (w).2.2.2, tn) ml mt) := by
    intro b s off hg n
    obtain ⟨hb, hsb, hu, hw, hf⟩ := id hg
    obtain ⟨k, hl⟩ := fits_loc hf
    induction n with
    | zero =>
      intro hn w kn ks
      rw [show sqm 0 = -1 from rfl]
      have kn := kn rfl
      rw [scW] at kn
      refine x_iload_n C dX6_doThrift_42 rfl ?_
      refine x_if_lt C 73 dX6_doThrift_43 (by decide) (fun c43 => ?_) (fun c43 => ?_)
      · exact kn
      · exact absurd (by decide : (-1 : Int32) < 0) c43
    | succ n ih =>
      intro hn w kn ks
      rw [sqm_s]
      have hn25 : n < 25 := by omega
      cases hR : spR b n with
      | false =>
        rw [scW, if_neg (by rw [hR]; decide)] at kn ks
        refine x_iload_n C dX6_doThrift_42 rfl ?_
        refine x_if_ltN C 73 dX6_doThrift_43 (by decide) (by omega) ?_
        refine x_aload_n C dX6_doThrift_46 rfl ?_
        refine x_iload_n C dX6_doThrift_47 rfl ?_
        refine x_callV1i C (okX6_canSpare hb hsb hu hn25 hl hw) lkX6_155 miX6_canSpare msX6_canSpare maX6_canSpare ⟨Nat.le_of_ble_eq_true rfl, Nat.le_of_ble_eq_true rfl⟩ (Nat.le_of_ble_eq_true rfl) rfl rfl dX6_doThrift_48 ?_
        rw [hR]
        refine x_if_eqB C 67 dX6_doThrift_51 (by decide) (fun c51 => ?_) (fun c51 => ?_)
        · refine x_iinc C _ dX6_doThrift_67 rfl (q_decm n) (by decide) [(2, _), (1, _), (0, _)] rfl ?_
          refine x_goto C 42 dX6_doThrift_70 (by decide) ?_
          exact ih (by omega) _ kn ks
        · cases c51
      | true =>
        rw [scW, if_pos hR] at kn ks
        refine x_iload_n C dX6_doThrift_42 rfl ?_
        refine x_if_ltN C 73 dX6_doThrift_43 (by decide) (by omega) ?_
        refine x_aload_n C dX6_doThrift_46 rfl ?_
        refine x_iload_n C dX6_doThrift_47 rfl ?_
        refine x_callV1i C (okX6_canSpare hb hsb hu hn25 hl hw) lkX6_155 miX6_canSpare msX6_canSpare maX6_canSpare ⟨Nat.le_of_ble_eq_true rfl, Nat.le_of_ble_eq_true rfl⟩ (Nat.le_of_ble_eq_true rfl) rfl rfl dX6_doThrift_48 ?_
        rw [hR]
        refine x_if_eqB C 67 dX6_doThrift_51 (by decide) (fun c51 => ?_) (fun c51 => ?_)
        · cases c51
        · refine x_aload_n C dX6_doThrift_54 rfl ?_
          refine x_getfield C qk6 0 (by decide) lfX6_9 dX6_doThrift_55 rfl rfl ?_
          refine x_iload_n C dX6_doThrift_58 rfl ?_
          refine x_iconst C (v := nI 0) dX6_doThrift_59 (by decide +kernel) ?_
          refine x_istb C dX6_doThrift_60 HM_s (by omega) (by decide) ?_
          refine x_heap (h2 := HH P Hs T L S V ((up s n 0), bf, sv, past, isv, pm) (r1, d1, it, (spW b n w).1) ((spW b n w).2.1, (spW b n w).2.2.1, (spW b n w).2.2.2, tn) ml mt) (by rfl) ?_
          refine x_iinc C _ dX6_doThrift_61 rfl (q_inc _) (by decide) [(1, _), (2, _), (0, _)] rfl ?_
          refine x_bipush C (v := nI 25) dX6_doThrift_64 (by decide +kernel) ?_
          refine x_istore_n C dX6_doThrift_66 (by decide) [(2, _), (1, _), (0, _)] rfl ?_
          refine x_iinc C _ dX6_doThrift_67 rfl (q_dec 24) (by decide) [(2, _), (1, _), (0, _)] rfl ?_
          refine x_goto C 42 dX6_doThrift_70 (by decide) ?_
          exact ks n rfl
  have L1 : ∀ m off (b s : Nat → Nat) (w : qW), ThG s b → menN b < m → Ex X MX6_doThrift 73 [(2, .int (-1)), (1, .int (nI ((thW m off b s w).1))), (0, .ref 40)] [] (HH P Hs T L S V ((thW m off b s w).2.2.1, bf, sv, past, isv, pm) (r1, d1, it, ((thW m off b s w).2.2.2).1) (((thW m off b s w).2.2.2).2.1, ((thW m off b s w).2.2.2).2.2.1, ((thW m off b s w).2.2.2).2.2.2, tn) ml mt) → Ex X MX6_doThrift 42 [(2, .int (nI 24)), (1, .int (nI (off))), (0, .ref 40)] [] (HH P Hs T L S V (s, bf, sv, past, isv, pm) (r1, d1, it, (w).1) ((w).2.1, (w).2.2.1, (w).2.2.2, tn) ml mt) := by
    intro m
    induction m with
    | zero => intro off b s w hg hm; exact absurd hm (by omega)
    | succ m ih =>
      intro off b s w hg hm kk
      refine L2 b s off hg 25 (Nat.le_refl _) w (fun e => ?_) (fun i e => ?_)
      · rw [thW, e] at kk
        exact kk
      · rw [thW, e] at kk
        obtain ⟨h1, h2⟩ := scW_some 25 w i e
        refine ih (off + 1) (up b i 0) (up s i 0) _ (hg.up h2) ?_ kk
        have := menN_up0 hg.1 h1 (by have := spR_q h2; omega)
        omega
  have K73 : Ex X MX6_doThrift 73 [(2, .int (-1)), (1, .int (nI (z.1))), (0, .ref 40)] [] (HH P Hs T L S V (z.2.2.1, bf, sv, past, isv, pm) (r1, d1, it, (z.2.2.2).1) ((z.2.2.2).2.1, (z.2.2.2).2.2.1, (z.2.2.2).2.2.2, tn) ml mt) := by
    have hsb3 : Ag (up z.2.2.1 27 (z.2.2.1 27 + z.1)) z.2.1 := fun i hi => by rw [up_ne _ (by omega)]; exact hg2.2.1 i hi
    refine x_aload_n C dX6_doThrift_73 rfl ?_
    refine x_getfield C qk6 0 (by decide) lfX6_9 dX6_doThrift_74 rfl rfl ?_
    refine x_bipush C (v := nI 27) dX6_doThrift_77 (by decide +kernel) ?_
    refine x_dup2 C rfl rfl dX6_doThrift_79 ?_
    refine x_iald C dX6_doThrift_80 HM_s (by decide) (by decide) ?_
    refine x_top (show nb z.2.2.1 27 = nI (z.2.2.1 27) from rfl) ?_
    refine x_iload_n C dX6_doThrift_81 rfl ?_
    refine x_iaddN C dX6_doThrift_82 ?_
    refine x_istb C dX6_doThrift_83 HM_s (by decide) (by decide) ?_
    refine x_heap (h2 := HH P Hs T L S V ((up z.2.2.1 27 (z.2.2.1 27 + z.1)), bf, sv, past, isv, pm) (r1, d1, it, (z.2.2.2).1) ((z.2.2.2).2.1, (z.2.2.2).2.2.1, (z.2.2.2).2.2.2, tn) ml mt) (by rfl) ?_
    refine x_iload_n C dX6_doThrift_84 rfl ?_
    refine x_if_neN C 101 dX6_doThrift_85 (by decide) (by omega) (fun c85 => ?_) (fun c85 => ?_)
    · refine x_iload_n C dX6_doThrift_101 rfl ?_
      exact x_iret E .int dX6_doThrift_102 rfl rfl rfl rfl
    · exact absurd c85 h0
  refine x_aload_n C dX6_doThrift_0 rfl ?_
  refine x_callV0i C (okX6_fits hb hsb hu) lkX6_132 miX6_fits msX6_fits maX6_fits ⟨Nat.le_of_ble_eq_true rfl, Nat.le_of_ble_eq_true rfl⟩ (Nat.le_of_ble_eq_true rfl) rfl rfl dX6_doThrift_1 ?_
  rw [hf]
  refine x_if_neB C 37 dX6_doThrift_4 (by decide) (fun c4 => ?_) (fun c4 => ?_)
  · refine x_iconst C (v := nI 0) dX6_doThrift_37 (by decide +kernel) ?_
    refine x_istore_n C dX6_doThrift_38 (by decide) [(1, _), (0, _)] rfl ?_
    refine x_bipush C (v := nI 24) dX6_doThrift_39 (by decide +kernel) ?_
    refine x_istore_n C dX6_doThrift_41 (by decide) [(2, _), (1, _), (0, _)] rfl ?_
    exact L1 26 0 b s w hg (by omega) (by rw [show thW 26 0 b s w = z from hz.symm]; exact K73)
  · cases c4
set_option maxHeartbeats 4000000 in
set_option maxRecDepth 100000 in
theorem okX6_manOf_p0 {P : qPs} {Hs : qHs} {T : qTs} {L : qLs} {S : qSs} {V : qVs} {mr : qmr} {mm : qmm} {ml : qml} {mt : qmt} {s bf sv past : Nat → Nat} {isv : Bool} {pm : Nat} (y : Int32) {x : Int32} (hx : isSq x = false) : Ok MX6_manOf [.ref 40, .int x, .int y] (HH P Hs T L S V (s, bf, sv, past, isv, pm) mr mm ml mt) (some (.int (-1))) (HH P Hs T L S V (s, bf, sv, past, isv, pm) mr mm ml mt) := by
  refine ok_of (by decide +kernel) (Nat.zero_le _) (Nat.le_of_ble_eq_true rfl) ?_
  intro X C E
  show Ex X MX6_manOf 0 [(0, .ref 40), (1, .int x), (2, .int y)] [] (HH P Hs T L S V (s, bf, sv, past, isv, pm) mr mm ml mt)
  refine x_iload_n C dX6_manOf_0 rfl ?_
  refine x_callS1i C (okX6_isSquare _ _) lkX6_64 miX6_isSquare mtX6_isSquare maX6_isSquare ⟨Nat.le_of_ble_eq_true rfl, Nat.le_of_ble_eq_true rfl⟩ (Nat.le_of_ble_eq_true rfl) dX6_manOf_1 ?_
  rw [hx]
  refine x_if_neB C 9 dX6_manOf_4 (by decide) (fun c4 => ?_) (fun c4 => ?_)
  · cases c4
  · refine x_iconst C (v := (-1)) dX6_manOf_7 (by decide +kernel) ?_
    exact x_iret E .int dX6_manOf_8 rfl rfl rfl rfl
set_option maxHeartbeats 4000000 in
set_option maxRecDepth 100000 in
theorem okX6_manOf_p1 {P : qPs} {Hs : qHs} {T : qTs} {L : qLs} {S : qSs} {V : qVs} {mr : qmr} {mm : qmm} {ml : qml} {mt : qmt} {s bf sv past : Nat → Nat} {isv : Bool} {pm : Nat} {i : Nat} (hi : i < 25) {y : Int32} (hy : inB y (nI 0) (nI 3) = false) : Ok MX6_manOf [.ref 40, .int (nI i), .int y] (HH P Hs T L S V (s, bf, sv, past, isv, pm) mr mm ml mt) (some (.int (-2))) (HH P Hs T L S V (s, bf, sv, past, isv, pm) mr mm ml mt) := by
  refine ok_of (by decide +kernel) (Nat.zero_le _) (Nat.le_of_ble_eq_true rfl) ?_
  intro X C E
  show Ex X MX6_manOf 0 [(0, .ref 40), (1, .int (nI i)), (2, .int y)] [] (HH P Hs T L S V (s, bf, sv, past, isv, pm) mr mm ml mt)
  refine x_iload_n C dX6_manOf_0 rfl ?_
  refine x_callS1i C (okX6_isSquare _ _) lkX6_64 miX6_isSquare mtX6_isSquare maX6_isSquare ⟨Nat.le_of_ble_eq_true rfl, Nat.le_of_ble_eq_true rfl⟩ (Nat.le_of_ble_eq_true rfl) dX6_manOf_1 ?_
  rw [isSq_nI (by omega), decide_eq_true hi]
  refine x_if_neB C 9 dX6_manOf_4 (by decide) (fun c4 => ?_) (fun c4 => ?_)
  · refine x_iload_n C dX6_manOf_9 rfl ?_
    refine x_iconst C (v := nI 0) dX6_manOf_10 (by decide +kernel) ?_
    refine x_iconst C (v := nI 3) dX6_manOf_11 (by decide +kernel) ?_
    refine x_callS3i C (okX6_in _ _ _ _) lkX6_60 miX6_in mtX6_in maX6_in ⟨Nat.le_of_ble_eq_true rfl, Nat.le_of_ble_eq_true rfl⟩ (Nat.le_of_ble_eq_true rfl) dX6_manOf_12 ?_
    rw [hy]
    refine x_if_neB C 21 dX6_manOf_15 (by decide) (fun c15 => ?_) (fun c15 => ?_)
    · cases c15
    · refine x_bipush C (v := (-2)) dX6_manOf_18 (by decide +kernel) ?_
      exact x_iret E .int dX6_manOf_20 rfl rfl rfl rfl
  · cases c4
set_option maxHeartbeats 4000000 in
set_option maxRecDepth 100000 in
theorem okX6_manOf_z {P : qPs} {Hs : qHs} {T : qTs} {L : qLs} {S : qSs} {V : qVs} {mr : qmr} {mm : qmm} {ml : qml} {mt : qmt} {s bf sv past : Nat → Nat} {isv : Bool} {pm : Nat} {b : Nat → Nat} (hb : ∀ i, b i < 8) (hsb : Ag s b) {i : Nat} (hi : i < 25) {k : Nat} (hk : k ≤ 3) (h0 : b i = 0) : Ok MX6_manOf [.ref 40, .int (nI i), .int (nI k)] (HH P Hs T L S V (s, bf, sv, past, isv, pm) mr mm ml mt) (some (.int (-4))) (HH P Hs T L S V (s, bf, sv, past, isv, pm) mr mm ml mt) := by
  refine ok_of (by decide +kernel) (Nat.zero_le _) (Nat.le_of_ble_eq_true rfl) ?_
  intro X C E
  show Ex X MX6_manOf 0 [(0, .ref 40), (1, .int (nI i)), (2, .int (nI k))] [] (HH P Hs T L S V (s, bf, sv, past, isv, pm) mr mm ml mt)
  have hbi := hb i
  refine x_iload_n C dX6_manOf_0 rfl ?_
  refine x_callS1i C (okX6_isSquare _ _) lkX6_64 miX6_isSquare mtX6_isSquare maX6_isSquare ⟨Nat.le_of_ble_eq_true rfl, Nat.le_of_ble_eq_true rfl⟩ (Nat.le_of_ble_eq_true rfl) dX6_manOf_1 ?_
  rw [isSq_nI (by omega), decide_eq_true hi]
  refine x_if_neB C 9 dX6_manOf_4 (by decide) (fun c4 => ?_) (fun c4 => ?_)
  · refine x_iload_n C dX6_manOf_9 rfl ?_
    refine x_iconst C (v := nI 0) dX6_manOf_10 (by decide +kernel) ?_
    refine x_iconst C (v := nI 3) dX6_manOf_11 (by decide +kernel) ?_
    refine x_callS3i C (okX6_in _ _ _ _) lkX6_60 miX6_in mtX6_in maX6_in ⟨Nat.le_of_ble_eq_true rfl, Nat.le_of_ble_eq_true rfl⟩ (Nat.le_of_ble_eq_true rfl) dX6_manOf_12 ?_
    rw [inB_nI (by omega) (by decide) (by decide), decide_eq_true (by omega)]
    refine x_if_neB C 21 dX6_manOf_15 (by decide) (fun c15 => ?_) (fun c15 => ?_)
    · refine x_aload_n C dX6_manOf_21 rfl ?_
      refine x_getfield C qk6 0 (by decide) lfX6_9 dX6_manOf_22 rfl rfl ?_
      refine x_iload_n C dX6_manOf_25 rfl ?_
      refine x_iald C dX6_manOf_26 HM_s (by omega) (by decide) ?_
      refine x_top (congrArg nI (hsb i hi)) ?_
      refine x_if_eqN C 42 dX6_manOf_27 (by decide) (by omega) (fun c27 => ?_) (fun c27 => ?_)
      · refine x_bipush C (v := (-4)) dX6_manOf_42 (by decide +kernel) ?_
        exact x_iret E .int dX6_manOf_44 rfl rfl rfl rfl
      · exact absurd h0 c27
    · cases c15
  · cases c4
set_option maxHeartbeats 4000000 in
set_option maxRecDepth 100000 in
theorem okX6_manOf_n {P : qPs} {Hs : qHs} {T : qTs} {L : qLs} {S : qSs} {V : qVs} {mr : qmr} {mm : qmm} {ml : qml} {mt : qmt} {s bf sv past : Nat → Nat} {isv : Bool} {pm : Nat} {b : Nat → Nat} (hb : ∀ i, b i < 8) (hsb : Ag s b) (hu : Uq b 7) {i : Nat} (hi : i < 25) {k : Nat} (hk : k ≤ 3) (hk2 : 2 ≤ k) (h0 : ¬ b i = 0) (hf : fitsB b = false) : Ok MX6_manOf [.ref 40, .int (nI i), .int (nI k)] (HH P Hs T L S V (s, bf, sv, past, isv, pm) mr mm ml mt) (some (.int (-4))) (HH P Hs T L S V (s, bf, sv, past, isv, pm) mr mm ml mt) := by
  refine ok_of (by decide +kernel) (Nat.zero_le _) (Nat.le_of_ble_eq_true rfl) ?_
  intro X C E
  show Ex X MX6_manOf 0 [(0, .ref 40), (1, .int (nI i)), (2, .int (nI k))] [] (HH P Hs T L S V (s, bf, sv, past, isv, pm) mr mm ml mt)
  have hbi := hb i
  refine x_iload_n C dX6_manOf_0 rfl ?_
  refine x_callS1i C (okX6_isSquare _ _) lkX6_64 miX6_isSquare mtX6_isSquare maX6_isSquare ⟨Nat.le_of_ble_eq_true rfl, Nat.le_of_ble_eq_true rfl⟩ (Nat.le_of_ble_eq_true rfl) dX6_manOf_1 ?_
  rw [isSq_nI (by omega), decide_eq_true hi]
  refine x_if_neB C 9 dX6_manOf_4 (by decide) (fun c4 => ?_) (fun c4 => ?_)
  · refine x_iload_n C dX6_manOf_9 rfl ?_
    refine x_iconst C (v := nI 0) dX6_manOf_10 (by decide +kernel) ?_
    refine x_iconst C (v := nI 3) dX6_manOf_11 (by decide +kernel) ?_
    refine x_callS3i C (okX6_in _ _ _ _) lkX6_60 miX6_in mtX6_in maX6_in ⟨Nat.le_of_ble_eq_true rfl, Nat.le_of_ble_eq_true rfl⟩ (Nat.le_of_ble_eq_true rfl) dX6_manOf_12 ?_
    rw [inB_nI (by omega) (by decide) (by decide), decide_eq_true (by omega)]
    refine x_if_neB C 21 dX6_manOf_15 (by decide) (fun c15 => ?_) (fun c15 => ?_)
    · refine x_aload_n C dX6_manOf_21 rfl ?_
      refine x_getfield C qk6 0 (by decide) lfX6_9 dX6_manOf_22 rfl rfl ?_
      refine x_iload_n C dX6_manOf_25 rfl ?_
      refine x_iald C dX6_manOf_26 HM_s (by omega) (by decide) ?_
      refine x_top (congrArg nI (hsb i hi)) ?_
      refine x_if_eqN C 42 dX6_manOf_27 (by decide) (by omega) (fun c27 => ?_) (fun c27 => ?_)
      · exact absurd c27 h0
      · refine x_iload_n C dX6_manOf_30 rfl ?_
        refine x_iconst C (v := nI 1) dX6_manOf_31 (by decide +kernel) ?_
        refine x_icmp_leN C 45 dX6_manOf_32 (by decide) (by omega) (by omega) (fun c32 => ?_) (fun c32 => ?_)
        · omega
        · refine x_aload_n C dX6_manOf_35 rfl ?_
          refine x_callV0i C (okX6_fits hb hsb hu) lkX6_132 miX6_fits msX6_fits maX6_fits ⟨Nat.le_of_ble_eq_true rfl, Nat.le_of_ble_eq_true rfl⟩ (Nat.le_of_ble_eq_true rfl) rfl rfl dX6_manOf_36 ?_
          rw [hf]
          refine x_if_neB C 45 dX6_manOf_39 (by decide) (fun c39 => ?_) (fun c39 => ?_)
          · cases c39
          · refine x_bipush C (v := (-4)) dX6_manOf_42 (by decide +kernel) ?_
            exact x_iret E .int dX6_manOf_44 rfl rfl rfl rfl
    · cases c15
  · cases c4
set_option maxHeartbeats 4000000 in
set_option maxRecDepth 100000 in
theorem okX6_manOf_a {P : qPs} {Hs : qHs} {T : qTs} {L : qLs} {S : qSs} {V : qVs} {mr : qmr} {mm : qmm} {ml : qml} {mt : qmt} {s bf sv past : Nat → Nat} {isv : Bool} {pm : Nat} {b : Nat → Nat} (hb : ∀ i, b i < 8) (hsb : Ag s b) (hu : Uq b 7) {i : Nat} (hi : i < 25) (h0 : ¬ b i = 0) : Ok MX6_manOf [.ref 40, .int (nI i), .int (nI 0)] (HH P Hs T L S V (s, bf, sv, past, isv, pm) mr mm ml mt) (some (.int (nI (cnt (reachP b i) 25)))) (HH P Hs T L S V (s, bf, sv, past, isv, pm) mr mm ml mt) := by
  refine ok_of (by decide +kernel) (Nat.zero_le _) (Nat.le_of_ble_eq_true rfl) ?_
  intro X C E
  show Ex X MX6_manOf 0 [(0, .ref 40), (1, .int (nI i)), (2, .int (nI 0))] [] (HH P Hs T L S V (s, bf, sv, past, isv, pm) mr mm ml mt)
  have hbi := hb i
  refine x_iload_n C dX6_manOf_0 rfl ?_
  refine x_callS1i C (okX6_isSquare _ _) lkX6_64 miX6_isSquare mtX6_isSquare maX6_isSquare ⟨Nat.le_of_ble_eq_true rfl, Nat.le_of_ble_eq_true rfl⟩ (Nat.le_of_ble_eq_true rfl) dX6_manOf_1 ?_
  rw [isSq_nI (by omega), decide_eq_true hi]
  refine x_if_neB C 9 dX6_manOf_4 (by decide) (fun c4 => ?_) (fun c4 => ?_)
  · refine x_iload_n C dX6_manOf_9 rfl ?_
    refine x_iconst C (v := nI 0) dX6_manOf_10 (by decide +kernel) ?_
    refine x_iconst C (v := nI 3) dX6_manOf_11 (by decide +kernel) ?_
    refine x_callS3i C (okX6_in _ _ _ _) lkX6_60 miX6_in mtX6_in maX6_in ⟨Nat.le_of_ble_eq_true rfl, Nat.le_of_ble_eq_true rfl⟩ (Nat.le_of_ble_eq_true rfl) dX6_manOf_12 ?_
    rw [inB_nI (by omega) (by decide) (by decide), decide_eq_true (by omega)]
    refine x_if_neB C 21 dX6_manOf_15 (by decide) (fun c15 => ?_) (fun c15 => ?_)
    · refine x_aload_n C dX6_manOf_21 rfl ?_
      refine x_getfield C qk6 0 (by decide) lfX6_9 dX6_manOf_22 rfl rfl ?_
      refine x_iload_n C dX6_manOf_25 rfl ?_
      refine x_iald C dX6_manOf_26 HM_s (by omega) (by decide) ?_
      refine x_top (congrArg nI (hsb i hi)) ?_
      refine x_if_eqN C 42 dX6_manOf_27 (by decide) (by omega) (fun c27 => ?_) (fun c27 => ?_)
      · exact absurd c27 h0
      · refine x_iload_n C dX6_manOf_30 rfl ?_
        refine x_iconst C (v := nI 1) dX6_manOf_31 (by decide +kernel) ?_
        refine x_icmp_leN C 45 dX6_manOf_32 (by decide) (by omega) (by omega) (fun c32 => ?_) (fun c32 => ?_)
        · refine x_iload_n C dX6_manOf_45 rfl ?_
          refine x_tsw C (off := 26) 72 dX6_manOf_46 (by decide +kernel) (by decide +kernel) (by decide +kernel) (by decide) ?_
          refine x_aload_n C dX6_manOf_72 rfl ?_
          refine x_getfield C qk6 0 (by decide) lfX6_9 dX6_manOf_73 rfl rfl ?_
          refine x_iload_n C dX6_manOf_76 rfl ?_
          refine x_iald C dX6_manOf_77 HM_s (by omega) (by decide) ?_
          refine x_top (congrArg nI (hsb i hi)) ?_
          refine x_bipush C (v := nI 6) dX6_manOf_78 (by decide +kernel) ?_
          refine x_icmp_neN C 87 dX6_manOf_80 (by decide) (by omega) (by omega) (fun c80 => ?_) (fun c80 => ?_)
          · refine x_aload_n C dX6_manOf_87 rfl ?_
            refine x_iload_n C dX6_manOf_88 rfl ?_
            refine x_iconst C (v := nI 0) dX6_manOf_89 (by decide +kernel) ?_
            refine x_callV2i C (okX6_countOf_b hb hsb hu hi) lkX6_161 miX6_countOf msX6_countOf maX6_countOf ⟨Nat.le_of_ble_eq_true rfl, Nat.le_of_ble_eq_true rfl⟩ (Nat.le_of_ble_eq_true rfl) rfl rfl dX6_manOf_90 ?_
            exact x_iret E .int dX6_manOf_93 rfl rfl rfl rfl
          · refine x_iconst C (v := nI 0) dX6_manOf_83 (by decide +kernel) ?_
            refine x_goto C 93 dX6_manOf_84 (by decide) ?_
            exact x_iret E .int dX6_manOf_93 rfl rfl (by rw [show reachP b i = fun _ => false by unfold reachP; rw [if_pos (Or.inr c80)], show cnt (fun _ => false) 25 = 0 by decide]) rfl
        · omega
    · cases c15
  · cases c4
set_option maxHeartbeats 4000000 in
set_option maxRecDepth 100000 in
theorem okX6_manOf_b {P : qPs} {Hs : qHs} {T : qTs} {L : qLs} {S : qSs} {V : qVs} {mr : qmr} {mm : qmm} {ml : qml} {mt : qmt} {s bf sv past : Nat → Nat} {isv : Bool} {pm : Nat} {b : Nat → Nat} (hb : ∀ i, b i < 8) (hsb : Ag s b) (hu : Uq b 7) {i : Nat} (hi : i < 25) (h0 : ¬ b i = 0) : Ok MX6_manOf [.ref 40, .int (nI i), .int (nI 1)] (HH P Hs T L S V (s, bf, sv, past, isv, pm) mr mm ml mt) (some (.int (nI (cnt (movP b i) 25)))) (HH P Hs T L S V (s, bf, sv, past, isv, pm) mr mm ml mt) := by
  refine ok_of (by decide +kernel) (Nat.zero_le _) (Nat.le_of_ble_eq_true rfl) ?_
  intro X C E
  show Ex X MX6_manOf 0 [(0, .ref 40), (1, .int (nI i)), (2, .int (nI 1))] [] (HH P Hs T L S V (s, bf, sv, past, isv, pm) mr mm ml mt)
  have hbi := hb i
  refine x_iload_n C dX6_manOf_0 rfl ?_
  refine x_callS1i C (okX6_isSquare _ _) lkX6_64 miX6_isSquare mtX6_isSquare maX6_isSquare ⟨Nat.le_of_ble_eq_true rfl, Nat.le_of_ble_eq_true rfl⟩ (Nat.le_of_ble_eq_true rfl) dX6_manOf_1 ?_
  rw [isSq_nI (by omega), decide_eq_true hi]
  refine x_if_neB C 9 dX6_manOf_4 (by decide) (fun c4 => ?_) (fun c4 => ?_)
  · refine x_iload_n C dX6_manOf_9 rfl ?_
    refine x_iconst C (v := nI 0) dX6_manOf_10 (by decide +kernel) ?_
    refine x_iconst C (v := nI 3) dX6_manOf_11 (by decide +kernel) ?_
    refine x_callS3i C (okX6_in _ _ _ _) lkX6_60 miX6_in mtX6_in maX6_in ⟨Nat.le_of_ble_eq_true rfl, Nat.le_of_ble_eq_true rfl⟩ (Nat.le_of_ble_eq_true rfl) dX6_manOf_12 ?_
    rw [inB_nI (by omega) (by decide) (by decide), decide_eq_true (by omega)]
    refine x_if_neB C 21 dX6_manOf_15 (by decide) (fun c15 => ?_) (fun c15 => ?_)
    · refine x_aload_n C dX6_manOf_21 rfl ?_
      refine x_getfield C qk6 0 (by decide) lfX6_9 dX6_manOf_22 rfl rfl ?_
      refine x_iload_n C dX6_manOf_25 rfl ?_
      refine x_iald C dX6_manOf_26 HM_s (by omega) (by decide) ?_
      refine x_top (congrArg nI (hsb i hi)) ?_
      refine x_if_eqN C 42 dX6_manOf_27 (by decide) (by omega) (fun c27 => ?_) (fun c27 => ?_)
      · exact absurd c27 h0
      · refine x_iload_n C dX6_manOf_30 rfl ?_
        refine x_iconst C (v := nI 1) dX6_manOf_31 (by decide +kernel) ?_
        refine x_icmp_leN C 45 dX6_manOf_32 (by decide) (by omega) (by omega) (fun c32 => ?_) (fun c32 => ?_)
        · refine x_iload_n C dX6_manOf_45 rfl ?_
          refine x_tsw C (off := 48) 94 dX6_manOf_46 (by decide +kernel) (by decide +kernel) (by decide +kernel) (by decide) ?_
          refine x_aload_n C dX6_manOf_94 rfl ?_
          refine x_iload_n C dX6_manOf_95 rfl ?_
          refine x_iconst C (v := nI 1) dX6_manOf_96 (by decide +kernel) ?_
          refine x_callV2i C (okX6_countOf_a hb hsb hu hi) lkX6_161 miX6_countOf msX6_countOf maX6_countOf ⟨Nat.le_of_ble_eq_true rfl, Nat.le_of_ble_eq_true rfl⟩ (Nat.le_of_ble_eq_true rfl) rfl rfl dX6_manOf_97 ?_
          exact x_iret E .int dX6_manOf_100 rfl rfl rfl rfl
        · omega
    · cases c15
  · cases c4
set_option maxHeartbeats 4000000 in
set_option maxRecDepth 100000 in
theorem okX6_manOf_c {P : qPs} {Hs : qHs} {T : qTs} {L : qLs} {S : qSs} {V : qVs} {ml : qml} {mt : qmt} {s bf sv past : Nat → Nat} {isv : Bool} {pm : Nat} {r1 d1 it lo : Int32} {mv ks tn : Nat → Nat} {mn : Nat} {b : Nat → Nat} (hb : ∀ i, b i < 8) (hsb : Ag s b) (hu : Uq b 7) (hw : wNo b ≤ 12) {i : Nat} (hi : i < 25) (h0 : ¬ b i = 0) (hf : fitsB b = true) : Ok MX6_manOf [.ref 40, .int (nI i), .int (nI 2)] (HH P Hs T L S V (s, bf, sv, past, isv, pm) (r1, d1, it, lo) (mv, mn, ks, tn) ml mt) (some (.int (nI (preL (selC (selB b 3) i) 25).length))) (HH P Hs T L S V (s, bf, sv, past, isv, pm) (r1, d1, it, loAll (selC (movP b) i) b lo 25) (wl mv (preL (selC (selB b 3) i) 25), (preL (selC (selB b 3) i) 25).length, ks, tn) ml mt) := by
  refine ok_of (by decide +kernel) (Nat.zero_le _) (Nat.le_of_ble_eq_true rfl) ?_
  intro X C E
  show Ex X MX6_manOf 0 [(0, .ref 40), (1, .int (nI i)), (2, .int (nI 2))] [] (HH P Hs T L S V (s, bf, sv, past, isv, pm) (r1, d1, it, lo) (mv, mn, ks, tn) ml mt)
  have hbi := hb i
  obtain ⟨k, hl⟩ := fits_loc hf
  have hm : Ok MX6_tells [.ref 40, .int (nI i), .int (nI 3)] (HH P Hs T L S V (s, bf, sv, past, isv, pm) (r1, d1, it, lo) (mv, mn, ks, tn) ml mt) none (HH P Hs T L S V (s, bf, sv, past, isv, pm) (r1, d1, it, loAll (selC (movP b) i) b lo 25) (wl mv (preL (selC (selB b 3) i) 25), (preL (selC (selB b 3) i) 25).length, ks, tn) ml mt) := okX6_tells_c hb hsb hu hi hl hw
  generalize preL (selC (selB b 3) i) 25 = l at E hm
  refine x_iload_n C dX6_manOf_0 rfl ?_
  refine x_callS1i C (okX6_isSquare _ _) lkX6_64 miX6_isSquare mtX6_isSquare maX6_isSquare ⟨Nat.le_of_ble_eq_true rfl, Nat.le_of_ble_eq_true rfl⟩ (Nat.le_of_ble_eq_true rfl) dX6_manOf_1 ?_
  rw [isSq_nI (by omega), decide_eq_true hi]
  refine x_if_neB C 9 dX6_manOf_4 (by decide) (fun c4 => ?_) (fun c4 => ?_)
  · refine x_iload_n C dX6_manOf_9 rfl ?_
    refine x_iconst C (v := nI 0) dX6_manOf_10 (by decide +kernel) ?_
    refine x_iconst C (v := nI 3) dX6_manOf_11 (by decide +kernel) ?_
    refine x_callS3i C (okX6_in _ _ _ _) lkX6_60 miX6_in mtX6_in maX6_in ⟨Nat.le_of_ble_eq_true rfl, Nat.le_of_ble_eq_true rfl⟩ (Nat.le_of_ble_eq_true rfl) dX6_manOf_12 ?_
    rw [inB_nI (by omega) (by decide) (by decide), decide_eq_true (by omega)]
    refine x_if_neB C 21 dX6_manOf_15 (by decide) (fun c15 => ?_) (fun c15 => ?_)
    · refine x_aload_n C dX6_manOf_21 rfl ?_
      refine x_getfield C qk6 0 (by decide) lfX6_9 dX6_manOf_22 rfl rfl ?_
      refine x_iload_n C dX6_manOf_25 rfl ?_
      refine x_iald C dX6_manOf_26 HM_s (by omega) (by decide) ?_
      refine x_top (congrArg nI (hsb i hi)) ?_
      refine x_if_eqN C 42 dX6_manOf_27 (by decide) (by omega) (fun c27 => ?_) (fun c27 => ?_)
      · exact absurd c27 h0
      · refine x_iload_n C dX6_manOf_30 rfl ?_
        refine x_iconst C (v := nI 1) dX6_manOf_31 (by decide +kernel) ?_
        refine x_icmp_leN C 45 dX6_manOf_32 (by decide) (by omega) (by omega) (fun c32 => ?_) (fun c32 => ?_)
        · omega
        · refine x_aload_n C dX6_manOf_35 rfl ?_
          refine x_callV0i C (okX6_fits hb hsb hu) lkX6_132 miX6_fits msX6_fits maX6_fits ⟨Nat.le_of_ble_eq_true rfl, Nat.le_of_ble_eq_true rfl⟩ (Nat.le_of_ble_eq_true rfl) rfl rfl dX6_manOf_36 ?_
          rw [hf]
          refine x_if_neB C 45 dX6_manOf_39 (by decide) (fun c39 => ?_) (fun c39 => ?_)
          · refine x_iload_n C dX6_manOf_45 rfl ?_
            refine x_tsw C (off := 55) 101 dX6_manOf_46 (by decide +kernel) (by decide +kernel) (by decide +kernel) (by decide) ?_
            refine x_aload_n C dX6_manOf_101 rfl ?_
            refine x_iload_n C dX6_manOf_102 rfl ?_
            refine x_iconst C (v := nI 3) dX6_manOf_103 (by decide +kernel) ?_
            refine x_callV2v C hm lkX6_145 miX6_tells msX6_tells maX6_tells ⟨Nat.le_of_ble_eq_true rfl, Nat.le_of_ble_eq_true rfl⟩ (Nat.le_of_ble_eq_true rfl) rfl rfl dX6_manOf_104 ?_
            refine x_aload_n C dX6_manOf_107 rfl ?_
            refine x_getfield C qk6 11 (by decide) lfX6_139 dX6_manOf_108 rfl rfl ?_
            exact x_iret E .int dX6_manOf_111 rfl rfl rfl rfl
          · cases c39
    · cases c15
  · cases c4
set_option maxHeartbeats 4000000 in
set_option maxRecDepth 100000 in
theorem okX6_manOf_d {P : qPs} {Hs : qHs} {T : qTs} {L : qLs} {S : qSs} {V : qVs} {ml : qml} {mt : qmt} {s bf sv past tn : Nat → Nat} {isv : Bool} {pm : Nat} {r1 d1 it : Int32} {w : qW} {b : Nat → Nat} (hb : ∀ i, b i < 8) (hsb : Ag s b) (hu : Uq b 7) (hw : wNo b ≤ 12) {i : Nat} (hi : i < 25) (h0 : ¬ b i = 0) (hf : fitsB b = true) : Ok MX6_manOf [.ref 40, .int (nI i), .int (nI 3)] (HH P Hs T L S V (s, bf, sv, past, isv, pm) (r1, d1, it, (w).1) ((w).2.1, (w).2.2.1, (w).2.2.2, tn) ml mt) (some (.int (qb (spR b i)))) (HH P Hs T L S V (s, bf, sv, past, isv, pm) (r1, d1, it, (spW b i w).1) ((spW b i w).2.1, (spW b i w).2.2.1, (spW b i w).2.2.2, tn) ml mt) := by
  refine ok_of (by decide +kernel) (Nat.zero_le _) (Nat.le_of_ble_eq_true rfl) ?_
  intro X C E
  show Ex X MX6_manOf 0 [(0, .ref 40), (1, .int (nI i)), (2, .int (nI 3))] [] (HH P Hs T L S V (s, bf, sv, past, isv, pm) (r1, d1, it, (w).1) ((w).2.1, (w).2.2.1, (w).2.2.2, tn) ml mt)
  have hbi := hb i
  obtain ⟨k, hl⟩ := fits_loc hf
  refine x_iload_n C dX6_manOf_0 rfl ?_
  refine x_callS1i C (okX6_isSquare _ _) lkX6_64 miX6_isSquare mtX6_isSquare maX6_isSquare ⟨Nat.le_of_ble_eq_true rfl, Nat.le_of_ble_eq_true rfl⟩ (Nat.le_of_ble_eq_true rfl) dX6_manOf_1 ?_
  rw [isSq_nI (by omega), decide_eq_true hi]
  refine x_if_neB C 9 dX6_manOf_4 (by decide) (fun c4 => ?_) (fun c4 => ?_)
  · refine x_iload_n C dX6_manOf_9 rfl ?_
    refine x_iconst C (v := nI 0) dX6_manOf_10 (by decide +kernel) ?_
    refine x_iconst C (v := nI 3) dX6_manOf_11 (by decide +kernel) ?_
    refine x_callS3i C (okX6_in _ _ _ _) lkX6_60 miX6_in mtX6_in maX6_in ⟨Nat.le_of_ble_eq_true rfl, Nat.le_of_ble_eq_true rfl⟩ (Nat.le_of_ble_eq_true rfl) dX6_manOf_12 ?_
    rw [inB_nI (by omega) (by decide) (by decide), decide_eq_true (by omega)]
    refine x_if_neB C 21 dX6_manOf_15 (by decide) (fun c15 => ?_) (fun c15 => ?_)
    · refine x_aload_n C dX6_manOf_21 rfl ?_
      refine x_getfield C qk6 0 (by decide) lfX6_9 dX6_manOf_22 rfl rfl ?_
      refine x_iload_n C dX6_manOf_25 rfl ?_
      refine x_iald C dX6_manOf_26 HM_s (by omega) (by decide) ?_
      refine x_top (congrArg nI (hsb i hi)) ?_
      refine x_if_eqN C 42 dX6_manOf_27 (by decide) (by omega) (fun c27 => ?_) (fun c27 => ?_)
      · exact absurd c27 h0
      · refine x_iload_n C dX6_manOf_30 rfl ?_
        refine x_iconst C (v := nI 1) dX6_manOf_31 (by decide +kernel) ?_
        refine x_icmp_leN C 45 dX6_manOf_32 (by decide) (by omega) (by omega) (fun c32 => ?_) (fun c32 => ?_)
        · omega
        · refine x_aload_n C dX6_manOf_35 rfl ?_
          refine x_callV0i C (okX6_fits hb hsb hu) lkX6_132 miX6_fits msX6_fits maX6_fits ⟨Nat.le_of_ble_eq_true rfl, Nat.le_of_ble_eq_true rfl⟩ (Nat.le_of_ble_eq_true rfl) rfl rfl dX6_manOf_36 ?_
          rw [hf]
          refine x_if_neB C 45 dX6_manOf_39 (by decide) (fun c39 => ?_) (fun c39 => ?_)
          · refine x_iload_n C dX6_manOf_45 rfl ?_
            refine x_tswOut C 112 dX6_manOf_46 (by decide +kernel) (by decide) ?_
            refine x_aload_n C dX6_manOf_112 rfl ?_
            refine x_iload_n C dX6_manOf_113 rfl ?_
            refine x_callV1i C (okX6_canSpare hb hsb hu hi hl hw) lkX6_155 miX6_canSpare msX6_canSpare maX6_canSpare ⟨Nat.le_of_ble_eq_true rfl, Nat.le_of_ble_eq_true rfl⟩ (Nat.le_of_ble_eq_true rfl) rfl rfl dX6_manOf_114 ?_
            refine x_if_eqB C 124 dX6_manOf_117 (by decide) (fun c117 => ?_) (fun c117 => ?_)
            · refine x_iconst C (v := nI 0) dX6_manOf_124 (by decide +kernel) ?_
              exact x_iret E .int dX6_manOf_125 rfl rfl (by rw [c117]; rfl) rfl
            · refine x_iconst C (v := nI 1) dX6_manOf_120 (by decide +kernel) ?_
              refine x_goto C 125 dX6_manOf_121 (by decide) ?_
              exact x_iret E .int dX6_manOf_125 rfl rfl (by rw [c117]; rfl) rfl
          · cases c39
    · cases c15
  · cases c4
