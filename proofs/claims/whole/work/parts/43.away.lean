/-! the reference: what is attacked -/
def posM (i d f : Nat) : Option Nat :=
  if 0 ≤ ((i % 5 : Nat) : Int) + f * dcI d ∧ ((i % 5 : Nat) : Int) + f * dcI d < 5 ∧ 0 ≤ ((i / 5 : Nat) : Int) + f * drI d ∧ ((i / 5 : Nat) : Int) + f * drI d < 5 then some ((((i / 5 : Nat) : Int) + f * drI d).toNat * 5 + (((i % 5 : Nat) : Int) + f * dcI d).toNat) else none
def awOk (i d f : Nat) : Bool := match posM i d f with
  | none => !(inB (nI (i % 5) + nI f * q_sc d) (nI 0) (nI 4) && inB (nI (i / 5) + nI f * q_sr d) (nI 0) (nI 4))
  | some q => (inB (nI (i % 5) + nI f * q_sc d) (nI 0) (nI 4) && inB (nI (i / 5) + nI f * q_sr d) (nI 0) (nI 4)) && (decide (nI 5 * (nI (i / 5) + nI f * q_sr d) + (nI (i % 5) + nI f * q_sc d) = nI q) && decide (q < 25))
theorem awOk_all : ∀ (i : Fin 25) (d : Fin 16) (f : Fin 6), awOk i d f = true := by decide +kernel
def awI (s : Nat → Nat) (i d f : Nat) : Int32 := match posM i d f with
  | none => -1
  | some q => nI (s q)
theorem posM_lt {i d f q : Nat} (hi : i < 25) (hd : d < 16) (hf : f < 6) (h : posM i d f = some q) : q < 25 := by
  have h1 : awOk i d f = true := awOk_all ⟨i, hi⟩ ⟨d, hd⟩ ⟨f, hf⟩
  unfold awOk at h1
  rw [h] at h1
  simp only [Bool.and_eq_true, decide_eq_true_eq] at h1
  exact h1.2.2
set_option maxHeartbeats 4000000 in
set_option maxRecDepth 100000 in
theorem okX6_away {P : qPs} {Hs : qHs} {T : qTs} {L : qLs} {S : qSs} {V : qVs} {mr : qmr} {mm : qmm} {ml : qml} {mt : qmt} {s bf sv past : Nat → Nat} {isv : Bool} {pm : Nat} {i d f : Nat} (hi : i < 25) (hd : d < 16) (hf : f < 6) : Ok MX6_away [.ref 40, .int (nI i), .int (nI f * q_sc d), .int (nI f * q_sr d)] (HH P Hs T L S V (s, bf, sv, past, isv, pm) mr mm ml mt) (some (.int (awI s i d f))) (HH P Hs T L S V (s, bf, sv, past, isv, pm) mr mm ml mt) := by
  refine ok_of (by decide +kernel) (Nat.zero_le _) (Nat.le_of_ble_eq_true rfl) ?_
  intro X C E
  show Ex X MX6_away 0 [(0, .ref 40), (1, .int (nI i)), (2, .int (nI f * q_sc d)), (3, .int (nI f * q_sr d))] [] (HH P Hs T L S V (s, bf, sv, past, isv, pm) mr mm ml mt)
  have h1 : awOk i d f = true := awOk_all ⟨i, hi⟩ ⟨d, hd⟩ ⟨f, hf⟩
  unfold awOk at h1
  unfold awI at E
  cases e : posM i d f with
  | none =>
    rw [e] at h1 E
    refine x_iload_n C dX6_away_0 rfl ?_
    refine x_iconst C (v := nI 5) dX6_away_1 (by decide +kernel) ?_
    refine x_iremN C dX6_away_2 (by omega) (by decide) (by decide) ?_
    refine x_iload_n C dX6_away_3 rfl ?_
    refine x_iadd C dX6_away_4 ?_
    refine x_istore C dX6_away_5 (by decide) [(4, _), (0, _), (1, _), (2, _), (3, _)] rfl ?_
    refine x_iload_n C dX6_away_7 rfl ?_
    refine x_iconst C (v := nI 5) dX6_away_8 (by decide +kernel) ?_
    refine x_idivN C dX6_away_9 (by omega) (by decide) (by decide) ?_
    refine x_iload_n C dX6_away_10 rfl ?_
    refine x_iadd C dX6_away_11 ?_
    refine x_istore C dX6_away_12 (by decide) [(5, _), (4, _), (0, _), (1, _), (2, _), (3, _)] rfl ?_
    refine x_iload C dX6_away_14 rfl ?_
    refine x_iconst C (v := nI 0) dX6_away_16 (by decide +kernel) ?_
    refine x_iconst C (v := nI 4) dX6_away_17 (by decide +kernel) ?_
    refine x_callS3i C (okX6_in _ _ _ _) lkX6_60 miX6_in mtX6_in maX6_in ⟨Nat.le_of_ble_eq_true rfl, Nat.le_of_ble_eq_true rfl⟩ (Nat.le_of_ble_eq_true rfl) dX6_away_18 ?_
    refine x_if_eqB C 49 dX6_away_21 (by decide) (fun c21 => ?_) (fun c21 => ?_)
    · refine x_iconst C (v := (-1)) dX6_away_49 (by decide +kernel) ?_
      exact x_iret E .int dX6_away_50 rfl rfl rfl rfl
    · refine x_iload C dX6_away_24 rfl ?_
      refine x_iconst C (v := nI 0) dX6_away_26 (by decide +kernel) ?_
      refine x_iconst C (v := nI 4) dX6_away_27 (by decide +kernel) ?_
      refine x_callS3i C (okX6_in _ _ _ _) lkX6_60 miX6_in mtX6_in maX6_in ⟨Nat.le_of_ble_eq_true rfl, Nat.le_of_ble_eq_true rfl⟩ (Nat.le_of_ble_eq_true rfl) dX6_away_28 ?_
      refine x_if_eqB C 49 dX6_away_31 (by decide) (fun c31 => ?_) (fun c31 => ?_)
      · refine x_iconst C (v := (-1)) dX6_away_49 (by decide +kernel) ?_
        exact x_iret E .int dX6_away_50 rfl rfl rfl rfl
      · rw [c21, c31] at h1
        cases h1
  | some q =>
    rw [e] at h1 E
    simp only [Bool.and_eq_true, decide_eq_true_eq] at h1
    have hq := h1.2.2
    refine x_iload_n C dX6_away_0 rfl ?_
    refine x_iconst C (v := nI 5) dX6_away_1 (by decide +kernel) ?_
    refine x_iremN C dX6_away_2 (by omega) (by decide) (by decide) ?_
    refine x_iload_n C dX6_away_3 rfl ?_
    refine x_iadd C dX6_away_4 ?_
    refine x_istore C dX6_away_5 (by decide) [(4, _), (0, _), (1, _), (2, _), (3, _)] rfl ?_
    refine x_iload_n C dX6_away_7 rfl ?_
    refine x_iconst C (v := nI 5) dX6_away_8 (by decide +kernel) ?_
    refine x_idivN C dX6_away_9 (by omega) (by decide) (by decide) ?_
    refine x_iload_n C dX6_away_10 rfl ?_
    refine x_iadd C dX6_away_11 ?_
    refine x_istore C dX6_away_12 (by decide) [(5, _), (4, _), (0, _), (1, _), (2, _), (3, _)] rfl ?_
    refine x_iload C dX6_away_14 rfl ?_
    refine x_iconst C (v := nI 0) dX6_away_16 (by decide +kernel) ?_
    refine x_iconst C (v := nI 4) dX6_away_17 (by decide +kernel) ?_
    refine x_callS3i C (okX6_in _ _ _ _) lkX6_60 miX6_in mtX6_in maX6_in ⟨Nat.le_of_ble_eq_true rfl, Nat.le_of_ble_eq_true rfl⟩ (Nat.le_of_ble_eq_true rfl) dX6_away_18 ?_
    refine x_if_eqB C 49 dX6_away_21 (by decide) (fun c21 => ?_) (fun c21 => ?_)
    · rw [h1.1.1] at c21; cases c21
    · refine x_iload C dX6_away_24 rfl ?_
      refine x_iconst C (v := nI 0) dX6_away_26 (by decide +kernel) ?_
      refine x_iconst C (v := nI 4) dX6_away_27 (by decide +kernel) ?_
      refine x_callS3i C (okX6_in _ _ _ _) lkX6_60 miX6_in mtX6_in maX6_in ⟨Nat.le_of_ble_eq_true rfl, Nat.le_of_ble_eq_true rfl⟩ (Nat.le_of_ble_eq_true rfl) dX6_away_28 ?_
      refine x_if_eqB C 49 dX6_away_31 (by decide) (fun c31 => ?_) (fun c31 => ?_)
      · rw [h1.1.2] at c31; cases c31
      · refine x_aload_n C dX6_away_34 rfl ?_
        refine x_getfield C qk6 0 (by decide) lfX6_9 dX6_away_35 rfl rfl ?_
        refine x_iconst C (v := nI 5) dX6_away_38 (by decide +kernel) ?_
        refine x_iload C dX6_away_39 rfl ?_
        refine x_imul C dX6_away_41 ?_
        refine x_iload C dX6_away_42 rfl ?_
        refine x_iadd C dX6_away_44 ?_
        refine x_top h1.2.1 ?_
        refine x_iald C dX6_away_45 HM_s (by omega) (by decide) ?_
        refine x_goto C 50 dX6_away_46 (by decide) ?_
        exact x_iret E .int dX6_away_50 rfl rfl rfl rfl
/-- the first one on a way: how far it is, 0 if there is none -/
def fsD (s : Nat → Nat) (i d : Nat) : Nat → Nat → Nat
  | 0, _ => 0
  | n + 1, f => match posM i d f with
    | none => 0
    | some q => if s q = 0 then fsD s i d n (f + 1) else f
def fst (s : Nat → Nat) (i d : Nat) : Nat := fsD s i d 5 1
theorem pos5 : ∀ (i : Fin 25) (d : Fin 8), posM i d 5 = none := by decide +kernel
theorem fsD_ok {s : Nat → Nat} {i d : Nat} : ∀ {n f k : Nat}, fsD s i d n f = k → k ≠ 0 → f ≤ k ∧ k < f + n ∧ ∃ q, posM i d k = some q ∧ s q ≠ 0
  | 0, f, k, h, hk => absurd h.symm hk
  | n + 1, f, k, h, hk => by
    unfold fsD at h
    cases e : posM i d f with
    | none => rw [e] at h; exact absurd h.symm hk
    | some q =>
      rw [e] at h
      simp only [] at h
      by_cases hq : s q = 0
      · rw [if_pos hq] at h
        obtain ⟨h1, h2, h3⟩ := fsD_ok h hk
        exact ⟨by omega, by omega, h3⟩
      · rw [if_neg hq] at h
        subst h
        exact ⟨Nat.le_refl _, by omega, q, e, hq⟩
theorem fst_le (s : Nat → Nat) (i d : Nat) : fst s i d < 6 := by
  by_cases h : fst s i d = 0
  · omega
  · obtain ⟨-, h2, -⟩ := fsD_ok (s := s) (i := i) (d := d) (n := 5) (f := 1) (k := fst s i d) rfl h
    omega
def fsK (s : Nat → Nat) (i d : Nat) : Nat := if fst s i d = 0 then 0 else match posM i d (fst s i d) with
  | none => 0
  | some q => s q
theorem fsK_aw {s : Nat → Nat} {i d : Nat} (h : ¬ fst s i d = 0) : awI s i d (fst s i d) = nI (fsK s i d) := by
  obtain ⟨-, -, q, hq, -⟩ := fsD_ok (s := s) (i := i) (d := d) (n := 5) (f := 1) (k := fst s i d) rfl h
  unfold awI fsK
  rw [if_neg h, hq]
theorem fsK_lt {s : Nat → Nat} (hs : ∀ i, i < 25 → s i < 8) {i d : Nat} (hi : i < 25) (hd : d < 16) : fsK s i d < 8 := by
  unfold fsK
  split
  · decide
  · rename_i h
    obtain ⟨-, -, q, hq, -⟩ := fsD_ok (s := s) (i := i) (d := d) (n := 5) (f := 1) (k := fst s i d) rfl h
    rw [hq]
    exact hs q (posM_lt hi hd (fst_le s i d) hq)
set_option maxHeartbeats 4000000 in
set_option maxRecDepth 100000 in
theorem okX6_firstAt {P : qPs} {Hs : qHs} {T : qTs} {L : qLs} {S : qSs} {V : qVs} {mr : qmr} {mm : qmm} {ml : qml} {mt : qmt} {s bf sv past : Nat → Nat} {isv : Bool} {pm : Nat} (hs : ∀ i, i < 25 → s i < 8) {i d : Nat} (hi : i < 25) (hd : d < 8) : Ok MX6_firstAt [.ref 40, .int (nI i), .int (q_sc d), .int (q_sr d)] (HH P Hs T L S V (s, bf, sv, past, isv, pm) mr mm ml mt) (some (.int (nI (fst s i d)))) (HH P Hs T L S V (s, bf, sv, past, isv, pm) mr mm ml mt) := by
  refine ok_of (by decide +kernel) (Nat.zero_le _) (Nat.le_of_ble_eq_true rfl) ?_
  intro X C E
  show Ex X MX6_firstAt 0 [(0, .ref 40), (1, .int (nI i)), (2, .int (q_sc d)), (3, .int (q_sr d))] [] (HH P Hs T L S V (s, bf, sv, past, isv, pm) mr mm ml mt)
  have LP : ∀ n f : Nat, f + n = 6 → 1 ≤ f → n ≠ 0 → fst s i d = fsD s i d n f → Ex X MX6_firstAt 3 [(0, .ref 40), (1, .int (nI i)), (2, .int (q_sc d)), (3, .int (q_sr d)), (4, .int (nI f))] [] (HH P Hs T L S V (s, bf, sv, past, isv, pm) mr mm ml mt) := by
    intro n
    induction n with
    | zero =>
      intro f hfn h1 h0 he
      exact absurd rfl h0
    | succ n ih =>
      intro f hfn h1 h0 he
      cases e : posM i d f with
      | none =>
        refine x_aload_n C dX6_firstAt_3 rfl ?_
        refine x_iload_n C dX6_firstAt_4 rfl ?_
        refine x_iload C dX6_firstAt_5 rfl ?_
        refine x_iload_n C dX6_firstAt_7 rfl ?_
        refine x_imul C dX6_firstAt_8 ?_
        refine x_iload C dX6_firstAt_9 rfl ?_
        refine x_iload_n C dX6_firstAt_11 rfl ?_
        refine x_imul C dX6_firstAt_12 ?_
        refine x_callV3i C (okX6_away hi (by omega) (show f < 6 by omega)) lkX6_92 miX6_away msX6_away maX6_away ⟨Nat.le_of_ble_eq_true rfl, Nat.le_of_ble_eq_true rfl⟩ (Nat.le_of_ble_eq_true rfl) rfl rfl dX6_firstAt_13 ?_
        rw [show awI s i d f = -1 by unfold awI; rw [e]]
        refine x_if_ne C 25 dX6_firstAt_16 (by decide) (fun c16 => ?_) (fun c16 => ?_)
        · refine x_aload_n C dX6_firstAt_25 rfl ?_
          refine x_iload_n C dX6_firstAt_26 rfl ?_
          refine x_iload C dX6_firstAt_27 rfl ?_
          refine x_iload_n C dX6_firstAt_29 rfl ?_
          refine x_imul C dX6_firstAt_30 ?_
          refine x_iload C dX6_firstAt_31 rfl ?_
          refine x_iload_n C dX6_firstAt_33 rfl ?_
          refine x_imul C dX6_firstAt_34 ?_
          refine x_callV3i C (okX6_away hi (by omega) (show f < 6 by omega)) lkX6_92 miX6_away msX6_away maX6_away ⟨Nat.le_of_ble_eq_true rfl, Nat.le_of_ble_eq_true rfl⟩ (Nat.le_of_ble_eq_true rfl) rfl rfl dX6_firstAt_35 ?_
          rw [show awI s i d f = -1 by unfold awI; rw [e]]
          refine x_if_le C 46 dX6_firstAt_38 (by decide) (fun c38 => ?_) (fun c38 => ?_)
          · refine x_iconst C (v := nI 0) dX6_firstAt_46 (by decide +kernel) ?_
            exact x_iret E .int dX6_firstAt_47 rfl rfl (by rw [he, fsD, e]) rfl
          · exact absurd (by decide : (-1 : Int32) ≤ 0) c38
        · exact absurd c16 (by decide)
      | some q =>
        have hq25 := posM_lt hi (by omega) (by omega) e
        refine x_aload_n C dX6_firstAt_3 rfl ?_
        refine x_iload_n C dX6_firstAt_4 rfl ?_
        refine x_iload C dX6_firstAt_5 rfl ?_
        refine x_iload_n C dX6_firstAt_7 rfl ?_
        refine x_imul C dX6_firstAt_8 ?_
        refine x_iload C dX6_firstAt_9 rfl ?_
        refine x_iload_n C dX6_firstAt_11 rfl ?_
        refine x_imul C dX6_firstAt_12 ?_
        refine x_callV3i C (okX6_away hi (by omega) (show f < 6 by omega)) lkX6_92 miX6_away msX6_away maX6_away ⟨Nat.le_of_ble_eq_true rfl, Nat.le_of_ble_eq_true rfl⟩ (Nat.le_of_ble_eq_true rfl) rfl rfl dX6_firstAt_13 ?_
        rw [show awI s i d f = nI (s q) by unfold awI; rw [e]]
        refine x_if_neN C 25 dX6_firstAt_16 (by decide) (by have := hs q hq25; omega) (fun c16 => ?_) (fun c16 => ?_)
        · have he2 : fst s i d = f := by rw [he, fsD, e]; simp only []; rw [if_neg c16]
          refine x_aload_n C dX6_firstAt_25 rfl ?_
          refine x_iload_n C dX6_firstAt_26 rfl ?_
          refine x_iload C dX6_firstAt_27 rfl ?_
          refine x_iload_n C dX6_firstAt_29 rfl ?_
          refine x_imul C dX6_firstAt_30 ?_
          refine x_iload C dX6_firstAt_31 rfl ?_
          refine x_iload_n C dX6_firstAt_33 rfl ?_
          refine x_imul C dX6_firstAt_34 ?_
          refine x_callV3i C (okX6_away hi (by omega) (show f < 6 by omega)) lkX6_92 miX6_away msX6_away maX6_away ⟨Nat.le_of_ble_eq_true rfl, Nat.le_of_ble_eq_true rfl⟩ (Nat.le_of_ble_eq_true rfl) rfl rfl dX6_firstAt_35 ?_
          rw [show awI s i d f = nI (s q) by unfold awI; rw [e]]
          refine x_if_leN C 46 dX6_firstAt_38 (by decide) (by have := hs q hq25; omega) (fun c38 => ?_) (fun c38 => ?_)
          · exact absurd c38 c16
          · refine x_iload C dX6_firstAt_41 rfl ?_
            refine x_goto C 47 dX6_firstAt_43 (by decide) ?_
            exact x_iret E .int dX6_firstAt_47 rfl rfl (by rw [he2]) rfl
        · have hn0 : n ≠ 0 := by
            intro hz
            subst hz
            have h5 : f = 5 := by omega
            subst h5
            rw [show posM i d 5 = none from pos5 ⟨i, hi⟩ ⟨d, hd⟩] at e
            cases e
          have he2 : fst s i d = fsD s i d n (f + 1) := by rw [he, fsD, e]; simp only []; rw [if_pos c16]
          refine x_iinc C _ dX6_firstAt_19 rfl (q_inc _) (by decide) [(4, _), (0, _), (1, _), (2, _), (3, _)] rfl ?_
          refine x_goto C 3 dX6_firstAt_22 (by decide) ?_
          exact x_sub [1, 2, 3, 4, 0] (ih (f + 1) (by omega) (by omega) (by omega) he2) rfl
  refine x_iconst C (v := nI 1) dX6_firstAt_0 (by decide +kernel) ?_
  refine x_istore C dX6_firstAt_1 (by decide) [(4, _), (0, _), (1, _), (2, _), (3, _)] rfl ?_
  exact x_sub [1, 2, 3, 4, 0] (LP 5 1 (by omega) (by omega) (by decide) rfl) rfl
