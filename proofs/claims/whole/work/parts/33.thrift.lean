/-! thrift -/
def sqm (n : Nat) : Int32 := if n = 0 then -1 else nI (n - 1)
theorem q_decm (n : Nat) : nI n + Int32.ofInt (-1) = sqm n := by
  cases n with
  | zero => rfl
  | succ m => exact q_dec m
theorem sqm_s (n : Nat) : sqm (n + 1) = nI n := rfl
theorem csT_Bd {a c : qP} (S : Nat → Nat → Bool) (i : Nat) (ha : Bd a.1) (hc : Bd c.1) (hi : i < 25) : Bd (csT a c S i).1 := by
  unfold csT
  split
  · exact ha.up hi (by decide)
  · exact hc
def scanF (a : qP) (S : Nat → Nat → Bool) (Tk : Nat → Int32) : Nat → qP → Option Nat × qP
  | 0, c => (none, c)
  | n + 1, c => if csP a.1 S Tk n = true then (some n, csT a c S n) else scanF a S Tk n (csT a c S n)
theorem scanF_ok {a : qP} {S : Nat → Nat → Bool} {Tk : Nat → Int32} (ha : Bd a.1) : ∀ n, n ≤ 25 → ∀ c : qP, Bd c.1 → Bd (scanF a S Tk n c).2.1 ∧ ∀ i, (scanF a S Tk n c).1 = some i → i < n
  | 0, _, c, hc => ⟨hc, fun i h => by cases h⟩
  | n + 1, hn, c, hc => by
    simp only [scanF]
    have hc2 := csT_Bd S n ha hc (by omega)
    split
    · exact ⟨hc2, fun i h => by cases h; omega⟩
    · obtain ⟨h1, h2⟩ := scanF_ok (a := a) (S := S) (Tk := Tk) ha n (by omega) _ hc2
      exact ⟨h1, fun i h => by have := h2 i h; omega⟩
def thR (S : Nat → Nat → Bool) (Tk : Nat → Int32) : Nat → Nat → qP → qP → Nat × qP × qP
  | 0, off, a, c => (off, a, c)
  | m + 1, off, a, c => match (scanF a S Tk 25 c).1 with
    | none => (off, a, (scanF a S Tk 25 c).2)
    | some i => thR S Tk m (off + 1) (up a.1 i 0, a.2) (scanF a S Tk 25 c).2
def tkF (b : Nat → Nat) (Tk : Nat → Int32) : Nat → Int32 := fil (fun i => mask (keyP b i)) Tk 25
theorem tkF_at (b : Nat → Nat) (Tk : Nat → Int32) : ∀ j, j < 25 → tkF b Tk j = mask (keyP b j) := by
  intro j hj
  simp [tkF, fil, hj]
def thr (a c : qP) (Tk : Nat → Int32) : Nat × qP × qP := thR (keyP a.1) (tkF a.1 Tk) 12 0 a c
def thriftF (a c : qP) (Tk : Nat → Int32) : qOut :=
  if fitsB a.1 = false then (-3, some (nI 7, match loc7 a.1 7 with
    | none => nI 0
    | some j => nI (cnt (attR a.1 j) 25)), a)
  else if (thr a c Tk).1 = 0 then (-3, some (nI 6, nI (menN (thr a c Tk).2.1.1)), (thr a c Tk).2.1)
  else (nI (thr a c Tk).1, none, ((thr a c Tk).2.1.1, (thr a c Tk).2.1.2.1, (thr a c Tk).2.1.2.2.1, (thr a c Tk).2.1.2.2.2.1 + (thr a c Tk).1, (thr a c Tk).2.1.2.2.2.2))
def thriftC (a c : qP) (Tk : Nat → Int32) : qP := if fitsB a.1 = false then c else (thr a c Tk).2.2
def thriftK (a : qP) (Tk : Nat → Int32) : Nat → Int32 := if fitsB a.1 = false then Tk else tkF a.1 Tk
set_option maxHeartbeats 4000000 in
set_option maxRecDepth 100000 in
theorem okX5_thriftNow {a0 b c0 d : qP} {Hs : qHs} {L : qLs} {S : qSs} {ms : qms} {mr : qmr} {mm : qmm} {ml : qml} {mt : qmt} {Tm Tk : Nat → Int32} {ta mc : Nat → Nat} {sv : Bool} {cm r1 d1 f1 : Int32} (ha0 : Bd a0.1) (hc0 : Bd c0.1) : Ok MX5_thriftNow [.ref 0] (HH (a0, b, c0, d) Hs (Tm, Tk, ta, mc) L S (sv, cm, r1, d1, f1) ms mr mm ml mt) (some (.int (thriftF a0 c0 Tk).1)) (HH ((thriftF a0 c0 Tk).2.2, b, thriftC a0 c0 Tk, d) Hs (Tm, thriftK a0 Tk, ta, mc) L S (refP (sv, cm, r1, d1, f1) (thriftF a0 c0 Tk)) ms mr mm ml mt) := by
  refine ok_of (by decide +kernel) (Nat.zero_le _) (Nat.le_of_ble_eq_true rfl) ?_
  intro X C E
  show Ex X MX5_thriftNow 0 [(0, .ref 0)] [] (HH (a0, b, c0, d) Hs (Tm, Tk, ta, mc) L S (sv, cm, r1, d1, f1) ms mr mm ml mt)
  have hnb : ∀ i, a0.1 i < 8 := ha0.1
  cases hfit : fitsB a0.1 with
  | false =>
    cases e : loc7 a0.1 7 with
    | none =>
      refine x_aload_n C dX5_thriftNow_0 rfl ?_
      refine x_getfield C qk5 0 (by decide) lfX5_12 dX5_thriftNow_1 rfl rfl ?_
      refine x_callV0i C (okX3_fits PosA_now hnb) lkX5_117 miX3_fits msX3_fits maX3_fits ⟨Nat.le_of_ble_eq_true rfl, Nat.le_of_ble_eq_true rfl⟩ (Nat.le_of_ble_eq_true rfl) rfl rfl dX5_thriftNow_4 ?_
      rw [hfit]
      refine x_if_neB C 43 dX5_thriftNow_7 (by decide) (fun c7 => ?_) (fun c7 => ?_)
      · cases c7
      · refine x_aload_n C dX5_thriftNow_10 rfl ?_
        refine x_getfield C qk5 0 (by decide) lfX5_12 dX5_thriftNow_11 rfl rfl ?_
        refine x_bipush C (v := nI 7) dX5_thriftNow_14 (by decide +kernel) ?_
        refine x_callV1i C (okX3_squareOf PosA_now hnb 7 (by decide)) lkX5_136 miX3_squareOf msX3_squareOf maX3_squareOf ⟨Nat.le_of_ble_eq_true rfl, Nat.le_of_ble_eq_true rfl⟩ (Nat.le_of_ble_eq_true rfl) rfl rfl dX5_thriftNow_16 ?_
        rw [e]
        refine x_istore_n C dX5_thriftNow_19 (by decide) [(1, _), (0, _)] rfl ?_
        refine x_aload_n C dX5_thriftNow_20 rfl ?_
        refine x_bipush C (v := nI 7) dX5_thriftNow_21 (by decide +kernel) ?_
        refine x_iload_n C dX5_thriftNow_23 rfl ?_
        refine x_if_ge C 31 dX5_thriftNow_24 (by decide) (fun c24 => ?_) (fun c24 => ?_)
        · exact absurd c24 (by decide)
        · refine x_iconst C (v := nI 0) dX5_thriftNow_27 (by decide +kernel) ?_
          refine x_goto C 39 dX5_thriftNow_28 (by decide) ?_
          refine x_callV2i C (okX5_refuse _ _) lkX5_272 miX5_refuse msX5_refuse maX5_refuse ⟨Nat.le_of_ble_eq_true rfl, Nat.le_of_ble_eq_true rfl⟩ (Nat.le_of_ble_eq_true rfl) rfl rfl dX5_thriftNow_39 ?_
          exact x_iret E .int dX5_thriftNow_42 rfl rfl (by unfold thriftF; rw [if_pos hfit, e]) (by unfold refP thriftF thriftC thriftK; rw [if_pos hfit, if_pos hfit, if_pos hfit, e]; rfl)
    | some j =>
      have hj := (loc7_some e).1
      refine x_aload_n C dX5_thriftNow_0 rfl ?_
      refine x_getfield C qk5 0 (by decide) lfX5_12 dX5_thriftNow_1 rfl rfl ?_
      refine x_callV0i C (okX3_fits PosA_now hnb) lkX5_117 miX3_fits msX3_fits maX3_fits ⟨Nat.le_of_ble_eq_true rfl, Nat.le_of_ble_eq_true rfl⟩ (Nat.le_of_ble_eq_true rfl) rfl rfl dX5_thriftNow_4 ?_
      rw [hfit]
      refine x_if_neB C 43 dX5_thriftNow_7 (by decide) (fun c7 => ?_) (fun c7 => ?_)
      · cases c7
      · refine x_aload_n C dX5_thriftNow_10 rfl ?_
        refine x_getfield C qk5 0 (by decide) lfX5_12 dX5_thriftNow_11 rfl rfl ?_
        refine x_bipush C (v := nI 7) dX5_thriftNow_14 (by decide +kernel) ?_
        refine x_callV1i C (okX3_squareOf PosA_now hnb 7 (by decide)) lkX5_136 miX3_squareOf msX3_squareOf maX3_squareOf ⟨Nat.le_of_ble_eq_true rfl, Nat.le_of_ble_eq_true rfl⟩ (Nat.le_of_ble_eq_true rfl) rfl rfl dX5_thriftNow_16 ?_
        rw [e, show sqI (some j) = nI j from rfl]
        refine x_istore_n C dX5_thriftNow_19 (by decide) [(1, _), (0, _)] rfl ?_
        refine x_aload_n C dX5_thriftNow_20 rfl ?_
        refine x_bipush C (v := nI 7) dX5_thriftNow_21 (by decide +kernel) ?_
        refine x_iload_n C dX5_thriftNow_23 rfl ?_
        refine x_if_geN C 31 dX5_thriftNow_24 (by decide) (by omega) ?_
        refine x_aload_n C dX5_thriftNow_31 rfl ?_
        refine x_getfield C qk5 0 (by decide) lfX5_12 dX5_thriftNow_32 rfl rfl ?_
        refine x_iload_n C dX5_thriftNow_35 rfl ?_
        refine x_callV1i C (okX3_countManByMan PosA_now hnb hj) lkX5_102 miX3_countManByMan msX3_countManByMan maX3_countManByMan ⟨Nat.le_of_ble_eq_true rfl, Nat.le_of_ble_eq_true rfl⟩ (Nat.le_of_ble_eq_true rfl) rfl rfl dX5_thriftNow_36 ?_
        refine x_callV2i C (okX5_refuse _ _) lkX5_272 miX5_refuse msX5_refuse maX5_refuse ⟨Nat.le_of_ble_eq_true rfl, Nat.le_of_ble_eq_true rfl⟩ (Nat.le_of_ble_eq_true rfl) rfl rfl dX5_thriftNow_39 ?_
        exact x_iret E .int dX5_thriftNow_42 rfl rfl (by unfold thriftF; rw [if_pos hfit, e]) (by unfold refP thriftF thriftC thriftK; rw [if_pos hfit, if_pos hfit, if_pos hfit, e]; rfl)
  | true =>
    have hnf : ¬ fitsB a0.1 = false := by rw [hfit]; decide
    obtain ⟨S0, hS0⟩ : ∃ S0, S0 = keyP a0.1 := ⟨_, rfl⟩
    obtain ⟨tk, htk⟩ : ∃ tk, tk = tkF a0.1 Tk := ⟨_, rfl⟩
    have hS : ∀ j, j < 25 → tk j = mask (S0 j) := by rw [htk, hS0]; exact tkF_at a0.1 Tk
    have L2 : ∀ a : qP, Bd a.1 → ∀ off r n : Nat, n ≤ 25 → ∀ c : qP, Bd c.1 → Ex X MX5_thriftNow 85 [(0, .ref 0), (1, .int (nI off)), (2, .int (nI r)), (3, .int (sqI (scanF a S0 tk n c).1))] [] (HH (a, b, (scanF a S0 tk n c).2, d) Hs (Tm, tk, ta, mc) L S (sv, cm, r1, d1, f1) ms mr mm ml mt) → Ex X MX5_thriftNow 67 [(0, .ref 0), (1, .int (nI off)), (2, .int (nI r)), (3, .int (sqm n))] [] (HH (a, b, c, d) Hs (Tm, tk, ta, mc) L S (sv, cm, r1, d1, f1) ms mr mm ml mt) := by
      intro a ha off r n
      induction n with
      | zero =>
        intro hn c hc kk
        refine x_iload_n C dX5_thriftNow_67 rfl ?_
        refine x_if_lt C 85 dX5_thriftNow_68 (by decide) (fun c68 => ?_) (fun c68 => ?_)
        · exact kk
        · exact absurd (by decide : (-1 : Int32) < 0) c68
      | succ n ih =>
        intro hn c hc kk
        rw [scanF] at kk
        rw [sqm_s]
        refine x_iload_n C dX5_thriftNow_67 rfl ?_
        refine x_if_ltN C 85 dX5_thriftNow_68 (by decide) (by omega) ?_
        refine x_aload_n C dX5_thriftNow_71 rfl ?_
        refine x_iload_n C dX5_thriftNow_72 rfl ?_
        refine x_callV1i C (okX5_canSpare ha hc S0 hS (by omega)) lkX5_127 miX5_canSpare msX5_canSpare maX5_canSpare ⟨Nat.le_of_ble_eq_true rfl, Nat.le_of_ble_eq_true rfl⟩ (Nat.le_of_ble_eq_true rfl) rfl rfl dX5_thriftNow_73 ?_
        refine x_if_neB C 85 dX5_thriftNow_76 (by decide) (fun c76 => ?_) (fun c76 => ?_)
        · rw [if_pos c76] at kk
          exact kk
        · rw [if_neg (by rw [c76]; decide)] at kk
          refine x_iinc C _ dX5_thriftNow_79 rfl (q_decm _) (by decide) [(3, _), (0, _), (1, _), (2, _)] rfl ?_
          refine x_goto C 67 dX5_thriftNow_82 (by decide) ?_
          exact x_sub [1, 2, 3, 0] (ih (by omega) (csT a c S0 n) (csT_Bd S0 n ha hc (by omega)) kk) rfl
    have L3 : ∀ a c : qP, (∀ i, a.1 i < 8) → ∀ off r : Nat, off ≤ 12 → thr a0 c0 Tk = (off, a, c) → Ex X MX5_thriftNow 110 [(0, .ref 0), (1, .int (nI off)), (2, .int (nI r))] [] (HH (a, b, c, d) Hs (Tm, tk, ta, mc) L S (sv, cm, r1, d1, f1) ms mr mm ml mt) := by
      intro a c ha off r ho he
      have hbig := menN_le a.1
      refine x_iload_n C dX5_thriftNow_110 rfl ?_
      refine x_if_neN C 128 dX5_thriftNow_111 (by decide) (by omega) (fun c111 => ?_) (fun c111 => ?_)
      · refine x_aload_n C dX5_thriftNow_128 rfl ?_
        refine x_getfield C qk5 0 (by decide) lfX5_12 dX5_thriftNow_129 rfl rfl ?_
        refine x_dup C rfl dX5_thriftNow_132 ?_
        refine x_getfield C qk3 3 (by decide) lfX5_243 dX5_thriftNow_133 rfl rfl ?_
        refine x_iload_n C dX5_thriftNow_136 rfl ?_
        refine x_iaddN C dX5_thriftNow_137 ?_
        refine x_putfield C qk3 3 (by decide) lfX5_243 rfl (ty0 := .int) (by decide +kernel) rfl rfl dX5_thriftNow_138 rfl (Nat.le_of_ble_eq_true rfl) ?_
        refine x_heap (h2 := HH ((a.1, a.2.1, a.2.2.1, a.2.2.2.1 + off, a.2.2.2.2), b, c, d) Hs (Tm, tk, ta, mc) L S (sv, cm, r1, d1, f1) ms mr mm ml mt) (by rfl) ?_
        refine x_iload_n C dX5_thriftNow_141 rfl ?_
        exact x_iret E .int dX5_thriftNow_142 rfl rfl (by unfold thriftF; rw [if_neg hnf, he, if_neg c111]) (by unfold refP thriftF thriftC thriftK; rw [if_neg hnf, if_neg hnf, if_neg hnf, he, if_neg c111, htk]; rfl)
      · refine x_aload_n C dX5_thriftNow_114 rfl ?_
        refine x_bipush C (v := nI 6) dX5_thriftNow_115 (by decide +kernel) ?_
        refine x_aload_n C dX5_thriftNow_117 rfl ?_
        refine x_getfield C qk5 0 (by decide) lfX5_12 dX5_thriftNow_118 rfl rfl ?_
        refine x_callV0i C (okX3_countAll PosA_now ha) lkX5_228 miX3_countAll msX3_countAll maX3_countAll ⟨Nat.le_of_ble_eq_true rfl, Nat.le_of_ble_eq_true rfl⟩ (Nat.le_of_ble_eq_true rfl) rfl rfl dX5_thriftNow_121 ?_
        refine x_callV2i C (okX5_refuse _ _) lkX5_272 miX5_refuse msX5_refuse maX5_refuse ⟨Nat.le_of_ble_eq_true rfl, Nat.le_of_ble_eq_true rfl⟩ (Nat.le_of_ble_eq_true rfl) rfl rfl dX5_thriftNow_124 ?_
        exact x_iret E .int dX5_thriftNow_127 rfl rfl (by unfold thriftF; rw [if_neg hnf, he, if_pos c111]) (by unfold refP thriftF thriftC thriftK; rw [if_neg hnf, if_neg hnf, if_neg hnf, he, if_pos c111, htk]; rfl)
    have L1 : ∀ m r off : Nat, ∀ a c : qP, Bd a.1 → Bd c.1 → r + m = 12 → off ≤ r → thr a0 c0 Tk = thR S0 tk m off a c → Ex X MX5_thriftNow 58 [(0, .ref 0), (1, .int (nI off)), (2, .int (nI r))] [] (HH (a, b, c, d) Hs (Tm, tk, ta, mc) L S (sv, cm, r1, d1, f1) ms mr mm ml mt) := by
      intro m
      induction m with
      | zero =>
        intro r off a c ha hc hr ho he
        refine x_iload_n C dX5_thriftNow_58 rfl ?_
        refine x_bipush C (v := nI 12) dX5_thriftNow_59 (by decide +kernel) ?_
        refine x_icmp_geN C 110 dX5_thriftNow_61 (by decide) (by omega) (by omega) (fun c61 => ?_) (fun c61 => ?_)
        · exact L3 a c ha.1 off r (by omega) he
        · exact absurd c61 (by omega)
      | succ m ih =>
        intro r off a c ha hc hr ho he
        rw [thR] at he
        obtain ⟨hc2, hlt⟩ := scanF_ok (S := S0) (Tk := tk) ha 25 (Nat.le_refl _) c hc
        have K : Ex X MX5_thriftNow 85 [(0, .ref 0), (1, .int (nI off)), (2, .int (nI r)), (3, .int (sqI (scanF a S0 tk 25 c).1))] [] (HH (a, b, (scanF a S0 tk 25 c).2, d) Hs (Tm, tk, ta, mc) L S (sv, cm, r1, d1, f1) ms mr mm ml mt) := by
          cases e : (scanF a S0 tk 25 c).1 with
          | none =>
            rw [e] at he
            refine x_iload_n C dX5_thriftNow_85 rfl ?_
            refine x_if_ge C 92 dX5_thriftNow_86 (by decide) (fun c86 => ?_) (fun c86 => ?_)
            · exact absurd c86 (by decide)
            · refine x_goto C 110 dX5_thriftNow_89 (by decide) ?_
              exact x_sub [0, 1, 2] (L3 a _ ha.1 off r (by omega) he) rfl
          | some i =>
            rw [e] at he
            have hi25 := hlt i e
            show Ex X MX5_thriftNow 85 [(0, .ref 0), (1, .int (nI off)), (2, .int (nI r)), (3, .int (nI i))] [] (HH (a, b, (scanF a S0 tk 25 c).2, d) Hs (Tm, tk, ta, mc) L S (sv, cm, r1, d1, f1) ms mr mm ml mt)
            refine x_iload_n C dX5_thriftNow_85 rfl ?_
            refine x_if_geN C 92 dX5_thriftNow_86 (by decide) (by omega) ?_
            refine x_aload_n C dX5_thriftNow_92 rfl ?_
            refine x_getfield C qk5 0 (by decide) lfX5_12 dX5_thriftNow_93 rfl rfl ?_
            refine x_iload_n C dX5_thriftNow_96 rfl ?_
            refine x_iconst C (v := nI 0) dX5_thriftNow_97 (by decide +kernel) ?_
            refine x_callV2v C (okX3_setMan PosA_now hi25 0) lkX5_167 miX3_setMan msX3_setMan maX3_setMan ⟨Nat.le_of_ble_eq_true rfl, Nat.le_of_ble_eq_true rfl⟩ (Nat.le_of_ble_eq_true rfl) rfl rfl dX5_thriftNow_98 ?_
            refine x_heap (h2 := HH ((up a.1 i 0, a.2), b, (scanF a S0 tk 25 c).2, d) Hs (Tm, tk, ta, mc) L S (sv, cm, r1, d1, f1) ms mr mm ml mt) (by rfl) ?_
            refine x_iinc C _ dX5_thriftNow_101 rfl (q_inc _) (by decide) [(1, _), (0, _), (2, _), (3, _)] rfl ?_
            refine x_iinc C _ dX5_thriftNow_104 rfl (q_inc _) (by decide) [(2, _), (1, _), (0, _), (3, _)] rfl ?_
            refine x_goto C 58 dX5_thriftNow_107 (by decide) ?_
            exact x_sub [2, 1, 0] (ih (r + 1) (off + 1) (up a.1 i 0, a.2) (scanF a S0 tk 25 c).2 (ha.up hi25 (by decide)) hc2 (by omega) (by omega) he) rfl
        refine x_iload_n C dX5_thriftNow_58 rfl ?_
        refine x_bipush C (v := nI 12) dX5_thriftNow_59 (by decide +kernel) ?_
        refine x_icmp_geN C 110 dX5_thriftNow_61 (by decide) (by omega) (by omega) (fun c61 => ?_) (fun c61 => ?_)
        · exact absurd c61 (by omega)
        · refine x_bipush C (v := nI 24) dX5_thriftNow_64 (by decide +kernel) ?_
          refine x_istore_n C dX5_thriftNow_66 (by decide) [(3, _), (0, _), (1, _), (2, _)] rfl ?_
          exact x_sub [1, 2, 3, 0] (L2 a ha off r 25 (Nat.le_refl _) c hc K) rfl
    refine x_aload_n C dX5_thriftNow_0 rfl ?_
    refine x_getfield C qk5 0 (by decide) lfX5_12 dX5_thriftNow_1 rfl rfl ?_
    refine x_callV0i C (okX3_fits PosA_now hnb) lkX5_117 miX3_fits msX3_fits maX3_fits ⟨Nat.le_of_ble_eq_true rfl, Nat.le_of_ble_eq_true rfl⟩ (Nat.le_of_ble_eq_true rfl) rfl rfl dX5_thriftNow_4 ?_
    rw [hfit]
    refine x_if_neB C 43 dX5_thriftNow_7 (by decide) (fun c7 => ?_) (fun c7 => ?_)
    · refine x_aload_n C dX5_thriftNow_43 rfl ?_
      refine x_getfield C qk5 7 (by decide) lfX5_39 dX5_thriftNow_44 rfl rfl ?_
      refine x_aload_n C dX5_thriftNow_47 rfl ?_
      refine x_getfield C qk5 0 (by decide) lfX5_12 dX5_thriftNow_48 rfl rfl ?_
      refine x_callV1v C (okX2_fillWithKeys TabA_k PosA_now hnb (by decide) (by decide)) lkX5_124 miX2_fillWithKeys msX2_fillWithKeys maX2_fillWithKeys ⟨Nat.le_of_ble_eq_true rfl, Nat.le_of_ble_eq_true rfl⟩ (Nat.le_of_ble_eq_true rfl) rfl rfl dX5_thriftNow_51 ?_
      refine x_heap (h2 := HH (a0, b, c0, d) Hs (Tm, tk, ta, mc) L S (sv, cm, r1, d1, f1) ms mr mm ml mt) (by rw [htk]; rfl) ?_
      refine x_iconst C (v := nI 0) dX5_thriftNow_54 (by decide +kernel) ?_
      refine x_istore_n C dX5_thriftNow_55 (by decide) [(1, _), (0, _)] rfl ?_
      refine x_iconst C (v := nI 0) dX5_thriftNow_56 (by decide +kernel) ?_
      refine x_istore_n C dX5_thriftNow_57 (by decide) [(2, _), (1, _), (0, _)] rfl ?_
      exact x_sub [2, 1, 0] (L1 12 0 0 a0 c0 ha0 hc0 (by omega) (by omega) (by unfold thr; rw [← hS0, ← htk])) rfl
    · cases c7
