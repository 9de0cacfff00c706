/-! a position, further: outlooks, what a move is, keys, copies -/
theorem isW_ne6 {m : Nat} (h : isW m = true) : ¬ m = 6 := by intro e; subst e; cases h
theorem mask_or0 (p : Nat → Bool) : mask p ||| nI 0 = mask p := by
  rw [← mask_none, mask_or]
  exact mask_congr (fun _ _ => by simp)
def escP (b : Nat → Nat) : Nat → Bool := match loc7 b 7 with
  | none => fun _ => false
  | some j => fun t => (reachP b j t && !stoR (up b j 0) 25 t) && !covR (up b j 0) 25 t
def chkP (b : Nat → Nat) : Bool := match loc7 b 7 with
  | none => false
  | some j => covR (up b j 0) 25 j
theorem up_lt {b : Nat → Nat} (hb : ∀ i, b i < 8) {k v : Nat} (hv : v < 8) : ∀ i, up b k v i < 8 := by
  intro i
  unfold up
  split
  · exact hv
  · exact hb i
set_option maxHeartbeats 4000000 in
set_option maxRecDepth 100000 in
theorem okX3_outlook {h : qH} {k : Nat} {b : Nat → Nat} (hp : PosA h k b) (hb : ∀ i, b i < 8) : Ok MX3_outlook [.ref k] (h) (some (.int (olk (escP b) (chkP b)))) (h) := by
  refine ok_of (by decide +kernel) (Nat.zero_le _) (Nat.le_of_ble_eq_true rfl) ?_
  intro X C E
  show Ex X MX3_outlook 0 [(0, .ref k)] [] (h)
  obtain ⟨⟨f1, f2, f3, f4, h0⟩, h1⟩ := id hp
  cases e : loc7 b 7 with
  | none =>
    refine x_aload_n C dX3_outlook_0 rfl ?_
    refine x_bipush C (v := nI 7) dX3_outlook_1 (by decide +kernel) ?_
    refine x_callV1i C (okX3_squareOf hp hb 7 (by decide)) lkX3_36 miX3_squareOf msX3_squareOf maX3_squareOf ⟨Nat.le_of_ble_eq_true rfl, Nat.le_of_ble_eq_true rfl⟩ (Nat.le_of_ble_eq_true rfl) h0 rfl dX3_outlook_3 ?_
    rw [e]
    refine x_istore_n C dX3_outlook_6 (by decide) [(1, _), (0, _)] rfl ?_
    refine x_iload_n C dX3_outlook_7 rfl ?_
    refine x_if_lt C 17 dX3_outlook_8 (by decide) (fun c8 => ?_) (fun c8 => ?_)
    · refine x_iconst C (v := nI 0) dX3_outlook_17 (by decide +kernel) ?_
      exact x_iret E .int dX3_outlook_18 rfl rfl (by unfold escP chkP; rw [e]; simp only [olk]; rw [if_neg (by decide), mask_none]) rfl
    · exact absurd (by decide : (-1 : Int32) < 0) c8
  | some j =>
    have hj := (loc7_some e).1
    have hj7 := (loc7_some e).2
    have he : escP b = fun t => (reachP b j t && !stoR (up b j 0) 25 t) && !covR (up b j 0) 25 t := by unfold escP; rw [e]
    have hc : chkP b = covR (up b j 0) 25 j := by unfold chkP; rw [e]
    have hback : up b j 7 = b := by rw [← hj7]; exact up_id b j
    have hp1 : PosA (h.set (k + 1) (qA (up b j 0))) k (up b j 0) := hp.set
    have hb1 := up_lt hb (k := j) (v := 0) (by decide)
    have L : ∀ n i : Nat, i + n = 25 → Ex X MX3_outlook 40 [(0, .ref k), (1, .int (nI j)), (2, .int (mask (reachP b j))), (3, .int (mask (stoR (up b j 0) i))), (4, .int (mask (covR (up b j 0) i))), (5, .int (nI i))] [] (h.set (k + 1) (qA (up b j 0))) := by
      intro n
      induction n with
      | zero =>
        intro i hin 
        have e : i = 25 := by omega
        subst e
        refine x_iload C dX3_outlook_40 rfl ?_
        refine x_bipush C (v := nI 25) dX3_outlook_42 (by decide +kernel) ?_
        refine x_icmp_geN C 99 dX3_outlook_44 (by decide) (by omega) (by omega) (fun c44 => ?_) (fun c44 => ?_)
        · refine x_aload_n C dX3_outlook_99 rfl ?_
          refine x_getfield C qk3 0 (by decide) lfX3_9 dX3_outlook_100 ((q_gso (by omega)).trans h0) rfl ?_
          refine x_iload_n C dX3_outlook_103 rfl ?_
          refine x_bipush C (v := nI 7) dX3_outlook_104 (by decide +kernel) ?_
          refine x_istb C dX3_outlook_106 (q_gss h1) (by omega) (by decide) ?_
          rw [List.set_set, up_up, hback, q_same h1]
          refine x_iload C dX3_outlook_107 rfl ?_
          refine x_iload_n C dX3_outlook_109 rfl ?_
          refine x_ishr C dX3_outlook_110 ?_
          refine x_iconst C (v := nI 1) dX3_outlook_111 (by decide +kernel) ?_
          refine x_iand C dX3_outlook_112 ?_
          rw [mask_bit _ hj]
          refine x_if_eqB C 121 dX3_outlook_113 (by decide) (fun c113 => ?_) (fun c113 => ?_)
          · refine x_iconst C (v := nI 0) dX3_outlook_121 (by decide +kernel) ?_
            refine x_istore C dX3_outlook_122 (by decide) [(5, _), (0, _), (1, _), (2, _), (3, _), (4, _)] rfl ?_
            refine x_iload_n C dX3_outlook_124 rfl ?_
            refine x_iload_n C dX3_outlook_125 rfl ?_
            refine x_iconst C (v := (-1)) dX3_outlook_126 (by decide +kernel) ?_
            refine x_ixor C dX3_outlook_127 ?_
            refine x_iand C dX3_outlook_128 ?_
            rw [mask_diff]
            refine x_iload C dX3_outlook_129 rfl ?_
            refine x_iconst C (v := (-1)) dX3_outlook_131 (by decide +kernel) ?_
            refine x_ixor C dX3_outlook_132 ?_
            refine x_iand C dX3_outlook_133 ?_
            rw [mask_diff]
            refine x_iload C dX3_outlook_134 rfl ?_
            refine x_ior C dX3_outlook_136 ?_
            exact x_iret E .int dX3_outlook_137 rfl rfl (by rw [he, hc, c113, mask_or0]; rfl) rfl
          · refine x_ldc C dX3_outlook_116 lcX3_69 ?_
            refine x_goto C 122 dX3_outlook_118 (by decide) ?_
            refine x_istore C dX3_outlook_122 (by decide) [(5, _), (0, _), (1, _), (2, _), (3, _), (4, _)] rfl ?_
            refine x_iload_n C dX3_outlook_124 rfl ?_
            refine x_iload_n C dX3_outlook_125 rfl ?_
            refine x_iconst C (v := (-1)) dX3_outlook_126 (by decide +kernel) ?_
            refine x_ixor C dX3_outlook_127 ?_
            refine x_iand C dX3_outlook_128 ?_
            rw [mask_diff]
            refine x_iload C dX3_outlook_129 rfl ?_
            refine x_iconst C (v := (-1)) dX3_outlook_131 (by decide +kernel) ?_
            refine x_ixor C dX3_outlook_132 ?_
            refine x_iand C dX3_outlook_133 ?_
            rw [mask_diff]
            refine x_iload C dX3_outlook_134 rfl ?_
            refine x_ior C dX3_outlook_136 ?_
            exact x_iret E .int dX3_outlook_137 rfl rfl (by rw [he, hc, c113]; rfl) rfl
        · exact absurd c44 (by omega)
      | succ n ih =>
        intro i hin 
        have hlt : i < 25 := by omega
        have hbi := hb1 i
        refine x_iload C dX3_outlook_40 rfl ?_
        refine x_bipush C (v := nI 25) dX3_outlook_42 (by decide +kernel) ?_
        refine x_icmp_geN C 99 dX3_outlook_44 (by decide) (by omega) (by omega) (fun c44 => ?_) (fun c44 => ?_)
        · exact absurd c44 (by omega)
        · refine x_aload_n C dX3_outlook_47 rfl ?_
          refine x_getfield C qk3 0 (by decide) lfX3_9 dX3_outlook_48 ((q_gso (by omega)).trans h0) rfl ?_
          refine x_iload C dX3_outlook_51 rfl ?_
          refine x_iald C dX3_outlook_53 (q_gss h1) (by omega) (by decide) ?_
          refine x_callN1i C (okX5_isWhite _ (by omega) _) lkX3_49 miX5_isWhite mtX5_isWhite maX5_isWhite ⟨Nat.le_of_ble_eq_true rfl, Nat.le_of_ble_eq_true rfl⟩ (Nat.le_of_ble_eq_true rfl) dX3_outlook_54 ?_
          refine x_if_eqB C 74 dX3_outlook_57 (by decide) (fun c57 => ?_) (fun c57 => ?_)
          · rw [show covR (up b j 0) i = covR (up b j 0) (i + 1) by simp only [covR, c57]; rfl]
            refine x_aload_n C dX3_outlook_74 rfl ?_
            refine x_getfield C qk3 0 (by decide) lfX3_9 dX3_outlook_75 ((q_gso (by omega)).trans h0) rfl ?_
            refine x_iload C dX3_outlook_78 rfl ?_
            refine x_iald C dX3_outlook_80 (q_gss h1) (by omega) (by decide) ?_
            refine x_bipush C (v := nI 6) dX3_outlook_81 (by decide +kernel) ?_
            refine x_icmp_neN C 93 dX3_outlook_83 (by decide) (by omega) (by omega) (fun c83 => ?_) (fun c83 => ?_)
            · rw [show stoR (up b j 0) i = stoR (up b j 0) (i + 1) by simp only [stoR, if_neg c83]]
              refine x_iinc C _ dX3_outlook_93 rfl (q_inc _) (by decide) [(5, _), (0, _), (1, _), (2, _), (3, _), (4, _)] rfl ?_
              refine x_goto C 40 dX3_outlook_96 (by decide) ?_
              exact x_sub [1, 2, 3, 4, 5, 0] (ih (i + 1) (by omega)) rfl
            · refine x_iload_n C dX3_outlook_86 rfl ?_
              refine x_iconst C (v := nI 1) dX3_outlook_87 (by decide +kernel) ?_
              refine x_iload C dX3_outlook_88 rfl ?_
              refine x_ishl C dX3_outlook_90 ?_
              rw [mask_one hlt]
              refine x_ior C dX3_outlook_91 ?_
              rw [mask_or, show (fun t => stoR (up b j 0) i t || one i t) = stoR (up b j 0) (i + 1) by simp only [stoR, if_pos c83]]
              refine x_istore_n C dX3_outlook_92 (by decide) [(3, _), (0, _), (1, _), (2, _), (4, _), (5, _)] rfl ?_
              refine x_iinc C _ dX3_outlook_93 rfl (q_inc _) (by decide) [(5, _), (3, _), (0, _), (1, _), (2, _), (4, _)] rfl ?_
              refine x_goto C 40 dX3_outlook_96 (by decide) ?_
              exact x_sub [2, 3, 4, 1, 5, 0] (ih (i + 1) (by omega)) rfl
          · refine x_iload C dX3_outlook_60 rfl ?_
            refine x_aload_n C dX3_outlook_62 rfl ?_
            refine x_iload C dX3_outlook_63 rfl ?_
            refine x_callV1i C (okX3_reach hp1 hb1 hlt) lkX3_52 miX3_reach msX3_reach maX3_reach ⟨Nat.le_of_ble_eq_true rfl, Nat.le_of_ble_eq_true rfl⟩ (Nat.le_of_ble_eq_true rfl) ((q_gso (by omega)).trans h0) rfl dX3_outlook_65 ?_
            refine x_ior C dX3_outlook_68 ?_
            rw [mask_or, show (fun t => covR (up b j 0) i t || reachP (up b j 0) i t) = covR (up b j 0) (i + 1) by simp only [covR, if_pos c57], show stoR (up b j 0) i = stoR (up b j 0) (i + 1) by simp only [stoR, if_neg (isW_ne6 c57)]]
            refine x_istore C dX3_outlook_69 (by decide) [(4, _), (0, _), (1, _), (2, _), (3, _), (5, _)] rfl ?_
            refine x_goto C 93 dX3_outlook_71 (by decide) ?_
            refine x_iinc C _ dX3_outlook_93 rfl (q_inc _) (by decide) [(5, _), (4, _), (0, _), (1, _), (2, _), (3, _)] rfl ?_
            refine x_goto C 40 dX3_outlook_96 (by decide) ?_
            exact x_sub [2, 3, 4, 5, 1, 0] (ih (i + 1) (by omega)) rfl
    refine x_aload_n C dX3_outlook_0 rfl ?_
    refine x_bipush C (v := nI 7) dX3_outlook_1 (by decide +kernel) ?_
    refine x_callV1i C (okX3_squareOf hp hb 7 (by decide)) lkX3_36 miX3_squareOf msX3_squareOf maX3_squareOf ⟨Nat.le_of_ble_eq_true rfl, Nat.le_of_ble_eq_true rfl⟩ (Nat.le_of_ble_eq_true rfl) h0 rfl dX3_outlook_3 ?_
    rw [e]
    show Ex X MX3_outlook 6 [(0, .ref k)] [.int (nI j)] h
    refine x_istore_n C dX3_outlook_6 (by decide) [(1, _), (0, _)] rfl ?_
    refine x_iload_n C dX3_outlook_7 rfl ?_
    refine x_if_ltN C 17 dX3_outlook_8 (by decide) (by omega) ?_
    refine x_iload_n C dX3_outlook_11 rfl ?_
    refine x_bipush C (v := nI 25) dX3_outlook_12 (by decide +kernel) ?_
    refine x_icmp_ltN C 19 dX3_outlook_14 (by decide) (by omega) (by omega) (fun c14 => ?_) (fun c14 => ?_)
    · refine x_aload_n C dX3_outlook_19 rfl ?_
      refine x_iload_n C dX3_outlook_20 rfl ?_
      refine x_callV1i C (okX3_reach hp hb hj) lkX3_52 miX3_reach msX3_reach maX3_reach ⟨Nat.le_of_ble_eq_true rfl, Nat.le_of_ble_eq_true rfl⟩ (Nat.le_of_ble_eq_true rfl) h0 rfl dX3_outlook_21 ?_
      refine x_istore_n C dX3_outlook_24 (by decide) [(2, _), (1, _), (0, _)] rfl ?_
      refine x_iconst C (v := nI 0) dX3_outlook_25 (by decide +kernel) ?_
      rw [← mask_none]
      refine x_istore_n C dX3_outlook_26 (by decide) [(3, _), (2, _), (1, _), (0, _)] rfl ?_
      refine x_iconst C (v := nI 0) dX3_outlook_27 (by decide +kernel) ?_
      rw [← mask_none]
      refine x_istore C dX3_outlook_28 (by decide) [(4, _), (3, _), (2, _), (1, _), (0, _)] rfl ?_
      refine x_aload_n C dX3_outlook_30 rfl ?_
      refine x_getfield C qk3 0 (by decide) lfX3_9 dX3_outlook_31 h0 rfl ?_
      refine x_iload_n C dX3_outlook_34 rfl ?_
      refine x_iconst C (v := nI 0) dX3_outlook_35 (by decide +kernel) ?_
      refine x_istb C dX3_outlook_36 h1 (by omega) (by decide) ?_
      refine x_iconst C (v := nI 0) dX3_outlook_37 (by decide +kernel) ?_
      refine x_istore C dX3_outlook_38 (by decide) [(5, _), (4, _), (3, _), (2, _), (1, _), (0, _)] rfl ?_
      exact x_sub [5, 4, 3, 2, 1, 0] (L 25 0 (by omega)) rfl
    · exact absurd hj c14
def aft (b : Nat → Nat) (f t : Nat) : Nat → Nat := up (up b f 0) t (b f)
theorem aft_back (b : Nat → Nat) (f t : Nat) : up (up (aft b f t) t (b t)) f (b f) = b := by
  unfold aft
  rw [up_up]
  funext i
  simp only [up]
  by_cases h1 : i = f
  · simp [h1]
  · by_cases h2 : i = t
    · subst h2; simp [h1]
    · simp [h1, h2]
set_option maxHeartbeats 4000000 in
set_option maxRecDepth 100000 in
theorem okX3_outlookBehind {h : qH} {k : Nat} {b : Nat → Nat} (hp : PosA h k b) (hb : ∀ i, b i < 8) {i j : Nat} (hi : i < 25) (hj : j < 25) : Ok MX3_outlookBehind [.ref k, .int (nI i), .int (nI j)] (h) (some (.int (olk (escP (aft b i j)) (chkP (aft b i j))))) (h) := by
  refine ok_of (by decide +kernel) (Nat.zero_le _) (Nat.le_of_ble_eq_true rfl) ?_
  intro X C E
  show Ex X MX3_outlookBehind 0 [(0, .ref k), (1, .int (nI i)), (2, .int (nI j))] [] (h)
  obtain ⟨⟨f1, f2, f3, f4, h0⟩, h1⟩ := id hp
  have hbi := hb i
  have hbj := hb j
  have hb1 := up_lt hb (k := i) (v := 0) (by decide)
  have hb2 : ∀ t, aft b i j t < 8 := up_lt hb1 hbi
  refine x_iload_n C dX3_outlookBehind_0 rfl ?_
  refine x_if_ltN C 20 dX3_outlookBehind_1 (by decide) (by omega) ?_
  refine x_iload_n C dX3_outlookBehind_4 rfl ?_
  refine x_bipush C (v := nI 25) dX3_outlookBehind_5 (by decide +kernel) ?_
  refine x_icmp_geN C 20 dX3_outlookBehind_7 (by decide) (by omega) (by omega) (fun c7 => ?_) (fun c7 => ?_)
  · exact absurd c7 (by omega)
  · refine x_iload_n C dX3_outlookBehind_10 rfl ?_
    refine x_if_ltN C 20 dX3_outlookBehind_11 (by decide) (by omega) ?_
    refine x_iload_n C dX3_outlookBehind_14 rfl ?_
    refine x_bipush C (v := nI 25) dX3_outlookBehind_15 (by decide +kernel) ?_
    refine x_icmp_ltN C 22 dX3_outlookBehind_17 (by decide) (by omega) (by omega) (fun c17 => ?_) (fun c17 => ?_)
    · refine x_aload_n C dX3_outlookBehind_22 rfl ?_
      refine x_getfield C qk3 0 (by decide) lfX3_9 dX3_outlookBehind_23 h0 rfl ?_
      refine x_iload_n C dX3_outlookBehind_26 rfl ?_
      refine x_iald C dX3_outlookBehind_27 h1 (by omega) (by decide) ?_
      refine x_istore_n C dX3_outlookBehind_28 (by decide) [(3, _), (0, _), (1, _), (2, _)] rfl ?_
      refine x_aload_n C dX3_outlookBehind_29 rfl ?_
      refine x_getfield C qk3 0 (by decide) lfX3_9 dX3_outlookBehind_30 h0 rfl ?_
      refine x_iload_n C dX3_outlookBehind_33 rfl ?_
      refine x_iald C dX3_outlookBehind_34 h1 (by omega) (by decide) ?_
      refine x_istore C dX3_outlookBehind_35 (by decide) [(4, _), (3, _), (0, _), (1, _), (2, _)] rfl ?_
      refine x_aload_n C dX3_outlookBehind_37 rfl ?_
      refine x_getfield C qk3 0 (by decide) lfX3_9 dX3_outlookBehind_38 h0 rfl ?_
      refine x_iload_n C dX3_outlookBehind_41 rfl ?_
      refine x_iconst C (v := nI 0) dX3_outlookBehind_42 (by decide +kernel) ?_
      refine x_istb C dX3_outlookBehind_43 h1 (by omega) (by decide) ?_
      refine x_aload_n C dX3_outlookBehind_44 rfl ?_
      refine x_getfield C qk3 0 (by decide) lfX3_9 dX3_outlookBehind_45 ((q_gso (by omega)).trans h0) rfl ?_
      refine x_iload_n C dX3_outlookBehind_48 rfl ?_
      refine x_iload_n C dX3_outlookBehind_49 rfl ?_
      refine x_istb C dX3_outlookBehind_50 (q_gss h1) (by omega) (by decide) ?_
      refine x_aload_n C dX3_outlookBehind_51 rfl ?_
      refine x_callV0i C (okX3_outlook (b := aft b i j) (PosA.set (PosA.set hp)) hb2) lkX3_70 miX3_outlook msX3_outlook maX3_outlook ⟨Nat.le_of_ble_eq_true rfl, Nat.le_of_ble_eq_true rfl⟩ (Nat.le_of_ble_eq_true rfl) ((q_gso (by omega)).trans ((q_gso (by omega)).trans h0)) rfl dX3_outlookBehind_52 ?_
      refine x_istore C dX3_outlookBehind_55 (by decide) [(5, _), (4, _), (3, _), (0, _), (1, _), (2, _)] rfl ?_
      refine x_aload_n C dX3_outlookBehind_57 rfl ?_
      refine x_getfield C qk3 0 (by decide) lfX3_9 dX3_outlookBehind_58 ((q_gso (by omega)).trans ((q_gso (by omega)).trans h0)) rfl ?_
      refine x_iload_n C dX3_outlookBehind_61 rfl ?_
      refine x_iload C dX3_outlookBehind_62 rfl ?_
      refine x_istb C dX3_outlookBehind_64 (q_gss (q_gss h1)) (by omega) (by decide) ?_
      refine x_aload_n C dX3_outlookBehind_65 rfl ?_
      refine x_getfield C qk3 0 (by decide) lfX3_9 dX3_outlookBehind_66 ((q_gso (by omega)).trans ((q_gso (by omega)).trans ((q_gso (by omega)).trans h0))) rfl ?_
      refine x_iload_n C dX3_outlookBehind_69 rfl ?_
      refine x_iload_n C dX3_outlookBehind_70 rfl ?_
      refine x_istb C dX3_outlookBehind_71 (q_gss (q_gss (q_gss h1))) (by omega) (by decide) ?_
      rw [List.set_set, List.set_set, List.set_set]
      rw [show up (up (up (up b i 0) j (b i)) j (b j)) i (b i) = b from aft_back b i j, q_same h1]
      refine x_iload C dX3_outlookBehind_72 rfl ?_
      exact x_iret E .int dX3_outlookBehind_74 rfl rfl rfl rfl
    · exact absurd c17 (by omega)
def nob (p : Nat → Bool) : Bool := decide (∀ t : Fin 25, p t = false)
theorem nob_iff {p : Nat → Bool} : nob p = true ↔ ∀ t, t < 25 → p t = false := by
  unfold nob
  rw [decide_eq_true_iff]
  exact ⟨fun h t ht => h ⟨t, ht⟩, fun h t => h t t.2⟩
theorem mask_z {p : Nat → Bool} : mask p = 0 ↔ nob p = true := by
  rw [nob_iff]
  exact mask_0
def kindB (b : Nat → Nat) : Nat := if chkP b = true then (if nob (escP b) = true then 3 else 2) else (if nob (escP b) = true then 1 else 0)
theorem kindB_le (b : Nat → Nat) : kindB b ≤ 3 := by unfold kindB; (repeat' split) <;> omega
theorem chk_0 {c : Bool} : (if c = true then nI 33554432 else nI 0) = 0 ↔ c = false := by cases c <;> decide +kernel
set_option maxHeartbeats 4000000 in
set_option maxRecDepth 100000 in
theorem okX3_kindOfMove {h : qH} {k : Nat} {b : Nat → Nat} (hp : PosA h k b) (hb : ∀ i, b i < 8) {i j : Nat} (hi : i < 25) (hj : j < 25) : Ok MX3_kindOfMove [.ref k, .int (nI i), .int (nI j)] (h) (some (.int (nI (kindB (aft b i j))))) (h) := by
  refine ok_of (by decide +kernel) (Nat.zero_le _) (Nat.le_of_ble_eq_true rfl) ?_
  intro X C E
  show Ex X MX3_kindOfMove 0 [(0, .ref k), (1, .int (nI i)), (2, .int (nI j))] [] (h)
  obtain ⟨⟨f1, f2, f3, f4, h0⟩, h1⟩ := id hp
  refine x_aload_n C dX3_kindOfMove_0 rfl ?_
  refine x_iload_n C dX3_kindOfMove_1 rfl ?_
  refine x_iload_n C dX3_kindOfMove_2 rfl ?_
  refine x_callV2i C (okX3_outlookBehind hp hb hi hj) lkX3_74 miX3_outlookBehind msX3_outlookBehind maX3_outlookBehind ⟨Nat.le_of_ble_eq_true rfl, Nat.le_of_ble_eq_true rfl⟩ (Nat.le_of_ble_eq_true rfl) h0 rfl dX3_kindOfMove_3 ?_
  refine x_istore_n C dX3_kindOfMove_6 (by decide) [(3, _), (0, _), (1, _), (2, _)] rfl ?_
  refine x_iload_n C dX3_kindOfMove_7 rfl ?_
  refine x_ldc C dX3_kindOfMove_8 lcX3_69 ?_
  refine x_iand C dX3_kindOfMove_10 ?_
  rw [show (33554432 : Int32) = nI 33554432 from rfl, olk_chk]
  refine x_if_eq C 18 dX3_kindOfMove_11 (by decide) (fun c11 => ?_) (fun c11 => ?_)
  · have g11 := chk_0.mp c11
    refine x_iconst C (v := nI 0) dX3_kindOfMove_18 (by decide +kernel) ?_
    refine x_istore C dX3_kindOfMove_19 (by decide) [(4, _), (3, _), (0, _), (1, _), (2, _)] rfl ?_
    refine x_iload_n C dX3_kindOfMove_21 rfl ?_
    refine x_callN1i C (okX5_squaresIn _ _ _) lkX3_77 miX5_squaresIn mtX5_squaresIn maX5_squaresIn ⟨Nat.le_of_ble_eq_true rfl, Nat.le_of_ble_eq_true rfl⟩ (Nat.le_of_ble_eq_true rfl) dX3_kindOfMove_22 ?_
    refine x_if_eq C 32 dX3_kindOfMove_25 (by decide) (fun c25 => ?_) (fun c25 => ?_)
    · have g25 := mask_z.mp c25
      refine x_iconst C (v := nI 0) dX3_kindOfMove_32 (by decide +kernel) ?_
      refine x_istore C dX3_kindOfMove_33 (by decide) [(5, _), (4, _), (3, _), (0, _), (1, _), (2, _)] rfl ?_
      refine x_iload C dX3_kindOfMove_35 rfl ?_
      refine x_if_eqN C 51 dX3_kindOfMove_37 (by decide) (by omega) (fun c37 => ?_) (fun c37 => ?_)
      · refine x_iload C dX3_kindOfMove_51 rfl ?_
        refine x_if_eqN C 60 dX3_kindOfMove_53 (by decide) (by omega) (fun c53 => ?_) (fun c53 => ?_)
        · refine x_iconst C (v := nI 1) dX3_kindOfMove_60 (by decide +kernel) ?_
          exact x_iret E .int dX3_kindOfMove_61 rfl rfl (by unfold kindB; rw [if_neg (by rw [g11]; decide), if_pos (by rw [g25])]) rfl
        · exact absurd rfl c53
      · exact absurd rfl c37
    · have g25 : nob (escP (aft b i j)) = false := by cases hq : nob (escP (aft b i j)); rfl; exact absurd (mask_z.mpr hq) c25
      refine x_iconst C (v := nI 1) dX3_kindOfMove_28 (by decide +kernel) ?_
      refine x_goto C 33 dX3_kindOfMove_29 (by decide) ?_
      refine x_istore C dX3_kindOfMove_33 (by decide) [(5, _), (4, _), (3, _), (0, _), (1, _), (2, _)] rfl ?_
      refine x_iload C dX3_kindOfMove_35 rfl ?_
      refine x_if_eqN C 51 dX3_kindOfMove_37 (by decide) (by omega) (fun c37 => ?_) (fun c37 => ?_)
      · refine x_iload C dX3_kindOfMove_51 rfl ?_
        refine x_if_eqN C 60 dX3_kindOfMove_53 (by decide) (by omega) (fun c53 => ?_) (fun c53 => ?_)
        · exact absurd c53 (by decide)
        · refine x_iconst C (v := nI 0) dX3_kindOfMove_56 (by decide +kernel) ?_
          refine x_goto C 61 dX3_kindOfMove_57 (by decide) ?_
          exact x_iret E .int dX3_kindOfMove_61 rfl rfl (by unfold kindB; rw [if_neg (by rw [g11]; decide), if_neg (by rw [g25]; decide)]) rfl
      · exact absurd rfl c37
  · have g11 : chkP (aft b i j) = true := by cases hq : chkP (aft b i j); exact absurd (chk_0.mpr hq) c11; rfl
    refine x_iconst C (v := nI 1) dX3_kindOfMove_14 (by decide +kernel) ?_
    refine x_goto C 19 dX3_kindOfMove_15 (by decide) ?_
    refine x_istore C dX3_kindOfMove_19 (by decide) [(4, _), (3, _), (0, _), (1, _), (2, _)] rfl ?_
    refine x_iload_n C dX3_kindOfMove_21 rfl ?_
    refine x_callN1i C (okX5_squaresIn _ _ _) lkX3_77 miX5_squaresIn mtX5_squaresIn maX5_squaresIn ⟨Nat.le_of_ble_eq_true rfl, Nat.le_of_ble_eq_true rfl⟩ (Nat.le_of_ble_eq_true rfl) dX3_kindOfMove_22 ?_
    refine x_if_eq C 32 dX3_kindOfMove_25 (by decide) (fun c25 => ?_) (fun c25 => ?_)
    · have g25 := mask_z.mp c25
      refine x_iconst C (v := nI 0) dX3_kindOfMove_32 (by decide +kernel) ?_
      refine x_istore C dX3_kindOfMove_33 (by decide) [(5, _), (4, _), (3, _), (0, _), (1, _), (2, _)] rfl ?_
      refine x_iload C dX3_kindOfMove_35 rfl ?_
      refine x_if_eqN C 51 dX3_kindOfMove_37 (by decide) (by omega) (fun c37 => ?_) (fun c37 => ?_)
      · exact absurd c37 (by decide)
      · refine x_iload C dX3_kindOfMove_40 rfl ?_
        refine x_if_eqN C 49 dX3_kindOfMove_42 (by decide) (by omega) (fun c42 => ?_) (fun c42 => ?_)
        · refine x_iconst C (v := nI 3) dX3_kindOfMove_49 (by decide +kernel) ?_
          exact x_iret E .int dX3_kindOfMove_50 rfl rfl (by unfold kindB; rw [if_pos (by rw [g11]), if_pos (by rw [g25])]) rfl
        · exact absurd rfl c42
    · have g25 : nob (escP (aft b i j)) = false := by cases hq : nob (escP (aft b i j)); rfl; exact absurd (mask_z.mpr hq) c25
      refine x_iconst C (v := nI 1) dX3_kindOfMove_28 (by decide +kernel) ?_
      refine x_goto C 33 dX3_kindOfMove_29 (by decide) ?_
      refine x_istore C dX3_kindOfMove_33 (by decide) [(5, _), (4, _), (3, _), (0, _), (1, _), (2, _)] rfl ?_
      refine x_iload C dX3_kindOfMove_35 rfl ?_
      refine x_if_eqN C 51 dX3_kindOfMove_37 (by decide) (by omega) (fun c37 => ?_) (fun c37 => ?_)
      · exact absurd c37 (by decide)
      · refine x_iload C dX3_kindOfMove_40 rfl ?_
        refine x_if_eqN C 49 dX3_kindOfMove_42 (by decide) (by omega) (fun c42 => ?_) (fun c42 => ?_)
        · exact absurd c42 (by decide)
        · refine x_iconst C (v := nI 2) dX3_kindOfMove_45 (by decide +kernel) ?_
          refine x_goto C 50 dX3_kindOfMove_46 (by decide) ?_
          exact x_iret E .int dX3_kindOfMove_50 rfl rfl (by unfold kindB; rw [if_pos (by rw [g11]), if_neg (by rw [g25]; decide)]) rfl
def isKey (b : Nat → Nat) (i t : Nat) : Bool := chkP (aft b i t) && nob (escP (aft b i t))
theorem olk_key (b : Nat → Nat) : olk (escP b) (chkP b) = 33554432 ↔ (chkP b && nob (escP b)) = true := by
  rw [Bool.and_eq_true, nob_iff]
  exact olk_eq _ _
def keyR (b : Nat → Nat) (i : Nat) : Nat → (Nat → Bool)
  | 0 => fun _ => false
  | n + 1 => if movP b i n = true ∧ isKey b i n = true then fun t => keyR b i n t || one n t else keyR b i n
def keyP (b : Nat → Nat) (i : Nat) : Nat → Bool := keyR b i 25
set_option maxHeartbeats 4000000 in
set_option maxRecDepth 100000 in
theorem okX3_keysFrom {h : qH} {k : Nat} {b : Nat → Nat} (hp : PosA h k b) (hb : ∀ i, b i < 8) {i : Nat} (hi : i < 25) : Ok MX3_keysFrom [.ref k, .int (nI i)] (h) (some (.int (mask (keyP b i)))) (h) := by
  refine ok_of (by decide +kernel) (Nat.zero_le _) (Nat.le_of_ble_eq_true rfl) ?_
  intro X C E
  show Ex X MX3_keysFrom 0 [(0, .ref k), (1, .int (nI i))] [] (h)
  obtain ⟨⟨f1, f2, f3, f4, h0⟩, h1⟩ := id hp
  have L : ∀ n j : Nat, j + n = 25 → Ex X MX3_keysFrom 11 [(0, .ref k), (1, .int (nI i)), (2, .int (mask (movP b i))), (3, .int (mask (keyR b i j))), (4, .int (nI j))] [] (h) := by
    intro n
    induction n with
    | zero =>
      intro j hin 
      have e : j = 25 := by omega
      subst e
      refine x_iload C dX3_keysFrom_11 rfl ?_
      refine x_bipush C (v := nI 25) dX3_keysFrom_13 (by decide +kernel) ?_
      refine x_icmp_geN C 52 dX3_keysFrom_15 (by decide) (by omega) (by omega) (fun c15 => ?_) (fun c15 => ?_)
      · refine x_iload_n C dX3_keysFrom_52 rfl ?_
        exact x_iret E .int dX3_keysFrom_53 rfl rfl rfl rfl
      · exact absurd c15 (by omega)
    | succ n ih =>
      intro j hin 
      have hlt : j < 25 := by omega
      refine x_iload C dX3_keysFrom_11 rfl ?_
      refine x_bipush C (v := nI 25) dX3_keysFrom_13 (by decide +kernel) ?_
      refine x_icmp_geN C 52 dX3_keysFrom_15 (by decide) (by omega) (by omega) (fun c15 => ?_) (fun c15 => ?_)
      · exact absurd c15 (by omega)
      · refine x_iload_n C dX3_keysFrom_18 rfl ?_
        refine x_iload C dX3_keysFrom_19 rfl ?_
        refine x_ishr C dX3_keysFrom_21 ?_
        refine x_iconst C (v := nI 1) dX3_keysFrom_22 (by decide +kernel) ?_
        refine x_iand C dX3_keysFrom_23 ?_
        rw [mask_bit _ hlt]
        refine x_if_eqB C 46 dX3_keysFrom_24 (by decide) (fun c24 => ?_) (fun c24 => ?_)
        · rw [show keyR b i j = keyR b i (j + 1) by simp only [keyR]; rw [if_neg (fun q => by rw [c24] at q; cases q.1)]]
          refine x_iinc C _ dX3_keysFrom_46 rfl (q_inc _) (by decide) [(4, _), (0, _), (1, _), (2, _), (3, _)] rfl ?_
          refine x_goto C 11 dX3_keysFrom_49 (by decide) ?_
          exact x_sub [1, 2, 3, 4, 0] (ih (j + 1) (by omega)) rfl
        · refine x_aload_n C dX3_keysFrom_27 rfl ?_
          refine x_iload_n C dX3_keysFrom_28 rfl ?_
          refine x_iload C dX3_keysFrom_29 rfl ?_
          refine x_callV2i C (okX3_outlookBehind hp hb hi hlt) lkX3_74 miX3_outlookBehind msX3_outlookBehind maX3_outlookBehind ⟨Nat.le_of_ble_eq_true rfl, Nat.le_of_ble_eq_true rfl⟩ (Nat.le_of_ble_eq_true rfl) h0 rfl dX3_keysFrom_31 ?_
          refine x_ldc C dX3_keysFrom_34 lcX3_69 ?_
          refine x_icmp_ne C 46 dX3_keysFrom_36 (by decide) (fun c36 => ?_) (fun c36 => ?_)
          · rw [show keyR b i j = keyR b i (j + 1) by simp only [keyR]; rw [if_neg (fun q => c36 ((olk_key _).mpr q.2))]]
            refine x_iinc C _ dX3_keysFrom_46 rfl (q_inc _) (by decide) [(4, _), (0, _), (1, _), (2, _), (3, _)] rfl ?_
            refine x_goto C 11 dX3_keysFrom_49 (by decide) ?_
            exact x_sub [1, 2, 3, 4, 0] (ih (j + 1) (by omega)) rfl
          · refine x_iload_n C dX3_keysFrom_39 rfl ?_
            refine x_iconst C (v := nI 1) dX3_keysFrom_40 (by decide +kernel) ?_
            refine x_iload C dX3_keysFrom_41 rfl ?_
            refine x_ishl C dX3_keysFrom_43 ?_
            rw [mask_one hlt]
            refine x_ior C dX3_keysFrom_44 ?_
            rw [mask_or, show (fun t => keyR b i j t || one j t) = keyR b i (j + 1) by simp only [keyR]; rw [if_pos ⟨c24, (olk_key _).mp c36⟩]]
            refine x_istore_n C dX3_keysFrom_45 (by decide) [(3, _), (0, _), (1, _), (2, _), (4, _)] rfl ?_
            refine x_iinc C _ dX3_keysFrom_46 rfl (q_inc _) (by decide) [(4, _), (3, _), (0, _), (1, _), (2, _)] rfl ?_
            refine x_goto C 11 dX3_keysFrom_49 (by decide) ?_
            exact x_sub [2, 3, 4, 1, 0] (ih (j + 1) (by omega)) rfl
  refine x_aload_n C dX3_keysFrom_0 rfl ?_
  refine x_iload_n C dX3_keysFrom_1 rfl ?_
  refine x_callV1i C (okX3_movesFrom hp hb hi) lkX3_66 miX3_movesFrom msX3_movesFrom maX3_movesFrom ⟨Nat.le_of_ble_eq_true rfl, Nat.le_of_ble_eq_true rfl⟩ (Nat.le_of_ble_eq_true rfl) h0 rfl dX3_keysFrom_2 ?_
  refine x_istore_n C dX3_keysFrom_5 (by decide) [(2, _), (0, _), (1, _)] rfl ?_
  refine x_iconst C (v := nI 0) dX3_keysFrom_6 (by decide +kernel) ?_
  rw [← mask_none]
  refine x_istore_n C dX3_keysFrom_7 (by decide) [(3, _), (2, _), (0, _), (1, _)] rfl ?_
  refine x_iconst C (v := nI 0) dX3_keysFrom_8 (by decide +kernel) ?_
  refine x_istore C dX3_keysFrom_9 (by decide) [(4, _), (3, _), (2, _), (0, _), (1, _)] rfl ?_
  exact x_sub [3, 4, 2, 1, 0] (L 25 0 (by omega)) rfl
abbrev qP : Type := (Nat → Nat) × Nat × Nat × Nat × Nat
abbrev qO (k : Nat) (P : qP) : qE := .inr (3, [.ref (k + 1), .int (nI P.2.1), .int (nI P.2.2.1), .int (nI P.2.2.2.1), .int (nI P.2.2.2.2)])
/-- at k stands the position P -/
def PosF (h : qH) (k : Nat) (P : qP) : Prop := h[k]? = some (qO k P) ∧ h[k + 1]? = some (qA P.1)
theorem PosF.a {h : qH} {k : Nat} {P : qP} (p : PosF h k P) : PosA h k P.1 := ⟨⟨_, _, _, _, p.1⟩, p.2⟩
/-- off the board there is nothing -/
def Bd (b : Nat → Nat) : Prop := (∀ i, b i < 8) ∧ ∀ i, 25 ≤ i → b i = 0
theorem Bd.up {b : Nat → Nat} (h : Bd b) {k v : Nat} (hk : k < 25) (hv : v < 8) : Bd (up b k v) := ⟨up_lt h.1 hv, fun i hi => by rw [up_ne _ (by omega)]; exact h.2 i hi⟩
def setP (h : qH) (k : Nat) (P : qP) : qH := (h.set (k + 1) (qA P.1)).set k (qO k P)
def cpy (g b : Nat → Nat) (n : Nat) : Nat → Nat := fun i => if i < n then g i else b i
theorem cpy_0 (g b : Nat → Nat) : cpy g b 0 = b := by funext i; simp [cpy]
theorem cpy_s (g b : Nat → Nat) (n : Nat) : up (cpy g b n) n (g n) = cpy g b (n + 1) := by
  funext i
  by_cases h : i = n
  · subst h; simp [up, cpy]
  · by_cases h2 : i < n
    · have : i < n + 1 := by omega
      simp [up, cpy, h, h2, this]
    · have : ¬ i < n + 1 := by omega
      simp [up, cpy, h, h2, this]
theorem cpy_25 {g b : Nat → Nat} (hg : Bd g) (hb : Bd b) : cpy g b 25 = g := by
  funext i
  by_cases h : i < 25
  · simp [cpy, h]
  · simp [cpy, h, hg.2 i (by omega), hb.2 i (by omega)]
set_option maxHeartbeats 4000000 in
set_option maxRecDepth 100000 in
theorem okX3_copyFrom {h : qH} {k m : Nat} {P P2 : qP} (hp : PosF h k P) (hq : PosF h m P2) (hb1 : Bd P.1) (hb2 : Bd P2.1) (hkm : k ≠ m) (hk1 : k + 1 ≠ m) (hk2 : k ≠ m + 1) : Ok MX3_copyFrom [.ref k, .ref m] (h) (none) (setP h k P2) := by
  refine ok_of (by decide +kernel) (Nat.zero_le _) (Nat.le_of_ble_eq_true rfl) ?_
  intro X C E
  show Ex X MX3_copyFrom 0 [(0, .ref k), (1, .ref m)] [] (h)
  obtain ⟨h0, h1⟩ := hp
  obtain ⟨m0, m1⟩ := hq
  have L : ∀ n i : Nat, i + n = 25 → Ex X MX3_copyFrom 2 [(0, .ref k), (1, .ref m), (2, .int (nI i))] [] (h.set (k + 1) (qA (cpy P2.1 P.1 i))) := by
    intro n
    induction n with
    | zero =>
      intro i hin 
      have e : i = 25 := by omega
      subst e
      refine x_iload_n C dX3_copyFrom_2 rfl ?_
      refine x_bipush C (v := nI 25) dX3_copyFrom_3 (by decide +kernel) ?_
      refine x_icmp_geN C 26 dX3_copyFrom_5 (by decide) (by omega) (by omega) (fun c5 => ?_) (fun c5 => ?_)
      · refine x_aload_n C dX3_copyFrom_26 rfl ?_
        refine x_aload_n C dX3_copyFrom_27 rfl ?_
        refine x_getfield C qk3 1 (by decide) lfX3_15 dX3_copyFrom_28 ((q_gso (by omega)).trans m0) rfl ?_
        refine x_putfield C qk3 1 (by decide) lfX3_15 rfl (ty0 := .int) (by decide +kernel) rfl rfl dX3_copyFrom_31 ((q_gso (by omega)).trans h0) (Nat.le_of_ble_eq_true rfl) ?_
        refine x_aload_n C dX3_copyFrom_34 rfl ?_
        refine x_aload_n C dX3_copyFrom_35 rfl ?_
        refine x_getfield C qk3 2 (by decide) lfX3_19 dX3_copyFrom_36 ((q_gso hkm).trans ((q_gso (by omega)).trans m0)) rfl ?_
        refine x_putfield C qk3 2 (by decide) lfX3_19 rfl (ty0 := .int) (by decide +kernel) rfl rfl dX3_copyFrom_39 (q_gss ((q_gso (by omega)).trans h0)) (Nat.le_of_ble_eq_true rfl) ?_
        refine x_aload_n C dX3_copyFrom_42 rfl ?_
        refine x_aload_n C dX3_copyFrom_43 rfl ?_
        refine x_getfield C qk3 3 (by decide) lfX3_22 dX3_copyFrom_44 ((q_gso hkm).trans ((q_gso hkm).trans ((q_gso (by omega)).trans m0))) rfl ?_
        refine x_putfield C qk3 3 (by decide) lfX3_22 rfl (ty0 := .int) (by decide +kernel) rfl rfl dX3_copyFrom_47 (q_gss (q_gss ((q_gso (by omega)).trans h0))) (Nat.le_of_ble_eq_true rfl) ?_
        refine x_aload_n C dX3_copyFrom_50 rfl ?_
        refine x_aload_n C dX3_copyFrom_51 rfl ?_
        refine x_getfield C qk3 4 (by decide) lfX3_25 dX3_copyFrom_52 ((q_gso hkm).trans ((q_gso hkm).trans ((q_gso hkm).trans ((q_gso (by omega)).trans m0)))) rfl ?_
        refine x_putfield C qk3 4 (by decide) lfX3_25 rfl (ty0 := .int) (by decide +kernel) rfl rfl dX3_copyFrom_55 (q_gss (q_gss (q_gss ((q_gso (by omega)).trans h0)))) (Nat.le_of_ble_eq_true rfl) ?_
        exact x_vret E dX3_copyFrom_58 rfl rfl (by rw [List.set_set, List.set_set, List.set_set, cpy_25 hb2 hb1]; rfl)
      · exact absurd c5 (by omega)
    | succ n ih =>
      intro i hin 
      have hlt : i < 25 := by omega
      refine x_iload_n C dX3_copyFrom_2 rfl ?_
      refine x_bipush C (v := nI 25) dX3_copyFrom_3 (by decide +kernel) ?_
      refine x_icmp_geN C 26 dX3_copyFrom_5 (by decide) (by omega) (by omega) (fun c5 => ?_) (fun c5 => ?_)
      · exact absurd c5 (by omega)
      · refine x_aload_n C dX3_copyFrom_8 rfl ?_
        refine x_getfield C qk3 0 (by decide) lfX3_9 dX3_copyFrom_9 ((q_gso (by omega)).trans h0) rfl ?_
        refine x_iload_n C dX3_copyFrom_12 rfl ?_
        refine x_aload_n C dX3_copyFrom_13 rfl ?_
        refine x_getfield C qk3 0 (by decide) lfX3_9 dX3_copyFrom_14 ((q_gso (by omega)).trans m0) rfl ?_
        refine x_iload_n C dX3_copyFrom_17 rfl ?_
        refine x_iald C dX3_copyFrom_18 ((q_gso (by omega)).trans m1) (by omega) (by decide) ?_
        refine x_istb C dX3_copyFrom_19 (q_gss h1) (by omega) (by decide) ?_
        rw [List.set_set, cpy_s]
        refine x_iinc C _ dX3_copyFrom_20 rfl (q_inc _) (by decide) [(2, _), (0, _), (1, _)] rfl ?_
        refine x_goto C 2 dX3_copyFrom_23 (by decide) ?_
        exact x_sub [1, 2, 0] (ih (i + 1) (by omega)) rfl
  refine x_iconst C (v := nI 0) dX3_copyFrom_0 (by decide +kernel) ?_
  refine x_istore_n C dX3_copyFrom_1 (by decide) [(2, _), (0, _), (1, _)] rfl ?_
  have L0 := L 25 0 (by omega)
  rw [cpy_0, q_same h1] at L0
  exact x_sub [1, 2, 0] L0 rfl
