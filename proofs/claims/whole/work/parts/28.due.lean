/-! the text, further: what is due, the fault -/
def dFd (c : Nat) : Option Nat := if isL (nI c - nI 97) = true then some 1 else if c = 45 then some 3 else if c = 116 ∨ c = 109 ∨ c = 115 then some 5 else if 0 < idx c 8 0 then some 3 else none
def dFw (c : Nat) : Int32 := if isL (nI c - nI 97) = true then nI 9 else if c = 45 then nI 8 else if c = 116 then nI 10 else if c = 109 then nI 11 else if c = 115 then nI 12 else idx c 8 0
theorem i2c_of {c : Nat} (hc : c < 128) : ((nI c).toUInt32 % 65536).toInt32 = nI c := (by decide +kernel : ∀ c : Fin 128, ((nI c).toUInt32 % 65536).toInt32 = nI c) ⟨c, hc⟩
set_option maxHeartbeats 4000000 in
set_option maxRecDepth 100000 in
theorem okX4_dueBehindFirst {h : qH} {tx : Nat → Nat} {n : Nat} {wh og sq : Nat → Int32} {cm : Nat} {w co o s : Int32} (hs : ScA h tx n wh og sq cm w co o s) {c : Nat} (hc : c < 128) : Ok MX4_dueBehindFirst [.ref 35, .int (nI c)] (h) (some (.int (sqI (dFd c)))) (h.set 35 (qS n cm (dFw c) (nI c - nI 97) (-1) (-1))) := by
  refine ok_of (by decide +kernel) (Nat.zero_le _) (Nat.le_of_ble_eq_true rfl) ?_
  intro X C E
  show Ex X MX4_dueBehindFirst 0 [(0, .ref 35), (1, .int (nI c))] [] (h)
  have hq : 0 < 2 := by decide
  obtain ⟨h0, h1, h2, h3, h4⟩ := id hs
  refine x_aload_n C dX4_dueBehindFirst_0 rfl ?_
  refine x_iconst C (v := (-1)) dX4_dueBehindFirst_1 (by decide +kernel) ?_
  refine x_putfield C qk4 8 (by decide) lfX4_41 rfl (ty0 := .int) (by decide +kernel) rfl rfl dX4_dueBehindFirst_2 h0 (Nat.le_of_ble_eq_true rfl) ?_
  refine x_aload_n C dX4_dueBehindFirst_5 rfl ?_
  refine x_iconst C (v := (-1)) dX4_dueBehindFirst_6 (by decide +kernel) ?_
  refine x_putfield C qk4 9 (by decide) lfX4_44 rfl (ty0 := .int) (by decide +kernel) rfl rfl dX4_dueBehindFirst_7 (q_gss h0) (Nat.le_of_ble_eq_true rfl) ?_
  refine x_aload_n C dX4_dueBehindFirst_10 rfl ?_
  refine x_iload_n C dX4_dueBehindFirst_11 rfl ?_
  refine x_bipush C (v := nI 97) dX4_dueBehindFirst_12 (by decide +kernel) ?_
  refine x_isub C dX4_dueBehindFirst_14 ?_
  refine x_putfield C qk4 7 (by decide) lfX4_54 rfl (ty0 := .int) (by decide +kernel) rfl rfl dX4_dueBehindFirst_15 (q_gss (q_gss h0)) (Nat.le_of_ble_eq_true rfl) ?_
  refine x_aload_n C dX4_dueBehindFirst_18 rfl ?_
  refine x_getfield C qk4 7 (by decide) lfX4_54 dX4_dueBehindFirst_19 (q_gss (q_gss (q_gss h0))) rfl ?_
  refine x_callS1i C (okX4_isLine _ _) lkX4_57 miX4_isLine mtX4_isLine maX4_isLine ⟨Nat.le_of_ble_eq_true rfl, Nat.le_of_ble_eq_true rfl⟩ (Nat.le_of_ble_eq_true rfl) dX4_dueBehindFirst_22 ?_
  refine x_if_eqB C 36 dX4_dueBehindFirst_25 (by decide) (fun c25 => ?_) (fun c25 => ?_)
  · refine x_iload_n C dX4_dueBehindFirst_36 rfl ?_
    refine x_bipush C (v := nI 45) dX4_dueBehindFirst_37 (by decide +kernel) ?_
    refine x_icmp_neN C 50 dX4_dueBehindFirst_39 (by decide) (by omega) (by omega) (fun c39 => ?_) (fun c39 => ?_)
    · refine x_iload_n C dX4_dueBehindFirst_50 rfl ?_
      refine x_bipush C (v := nI 116) dX4_dueBehindFirst_51 (by decide +kernel) ?_
      refine x_icmp_eqN C 68 dX4_dueBehindFirst_53 (by decide) (by omega) (by omega) (fun c53 => ?_) (fun c53 => ?_)
      · refine x_aload_n C dX4_dueBehindFirst_68 rfl ?_
        refine x_iload_n C dX4_dueBehindFirst_69 rfl ?_
        refine x_bipush C (v := nI 116) dX4_dueBehindFirst_70 (by decide +kernel) ?_
        refine x_icmp_neN C 80 dX4_dueBehindFirst_72 (by decide) (by omega) (by omega) (fun c72 => ?_) (fun c72 => ?_)
        · omega
        · refine x_bipush C (v := nI 10) dX4_dueBehindFirst_75 (by decide +kernel) ?_
          refine x_goto C 93 dX4_dueBehindFirst_77 (by decide) ?_
          refine x_putfield C qk4 6 (by decide) lfX4_38 rfl (ty0 := .int) (by decide +kernel) rfl rfl dX4_dueBehindFirst_93 (q_gss (q_gss (q_gss h0))) (Nat.le_of_ble_eq_true rfl) ?_
          refine x_iconst C (v := nI 5) dX4_dueBehindFirst_96 (by decide +kernel) ?_
          exact x_iret E .int dX4_dueBehindFirst_97 rfl rfl (by unfold dFd; rw [if_neg (by rw [c25]; decide), if_neg c39, if_pos (by omega)]; rfl) (by unfold dFw; rw [if_neg (by rw [c25]; decide), if_neg c39, if_pos (by omega)]; simp only [List.set_set]; rfl)
      · refine x_iload_n C dX4_dueBehindFirst_56 rfl ?_
        refine x_bipush C (v := nI 109) dX4_dueBehindFirst_57 (by decide +kernel) ?_
        refine x_icmp_eqN C 68 dX4_dueBehindFirst_59 (by decide) (by omega) (by omega) (fun c59 => ?_) (fun c59 => ?_)
        · refine x_aload_n C dX4_dueBehindFirst_68 rfl ?_
          refine x_iload_n C dX4_dueBehindFirst_69 rfl ?_
          refine x_bipush C (v := nI 116) dX4_dueBehindFirst_70 (by decide +kernel) ?_
          refine x_icmp_neN C 80 dX4_dueBehindFirst_72 (by decide) (by omega) (by omega) (fun c72 => ?_) (fun c72 => ?_)
          · refine x_iload_n C dX4_dueBehindFirst_80 rfl ?_
            refine x_bipush C (v := nI 109) dX4_dueBehindFirst_81 (by decide +kernel) ?_
            refine x_icmp_neN C 91 dX4_dueBehindFirst_83 (by decide) (by omega) (by omega) (fun c83 => ?_) (fun c83 => ?_)
            · omega
            · refine x_bipush C (v := nI 11) dX4_dueBehindFirst_86 (by decide +kernel) ?_
              refine x_goto C 93 dX4_dueBehindFirst_88 (by decide) ?_
              refine x_putfield C qk4 6 (by decide) lfX4_38 rfl (ty0 := .int) (by decide +kernel) rfl rfl dX4_dueBehindFirst_93 (q_gss (q_gss (q_gss h0))) (Nat.le_of_ble_eq_true rfl) ?_
              refine x_iconst C (v := nI 5) dX4_dueBehindFirst_96 (by decide +kernel) ?_
              exact x_iret E .int dX4_dueBehindFirst_97 rfl rfl (by unfold dFd; rw [if_neg (by rw [c25]; decide), if_neg c39, if_pos (by omega)]; rfl) (by unfold dFw; rw [if_neg (by rw [c25]; decide), if_neg c39, if_neg (by omega), if_pos (by omega)]; simp only [List.set_set]; rfl)
          · omega
        · refine x_iload_n C dX4_dueBehindFirst_62 rfl ?_
          refine x_bipush C (v := nI 115) dX4_dueBehindFirst_63 (by decide +kernel) ?_
          refine x_icmp_neN C 98 dX4_dueBehindFirst_65 (by decide) (by omega) (by omega) (fun c65 => ?_) (fun c65 => ?_)
          · refine x_aload_n C dX4_dueBehindFirst_98 rfl ?_
            refine x_ldcS C (q := 0) (fun _ _ _ _ y => y.2.2.2.2.1.2.2.1) dX4_dueBehindFirst_99 ?_
            refine x_iload_n C dX4_dueBehindFirst_101 rfl ?_
            refine x_i2c C dX4_dueBehindFirst_102 ?_
            rw [i2c_of hc]
            refine x_callK1i C (okJ0_indexOf_0f7a4 hc _) lkX4_63 miJ0_indexOf_0f7a4 msJ0_indexOf_0f7a4 maJ0_indexOf_0f7a4 ⟨Nat.le_of_ble_eq_true rfl, Nat.le_of_ble_eq_true rfl⟩ (Nat.le_of_ble_eq_true rfl) hq rfl dX4_dueBehindFirst_103 ?_
            refine x_putfield C qk4 6 (by decide) lfX4_38 rfl (ty0 := .int) (by decide +kernel) rfl rfl dX4_dueBehindFirst_106 (q_gss (q_gss (q_gss h0))) (Nat.le_of_ble_eq_true rfl) ?_
            refine x_aload_n C dX4_dueBehindFirst_109 rfl ?_
            refine x_getfield C qk4 6 (by decide) lfX4_38 dX4_dueBehindFirst_110 (q_gss (q_gss (q_gss (q_gss h0)))) rfl ?_
            refine x_if_le C 120 dX4_dueBehindFirst_113 (by decide) (fun c113 => ?_) (fun c113 => ?_)
            · refine x_iconst C (v := (-1)) dX4_dueBehindFirst_120 (by decide +kernel) ?_
              exact x_iret E .int dX4_dueBehindFirst_121 rfl rfl (by unfold dFd; rw [if_neg (by rw [c25]; decide), if_neg c39, if_neg (by omega), if_neg (Int32.not_lt.mpr c113)]; rfl) (by unfold dFw; rw [if_neg (by rw [c25]; decide), if_neg c39, if_neg (by omega), if_neg (by omega), if_neg (by omega)]; simp only [List.set_set]; rfl)
            · refine x_iconst C (v := nI 3) dX4_dueBehindFirst_116 (by decide +kernel) ?_
              refine x_goto C 121 dX4_dueBehindFirst_117 (by decide) ?_
              exact x_iret E .int dX4_dueBehindFirst_121 rfl rfl (by unfold dFd; rw [if_neg (by rw [c25]; decide), if_neg c39, if_neg (by omega), if_pos (Int32.not_le.mp c113)]; rfl) (by unfold dFw; rw [if_neg (by rw [c25]; decide), if_neg c39, if_neg (by omega), if_neg (by omega), if_neg (by omega)]; simp only [List.set_set]; rfl)
          · refine x_aload_n C dX4_dueBehindFirst_68 rfl ?_
            refine x_iload_n C dX4_dueBehindFirst_69 rfl ?_
            refine x_bipush C (v := nI 116) dX4_dueBehindFirst_70 (by decide +kernel) ?_
            refine x_icmp_neN C 80 dX4_dueBehindFirst_72 (by decide) (by omega) (by omega) (fun c72 => ?_) (fun c72 => ?_)
            · refine x_iload_n C dX4_dueBehindFirst_80 rfl ?_
              refine x_bipush C (v := nI 109) dX4_dueBehindFirst_81 (by decide +kernel) ?_
              refine x_icmp_neN C 91 dX4_dueBehindFirst_83 (by decide) (by omega) (by omega) (fun c83 => ?_) (fun c83 => ?_)
              · refine x_bipush C (v := nI 12) dX4_dueBehindFirst_91 (by decide +kernel) ?_
                refine x_putfield C qk4 6 (by decide) lfX4_38 rfl (ty0 := .int) (by decide +kernel) rfl rfl dX4_dueBehindFirst_93 (q_gss (q_gss (q_gss h0))) (Nat.le_of_ble_eq_true rfl) ?_
                refine x_iconst C (v := nI 5) dX4_dueBehindFirst_96 (by decide +kernel) ?_
                exact x_iret E .int dX4_dueBehindFirst_97 rfl rfl (by unfold dFd; rw [if_neg (by rw [c25]; decide), if_neg c39, if_pos (by omega)]; rfl) (by unfold dFw; rw [if_neg (by rw [c25]; decide), if_neg c39, if_neg (by omega), if_neg (by omega), if_pos (by omega)]; simp only [List.set_set]; rfl)
              · omega
            · omega
    · refine x_aload_n C dX4_dueBehindFirst_42 rfl ?_
      refine x_bipush C (v := nI 8) dX4_dueBehindFirst_43 (by decide +kernel) ?_
      refine x_putfield C qk4 6 (by decide) lfX4_38 rfl (ty0 := .int) (by decide +kernel) rfl rfl dX4_dueBehindFirst_45 (q_gss (q_gss (q_gss h0))) (Nat.le_of_ble_eq_true rfl) ?_
      refine x_iconst C (v := nI 3) dX4_dueBehindFirst_48 (by decide +kernel) ?_
      exact x_iret E .int dX4_dueBehindFirst_49 rfl rfl (by unfold dFd; rw [if_neg (by rw [c25]; decide), if_pos c39]; rfl) (by unfold dFw; rw [if_neg (by rw [c25]; decide), if_pos c39]; simp only [List.set_set]; rfl)
  · refine x_aload_n C dX4_dueBehindFirst_28 rfl ?_
    refine x_bipush C (v := nI 9) dX4_dueBehindFirst_29 (by decide +kernel) ?_
    refine x_putfield C qk4 6 (by decide) lfX4_38 rfl (ty0 := .int) (by decide +kernel) rfl rfl dX4_dueBehindFirst_31 (q_gss (q_gss (q_gss h0))) (Nat.le_of_ble_eq_true rfl) ?_
    refine x_iconst C (v := nI 1) dX4_dueBehindFirst_34 (by decide +kernel) ?_
    exact x_iret E .int dX4_dueBehindFirst_35 rfl rfl (by unfold dFd; rw [if_pos c25]; rfl) (by unfold dFw; rw [if_pos c25]; simp only [List.set_set]; rfl)
/-- what is due behind a character, and what the command read so far is: what, column, origin, square -/
abbrev qQ : Type := Int32 × Int32 × Int32 × Int32
def due (d c : Nat) (q : qQ) : Option Nat × qQ :=
  if d = 0 then (dFd c, (dFw c, nI c - nI 97, -1, -1))
  else if d = 1 then (if sqIn q.2.1 c < 0 then none else some 2, (q.1, q.2.1, sqIn q.2.1 c, q.2.2.2))
  else if d = 2 then (if c = 45 then some 3 else none, q)
  else if d = 3 then (if isL (nI c - nI 97) = true then some 4 else none, (q.1, nI c - nI 97, q.2.2.1, q.2.2.2))
  else if d = 4 then (if sqIn q.2.1 c < 0 then none else some 5, (q.1, q.2.1, q.2.2.1, sqIn q.2.1 c))
  else (if c = 59 then some 0 else none, q)
abbrev qSq (n cm : Nat) (q : qQ) : qE := qS n cm q.1 q.2.1 q.2.2.1 q.2.2.2
set_option maxHeartbeats 4000000 in
set_option maxRecDepth 100000 in
theorem okX4_dueBehind {h : qH} {tx : Nat → Nat} {n : Nat} {wh og sq : Nat → Int32} {cm : Nat} {w co o s : Int32} (hs : ScA h tx n wh og sq cm w co o s) {d c : Nat} (hd : d < 6) (hc : c < 128) : Ok MX4_dueBehind [.ref 35, .int (nI d), .int (nI c)] (h) (some (.int (sqI (due d c (w, co, o, s)).1))) (h.set 35 (qSq n cm (due d c (w, co, o, s)).2)) := by
  refine ok_of (by decide +kernel) (Nat.zero_le _) (Nat.le_of_ble_eq_true rfl) ?_
  intro X C E
  show Ex X MX4_dueBehind 0 [(0, .ref 35), (1, .int (nI d)), (2, .int (nI c))] [] (h)
  obtain ⟨h0, h1, h2, h3, h4⟩ := id hs
  have h6 : d = 0 ∨ d = 1 ∨ d = 2 ∨ d = 3 ∨ d = 4 ∨ d = 5 := by omega
  rcases h6 with rfl | rfl | rfl | rfl | rfl | rfl
  · refine x_iload_n C dX4_dueBehind_0 rfl ?_
    refine x_tsw C (off := 39) 40 dX4_dueBehind_1 (by decide +kernel) (by decide +kernel) (by decide +kernel) (by decide) ?_
    refine x_aload_n C dX4_dueBehind_40 rfl ?_
    refine x_iload_n C dX4_dueBehind_41 rfl ?_
    refine x_callV1i C (okX4_dueBehindFirst hs hc) lkX4_47 miX4_dueBehindFirst msX4_dueBehindFirst maX4_dueBehindFirst ⟨Nat.le_of_ble_eq_true rfl, Nat.le_of_ble_eq_true rfl⟩ (Nat.le_of_ble_eq_true rfl) h0 rfl dX4_dueBehind_42 ?_
    exact x_iret E .int dX4_dueBehind_45 rfl rfl rfl rfl
  · refine x_iload_n C dX4_dueBehind_0 rfl ?_
    refine x_tsw C (off := 45) 46 dX4_dueBehind_1 (by decide +kernel) (by decide +kernel) (by decide +kernel) (by decide) ?_
    refine x_aload_n C dX4_dueBehind_46 rfl ?_
    refine x_aload_n C dX4_dueBehind_47 rfl ?_
    refine x_iload_n C dX4_dueBehind_48 rfl ?_
    refine x_callV1i C (okX4_squareIn hs c) lkX4_51 miX4_squareIn msX4_squareIn maX4_squareIn ⟨Nat.le_of_ble_eq_true rfl, Nat.le_of_ble_eq_true rfl⟩ (Nat.le_of_ble_eq_true rfl) h0 rfl dX4_dueBehind_49 ?_
    refine x_putfield C qk4 8 (by decide) lfX4_41 rfl (ty0 := .int) (by decide +kernel) rfl rfl dX4_dueBehind_52 h0 (Nat.le_of_ble_eq_true rfl) ?_
    refine x_aload_n C dX4_dueBehind_55 rfl ?_
    refine x_getfield C qk4 8 (by decide) lfX4_41 dX4_dueBehind_56 (q_gss h0) rfl ?_
    refine x_if_ge C 66 dX4_dueBehind_59 (by decide) (fun c59 => ?_) (fun c59 => ?_)
    · refine x_iconst C (v := nI 2) dX4_dueBehind_66 (by decide +kernel) ?_
      exact x_iret E .int dX4_dueBehind_67 rfl rfl (by unfold due; simp only []; rw [if_neg (by decide), if_pos trivial, if_neg (Int32.not_lt.mpr c59)]; rfl) rfl
    · refine x_iconst C (v := (-1)) dX4_dueBehind_62 (by decide +kernel) ?_
      refine x_goto C 67 dX4_dueBehind_63 (by decide) ?_
      exact x_iret E .int dX4_dueBehind_67 rfl rfl (by unfold due; simp only []; rw [if_neg (by decide), if_pos trivial, if_pos (Int32.not_le.mp c59)]; rfl) rfl
  · refine x_iload_n C dX4_dueBehind_0 rfl ?_
    refine x_tsw C (off := 67) 68 dX4_dueBehind_1 (by decide +kernel) (by decide +kernel) (by decide +kernel) (by decide) ?_
    refine x_iload_n C dX4_dueBehind_68 rfl ?_
    refine x_bipush C (v := nI 45) dX4_dueBehind_69 (by decide +kernel) ?_
    refine x_icmp_neN C 78 dX4_dueBehind_71 (by decide) (by omega) (by omega) (fun c71 => ?_) (fun c71 => ?_)
    · refine x_iconst C (v := (-1)) dX4_dueBehind_78 (by decide +kernel) ?_
      exact x_iret E .int dX4_dueBehind_79 rfl rfl (by unfold due; simp only []; rw [if_neg (by decide), if_neg (by decide), if_pos trivial, if_neg c71]; rfl) (by exact (q_same h0).symm)
    · refine x_iconst C (v := nI 3) dX4_dueBehind_74 (by decide +kernel) ?_
      refine x_goto C 79 dX4_dueBehind_75 (by decide) ?_
      exact x_iret E .int dX4_dueBehind_79 rfl rfl (by unfold due; simp only []; rw [if_neg (by decide), if_neg (by decide), if_pos trivial, if_pos c71]; rfl) (by exact (q_same h0).symm)
  · refine x_iload_n C dX4_dueBehind_0 rfl ?_
    refine x_tsw C (off := 79) 80 dX4_dueBehind_1 (by decide +kernel) (by decide +kernel) (by decide +kernel) (by decide) ?_
    refine x_aload_n C dX4_dueBehind_80 rfl ?_
    refine x_iload_n C dX4_dueBehind_81 rfl ?_
    refine x_bipush C (v := nI 97) dX4_dueBehind_82 (by decide +kernel) ?_
    refine x_isub C dX4_dueBehind_84 ?_
    refine x_putfield C qk4 7 (by decide) lfX4_54 rfl (ty0 := .int) (by decide +kernel) rfl rfl dX4_dueBehind_85 h0 (Nat.le_of_ble_eq_true rfl) ?_
    refine x_aload_n C dX4_dueBehind_88 rfl ?_
    refine x_getfield C qk4 7 (by decide) lfX4_54 dX4_dueBehind_89 (q_gss h0) rfl ?_
    refine x_callS1i C (okX4_isLine _ _) lkX4_57 miX4_isLine mtX4_isLine maX4_isLine ⟨Nat.le_of_ble_eq_true rfl, Nat.le_of_ble_eq_true rfl⟩ (Nat.le_of_ble_eq_true rfl) dX4_dueBehind_92 ?_
    refine x_if_eqB C 102 dX4_dueBehind_95 (by decide) (fun c95 => ?_) (fun c95 => ?_)
    · refine x_iconst C (v := (-1)) dX4_dueBehind_102 (by decide +kernel) ?_
      exact x_iret E .int dX4_dueBehind_103 rfl rfl (by unfold due; simp only []; rw [if_neg (by decide), if_neg (by decide), if_neg (by decide), if_pos trivial, if_neg (by rw [c95]; decide)]; rfl) rfl
    · refine x_iconst C (v := nI 4) dX4_dueBehind_98 (by decide +kernel) ?_
      refine x_goto C 103 dX4_dueBehind_99 (by decide) ?_
      exact x_iret E .int dX4_dueBehind_103 rfl rfl (by unfold due; simp only []; rw [if_neg (by decide), if_neg (by decide), if_neg (by decide), if_pos trivial, if_pos c95]; rfl) rfl
  · refine x_iload_n C dX4_dueBehind_0 rfl ?_
    refine x_tsw C (off := 103) 104 dX4_dueBehind_1 (by decide +kernel) (by decide +kernel) (by decide +kernel) (by decide) ?_
    refine x_aload_n C dX4_dueBehind_104 rfl ?_
    refine x_aload_n C dX4_dueBehind_105 rfl ?_
    refine x_iload_n C dX4_dueBehind_106 rfl ?_
    refine x_callV1i C (okX4_squareIn hs c) lkX4_51 miX4_squareIn msX4_squareIn maX4_squareIn ⟨Nat.le_of_ble_eq_true rfl, Nat.le_of_ble_eq_true rfl⟩ (Nat.le_of_ble_eq_true rfl) h0 rfl dX4_dueBehind_107 ?_
    refine x_putfield C qk4 9 (by decide) lfX4_44 rfl (ty0 := .int) (by decide +kernel) rfl rfl dX4_dueBehind_110 h0 (Nat.le_of_ble_eq_true rfl) ?_
    refine x_aload_n C dX4_dueBehind_113 rfl ?_
    refine x_getfield C qk4 9 (by decide) lfX4_44 dX4_dueBehind_114 (q_gss h0) rfl ?_
    refine x_if_ge C 124 dX4_dueBehind_117 (by decide) (fun c117 => ?_) (fun c117 => ?_)
    · refine x_iconst C (v := nI 5) dX4_dueBehind_124 (by decide +kernel) ?_
      exact x_iret E .int dX4_dueBehind_125 rfl rfl (by unfold due; simp only []; rw [if_neg (by decide), if_neg (by decide), if_neg (by decide), if_neg (by decide), if_pos trivial, if_neg (Int32.not_lt.mpr c117)]; rfl) rfl
    · refine x_iconst C (v := (-1)) dX4_dueBehind_120 (by decide +kernel) ?_
      refine x_goto C 125 dX4_dueBehind_121 (by decide) ?_
      exact x_iret E .int dX4_dueBehind_125 rfl rfl (by unfold due; simp only []; rw [if_neg (by decide), if_neg (by decide), if_neg (by decide), if_neg (by decide), if_pos trivial, if_pos (Int32.not_le.mp c117)]; rfl) rfl
  · refine x_iload_n C dX4_dueBehind_0 rfl ?_
    refine x_tsw C (off := 125) 126 dX4_dueBehind_1 (by decide +kernel) (by decide +kernel) (by decide +kernel) (by decide) ?_
    refine x_iload_n C dX4_dueBehind_126 rfl ?_
    refine x_bipush C (v := nI 59) dX4_dueBehind_127 (by decide +kernel) ?_
    refine x_icmp_neN C 136 dX4_dueBehind_129 (by decide) (by omega) (by omega) (fun c129 => ?_) (fun c129 => ?_)
    · refine x_iconst C (v := (-1)) dX4_dueBehind_136 (by decide +kernel) ?_
      exact x_iret E .int dX4_dueBehind_137 rfl rfl (by unfold due; simp only []; rw [if_neg (by decide), if_neg (by decide), if_neg (by decide), if_neg (by decide), if_neg (by decide), if_neg c129]; rfl) (by exact (q_same h0).symm)
    · refine x_iconst C (v := nI 0) dX4_dueBehind_132 (by decide +kernel) ?_
      refine x_goto C 137 dX4_dueBehind_133 (by decide) ?_
      exact x_iret E .int dX4_dueBehind_137 rfl rfl (by unfold due; simp only []; rw [if_neg (by decide), if_neg (by decide), if_neg (by decide), if_neg (by decide), if_neg (by decide), if_pos c129]; rfl) (by exact (q_same h0).symm)

